/-! what each instruction decodes to (written by program) -/
theorem dX12_init_0 : decode M_X12_init.2.2.1 0 = .ok (.aload_n 0, 1) := by decide +kernel
theorem dX12_init_1 : decode M_X12_init.2.2.1 1 = .ok (.invokespecial 1, 3) := by decide +kernel
theorem dX12_init_4 : decode M_X12_init.2.2.1 4 = .ok (.aload_n 0, 1) := by decide +kernel
theorem dX12_init_5 : decode M_X12_init.2.2.1 5 = .ok (.bipush 6, 2) := by decide +kernel
theorem dX12_init_7 : decode M_X12_init.2.2.1 7 = .ok (.newarray .int, 2) := by decide +kernel
theorem dX12_init_9 : decode M_X12_init.2.2.1 9 = .ok (.putfield 7, 3) := by decide +kernel
theorem dX12_init_12 : decode M_X12_init.2.2.1 12 = .ok (.aload_n 0, 1) := by decide +kernel
theorem dX12_init_13 : decode M_X12_init.2.2.1 13 = .ok (.bipush 6, 2) := by decide +kernel
theorem dX12_init_15 : decode M_X12_init.2.2.1 15 = .ok (.newarray .int, 2) := by decide +kernel
theorem dX12_init_17 : decode M_X12_init.2.2.1 17 = .ok (.putfield 13, 3) := by decide +kernel
theorem dX12_init_20 : decode M_X12_init.2.2.1 20 = .ok (.aload_n 0, 1) := by decide +kernel
theorem dX12_init_21 : decode M_X12_init.2.2.1 21 = .ok (.bipush 6, 2) := by decide +kernel
theorem dX12_init_23 : decode M_X12_init.2.2.1 23 = .ok (.newarray .int, 2) := by decide +kernel
theorem dX12_init_25 : decode M_X12_init.2.2.1 25 = .ok (.putfield 16, 3) := by decide +kernel
theorem dX12_init_28 : decode M_X12_init.2.2.1 28 = .ok (.aload_n 0, 1) := by decide +kernel
theorem dX12_init_29 : decode M_X12_init.2.2.1 29 = .ok (.bipush 6, 2) := by decide +kernel
theorem dX12_init_31 : decode M_X12_init.2.2.1 31 = .ok (.newarray .int, 2) := by decide +kernel
theorem dX12_init_33 : decode M_X12_init.2.2.1 33 = .ok (.putfield 19, 3) := by decide +kernel
theorem dX12_init_36 : decode M_X12_init.2.2.1 36 = .ok (.aload_n 0, 1) := by decide +kernel
theorem dX12_init_37 : decode M_X12_init.2.2.1 37 = .ok (.bipush 6, 2) := by decide +kernel
theorem dX12_init_39 : decode M_X12_init.2.2.1 39 = .ok (.newarray .int, 2) := by decide +kernel
theorem dX12_init_41 : decode M_X12_init.2.2.1 41 = .ok (.putfield 22, 3) := by decide +kernel
theorem dX12_init_44 : decode M_X12_init.2.2.1 44 = .ok (.aload_n 0, 1) := by decide +kernel
theorem dX12_init_45 : decode M_X12_init.2.2.1 45 = .ok (.bipush 6, 2) := by decide +kernel
theorem dX12_init_47 : decode M_X12_init.2.2.1 47 = .ok (.newarray .int, 2) := by decide +kernel
theorem dX12_init_49 : decode M_X12_init.2.2.1 49 = .ok (.putfield 25, 3) := by decide +kernel
theorem dX12_init_52 : decode M_X12_init.2.2.1 52 = .ok (.aload_n 0, 1) := by decide +kernel
theorem dX12_init_53 : decode M_X12_init.2.2.1 53 = .ok (.sipush 1200, 3) := by decide +kernel
theorem dX12_init_56 : decode M_X12_init.2.2.1 56 = .ok (.newarray .int, 2) := by decide +kernel
theorem dX12_init_58 : decode M_X12_init.2.2.1 58 = .ok (.putfield 28, 3) := by decide +kernel
theorem dX12_init_61 : decode M_X12_init.2.2.1 61 = .ok (.aload_n 0, 1) := by decide +kernel
theorem dX12_init_62 : decode M_X12_init.2.2.1 62 = .ok (.bipush 6, 2) := by decide +kernel
theorem dX12_init_64 : decode M_X12_init.2.2.1 64 = .ok (.newarray .int, 2) := by decide +kernel
theorem dX12_init_66 : decode M_X12_init.2.2.1 66 = .ok (.putfield 31, 3) := by decide +kernel
theorem dX12_init_69 : decode M_X12_init.2.2.1 69 = .ok (.aload_n 0, 1) := by decide +kernel
theorem dX12_init_70 : decode M_X12_init.2.2.1 70 = .ok (.sipush 240, 3) := by decide +kernel
theorem dX12_init_73 : decode M_X12_init.2.2.1 73 = .ok (.newarray .int, 2) := by decide +kernel
theorem dX12_init_75 : decode M_X12_init.2.2.1 75 = .ok (.putfield 34, 3) := by decide +kernel
theorem dX12_init_78 : decode M_X12_init.2.2.1 78 = .ok (.aload_n 0, 1) := by decide +kernel
theorem dX12_init_79 : decode M_X12_init.2.2.1 79 = .ok (.sipush 240, 3) := by decide +kernel
theorem dX12_init_82 : decode M_X12_init.2.2.1 82 = .ok (.newarray .int, 2) := by decide +kernel
theorem dX12_init_84 : decode M_X12_init.2.2.1 84 = .ok (.putfield 37, 3) := by decide +kernel
theorem dX12_init_87 : decode M_X12_init.2.2.1 87 = .ok (.aload_n 0, 1) := by decide +kernel
theorem dX12_init_88 : decode M_X12_init.2.2.1 88 = .ok (.bipush 6, 2) := by decide +kernel
theorem dX12_init_90 : decode M_X12_init.2.2.1 90 = .ok (.newarray .int, 2) := by decide +kernel
theorem dX12_init_92 : decode M_X12_init.2.2.1 92 = .ok (.putfield 40, 3) := by decide +kernel
theorem dX12_init_95 : decode M_X12_init.2.2.1 95 = .ok (.aload_n 0, 1) := by decide +kernel
theorem dX12_init_96 : decode M_X12_init.2.2.1 96 = .ok (.bipush 6, 2) := by decide +kernel
theorem dX12_init_98 : decode M_X12_init.2.2.1 98 = .ok (.newarray .int, 2) := by decide +kernel
theorem dX12_init_100 : decode M_X12_init.2.2.1 100 = .ok (.putfield 43, 3) := by decide +kernel
theorem dX12_init_103 : decode M_X12_init.2.2.1 103 = .ok (.aload_n 0, 1) := by decide +kernel
theorem dX12_init_104 : decode M_X12_init.2.2.1 104 = .ok (.bipush 6, 2) := by decide +kernel
theorem dX12_init_106 : decode M_X12_init.2.2.1 106 = .ok (.newarray .int, 2) := by decide +kernel
theorem dX12_init_108 : decode M_X12_init.2.2.1 108 = .ok (.putfield 46, 3) := by decide +kernel
theorem dX12_init_111 : decode M_X12_init.2.2.1 111 = .ok (.aload_n 0, 1) := by decide +kernel
theorem dX12_init_112 : decode M_X12_init.2.2.1 112 = .ok (.bipush 6, 2) := by decide +kernel
theorem dX12_init_114 : decode M_X12_init.2.2.1 114 = .ok (.newarray .int, 2) := by decide +kernel
theorem dX12_init_116 : decode M_X12_init.2.2.1 116 = .ok (.putfield 49, 3) := by decide +kernel
theorem dX12_init_119 : decode M_X12_init.2.2.1 119 = .ok (.aload_n 0, 1) := by decide +kernel
theorem dX12_init_120 : decode M_X12_init.2.2.1 120 = .ok (.bipush 6, 2) := by decide +kernel
theorem dX12_init_122 : decode M_X12_init.2.2.1 122 = .ok (.newarray .int, 2) := by decide +kernel
theorem dX12_init_124 : decode M_X12_init.2.2.1 124 = .ok (.putfield 52, 3) := by decide +kernel
theorem dX12_init_127 : decode M_X12_init.2.2.1 127 = .ok (.aload_n 0, 1) := by decide +kernel
theorem dX12_init_128 : decode M_X12_init.2.2.1 128 = .ok (.bipush 8, 2) := by decide +kernel
theorem dX12_init_130 : decode M_X12_init.2.2.1 130 = .ok (.newarray .int, 2) := by decide +kernel
theorem dX12_init_132 : decode M_X12_init.2.2.1 132 = .ok (.putfield 55, 3) := by decide +kernel
theorem dX12_init_135 : decode M_X12_init.2.2.1 135 = .ok (.aload_n 0, 1) := by decide +kernel
theorem dX12_init_136 : decode M_X12_init.2.2.1 136 = .ok (.sipush 600, 3) := by decide +kernel
theorem dX12_init_139 : decode M_X12_init.2.2.1 139 = .ok (.newarray .int, 2) := by decide +kernel
theorem dX12_init_141 : decode M_X12_init.2.2.1 141 = .ok (.putfield 58, 3) := by decide +kernel
theorem dX12_init_144 : decode M_X12_init.2.2.1 144 = .ok (.aload_n 0, 1) := by decide +kernel
theorem dX12_init_145 : decode M_X12_init.2.2.1 145 = .ok (.sipush 620, 3) := by decide +kernel
theorem dX12_init_148 : decode M_X12_init.2.2.1 148 = .ok (.newarray .int, 2) := by decide +kernel
theorem dX12_init_150 : decode M_X12_init.2.2.1 150 = .ok (.putfield 61, 3) := by decide +kernel
theorem dX12_init_153 : decode M_X12_init.2.2.1 153 = .ok (.aload_n 0, 1) := by decide +kernel
theorem dX12_init_154 : decode M_X12_init.2.2.1 154 = .ok (.sipush 1220, 3) := by decide +kernel
theorem dX12_init_157 : decode M_X12_init.2.2.1 157 = .ok (.newarray .int, 2) := by decide +kernel
theorem dX12_init_159 : decode M_X12_init.2.2.1 159 = .ok (.putfield 64, 3) := by decide +kernel
theorem dX12_init_162 : decode M_X12_init.2.2.1 162 = .ok (.aload_n 0, 1) := by decide +kernel
theorem dX12_init_163 : decode M_X12_init.2.2.1 163 = .ok (.sipush 1220, 3) := by decide +kernel
theorem dX12_init_166 : decode M_X12_init.2.2.1 166 = .ok (.newarray .int, 2) := by decide +kernel
theorem dX12_init_168 : decode M_X12_init.2.2.1 168 = .ok (.putfield 67, 3) := by decide +kernel
theorem dX12_init_171 : decode M_X12_init.2.2.1 171 = .ok (.aload_n 0, 1) := by decide +kernel
theorem dX12_init_172 : decode M_X12_init.2.2.1 172 = .ok (.bipush 16, 2) := by decide +kernel
theorem dX12_init_174 : decode M_X12_init.2.2.1 174 = .ok (.newarray .int, 2) := by decide +kernel
theorem dX12_init_176 : decode M_X12_init.2.2.1 176 = .ok (.putfield 70, 3) := by decide +kernel
theorem dX12_init_179 : decode M_X12_init.2.2.1 179 = .ok (.aload_n 0, 1) := by decide +kernel
theorem dX12_init_180 : decode M_X12_init.2.2.1 180 = .ok (.bipush 17, 2) := by decide +kernel
theorem dX12_init_182 : decode M_X12_init.2.2.1 182 = .ok (.newarray .int, 2) := by decide +kernel
theorem dX12_init_184 : decode M_X12_init.2.2.1 184 = .ok (.putfield 73, 3) := by decide +kernel
theorem dX12_init_187 : decode M_X12_init.2.2.1 187 = .ok (.aload_n 0, 1) := by decide +kernel
theorem dX12_init_188 : decode M_X12_init.2.2.1 188 = .ok (.bipush 16, 2) := by decide +kernel
theorem dX12_init_190 : decode M_X12_init.2.2.1 190 = .ok (.newarray .int, 2) := by decide +kernel
theorem dX12_init_192 : decode M_X12_init.2.2.1 192 = .ok (.putfield 76, 3) := by decide +kernel
theorem dX12_init_195 : decode M_X12_init.2.2.1 195 = .ok (.aload_n 0, 1) := by decide +kernel
theorem dX12_init_196 : decode M_X12_init.2.2.1 196 = .ok (.bipush 17, 2) := by decide +kernel
theorem dX12_init_198 : decode M_X12_init.2.2.1 198 = .ok (.newarray .int, 2) := by decide +kernel
theorem dX12_init_200 : decode M_X12_init.2.2.1 200 = .ok (.putfield 79, 3) := by decide +kernel
theorem dX12_init_203 : decode M_X12_init.2.2.1 203 = .ok (.aload_n 0, 1) := by decide +kernel
theorem dX12_init_204 : decode M_X12_init.2.2.1 204 = .ok (.iconst (-1), 1) := by decide +kernel
theorem dX12_init_205 : decode M_X12_init.2.2.1 205 = .ok (.putfield 82, 3) := by decide +kernel
theorem dX12_init_208 : decode M_X12_init.2.2.1 208 = .ok (.aload_n 0, 1) := by decide +kernel
theorem dX12_init_209 : decode M_X12_init.2.2.1 209 = .ok (.bipush 10, 2) := by decide +kernel
theorem dX12_init_211 : decode M_X12_init.2.2.1 211 = .ok (.putfield 86, 3) := by decide +kernel
theorem dX12_init_214 : decode M_X12_init.2.2.1 214 = .ok (.aload_n 0, 1) := by decide +kernel
theorem dX12_init_215 : decode M_X12_init.2.2.1 215 = .ok (.bipush 17, 2) := by decide +kernel
theorem dX12_init_217 : decode M_X12_init.2.2.1 217 = .ok (.putfield 89, 3) := by decide +kernel
theorem dX12_init_220 : decode M_X12_init.2.2.1 220 = .ok (.aload_n 0, 1) := by decide +kernel
theorem dX12_init_221 : decode M_X12_init.2.2.1 221 = .ok (.bipush 96, 2) := by decide +kernel
theorem dX12_init_223 : decode M_X12_init.2.2.1 223 = .ok (.newarray .boolean, 2) := by decide +kernel
theorem dX12_init_225 : decode M_X12_init.2.2.1 225 = .ok (.putfield 92, 3) := by decide +kernel
theorem dX12_init_228 : decode M_X12_init.2.2.1 228 = .ok (.aload_n 0, 1) := by decide +kernel
theorem dX12_init_229 : decode M_X12_init.2.2.1 229 = .ok (.bipush 96, 2) := by decide +kernel
theorem dX12_init_231 : decode M_X12_init.2.2.1 231 = .ok (.newarray .boolean, 2) := by decide +kernel
theorem dX12_init_233 : decode M_X12_init.2.2.1 233 = .ok (.putfield 96, 3) := by decide +kernel
theorem dX12_init_236 : decode M_X12_init.2.2.1 236 = .ok (.aload_n 0, 1) := by decide +kernel
theorem dX12_init_237 : decode M_X12_init.2.2.1 237 = .ok (.bipush 96, 2) := by decide +kernel
theorem dX12_init_239 : decode M_X12_init.2.2.1 239 = .ok (.newarray .int, 2) := by decide +kernel
theorem dX12_init_241 : decode M_X12_init.2.2.1 241 = .ok (.putfield 99, 3) := by decide +kernel
theorem dX12_init_244 : decode M_X12_init.2.2.1 244 = .ok (.aload_n 0, 1) := by decide +kernel
theorem dX12_init_245 : decode M_X12_init.2.2.1 245 = .ok (.bipush 96, 2) := by decide +kernel
theorem dX12_init_247 : decode M_X12_init.2.2.1 247 = .ok (.newarray .int, 2) := by decide +kernel
theorem dX12_init_249 : decode M_X12_init.2.2.1 249 = .ok (.putfield 102, 3) := by decide +kernel
theorem dX12_init_252 : decode M_X12_init.2.2.1 252 = .ok (.aload_n 0, 1) := by decide +kernel
theorem dX12_init_253 : decode M_X12_init.2.2.1 253 = .ok (.bipush 96, 2) := by decide +kernel
theorem dX12_init_255 : decode M_X12_init.2.2.1 255 = .ok (.newarray .int, 2) := by decide +kernel
theorem dX12_init_257 : decode M_X12_init.2.2.1 257 = .ok (.putfield 105, 3) := by decide +kernel
theorem dX12_init_260 : decode M_X12_init.2.2.1 260 = .ok (.aload_n 0, 1) := by decide +kernel
theorem dX12_init_261 : decode M_X12_init.2.2.1 261 = .ok (.bipush 96, 2) := by decide +kernel
theorem dX12_init_263 : decode M_X12_init.2.2.1 263 = .ok (.newarray .int, 2) := by decide +kernel
theorem dX12_init_265 : decode M_X12_init.2.2.1 265 = .ok (.putfield 108, 3) := by decide +kernel
theorem dX12_init_268 : decode M_X12_init.2.2.1 268 = .ok (.aload_n 0, 1) := by decide +kernel
theorem dX12_init_269 : decode M_X12_init.2.2.1 269 = .ok (.bipush 96, 2) := by decide +kernel
theorem dX12_init_271 : decode M_X12_init.2.2.1 271 = .ok (.newarray .int, 2) := by decide +kernel
theorem dX12_init_273 : decode M_X12_init.2.2.1 273 = .ok (.putfield 111, 3) := by decide +kernel
theorem dX12_init_276 : decode M_X12_init.2.2.1 276 = .ok (.aload_n 0, 1) := by decide +kernel
theorem dX12_init_277 : decode M_X12_init.2.2.1 277 = .ok (.bipush 96, 2) := by decide +kernel
theorem dX12_init_279 : decode M_X12_init.2.2.1 279 = .ok (.newarray .int, 2) := by decide +kernel
theorem dX12_init_281 : decode M_X12_init.2.2.1 281 = .ok (.putfield 114, 3) := by decide +kernel
theorem dX12_init_284 : decode M_X12_init.2.2.1 284 = .ok (.aload_n 0, 1) := by decide +kernel
theorem dX12_init_285 : decode M_X12_init.2.2.1 285 = .ok (.bipush 16, 2) := by decide +kernel
theorem dX12_init_287 : decode M_X12_init.2.2.1 287 = .ok (.newarray .int, 2) := by decide +kernel
theorem dX12_init_289 : decode M_X12_init.2.2.1 289 = .ok (.dup, 1) := by decide +kernel
theorem dX12_init_290 : decode M_X12_init.2.2.1 290 = .ok (.iconst 0, 1) := by decide +kernel
theorem dX12_init_291 : decode M_X12_init.2.2.1 291 = .ok (.iconst (-1), 1) := by decide +kernel
theorem dX12_init_292 : decode M_X12_init.2.2.1 292 = .ok (.iastore, 1) := by decide +kernel
theorem dX12_init_293 : decode M_X12_init.2.2.1 293 = .ok (.dup, 1) := by decide +kernel
theorem dX12_init_294 : decode M_X12_init.2.2.1 294 = .ok (.iconst 1, 1) := by decide +kernel
theorem dX12_init_295 : decode M_X12_init.2.2.1 295 = .ok (.iconst (-1), 1) := by decide +kernel
theorem dX12_init_296 : decode M_X12_init.2.2.1 296 = .ok (.iastore, 1) := by decide +kernel
theorem dX12_init_297 : decode M_X12_init.2.2.1 297 = .ok (.dup, 1) := by decide +kernel
theorem dX12_init_298 : decode M_X12_init.2.2.1 298 = .ok (.iconst 2, 1) := by decide +kernel
theorem dX12_init_299 : decode M_X12_init.2.2.1 299 = .ok (.iconst (-1), 1) := by decide +kernel
theorem dX12_init_300 : decode M_X12_init.2.2.1 300 = .ok (.iastore, 1) := by decide +kernel
theorem dX12_init_301 : decode M_X12_init.2.2.1 301 = .ok (.dup, 1) := by decide +kernel
theorem dX12_init_302 : decode M_X12_init.2.2.1 302 = .ok (.iconst 3, 1) := by decide +kernel
theorem dX12_init_303 : decode M_X12_init.2.2.1 303 = .ok (.iconst (-1), 1) := by decide +kernel
theorem dX12_init_304 : decode M_X12_init.2.2.1 304 = .ok (.iastore, 1) := by decide +kernel
theorem dX12_init_305 : decode M_X12_init.2.2.1 305 = .ok (.dup, 1) := by decide +kernel
theorem dX12_init_306 : decode M_X12_init.2.2.1 306 = .ok (.iconst 4, 1) := by decide +kernel
theorem dX12_init_307 : decode M_X12_init.2.2.1 307 = .ok (.iconst (-1), 1) := by decide +kernel
theorem dX12_init_308 : decode M_X12_init.2.2.1 308 = .ok (.iastore, 1) := by decide +kernel
theorem dX12_init_309 : decode M_X12_init.2.2.1 309 = .ok (.dup, 1) := by decide +kernel
theorem dX12_init_310 : decode M_X12_init.2.2.1 310 = .ok (.iconst 5, 1) := by decide +kernel
theorem dX12_init_311 : decode M_X12_init.2.2.1 311 = .ok (.iconst (-1), 1) := by decide +kernel
theorem dX12_init_312 : decode M_X12_init.2.2.1 312 = .ok (.iastore, 1) := by decide +kernel
theorem dX12_init_313 : decode M_X12_init.2.2.1 313 = .ok (.dup, 1) := by decide +kernel
theorem dX12_init_314 : decode M_X12_init.2.2.1 314 = .ok (.bipush 6, 2) := by decide +kernel
theorem dX12_init_316 : decode M_X12_init.2.2.1 316 = .ok (.iconst (-1), 1) := by decide +kernel
theorem dX12_init_317 : decode M_X12_init.2.2.1 317 = .ok (.iastore, 1) := by decide +kernel
theorem dX12_init_318 : decode M_X12_init.2.2.1 318 = .ok (.dup, 1) := by decide +kernel
theorem dX12_init_319 : decode M_X12_init.2.2.1 319 = .ok (.bipush 7, 2) := by decide +kernel
theorem dX12_init_321 : decode M_X12_init.2.2.1 321 = .ok (.iconst (-1), 1) := by decide +kernel
theorem dX12_init_322 : decode M_X12_init.2.2.1 322 = .ok (.iastore, 1) := by decide +kernel
theorem dX12_init_323 : decode M_X12_init.2.2.1 323 = .ok (.dup, 1) := by decide +kernel
theorem dX12_init_324 : decode M_X12_init.2.2.1 324 = .ok (.bipush 8, 2) := by decide +kernel
theorem dX12_init_326 : decode M_X12_init.2.2.1 326 = .ok (.iconst (-1), 1) := by decide +kernel
theorem dX12_init_327 : decode M_X12_init.2.2.1 327 = .ok (.iastore, 1) := by decide +kernel
theorem dX12_init_328 : decode M_X12_init.2.2.1 328 = .ok (.dup, 1) := by decide +kernel
theorem dX12_init_329 : decode M_X12_init.2.2.1 329 = .ok (.bipush 9, 2) := by decide +kernel
theorem dX12_init_331 : decode M_X12_init.2.2.1 331 = .ok (.iconst (-1), 1) := by decide +kernel
theorem dX12_init_332 : decode M_X12_init.2.2.1 332 = .ok (.iastore, 1) := by decide +kernel
theorem dX12_init_333 : decode M_X12_init.2.2.1 333 = .ok (.dup, 1) := by decide +kernel
theorem dX12_init_334 : decode M_X12_init.2.2.1 334 = .ok (.bipush 10, 2) := by decide +kernel
theorem dX12_init_336 : decode M_X12_init.2.2.1 336 = .ok (.iconst (-1), 1) := by decide +kernel
theorem dX12_init_337 : decode M_X12_init.2.2.1 337 = .ok (.iastore, 1) := by decide +kernel
theorem dX12_init_338 : decode M_X12_init.2.2.1 338 = .ok (.dup, 1) := by decide +kernel
theorem dX12_init_339 : decode M_X12_init.2.2.1 339 = .ok (.bipush 11, 2) := by decide +kernel
theorem dX12_init_341 : decode M_X12_init.2.2.1 341 = .ok (.iconst (-1), 1) := by decide +kernel
theorem dX12_init_342 : decode M_X12_init.2.2.1 342 = .ok (.iastore, 1) := by decide +kernel
theorem dX12_init_343 : decode M_X12_init.2.2.1 343 = .ok (.dup, 1) := by decide +kernel
theorem dX12_init_344 : decode M_X12_init.2.2.1 344 = .ok (.bipush 12, 2) := by decide +kernel
theorem dX12_init_346 : decode M_X12_init.2.2.1 346 = .ok (.iconst (-1), 1) := by decide +kernel
theorem dX12_init_347 : decode M_X12_init.2.2.1 347 = .ok (.iastore, 1) := by decide +kernel
theorem dX12_init_348 : decode M_X12_init.2.2.1 348 = .ok (.dup, 1) := by decide +kernel
theorem dX12_init_349 : decode M_X12_init.2.2.1 349 = .ok (.bipush 13, 2) := by decide +kernel
theorem dX12_init_351 : decode M_X12_init.2.2.1 351 = .ok (.iconst (-1), 1) := by decide +kernel
theorem dX12_init_352 : decode M_X12_init.2.2.1 352 = .ok (.iastore, 1) := by decide +kernel
theorem dX12_init_353 : decode M_X12_init.2.2.1 353 = .ok (.dup, 1) := by decide +kernel
theorem dX12_init_354 : decode M_X12_init.2.2.1 354 = .ok (.bipush 14, 2) := by decide +kernel
theorem dX12_init_356 : decode M_X12_init.2.2.1 356 = .ok (.iconst (-1), 1) := by decide +kernel
theorem dX12_init_357 : decode M_X12_init.2.2.1 357 = .ok (.iastore, 1) := by decide +kernel
theorem dX12_init_358 : decode M_X12_init.2.2.1 358 = .ok (.dup, 1) := by decide +kernel
theorem dX12_init_359 : decode M_X12_init.2.2.1 359 = .ok (.bipush 15, 2) := by decide +kernel
theorem dX12_init_361 : decode M_X12_init.2.2.1 361 = .ok (.iconst (-1), 1) := by decide +kernel
theorem dX12_init_362 : decode M_X12_init.2.2.1 362 = .ok (.iastore, 1) := by decide +kernel
theorem dX12_init_363 : decode M_X12_init.2.2.1 363 = .ok (.putfield 117, 3) := by decide +kernel
theorem dX12_init_366 : decode M_X12_init.2.2.1 366 = .ok (.aload_n 0, 1) := by decide +kernel
theorem dX12_init_367 : decode M_X12_init.2.2.1 367 = .ok (.bipush 8, 2) := by decide +kernel
theorem dX12_init_369 : decode M_X12_init.2.2.1 369 = .ok (.newarray .int, 2) := by decide +kernel
theorem dX12_init_371 : decode M_X12_init.2.2.1 371 = .ok (.putfield 120, 3) := by decide +kernel
theorem dX12_init_374 : decode M_X12_init.2.2.1 374 = .ok (.aload_n 0, 1) := by decide +kernel
theorem dX12_init_375 : decode M_X12_init.2.2.1 375 = .ok (.iconst 2, 1) := by decide +kernel
theorem dX12_init_376 : decode M_X12_init.2.2.1 376 = .ok (.newarray .int, 2) := by decide +kernel
theorem dX12_init_378 : decode M_X12_init.2.2.1 378 = .ok (.putfield 123, 3) := by decide +kernel
theorem dX12_init_381 : decode M_X12_init.2.2.1 381 = .ok (.aload_n 0, 1) := by decide +kernel
theorem dX12_init_382 : decode M_X12_init.2.2.1 382 = .ok (.sipush 200, 3) := by decide +kernel
theorem dX12_init_385 : decode M_X12_init.2.2.1 385 = .ok (.newarray .int, 2) := by decide +kernel
theorem dX12_init_387 : decode M_X12_init.2.2.1 387 = .ok (.putfield 126, 3) := by decide +kernel
theorem dX12_init_390 : decode M_X12_init.2.2.1 390 = .ok (.aload_n 0, 1) := by decide +kernel
theorem dX12_init_391 : decode M_X12_init.2.2.1 391 = .ok (.sipush 200, 3) := by decide +kernel
theorem dX12_init_394 : decode M_X12_init.2.2.1 394 = .ok (.newarray .int, 2) := by decide +kernel
theorem dX12_init_396 : decode M_X12_init.2.2.1 396 = .ok (.putfield 129, 3) := by decide +kernel
theorem dX12_init_399 : decode M_X12_init.2.2.1 399 = .ok (.aload_n 0, 1) := by decide +kernel
theorem dX12_init_400 : decode M_X12_init.2.2.1 400 = .ok (.sipush 200, 3) := by decide +kernel
theorem dX12_init_403 : decode M_X12_init.2.2.1 403 = .ok (.newarray .int, 2) := by decide +kernel
theorem dX12_init_405 : decode M_X12_init.2.2.1 405 = .ok (.putfield 132, 3) := by decide +kernel
theorem dX12_init_408 : decode M_X12_init.2.2.1 408 = .ok (.aload_n 0, 1) := by decide +kernel
theorem dX12_init_409 : decode M_X12_init.2.2.1 409 = .ok (.bipush 100, 2) := by decide +kernel
theorem dX12_init_411 : decode M_X12_init.2.2.1 411 = .ok (.newarray .int, 2) := by decide +kernel
theorem dX12_init_413 : decode M_X12_init.2.2.1 413 = .ok (.putfield 135, 3) := by decide +kernel
theorem dX12_init_416 : decode M_X12_init.2.2.1 416 = .ok (.aload_n 0, 1) := by decide +kernel
theorem dX12_init_417 : decode M_X12_init.2.2.1 417 = .ok (.bipush 100, 2) := by decide +kernel
theorem dX12_init_419 : decode M_X12_init.2.2.1 419 = .ok (.newarray .int, 2) := by decide +kernel
theorem dX12_init_421 : decode M_X12_init.2.2.1 421 = .ok (.putfield 138, 3) := by decide +kernel
theorem dX12_init_424 : decode M_X12_init.2.2.1 424 = .ok (.aload_n 0, 1) := by decide +kernel
theorem dX12_init_425 : decode M_X12_init.2.2.1 425 = .ok (.bipush 100, 2) := by decide +kernel
theorem dX12_init_427 : decode M_X12_init.2.2.1 427 = .ok (.newarray .int, 2) := by decide +kernel
theorem dX12_init_429 : decode M_X12_init.2.2.1 429 = .ok (.putfield 141, 3) := by decide +kernel
theorem dX12_init_432 : decode M_X12_init.2.2.1 432 = .ok (.aload_n 0, 1) := by decide +kernel
theorem dX12_init_433 : decode M_X12_init.2.2.1 433 = .ok (.bipush 100, 2) := by decide +kernel
theorem dX12_init_435 : decode M_X12_init.2.2.1 435 = .ok (.newarray .boolean, 2) := by decide +kernel
theorem dX12_init_437 : decode M_X12_init.2.2.1 437 = .ok (.putfield 144, 3) := by decide +kernel
theorem dX12_init_440 : decode M_X12_init.2.2.1 440 = .ok (.return_, 1) := by decide +kernel
theorem dX12_isIn_0 : decode M_X12_isIn.2.2.1 0 = .ok (.iload_n 0, 1) := by decide +kernel
theorem dX12_isIn_1 : decode M_X12_isIn.2.2.1 1 = .ok (.iload_n 1, 1) := by decide +kernel
theorem dX12_isIn_2 : decode M_X12_isIn.2.2.1 2 = .ok (.if_icmp .lt 12, 3) := by decide +kernel
theorem dX12_isIn_5 : decode M_X12_isIn.2.2.1 5 = .ok (.iload_n 0, 1) := by decide +kernel
theorem dX12_isIn_6 : decode M_X12_isIn.2.2.1 6 = .ok (.iload_n 2, 1) := by decide +kernel
theorem dX12_isIn_7 : decode M_X12_isIn.2.2.1 7 = .ok (.if_icmp .gt 7, 3) := by decide +kernel
theorem dX12_isIn_10 : decode M_X12_isIn.2.2.1 10 = .ok (.iconst 1, 1) := by decide +kernel
theorem dX12_isIn_11 : decode M_X12_isIn.2.2.1 11 = .ok (.goto 4, 3) := by decide +kernel
theorem dX12_isIn_14 : decode M_X12_isIn.2.2.1 14 = .ok (.iconst 0, 1) := by decide +kernel
theorem dX12_isIn_15 : decode M_X12_isIn.2.2.1 15 = .ok (.ireturn, 1) := by decide +kernel
theorem dX12_isCell_0 : decode M_X12_isCell.2.2.1 0 = .ok (.iload_n 0, 1) := by decide +kernel
theorem dX12_isCell_1 : decode M_X12_isCell.2.2.1 1 = .ok (.iconst 0, 1) := by decide +kernel
theorem dX12_isCell_2 : decode M_X12_isCell.2.2.1 2 = .ok (.bipush 39, 2) := by decide +kernel
theorem dX12_isCell_4 : decode M_X12_isCell.2.2.1 4 = .ok (.invokestatic 147, 3) := by decide +kernel
theorem dX12_isCell_7 : decode M_X12_isCell.2.2.1 7 = .ok (.ifCond .eq 17, 3) := by decide +kernel
theorem dX12_isCell_10 : decode M_X12_isCell.2.2.1 10 = .ok (.iload_n 1, 1) := by decide +kernel
theorem dX12_isCell_11 : decode M_X12_isCell.2.2.1 11 = .ok (.iconst 0, 1) := by decide +kernel
theorem dX12_isCell_12 : decode M_X12_isCell.2.2.1 12 = .ok (.bipush 39, 2) := by decide +kernel
theorem dX12_isCell_14 : decode M_X12_isCell.2.2.1 14 = .ok (.invokestatic 147, 3) := by decide +kernel
theorem dX12_isCell_17 : decode M_X12_isCell.2.2.1 17 = .ok (.ifCond .eq 7, 3) := by decide +kernel
theorem dX12_isCell_20 : decode M_X12_isCell.2.2.1 20 = .ok (.iconst 1, 1) := by decide +kernel
theorem dX12_isCell_21 : decode M_X12_isCell.2.2.1 21 = .ok (.goto 4, 3) := by decide +kernel
theorem dX12_isCell_24 : decode M_X12_isCell.2.2.1 24 = .ok (.iconst 0, 1) := by decide +kernel
theorem dX12_isCell_25 : decode M_X12_isCell.2.2.1 25 = .ok (.ireturn, 1) := by decide +kernel
theorem dX12_apart_0 : decode M_X12_apart.2.2.1 0 = .ok (.iload_n 0, 1) := by decide +kernel
theorem dX12_apart_1 : decode M_X12_apart.2.2.1 1 = .ok (.iload_n 1, 1) := by decide +kernel
theorem dX12_apart_2 : decode M_X12_apart.2.2.1 2 = .ok (.if_icmp .le 9, 3) := by decide +kernel
theorem dX12_apart_5 : decode M_X12_apart.2.2.1 5 = .ok (.iload_n 0, 1) := by decide +kernel
theorem dX12_apart_6 : decode M_X12_apart.2.2.1 6 = .ok (.iload_n 1, 1) := by decide +kernel
theorem dX12_apart_7 : decode M_X12_apart.2.2.1 7 = .ok (.isub, 1) := by decide +kernel
theorem dX12_apart_8 : decode M_X12_apart.2.2.1 8 = .ok (.goto 6, 3) := by decide +kernel
theorem dX12_apart_11 : decode M_X12_apart.2.2.1 11 = .ok (.iload_n 1, 1) := by decide +kernel
theorem dX12_apart_12 : decode M_X12_apart.2.2.1 12 = .ok (.iload_n 0, 1) := by decide +kernel
theorem dX12_apart_13 : decode M_X12_apart.2.2.1 13 = .ok (.isub, 1) := by decide +kernel
theorem dX12_apart_14 : decode M_X12_apart.2.2.1 14 = .ok (.ireturn, 1) := by decide +kernel
theorem dX12_distance_0 : decode M_X12_distance.2.2.1 0 = .ok (.iload_n 0, 1) := by decide +kernel
theorem dX12_distance_1 : decode M_X12_distance.2.2.1 1 = .ok (.bipush 40, 2) := by decide +kernel
theorem dX12_distance_3 : decode M_X12_distance.2.2.1 3 = .ok (.irem, 1) := by decide +kernel
theorem dX12_distance_4 : decode M_X12_distance.2.2.1 4 = .ok (.iload_n 1, 1) := by decide +kernel
theorem dX12_distance_5 : decode M_X12_distance.2.2.1 5 = .ok (.bipush 40, 2) := by decide +kernel
theorem dX12_distance_7 : decode M_X12_distance.2.2.1 7 = .ok (.irem, 1) := by decide +kernel
theorem dX12_distance_8 : decode M_X12_distance.2.2.1 8 = .ok (.isub, 1) := by decide +kernel
theorem dX12_distance_9 : decode M_X12_distance.2.2.1 9 = .ok (.istore_n 2, 1) := by decide +kernel
theorem dX12_distance_10 : decode M_X12_distance.2.2.1 10 = .ok (.iload_n 0, 1) := by decide +kernel
theorem dX12_distance_11 : decode M_X12_distance.2.2.1 11 = .ok (.bipush 40, 2) := by decide +kernel
theorem dX12_distance_13 : decode M_X12_distance.2.2.1 13 = .ok (.idiv, 1) := by decide +kernel
theorem dX12_distance_14 : decode M_X12_distance.2.2.1 14 = .ok (.iload_n 1, 1) := by decide +kernel
theorem dX12_distance_15 : decode M_X12_distance.2.2.1 15 = .ok (.bipush 40, 2) := by decide +kernel
theorem dX12_distance_17 : decode M_X12_distance.2.2.1 17 = .ok (.idiv, 1) := by decide +kernel
theorem dX12_distance_18 : decode M_X12_distance.2.2.1 18 = .ok (.isub, 1) := by decide +kernel
theorem dX12_distance_19 : decode M_X12_distance.2.2.1 19 = .ok (.istore_n 3, 1) := by decide +kernel
theorem dX12_distance_20 : decode M_X12_distance.2.2.1 20 = .ok (.iconst 0, 1) := by decide +kernel
theorem dX12_distance_21 : decode M_X12_distance.2.2.1 21 = .ok (.istore 4, 2) := by decide +kernel
theorem dX12_distance_23 : decode M_X12_distance.2.2.1 23 = .ok (.iload 4, 2) := by decide +kernel
theorem dX12_distance_25 : decode M_X12_distance.2.2.1 25 = .ok (.iconst 1, 1) := by decide +kernel
theorem dX12_distance_26 : decode M_X12_distance.2.2.1 26 = .ok (.iadd, 1) := by decide +kernel
theorem dX12_distance_27 : decode M_X12_distance.2.2.1 27 = .ok (.iload 4, 2) := by decide +kernel
theorem dX12_distance_29 : decode M_X12_distance.2.2.1 29 = .ok (.iconst 1, 1) := by decide +kernel
theorem dX12_distance_30 : decode M_X12_distance.2.2.1 30 = .ok (.iadd, 1) := by decide +kernel
theorem dX12_distance_31 : decode M_X12_distance.2.2.1 31 = .ok (.imul, 1) := by decide +kernel
theorem dX12_distance_32 : decode M_X12_distance.2.2.1 32 = .ok (.iload_n 2, 1) := by decide +kernel
theorem dX12_distance_33 : decode M_X12_distance.2.2.1 33 = .ok (.iload_n 2, 1) := by decide +kernel
theorem dX12_distance_34 : decode M_X12_distance.2.2.1 34 = .ok (.imul, 1) := by decide +kernel
theorem dX12_distance_35 : decode M_X12_distance.2.2.1 35 = .ok (.iload_n 3, 1) := by decide +kernel
theorem dX12_distance_36 : decode M_X12_distance.2.2.1 36 = .ok (.iload_n 3, 1) := by decide +kernel
theorem dX12_distance_37 : decode M_X12_distance.2.2.1 37 = .ok (.imul, 1) := by decide +kernel
theorem dX12_distance_38 : decode M_X12_distance.2.2.1 38 = .ok (.iadd, 1) := by decide +kernel
theorem dX12_distance_39 : decode M_X12_distance.2.2.1 39 = .ok (.if_icmp .gt 9, 3) := by decide +kernel
theorem dX12_distance_42 : decode M_X12_distance.2.2.1 42 = .ok (.iinc 4 1, 3) := by decide +kernel
theorem dX12_distance_45 : decode M_X12_distance.2.2.1 45 = .ok (.goto (-22), 3) := by decide +kernel
theorem dX12_distance_48 : decode M_X12_distance.2.2.1 48 = .ok (.iload 4, 2) := by decide +kernel
theorem dX12_distance_50 : decode M_X12_distance.2.2.1 50 = .ok (.ireturn, 1) := by decide +kernel
theorem dX12_down_0 : decode M_X12_down.2.2.1 0 = .ok (.iload_n 0, 1) := by decide +kernel
theorem dX12_down_1 : decode M_X12_down.2.2.1 1 = .ok (.iload_n 1, 1) := by decide +kernel
theorem dX12_down_2 : decode M_X12_down.2.2.1 2 = .ok (.idiv, 1) := by decide +kernel
theorem dX12_down_3 : decode M_X12_down.2.2.1 3 = .ok (.istore_n 2, 1) := by decide +kernel
theorem dX12_down_4 : decode M_X12_down.2.2.1 4 = .ok (.iload_n 0, 1) := by decide +kernel
theorem dX12_down_5 : decode M_X12_down.2.2.1 5 = .ok (.iload_n 1, 1) := by decide +kernel
theorem dX12_down_6 : decode M_X12_down.2.2.1 6 = .ok (.irem, 1) := by decide +kernel
theorem dX12_down_7 : decode M_X12_down.2.2.1 7 = .ok (.ifCond .ge 9, 3) := by decide +kernel
theorem dX12_down_10 : decode M_X12_down.2.2.1 10 = .ok (.iload_n 2, 1) := by decide +kernel
theorem dX12_down_11 : decode M_X12_down.2.2.1 11 = .ok (.iconst 1, 1) := by decide +kernel
theorem dX12_down_12 : decode M_X12_down.2.2.1 12 = .ok (.isub, 1) := by decide +kernel
theorem dX12_down_13 : decode M_X12_down.2.2.1 13 = .ok (.goto 4, 3) := by decide +kernel
theorem dX12_down_16 : decode M_X12_down.2.2.1 16 = .ok (.iload_n 2, 1) := by decide +kernel
theorem dX12_down_17 : decode M_X12_down.2.2.1 17 = .ok (.ireturn, 1) := by decide +kernel
theorem dX12_isCellar_0 : decode M_X12_isCellar.2.2.1 0 = .ok (.iload_n 1, 1) := by decide +kernel
theorem dX12_isCellar_1 : decode M_X12_isCellar.2.2.1 1 = .ok (.iconst 0, 1) := by decide +kernel
theorem dX12_isCellar_2 : decode M_X12_isCellar.2.2.1 2 = .ok (.aload_n 0, 1) := by decide +kernel
theorem dX12_isCellar_3 : decode M_X12_isCellar.2.2.1 3 = .ok (.getfield 151, 3) := by decide +kernel
theorem dX12_isCellar_6 : decode M_X12_isCellar.2.2.1 6 = .ok (.iconst 1, 1) := by decide +kernel
theorem dX12_isCellar_7 : decode M_X12_isCellar.2.2.1 7 = .ok (.isub, 1) := by decide +kernel
theorem dX12_isCellar_8 : decode M_X12_isCellar.2.2.1 8 = .ok (.invokestatic 147, 3) := by decide +kernel
theorem dX12_isCellar_11 : decode M_X12_isCellar.2.2.1 11 = .ok (.ireturn, 1) := by decide +kernel
theorem dX12_cellar_0 : decode M_X12_cellar.2.2.1 0 = .ok (.iload_n 1, 1) := by decide +kernel
theorem dX12_cellar_1 : decode M_X12_cellar.2.2.1 1 = .ok (.iload_n 2, 1) := by decide +kernel
theorem dX12_cellar_2 : decode M_X12_cellar.2.2.1 2 = .ok (.invokestatic 154, 3) := by decide +kernel
theorem dX12_cellar_5 : decode M_X12_cellar.2.2.1 5 = .ok (.ifCond .eq 12, 3) := by decide +kernel
theorem dX12_cellar_8 : decode M_X12_cellar.2.2.1 8 = .ok (.aload_n 0, 1) := by decide +kernel
theorem dX12_cellar_9 : decode M_X12_cellar.2.2.1 9 = .ok (.getfield 151, 3) := by decide +kernel
theorem dX12_cellar_12 : decode M_X12_cellar.2.2.1 12 = .ok (.bipush 6, 2) := by decide +kernel
theorem dX12_cellar_14 : decode M_X12_cellar.2.2.1 14 = .ok (.if_icmp .ne 5, 3) := by decide +kernel
theorem dX12_cellar_17 : decode M_X12_cellar.2.2.1 17 = .ok (.iconst (-1), 1) := by decide +kernel
theorem dX12_cellar_18 : decode M_X12_cellar.2.2.1 18 = .ok (.ireturn, 1) := by decide +kernel
theorem dX12_cellar_19 : decode M_X12_cellar.2.2.1 19 = .ok (.aload_n 0, 1) := by decide +kernel
theorem dX12_cellar_20 : decode M_X12_cellar.2.2.1 20 = .ok (.getfield 151, 3) := by decide +kernel
theorem dX12_cellar_23 : decode M_X12_cellar.2.2.1 23 = .ok (.istore_n 3, 1) := by decide +kernel
theorem dX12_cellar_24 : decode M_X12_cellar.2.2.1 24 = .ok (.aload_n 0, 1) := by decide +kernel
theorem dX12_cellar_25 : decode M_X12_cellar.2.2.1 25 = .ok (.getfield 7, 3) := by decide +kernel
theorem dX12_cellar_28 : decode M_X12_cellar.2.2.1 28 = .ok (.iload_n 3, 1) := by decide +kernel
theorem dX12_cellar_29 : decode M_X12_cellar.2.2.1 29 = .ok (.bipush 40, 2) := by decide +kernel
theorem dX12_cellar_31 : decode M_X12_cellar.2.2.1 31 = .ok (.iload_n 2, 1) := by decide +kernel
theorem dX12_cellar_32 : decode M_X12_cellar.2.2.1 32 = .ok (.imul, 1) := by decide +kernel
theorem dX12_cellar_33 : decode M_X12_cellar.2.2.1 33 = .ok (.iload_n 1, 1) := by decide +kernel
theorem dX12_cellar_34 : decode M_X12_cellar.2.2.1 34 = .ok (.iadd, 1) := by decide +kernel
theorem dX12_cellar_35 : decode M_X12_cellar.2.2.1 35 = .ok (.iastore, 1) := by decide +kernel
theorem dX12_cellar_36 : decode M_X12_cellar.2.2.1 36 = .ok (.aload_n 0, 1) := by decide +kernel
theorem dX12_cellar_37 : decode M_X12_cellar.2.2.1 37 = .ok (.getfield 13, 3) := by decide +kernel
theorem dX12_cellar_40 : decode M_X12_cellar.2.2.1 40 = .ok (.iload_n 3, 1) := by decide +kernel
theorem dX12_cellar_41 : decode M_X12_cellar.2.2.1 41 = .ok (.bipush 8, 2) := by decide +kernel
theorem dX12_cellar_43 : decode M_X12_cellar.2.2.1 43 = .ok (.iastore, 1) := by decide +kernel
theorem dX12_cellar_44 : decode M_X12_cellar.2.2.1 44 = .ok (.aload_n 0, 1) := by decide +kernel
theorem dX12_cellar_45 : decode M_X12_cellar.2.2.1 45 = .ok (.getfield 16, 3) := by decide +kernel
theorem dX12_cellar_48 : decode M_X12_cellar.2.2.1 48 = .ok (.iload_n 3, 1) := by decide +kernel
theorem dX12_cellar_49 : decode M_X12_cellar.2.2.1 49 = .ok (.bipush 16, 2) := by decide +kernel
theorem dX12_cellar_51 : decode M_X12_cellar.2.2.1 51 = .ok (.iastore, 1) := by decide +kernel
theorem dX12_cellar_52 : decode M_X12_cellar.2.2.1 52 = .ok (.aload_n 0, 1) := by decide +kernel
theorem dX12_cellar_53 : decode M_X12_cellar.2.2.1 53 = .ok (.getfield 19, 3) := by decide +kernel
theorem dX12_cellar_56 : decode M_X12_cellar.2.2.1 56 = .ok (.iload_n 3, 1) := by decide +kernel
theorem dX12_cellar_57 : decode M_X12_cellar.2.2.1 57 = .ok (.bipush 99, 2) := by decide +kernel
theorem dX12_cellar_59 : decode M_X12_cellar.2.2.1 59 = .ok (.iastore, 1) := by decide +kernel
theorem dX12_cellar_60 : decode M_X12_cellar.2.2.1 60 = .ok (.aload_n 0, 1) := by decide +kernel
theorem dX12_cellar_61 : decode M_X12_cellar.2.2.1 61 = .ok (.getfield 46, 3) := by decide +kernel
theorem dX12_cellar_64 : decode M_X12_cellar.2.2.1 64 = .ok (.iload_n 3, 1) := by decide +kernel
theorem dX12_cellar_65 : decode M_X12_cellar.2.2.1 65 = .ok (.sipush 600, 3) := by decide +kernel
theorem dX12_cellar_68 : decode M_X12_cellar.2.2.1 68 = .ok (.iastore, 1) := by decide +kernel
theorem dX12_cellar_69 : decode M_X12_cellar.2.2.1 69 = .ok (.aload_n 0, 1) := by decide +kernel
theorem dX12_cellar_70 : decode M_X12_cellar.2.2.1 70 = .ok (.getfield 49, 3) := by decide +kernel
theorem dX12_cellar_73 : decode M_X12_cellar.2.2.1 73 = .ok (.iload_n 3, 1) := by decide +kernel
theorem dX12_cellar_74 : decode M_X12_cellar.2.2.1 74 = .ok (.sipush 600, 3) := by decide +kernel
theorem dX12_cellar_77 : decode M_X12_cellar.2.2.1 77 = .ok (.iastore, 1) := by decide +kernel
theorem dX12_cellar_78 : decode M_X12_cellar.2.2.1 78 = .ok (.aload_n 0, 1) := by decide +kernel
theorem dX12_cellar_79 : decode M_X12_cellar.2.2.1 79 = .ok (.dup, 1) := by decide +kernel
theorem dX12_cellar_80 : decode M_X12_cellar.2.2.1 80 = .ok (.getfield 151, 3) := by decide +kernel
theorem dX12_cellar_83 : decode M_X12_cellar.2.2.1 83 = .ok (.iconst 1, 1) := by decide +kernel
theorem dX12_cellar_84 : decode M_X12_cellar.2.2.1 84 = .ok (.iadd, 1) := by decide +kernel
theorem dX12_cellar_85 : decode M_X12_cellar.2.2.1 85 = .ok (.putfield 151, 3) := by decide +kernel
theorem dX12_cellar_88 : decode M_X12_cellar.2.2.1 88 = .ok (.iload_n 3, 1) := by decide +kernel
theorem dX12_cellar_89 : decode M_X12_cellar.2.2.1 89 = .ok (.ireturn, 1) := by decide +kernel
theorem dX12_pen_0 : decode M_X12_pen.2.2.1 0 = .ok (.aload_n 0, 1) := by decide +kernel
theorem dX12_pen_1 : decode M_X12_pen.2.2.1 1 = .ok (.iload_n 1, 1) := by decide +kernel
theorem dX12_pen_2 : decode M_X12_pen.2.2.1 2 = .ok (.invokevirtual 158, 3) := by decide +kernel
theorem dX12_pen_5 : decode M_X12_pen.2.2.1 5 = .ok (.ifCond .eq 36, 3) := by decide +kernel
theorem dX12_pen_8 : decode M_X12_pen.2.2.1 8 = .ok (.iload_n 2, 1) := by decide +kernel
theorem dX12_pen_9 : decode M_X12_pen.2.2.1 9 = .ok (.iconst 0, 1) := by decide +kernel
theorem dX12_pen_10 : decode M_X12_pen.2.2.1 10 = .ok (.bipush 63, 2) := by decide +kernel
theorem dX12_pen_12 : decode M_X12_pen.2.2.1 12 = .ok (.invokestatic 147, 3) := by decide +kernel
theorem dX12_pen_15 : decode M_X12_pen.2.2.1 15 = .ok (.ifCond .eq 26, 3) := by decide +kernel
theorem dX12_pen_18 : decode M_X12_pen.2.2.1 18 = .ok (.iload_n 3, 1) := by decide +kernel
theorem dX12_pen_19 : decode M_X12_pen.2.2.1 19 = .ok (.iconst 0, 1) := by decide +kernel
theorem dX12_pen_20 : decode M_X12_pen.2.2.1 20 = .ok (.bipush 63, 2) := by decide +kernel
theorem dX12_pen_22 : decode M_X12_pen.2.2.1 22 = .ok (.invokestatic 147, 3) := by decide +kernel
theorem dX12_pen_25 : decode M_X12_pen.2.2.1 25 = .ok (.ifCond .eq 16, 3) := by decide +kernel
theorem dX12_pen_28 : decode M_X12_pen.2.2.1 28 = .ok (.iload 4, 2) := by decide +kernel
theorem dX12_pen_30 : decode M_X12_pen.2.2.1 30 = .ok (.bipush 10, 2) := by decide +kernel
theorem dX12_pen_32 : decode M_X12_pen.2.2.1 32 = .ok (.sipush 999, 3) := by decide +kernel
theorem dX12_pen_35 : decode M_X12_pen.2.2.1 35 = .ok (.invokestatic 147, 3) := by decide +kernel
theorem dX12_pen_38 : decode M_X12_pen.2.2.1 38 = .ok (.ifCond .ne 5, 3) := by decide +kernel
theorem dX12_pen_41 : decode M_X12_pen.2.2.1 41 = .ok (.iconst 0, 1) := by decide +kernel
theorem dX12_pen_42 : decode M_X12_pen.2.2.1 42 = .ok (.ireturn, 1) := by decide +kernel
theorem dX12_pen_43 : decode M_X12_pen.2.2.1 43 = .ok (.aload_n 0, 1) := by decide +kernel
theorem dX12_pen_44 : decode M_X12_pen.2.2.1 44 = .ok (.getfield 13, 3) := by decide +kernel
theorem dX12_pen_47 : decode M_X12_pen.2.2.1 47 = .ok (.iload_n 1, 1) := by decide +kernel
theorem dX12_pen_48 : decode M_X12_pen.2.2.1 48 = .ok (.iload_n 2, 1) := by decide +kernel
theorem dX12_pen_49 : decode M_X12_pen.2.2.1 49 = .ok (.iastore, 1) := by decide +kernel
theorem dX12_pen_50 : decode M_X12_pen.2.2.1 50 = .ok (.aload_n 0, 1) := by decide +kernel
theorem dX12_pen_51 : decode M_X12_pen.2.2.1 51 = .ok (.getfield 16, 3) := by decide +kernel
theorem dX12_pen_54 : decode M_X12_pen.2.2.1 54 = .ok (.iload_n 1, 1) := by decide +kernel
theorem dX12_pen_55 : decode M_X12_pen.2.2.1 55 = .ok (.iload_n 3, 1) := by decide +kernel
theorem dX12_pen_56 : decode M_X12_pen.2.2.1 56 = .ok (.iastore, 1) := by decide +kernel
theorem dX12_pen_57 : decode M_X12_pen.2.2.1 57 = .ok (.aload_n 0, 1) := by decide +kernel
theorem dX12_pen_58 : decode M_X12_pen.2.2.1 58 = .ok (.getfield 19, 3) := by decide +kernel
theorem dX12_pen_61 : decode M_X12_pen.2.2.1 61 = .ok (.iload_n 1, 1) := by decide +kernel
theorem dX12_pen_62 : decode M_X12_pen.2.2.1 62 = .ok (.iload 4, 2) := by decide +kernel
theorem dX12_pen_64 : decode M_X12_pen.2.2.1 64 = .ok (.iastore, 1) := by decide +kernel
theorem dX12_pen_65 : decode M_X12_pen.2.2.1 65 = .ok (.iconst 1, 1) := by decide +kernel
theorem dX12_pen_66 : decode M_X12_pen.2.2.1 66 = .ok (.ireturn, 1) := by decide +kernel
theorem dX12_ground_0 : decode M_X12_ground.2.2.1 0 = .ok (.aload_n 0, 1) := by decide +kernel
theorem dX12_ground_1 : decode M_X12_ground.2.2.1 1 = .ok (.iload_n 1, 1) := by decide +kernel
theorem dX12_ground_2 : decode M_X12_ground.2.2.1 2 = .ok (.invokevirtual 158, 3) := by decide +kernel
theorem dX12_ground_5 : decode M_X12_ground.2.2.1 5 = .ok (.ifCond .eq 28, 3) := by decide +kernel
theorem dX12_ground_8 : decode M_X12_ground.2.2.1 8 = .ok (.iload_n 2, 1) := by decide +kernel
theorem dX12_ground_9 : decode M_X12_ground.2.2.1 9 = .ok (.sipush (-9999), 3) := by decide +kernel
theorem dX12_ground_12 : decode M_X12_ground.2.2.1 12 = .ok (.sipush 9999, 3) := by decide +kernel
theorem dX12_ground_15 : decode M_X12_ground.2.2.1 15 = .ok (.invokestatic 147, 3) := by decide +kernel
theorem dX12_ground_18 : decode M_X12_ground.2.2.1 18 = .ok (.ifCond .eq 15, 3) := by decide +kernel
theorem dX12_ground_21 : decode M_X12_ground.2.2.1 21 = .ok (.aload_n 0, 1) := by decide +kernel
theorem dX12_ground_22 : decode M_X12_ground.2.2.1 22 = .ok (.getfield 31, 3) := by decide +kernel
theorem dX12_ground_25 : decode M_X12_ground.2.2.1 25 = .ok (.iload_n 1, 1) := by decide +kernel
theorem dX12_ground_26 : decode M_X12_ground.2.2.1 26 = .ok (.iaload, 1) := by decide +kernel
theorem dX12_ground_27 : decode M_X12_ground.2.2.1 27 = .ok (.sipush 200, 3) := by decide +kernel
theorem dX12_ground_30 : decode M_X12_ground.2.2.1 30 = .ok (.if_icmp .ne 6, 3) := by decide +kernel
theorem dX12_ground_33 : decode M_X12_ground.2.2.1 33 = .ok (.ldc 162, 2) := by decide +kernel
theorem dX12_ground_35 : decode M_X12_ground.2.2.1 35 = .ok (.ireturn, 1) := by decide +kernel
theorem dX12_ground_36 : decode M_X12_ground.2.2.1 36 = .ok (.aload_n 0, 1) := by decide +kernel
theorem dX12_ground_37 : decode M_X12_ground.2.2.1 37 = .ok (.getfield 25, 3) := by decide +kernel
theorem dX12_ground_40 : decode M_X12_ground.2.2.1 40 = .ok (.iload_n 1, 1) := by decide +kernel
theorem dX12_ground_41 : decode M_X12_ground.2.2.1 41 = .ok (.aload_n 0, 1) := by decide +kernel
theorem dX12_ground_42 : decode M_X12_ground.2.2.1 42 = .ok (.getfield 25, 3) := by decide +kernel
theorem dX12_ground_45 : decode M_X12_ground.2.2.1 45 = .ok (.iload_n 1, 1) := by decide +kernel
theorem dX12_ground_46 : decode M_X12_ground.2.2.1 46 = .ok (.iaload, 1) := by decide +kernel
theorem dX12_ground_47 : decode M_X12_ground.2.2.1 47 = .ok (.iload_n 2, 1) := by decide +kernel
theorem dX12_ground_48 : decode M_X12_ground.2.2.1 48 = .ok (.iadd, 1) := by decide +kernel
theorem dX12_ground_49 : decode M_X12_ground.2.2.1 49 = .ok (.aload_n 0, 1) := by decide +kernel
theorem dX12_ground_50 : decode M_X12_ground.2.2.1 50 = .ok (.getfield 13, 3) := by decide +kernel
theorem dX12_ground_53 : decode M_X12_ground.2.2.1 53 = .ok (.iload_n 1, 1) := by decide +kernel
theorem dX12_ground_54 : decode M_X12_ground.2.2.1 54 = .ok (.iaload, 1) := by decide +kernel
theorem dX12_ground_55 : decode M_X12_ground.2.2.1 55 = .ok (.aload_n 0, 1) := by decide +kernel
theorem dX12_ground_56 : decode M_X12_ground.2.2.1 56 = .ok (.getfield 25, 3) := by decide +kernel
theorem dX12_ground_59 : decode M_X12_ground.2.2.1 59 = .ok (.iload_n 1, 1) := by decide +kernel
theorem dX12_ground_60 : decode M_X12_ground.2.2.1 60 = .ok (.iaload, 1) := by decide +kernel
theorem dX12_ground_61 : decode M_X12_ground.2.2.1 61 = .ok (.imul, 1) := by decide +kernel
theorem dX12_ground_62 : decode M_X12_ground.2.2.1 62 = .ok (.aload_n 0, 1) := by decide +kernel
theorem dX12_ground_63 : decode M_X12_ground.2.2.1 63 = .ok (.getfield 16, 3) := by decide +kernel
theorem dX12_ground_66 : decode M_X12_ground.2.2.1 66 = .ok (.iload_n 1, 1) := by decide +kernel
theorem dX12_ground_67 : decode M_X12_ground.2.2.1 67 = .ok (.iaload, 1) := by decide +kernel
theorem dX12_ground_68 : decode M_X12_ground.2.2.1 68 = .ok (.aload_n 0, 1) := by decide +kernel
theorem dX12_ground_69 : decode M_X12_ground.2.2.1 69 = .ok (.getfield 22, 3) := by decide +kernel
theorem dX12_ground_72 : decode M_X12_ground.2.2.1 72 = .ok (.iload_n 1, 1) := by decide +kernel
theorem dX12_ground_73 : decode M_X12_ground.2.2.1 73 = .ok (.iaload, 1) := by decide +kernel
theorem dX12_ground_74 : decode M_X12_ground.2.2.1 74 = .ok (.imul, 1) := by decide +kernel
theorem dX12_ground_75 : decode M_X12_ground.2.2.1 75 = .ok (.iadd, 1) := by decide +kernel
theorem dX12_ground_76 : decode M_X12_ground.2.2.1 76 = .ok (.bipush 64, 2) := by decide +kernel
theorem dX12_ground_78 : decode M_X12_ground.2.2.1 78 = .ok (.idiv, 1) := by decide +kernel
theorem dX12_ground_79 : decode M_X12_ground.2.2.1 79 = .ok (.isub, 1) := by decide +kernel
theorem dX12_ground_80 : decode M_X12_ground.2.2.1 80 = .ok (.iastore, 1) := by decide +kernel
theorem dX12_ground_81 : decode M_X12_ground.2.2.1 81 = .ok (.aload_n 0, 1) := by decide +kernel
theorem dX12_ground_82 : decode M_X12_ground.2.2.1 82 = .ok (.getfield 22, 3) := by decide +kernel
theorem dX12_ground_85 : decode M_X12_ground.2.2.1 85 = .ok (.iload_n 1, 1) := by decide +kernel
theorem dX12_ground_86 : decode M_X12_ground.2.2.1 86 = .ok (.dup2, 1) := by decide +kernel
theorem dX12_ground_87 : decode M_X12_ground.2.2.1 87 = .ok (.iaload, 1) := by decide +kernel
theorem dX12_ground_88 : decode M_X12_ground.2.2.1 88 = .ok (.aload_n 0, 1) := by decide +kernel
theorem dX12_ground_89 : decode M_X12_ground.2.2.1 89 = .ok (.getfield 25, 3) := by decide +kernel
theorem dX12_ground_92 : decode M_X12_ground.2.2.1 92 = .ok (.iload_n 1, 1) := by decide +kernel
theorem dX12_ground_93 : decode M_X12_ground.2.2.1 93 = .ok (.iaload, 1) := by decide +kernel
theorem dX12_ground_94 : decode M_X12_ground.2.2.1 94 = .ok (.iadd, 1) := by decide +kernel
theorem dX12_ground_95 : decode M_X12_ground.2.2.1 95 = .ok (.iastore, 1) := by decide +kernel
theorem dX12_ground_96 : decode M_X12_ground.2.2.1 96 = .ok (.aload_n 0, 1) := by decide +kernel
theorem dX12_ground_97 : decode M_X12_ground.2.2.1 97 = .ok (.getfield 22, 3) := by decide +kernel
theorem dX12_ground_100 : decode M_X12_ground.2.2.1 100 = .ok (.iload_n 1, 1) := by decide +kernel
theorem dX12_ground_101 : decode M_X12_ground.2.2.1 101 = .ok (.iaload, 1) := by decide +kernel
theorem dX12_ground_102 : decode M_X12_ground.2.2.1 102 = .ok (.aload_n 0, 1) := by decide +kernel
theorem dX12_ground_103 : decode M_X12_ground.2.2.1 103 = .ok (.getfield 19, 3) := by decide +kernel
theorem dX12_ground_106 : decode M_X12_ground.2.2.1 106 = .ok (.iload_n 1, 1) := by decide +kernel
theorem dX12_ground_107 : decode M_X12_ground.2.2.1 107 = .ok (.iaload, 1) := by decide +kernel
theorem dX12_ground_108 : decode M_X12_ground.2.2.1 108 = .ok (.if_icmp .le 12, 3) := by decide +kernel
theorem dX12_ground_111 : decode M_X12_ground.2.2.1 111 = .ok (.aload_n 0, 1) := by decide +kernel
theorem dX12_ground_112 : decode M_X12_ground.2.2.1 112 = .ok (.getfield 19, 3) := by decide +kernel
theorem dX12_ground_115 : decode M_X12_ground.2.2.1 115 = .ok (.iload_n 1, 1) := by decide +kernel
theorem dX12_ground_116 : decode M_X12_ground.2.2.1 116 = .ok (.iaload, 1) := by decide +kernel
theorem dX12_ground_117 : decode M_X12_ground.2.2.1 117 = .ok (.goto 35, 3) := by decide +kernel
theorem dX12_ground_120 : decode M_X12_ground.2.2.1 120 = .ok (.aload_n 0, 1) := by decide +kernel
theorem dX12_ground_121 : decode M_X12_ground.2.2.1 121 = .ok (.getfield 22, 3) := by decide +kernel
theorem dX12_ground_124 : decode M_X12_ground.2.2.1 124 = .ok (.iload_n 1, 1) := by decide +kernel
theorem dX12_ground_125 : decode M_X12_ground.2.2.1 125 = .ok (.iaload, 1) := by decide +kernel
theorem dX12_ground_126 : decode M_X12_ground.2.2.1 126 = .ok (.aload_n 0, 1) := by decide +kernel
theorem dX12_ground_127 : decode M_X12_ground.2.2.1 127 = .ok (.getfield 19, 3) := by decide +kernel
theorem dX12_ground_130 : decode M_X12_ground.2.2.1 130 = .ok (.iload_n 1, 1) := by decide +kernel
theorem dX12_ground_131 : decode M_X12_ground.2.2.1 131 = .ok (.iaload, 1) := by decide +kernel
theorem dX12_ground_132 : decode M_X12_ground.2.2.1 132 = .ok (.ineg, 1) := by decide +kernel
theorem dX12_ground_133 : decode M_X12_ground.2.2.1 133 = .ok (.if_icmp .ge 13, 3) := by decide +kernel
theorem dX12_ground_136 : decode M_X12_ground.2.2.1 136 = .ok (.aload_n 0, 1) := by decide +kernel
theorem dX12_ground_137 : decode M_X12_ground.2.2.1 137 = .ok (.getfield 19, 3) := by decide +kernel
theorem dX12_ground_140 : decode M_X12_ground.2.2.1 140 = .ok (.iload_n 1, 1) := by decide +kernel
theorem dX12_ground_141 : decode M_X12_ground.2.2.1 141 = .ok (.iaload, 1) := by decide +kernel
theorem dX12_ground_142 : decode M_X12_ground.2.2.1 142 = .ok (.ineg, 1) := by decide +kernel
theorem dX12_ground_143 : decode M_X12_ground.2.2.1 143 = .ok (.goto 9, 3) := by decide +kernel
theorem dX12_ground_146 : decode M_X12_ground.2.2.1 146 = .ok (.aload_n 0, 1) := by decide +kernel
theorem dX12_ground_147 : decode M_X12_ground.2.2.1 147 = .ok (.getfield 22, 3) := by decide +kernel
theorem dX12_ground_150 : decode M_X12_ground.2.2.1 150 = .ok (.iload_n 1, 1) := by decide +kernel
theorem dX12_ground_151 : decode M_X12_ground.2.2.1 151 = .ok (.iaload, 1) := by decide +kernel
theorem dX12_ground_152 : decode M_X12_ground.2.2.1 152 = .ok (.istore_n 3, 1) := by decide +kernel
theorem dX12_ground_153 : decode M_X12_ground.2.2.1 153 = .ok (.aload_n 0, 1) := by decide +kernel
theorem dX12_ground_154 : decode M_X12_ground.2.2.1 154 = .ok (.getfield 28, 3) := by decide +kernel
theorem dX12_ground_157 : decode M_X12_ground.2.2.1 157 = .ok (.sipush 200, 3) := by decide +kernel
theorem dX12_ground_160 : decode M_X12_ground.2.2.1 160 = .ok (.iload_n 1, 1) := by decide +kernel
theorem dX12_ground_161 : decode M_X12_ground.2.2.1 161 = .ok (.imul, 1) := by decide +kernel
theorem dX12_ground_162 : decode M_X12_ground.2.2.1 162 = .ok (.aload_n 0, 1) := by decide +kernel
theorem dX12_ground_163 : decode M_X12_ground.2.2.1 163 = .ok (.getfield 31, 3) := by decide +kernel
theorem dX12_ground_166 : decode M_X12_ground.2.2.1 166 = .ok (.iload_n 1, 1) := by decide +kernel
theorem dX12_ground_167 : decode M_X12_ground.2.2.1 167 = .ok (.iaload, 1) := by decide +kernel
theorem dX12_ground_168 : decode M_X12_ground.2.2.1 168 = .ok (.iadd, 1) := by decide +kernel
theorem dX12_ground_169 : decode M_X12_ground.2.2.1 169 = .ok (.iload_n 3, 1) := by decide +kernel
theorem dX12_ground_170 : decode M_X12_ground.2.2.1 170 = .ok (.iastore, 1) := by decide +kernel
theorem dX12_ground_171 : decode M_X12_ground.2.2.1 171 = .ok (.aload_n 0, 1) := by decide +kernel
theorem dX12_ground_172 : decode M_X12_ground.2.2.1 172 = .ok (.getfield 31, 3) := by decide +kernel
theorem dX12_ground_175 : decode M_X12_ground.2.2.1 175 = .ok (.iload_n 1, 1) := by decide +kernel
theorem dX12_ground_176 : decode M_X12_ground.2.2.1 176 = .ok (.dup2, 1) := by decide +kernel
theorem dX12_ground_177 : decode M_X12_ground.2.2.1 177 = .ok (.iaload, 1) := by decide +kernel
theorem dX12_ground_178 : decode M_X12_ground.2.2.1 178 = .ok (.iconst 1, 1) := by decide +kernel
theorem dX12_ground_179 : decode M_X12_ground.2.2.1 179 = .ok (.iadd, 1) := by decide +kernel
theorem dX12_ground_180 : decode M_X12_ground.2.2.1 180 = .ok (.iastore, 1) := by decide +kernel
theorem dX12_ground_181 : decode M_X12_ground.2.2.1 181 = .ok (.iload_n 3, 1) := by decide +kernel
theorem dX12_ground_182 : decode M_X12_ground.2.2.1 182 = .ok (.ireturn, 1) := by decide +kernel
theorem dX12_write_0 : decode M_X12_write.2.2.1 0 = .ok (.aload_n 0, 1) := by decide +kernel
theorem dX12_write_1 : decode M_X12_write.2.2.1 1 = .ok (.iload_n 1, 1) := by decide +kernel
theorem dX12_write_2 : decode M_X12_write.2.2.1 2 = .ok (.invokevirtual 158, 3) := by decide +kernel
theorem dX12_write_5 : decode M_X12_write.2.2.1 5 = .ok (.ifCond .eq 43, 3) := by decide +kernel
theorem dX12_write_8 : decode M_X12_write.2.2.1 8 = .ok (.iload_n 2, 1) := by decide +kernel
theorem dX12_write_9 : decode M_X12_write.2.2.1 9 = .ok (.iconst 0, 1) := by decide +kernel
theorem dX12_write_10 : decode M_X12_write.2.2.1 10 = .ok (.aload_n 0, 1) := by decide +kernel
theorem dX12_write_11 : decode M_X12_write.2.2.1 11 = .ok (.getfield 31, 3) := by decide +kernel
theorem dX12_write_14 : decode M_X12_write.2.2.1 14 = .ok (.iload_n 1, 1) := by decide +kernel
theorem dX12_write_15 : decode M_X12_write.2.2.1 15 = .ok (.iaload, 1) := by decide +kernel
theorem dX12_write_16 : decode M_X12_write.2.2.1 16 = .ok (.invokestatic 147, 3) := by decide +kernel
theorem dX12_write_19 : decode M_X12_write.2.2.1 19 = .ok (.ifCond .eq 29, 3) := by decide +kernel
theorem dX12_write_22 : decode M_X12_write.2.2.1 22 = .ok (.iload_n 2, 1) := by decide +kernel
theorem dX12_write_23 : decode M_X12_write.2.2.1 23 = .ok (.sipush 200, 3) := by decide +kernel
theorem dX12_write_26 : decode M_X12_write.2.2.1 26 = .ok (.if_icmp .eq 22, 3) := by decide +kernel
theorem dX12_write_29 : decode M_X12_write.2.2.1 29 = .ok (.iload_n 3, 1) := by decide +kernel
theorem dX12_write_30 : decode M_X12_write.2.2.1 30 = .ok (.ldc 162, 2) := by decide +kernel
theorem dX12_write_32 : decode M_X12_write.2.2.1 32 = .ok (.if_icmp .eq 18, 3) := by decide +kernel
theorem dX12_write_35 : decode M_X12_write.2.2.1 35 = .ok (.iload_n 3, 1) := by decide +kernel
theorem dX12_write_36 : decode M_X12_write.2.2.1 36 = .ok (.sipush (-999), 3) := by decide +kernel
theorem dX12_write_39 : decode M_X12_write.2.2.1 39 = .ok (.sipush 999, 3) := by decide +kernel
theorem dX12_write_42 : decode M_X12_write.2.2.1 42 = .ok (.invokestatic 147, 3) := by decide +kernel
theorem dX12_write_45 : decode M_X12_write.2.2.1 45 = .ok (.ifCond .ne 5, 3) := by decide +kernel
theorem dX12_write_48 : decode M_X12_write.2.2.1 48 = .ok (.iconst 0, 1) := by decide +kernel
theorem dX12_write_49 : decode M_X12_write.2.2.1 49 = .ok (.ireturn, 1) := by decide +kernel
theorem dX12_write_50 : decode M_X12_write.2.2.1 50 = .ok (.aload_n 0, 1) := by decide +kernel
theorem dX12_write_51 : decode M_X12_write.2.2.1 51 = .ok (.getfield 28, 3) := by decide +kernel
theorem dX12_write_54 : decode M_X12_write.2.2.1 54 = .ok (.sipush 200, 3) := by decide +kernel
theorem dX12_write_57 : decode M_X12_write.2.2.1 57 = .ok (.iload_n 1, 1) := by decide +kernel
theorem dX12_write_58 : decode M_X12_write.2.2.1 58 = .ok (.imul, 1) := by decide +kernel
theorem dX12_write_59 : decode M_X12_write.2.2.1 59 = .ok (.iload_n 2, 1) := by decide +kernel
theorem dX12_write_60 : decode M_X12_write.2.2.1 60 = .ok (.iadd, 1) := by decide +kernel
theorem dX12_write_61 : decode M_X12_write.2.2.1 61 = .ok (.iload_n 3, 1) := by decide +kernel
theorem dX12_write_62 : decode M_X12_write.2.2.1 62 = .ok (.iastore, 1) := by decide +kernel
theorem dX12_write_63 : decode M_X12_write.2.2.1 63 = .ok (.aload_n 0, 1) := by decide +kernel
theorem dX12_write_64 : decode M_X12_write.2.2.1 64 = .ok (.getfield 31, 3) := by decide +kernel
theorem dX12_write_67 : decode M_X12_write.2.2.1 67 = .ok (.iload_n 1, 1) := by decide +kernel
theorem dX12_write_68 : decode M_X12_write.2.2.1 68 = .ok (.iload_n 2, 1) := by decide +kernel
theorem dX12_write_69 : decode M_X12_write.2.2.1 69 = .ok (.aload_n 0, 1) := by decide +kernel
theorem dX12_write_70 : decode M_X12_write.2.2.1 70 = .ok (.getfield 31, 3) := by decide +kernel
theorem dX12_write_73 : decode M_X12_write.2.2.1 73 = .ok (.iload_n 1, 1) := by decide +kernel
theorem dX12_write_74 : decode M_X12_write.2.2.1 74 = .ok (.iaload, 1) := by decide +kernel
theorem dX12_write_75 : decode M_X12_write.2.2.1 75 = .ok (.if_icmp .ne 9, 3) := by decide +kernel
theorem dX12_write_78 : decode M_X12_write.2.2.1 78 = .ok (.iload_n 2, 1) := by decide +kernel
theorem dX12_write_79 : decode M_X12_write.2.2.1 79 = .ok (.iconst 1, 1) := by decide +kernel
theorem dX12_write_80 : decode M_X12_write.2.2.1 80 = .ok (.iadd, 1) := by decide +kernel
theorem dX12_write_81 : decode M_X12_write.2.2.1 81 = .ok (.goto 9, 3) := by decide +kernel
theorem dX12_write_84 : decode M_X12_write.2.2.1 84 = .ok (.aload_n 0, 1) := by decide +kernel
theorem dX12_write_85 : decode M_X12_write.2.2.1 85 = .ok (.getfield 31, 3) := by decide +kernel
theorem dX12_write_88 : decode M_X12_write.2.2.1 88 = .ok (.iload_n 1, 1) := by decide +kernel
theorem dX12_write_89 : decode M_X12_write.2.2.1 89 = .ok (.iaload, 1) := by decide +kernel
theorem dX12_write_90 : decode M_X12_write.2.2.1 90 = .ok (.iastore, 1) := by decide +kernel
theorem dX12_write_91 : decode M_X12_write.2.2.1 91 = .ok (.iconst 1, 1) := by decide +kernel
theorem dX12_write_92 : decode M_X12_write.2.2.1 92 = .ok (.ireturn, 1) := by decide +kernel
theorem dX12_paper_0 : decode M_X12_paper.2.2.1 0 = .ok (.aload_n 0, 1) := by decide +kernel
theorem dX12_paper_1 : decode M_X12_paper.2.2.1 1 = .ok (.iload_n 1, 1) := by decide +kernel
theorem dX12_paper_2 : decode M_X12_paper.2.2.1 2 = .ok (.invokevirtual 158, 3) := by decide +kernel
theorem dX12_paper_5 : decode M_X12_paper.2.2.1 5 = .ok (.ifCond .ne 5, 3) := by decide +kernel
theorem dX12_paper_8 : decode M_X12_paper.2.2.1 8 = .ok (.iconst (-1), 1) := by decide +kernel
theorem dX12_paper_9 : decode M_X12_paper.2.2.1 9 = .ok (.ireturn, 1) := by decide +kernel
theorem dX12_paper_10 : decode M_X12_paper.2.2.1 10 = .ok (.aload_n 0, 1) := by decide +kernel
theorem dX12_paper_11 : decode M_X12_paper.2.2.1 11 = .ok (.getfield 31, 3) := by decide +kernel
theorem dX12_paper_14 : decode M_X12_paper.2.2.1 14 = .ok (.iload_n 1, 1) := by decide +kernel
theorem dX12_paper_15 : decode M_X12_paper.2.2.1 15 = .ok (.iaload, 1) := by decide +kernel
theorem dX12_paper_16 : decode M_X12_paper.2.2.1 16 = .ok (.istore_n 2, 1) := by decide +kernel
theorem dX12_paper_17 : decode M_X12_paper.2.2.1 17 = .ok (.aload_n 0, 1) := by decide +kernel
theorem dX12_paper_18 : decode M_X12_paper.2.2.1 18 = .ok (.getfield 31, 3) := by decide +kernel
theorem dX12_paper_21 : decode M_X12_paper.2.2.1 21 = .ok (.iload_n 1, 1) := by decide +kernel
theorem dX12_paper_22 : decode M_X12_paper.2.2.1 22 = .ok (.iconst 0, 1) := by decide +kernel
theorem dX12_paper_23 : decode M_X12_paper.2.2.1 23 = .ok (.iastore, 1) := by decide +kernel
theorem dX12_paper_24 : decode M_X12_paper.2.2.1 24 = .ok (.aload_n 0, 1) := by decide +kernel
theorem dX12_paper_25 : decode M_X12_paper.2.2.1 25 = .ok (.getfield 40, 3) := by decide +kernel
theorem dX12_paper_28 : decode M_X12_paper.2.2.1 28 = .ok (.iload_n 1, 1) := by decide +kernel
theorem dX12_paper_29 : decode M_X12_paper.2.2.1 29 = .ok (.iconst 0, 1) := by decide +kernel
theorem dX12_paper_30 : decode M_X12_paper.2.2.1 30 = .ok (.iastore, 1) := by decide +kernel
theorem dX12_paper_31 : decode M_X12_paper.2.2.1 31 = .ok (.iload_n 2, 1) := by decide +kernel
theorem dX12_paper_32 : decode M_X12_paper.2.2.1 32 = .ok (.ireturn, 1) := by decide +kernel
theorem dX12_sample_0 : decode M_X12_sample.2.2.1 0 = .ok (.aload_n 0, 1) := by decide +kernel
theorem dX12_sample_1 : decode M_X12_sample.2.2.1 1 = .ok (.getfield 28, 3) := by decide +kernel
theorem dX12_sample_4 : decode M_X12_sample.2.2.1 4 = .ok (.sipush 200, 3) := by decide +kernel
theorem dX12_sample_7 : decode M_X12_sample.2.2.1 7 = .ok (.iload_n 1, 1) := by decide +kernel
theorem dX12_sample_8 : decode M_X12_sample.2.2.1 8 = .ok (.imul, 1) := by decide +kernel
theorem dX12_sample_9 : decode M_X12_sample.2.2.1 9 = .ok (.iload_n 2, 1) := by decide +kernel
theorem dX12_sample_10 : decode M_X12_sample.2.2.1 10 = .ok (.iadd, 1) := by decide +kernel
theorem dX12_sample_11 : decode M_X12_sample.2.2.1 11 = .ok (.iaload, 1) := by decide +kernel
theorem dX12_sample_12 : decode M_X12_sample.2.2.1 12 = .ok (.ireturn, 1) := by decide +kernel
theorem dX12_isClipped_0 : decode M_X12_isClipped.2.2.1 0 = .ok (.aload_n 0, 1) := by decide +kernel
theorem dX12_isClipped_1 : decode M_X12_isClipped.2.2.1 1 = .ok (.iload_n 1, 1) := by decide +kernel
theorem dX12_isClipped_2 : decode M_X12_isClipped.2.2.1 2 = .ok (.iload_n 2, 1) := by decide +kernel
theorem dX12_isClipped_3 : decode M_X12_isClipped.2.2.1 3 = .ok (.invokevirtual 163, 3) := by decide +kernel
theorem dX12_isClipped_6 : decode M_X12_isClipped.2.2.1 6 = .ok (.ldc 162, 2) := by decide +kernel
theorem dX12_isClipped_8 : decode M_X12_isClipped.2.2.1 8 = .ok (.if_icmp .eq 38, 3) := by decide +kernel
theorem dX12_isClipped_11 : decode M_X12_isClipped.2.2.1 11 = .ok (.aload_n 0, 1) := by decide +kernel
theorem dX12_isClipped_12 : decode M_X12_isClipped.2.2.1 12 = .ok (.iload_n 1, 1) := by decide +kernel
theorem dX12_isClipped_13 : decode M_X12_isClipped.2.2.1 13 = .ok (.iload_n 2, 1) := by decide +kernel
theorem dX12_isClipped_14 : decode M_X12_isClipped.2.2.1 14 = .ok (.invokevirtual 163, 3) := by decide +kernel
theorem dX12_isClipped_17 : decode M_X12_isClipped.2.2.1 17 = .ok (.aload_n 0, 1) := by decide +kernel
theorem dX12_isClipped_18 : decode M_X12_isClipped.2.2.1 18 = .ok (.getfield 19, 3) := by decide +kernel
theorem dX12_isClipped_21 : decode M_X12_isClipped.2.2.1 21 = .ok (.iload_n 1, 1) := by decide +kernel
theorem dX12_isClipped_22 : decode M_X12_isClipped.2.2.1 22 = .ok (.iaload, 1) := by decide +kernel
theorem dX12_isClipped_23 : decode M_X12_isClipped.2.2.1 23 = .ok (.if_icmp .ge 19, 3) := by decide +kernel
theorem dX12_isClipped_26 : decode M_X12_isClipped.2.2.1 26 = .ok (.aload_n 0, 1) := by decide +kernel
theorem dX12_isClipped_27 : decode M_X12_isClipped.2.2.1 27 = .ok (.iload_n 1, 1) := by decide +kernel
theorem dX12_isClipped_28 : decode M_X12_isClipped.2.2.1 28 = .ok (.iload_n 2, 1) := by decide +kernel
theorem dX12_isClipped_29 : decode M_X12_isClipped.2.2.1 29 = .ok (.invokevirtual 163, 3) := by decide +kernel
theorem dX12_isClipped_32 : decode M_X12_isClipped.2.2.1 32 = .ok (.aload_n 0, 1) := by decide +kernel
theorem dX12_isClipped_33 : decode M_X12_isClipped.2.2.1 33 = .ok (.getfield 19, 3) := by decide +kernel
theorem dX12_isClipped_36 : decode M_X12_isClipped.2.2.1 36 = .ok (.iload_n 1, 1) := by decide +kernel
theorem dX12_isClipped_37 : decode M_X12_isClipped.2.2.1 37 = .ok (.iaload, 1) := by decide +kernel
theorem dX12_isClipped_38 : decode M_X12_isClipped.2.2.1 38 = .ok (.ineg, 1) := by decide +kernel
theorem dX12_isClipped_39 : decode M_X12_isClipped.2.2.1 39 = .ok (.if_icmp .gt 7, 3) := by decide +kernel
theorem dX12_isClipped_42 : decode M_X12_isClipped.2.2.1 42 = .ok (.iconst 1, 1) := by decide +kernel
theorem dX12_isClipped_43 : decode M_X12_isClipped.2.2.1 43 = .ok (.goto 4, 3) := by decide +kernel
theorem dX12_isClipped_46 : decode M_X12_isClipped.2.2.1 46 = .ok (.iconst 0, 1) := by decide +kernel
theorem dX12_isClipped_47 : decode M_X12_isClipped.2.2.1 47 = .ok (.ireturn, 1) := by decide +kernel
theorem dX12_at_0 : decode M_X12_at.2.2.1 0 = .ok (.aload_n 0, 1) := by decide +kernel
theorem dX12_at_1 : decode M_X12_at.2.2.1 1 = .ok (.iload_n 1, 1) := by decide +kernel
theorem dX12_at_2 : decode M_X12_at.2.2.1 2 = .ok (.invokevirtual 158, 3) := by decide +kernel
theorem dX12_at_5 : decode M_X12_at.2.2.1 5 = .ok (.ifCond .ne 6, 3) := by decide +kernel
theorem dX12_at_8 : decode M_X12_at.2.2.1 8 = .ok (.ldc 162, 2) := by decide +kernel
theorem dX12_at_10 : decode M_X12_at.2.2.1 10 = .ok (.ireturn, 1) := by decide +kernel
theorem dX12_at_11 : decode M_X12_at.2.2.1 11 = .ok (.iload_n 2, 1) := by decide +kernel
theorem dX12_at_12 : decode M_X12_at.2.2.1 12 = .ok (.iconst 0, 1) := by decide +kernel
theorem dX12_at_13 : decode M_X12_at.2.2.1 13 = .ok (.aload_n 0, 1) := by decide +kernel
theorem dX12_at_14 : decode M_X12_at.2.2.1 14 = .ok (.getfield 31, 3) := by decide +kernel
theorem dX12_at_17 : decode M_X12_at.2.2.1 17 = .ok (.iload_n 1, 1) := by decide +kernel
theorem dX12_at_18 : decode M_X12_at.2.2.1 18 = .ok (.iaload, 1) := by decide +kernel
theorem dX12_at_19 : decode M_X12_at.2.2.1 19 = .ok (.iconst 1, 1) := by decide +kernel
theorem dX12_at_20 : decode M_X12_at.2.2.1 20 = .ok (.isub, 1) := by decide +kernel
theorem dX12_at_21 : decode M_X12_at.2.2.1 21 = .ok (.invokestatic 147, 3) := by decide +kernel
theorem dX12_at_24 : decode M_X12_at.2.2.1 24 = .ok (.ifCond .eq 10, 3) := by decide +kernel
theorem dX12_at_27 : decode M_X12_at.2.2.1 27 = .ok (.aload_n 0, 1) := by decide +kernel
theorem dX12_at_28 : decode M_X12_at.2.2.1 28 = .ok (.iload_n 1, 1) := by decide +kernel
theorem dX12_at_29 : decode M_X12_at.2.2.1 29 = .ok (.iload_n 2, 1) := by decide +kernel
theorem dX12_at_30 : decode M_X12_at.2.2.1 30 = .ok (.invokevirtual 163, 3) := by decide +kernel
theorem dX12_at_33 : decode M_X12_at.2.2.1 33 = .ok (.ireturn, 1) := by decide +kernel
theorem dX12_at_34 : decode M_X12_at.2.2.1 34 = .ok (.iconst 0, 1) := by decide +kernel
theorem dX12_at_35 : decode M_X12_at.2.2.1 35 = .ok (.istore_n 3, 1) := by decide +kernel
theorem dX12_at_36 : decode M_X12_at.2.2.1 36 = .ok (.iconst 0, 1) := by decide +kernel
theorem dX12_at_37 : decode M_X12_at.2.2.1 37 = .ok (.istore 4, 2) := by decide +kernel
theorem dX12_at_39 : decode M_X12_at.2.2.1 39 = .ok (.iconst 0, 1) := by decide +kernel
theorem dX12_at_40 : decode M_X12_at.2.2.1 40 = .ok (.istore 5, 2) := by decide +kernel
theorem dX12_at_42 : decode M_X12_at.2.2.1 42 = .ok (.iload 5, 2) := by decide +kernel
theorem dX12_at_44 : decode M_X12_at.2.2.1 44 = .ok (.aload_n 0, 1) := by decide +kernel
theorem dX12_at_45 : decode M_X12_at.2.2.1 45 = .ok (.getfield 31, 3) := by decide +kernel
theorem dX12_at_48 : decode M_X12_at.2.2.1 48 = .ok (.iload_n 1, 1) := by decide +kernel
theorem dX12_at_49 : decode M_X12_at.2.2.1 49 = .ok (.iaload, 1) := by decide +kernel
theorem dX12_at_50 : decode M_X12_at.2.2.1 50 = .ok (.if_icmp .ge 49, 3) := by decide +kernel
theorem dX12_at_53 : decode M_X12_at.2.2.1 53 = .ok (.iload_n 3, 1) := by decide +kernel
theorem dX12_at_54 : decode M_X12_at.2.2.1 54 = .ok (.aload_n 0, 1) := by decide +kernel
theorem dX12_at_55 : decode M_X12_at.2.2.1 55 = .ok (.iload_n 1, 1) := by decide +kernel
theorem dX12_at_56 : decode M_X12_at.2.2.1 56 = .ok (.iload 5, 2) := by decide +kernel
theorem dX12_at_58 : decode M_X12_at.2.2.1 58 = .ok (.invokevirtual 167, 3) := by decide +kernel
theorem dX12_at_61 : decode M_X12_at.2.2.1 61 = .ok (.ifCond .eq 7, 3) := by decide +kernel
theorem dX12_at_64 : decode M_X12_at.2.2.1 64 = .ok (.iconst 1, 1) := by decide +kernel
theorem dX12_at_65 : decode M_X12_at.2.2.1 65 = .ok (.goto 4, 3) := by decide +kernel
theorem dX12_at_68 : decode M_X12_at.2.2.1 68 = .ok (.iconst 0, 1) := by decide +kernel
theorem dX12_at_69 : decode M_X12_at.2.2.1 69 = .ok (.iadd, 1) := by decide +kernel
theorem dX12_at_70 : decode M_X12_at.2.2.1 70 = .ok (.istore_n 3, 1) := by decide +kernel
theorem dX12_at_71 : decode M_X12_at.2.2.1 71 = .ok (.iload 4, 2) := by decide +kernel
theorem dX12_at_73 : decode M_X12_at.2.2.1 73 = .ok (.aload_n 0, 1) := by decide +kernel
theorem dX12_at_74 : decode M_X12_at.2.2.1 74 = .ok (.iload_n 1, 1) := by decide +kernel
theorem dX12_at_75 : decode M_X12_at.2.2.1 75 = .ok (.iload 5, 2) := by decide +kernel
theorem dX12_at_77 : decode M_X12_at.2.2.1 77 = .ok (.invokevirtual 163, 3) := by decide +kernel
theorem dX12_at_80 : decode M_X12_at.2.2.1 80 = .ok (.ldc 162, 2) := by decide +kernel
theorem dX12_at_82 : decode M_X12_at.2.2.1 82 = .ok (.if_icmp .ne 7, 3) := by decide +kernel
theorem dX12_at_85 : decode M_X12_at.2.2.1 85 = .ok (.iconst 1, 1) := by decide +kernel
theorem dX12_at_86 : decode M_X12_at.2.2.1 86 = .ok (.goto 4, 3) := by decide +kernel
theorem dX12_at_89 : decode M_X12_at.2.2.1 89 = .ok (.iconst 0, 1) := by decide +kernel
theorem dX12_at_90 : decode M_X12_at.2.2.1 90 = .ok (.iadd, 1) := by decide +kernel
theorem dX12_at_91 : decode M_X12_at.2.2.1 91 = .ok (.istore 4, 2) := by decide +kernel
theorem dX12_at_93 : decode M_X12_at.2.2.1 93 = .ok (.iinc 5 1, 3) := by decide +kernel
theorem dX12_at_96 : decode M_X12_at.2.2.1 96 = .ok (.goto (-54), 3) := by decide +kernel
theorem dX12_at_99 : decode M_X12_at.2.2.1 99 = .ok (.iload_n 2, 1) := by decide +kernel
theorem dX12_at_100 : decode M_X12_at.2.2.1 100 = .ok (.tableswitch 73 1000 1005 #[40, 47, 54, 61, 63, 66], 40) := by decide +kernel
theorem dX12_at_140 : decode M_X12_at.2.2.1 140 = .ok (.aload_n 0, 1) := by decide +kernel
theorem dX12_at_141 : decode M_X12_at.2.2.1 141 = .ok (.getfield 31, 3) := by decide +kernel
theorem dX12_at_144 : decode M_X12_at.2.2.1 144 = .ok (.iload_n 1, 1) := by decide +kernel
theorem dX12_at_145 : decode M_X12_at.2.2.1 145 = .ok (.iaload, 1) := by decide +kernel
theorem dX12_at_146 : decode M_X12_at.2.2.1 146 = .ok (.ireturn, 1) := by decide +kernel
theorem dX12_at_147 : decode M_X12_at.2.2.1 147 = .ok (.aload_n 0, 1) := by decide +kernel
theorem dX12_at_148 : decode M_X12_at.2.2.1 148 = .ok (.getfield 22, 3) := by decide +kernel
theorem dX12_at_151 : decode M_X12_at.2.2.1 151 = .ok (.iload_n 1, 1) := by decide +kernel
theorem dX12_at_152 : decode M_X12_at.2.2.1 152 = .ok (.iaload, 1) := by decide +kernel
theorem dX12_at_153 : decode M_X12_at.2.2.1 153 = .ok (.ireturn, 1) := by decide +kernel
theorem dX12_at_154 : decode M_X12_at.2.2.1 154 = .ok (.aload_n 0, 1) := by decide +kernel
theorem dX12_at_155 : decode M_X12_at.2.2.1 155 = .ok (.getfield 25, 3) := by decide +kernel
theorem dX12_at_158 : decode M_X12_at.2.2.1 158 = .ok (.iload_n 1, 1) := by decide +kernel
theorem dX12_at_159 : decode M_X12_at.2.2.1 159 = .ok (.iaload, 1) := by decide +kernel
theorem dX12_at_160 : decode M_X12_at.2.2.1 160 = .ok (.ireturn, 1) := by decide +kernel
theorem dX12_at_161 : decode M_X12_at.2.2.1 161 = .ok (.iload_n 3, 1) := by decide +kernel
theorem dX12_at_162 : decode M_X12_at.2.2.1 162 = .ok (.ireturn, 1) := by decide +kernel
theorem dX12_at_163 : decode M_X12_at.2.2.1 163 = .ok (.iload 4, 2) := by decide +kernel
theorem dX12_at_165 : decode M_X12_at.2.2.1 165 = .ok (.ireturn, 1) := by decide +kernel
theorem dX12_at_166 : decode M_X12_at.2.2.1 166 = .ok (.aload_n 0, 1) := by decide +kernel
theorem dX12_at_167 : decode M_X12_at.2.2.1 167 = .ok (.getfield 40, 3) := by decide +kernel
theorem dX12_at_170 : decode M_X12_at.2.2.1 170 = .ok (.iload_n 1, 1) := by decide +kernel
theorem dX12_at_171 : decode M_X12_at.2.2.1 171 = .ok (.iaload, 1) := by decide +kernel
theorem dX12_at_172 : decode M_X12_at.2.2.1 172 = .ok (.ireturn, 1) := by decide +kernel
theorem dX12_at_173 : decode M_X12_at.2.2.1 173 = .ok (.ldc 162, 2) := by decide +kernel
theorem dX12_at_175 : decode M_X12_at.2.2.1 175 = .ok (.ireturn, 1) := by decide +kernel
theorem dX12_isClear_0 : decode M_X12_isClear.2.2.1 0 = .ok (.aload_n 0, 1) := by decide +kernel
theorem dX12_isClear_1 : decode M_X12_isClear.2.2.1 1 = .ok (.iload_n 1, 1) := by decide +kernel
theorem dX12_isClear_2 : decode M_X12_isClear.2.2.1 2 = .ok (.iload_n 2, 1) := by decide +kernel
theorem dX12_isClear_3 : decode M_X12_isClear.2.2.1 3 = .ok (.invokevirtual 163, 3) := by decide +kernel
theorem dX12_isClear_6 : decode M_X12_isClear.2.2.1 6 = .ok (.ldc 162, 2) := by decide +kernel
theorem dX12_isClear_8 : decode M_X12_isClear.2.2.1 8 = .ok (.if_icmp .eq 16, 3) := by decide +kernel
theorem dX12_isClear_11 : decode M_X12_isClear.2.2.1 11 = .ok (.aload_n 0, 1) := by decide +kernel
theorem dX12_isClear_12 : decode M_X12_isClear.2.2.1 12 = .ok (.iload_n 1, 1) := by decide +kernel
theorem dX12_isClear_13 : decode M_X12_isClear.2.2.1 13 = .ok (.iload_n 2, 1) := by decide +kernel
theorem dX12_isClear_14 : decode M_X12_isClear.2.2.1 14 = .ok (.invokevirtual 167, 3) := by decide +kernel
theorem dX12_isClear_17 : decode M_X12_isClear.2.2.1 17 = .ok (.ifCond .ne 7, 3) := by decide +kernel
theorem dX12_isClear_20 : decode M_X12_isClear.2.2.1 20 = .ok (.iconst 1, 1) := by decide +kernel
theorem dX12_isClear_21 : decode M_X12_isClear.2.2.1 21 = .ok (.goto 4, 3) := by decide +kernel
theorem dX12_isClear_24 : decode M_X12_isClear.2.2.1 24 = .ok (.iconst 0, 1) := by decide +kernel
theorem dX12_isClear_25 : decode M_X12_isClear.2.2.1 25 = .ok (.ireturn, 1) := by decide +kernel
theorem dX12_readBack_0 : decode M_X12_readBack.2.2.1 0 = .ok (.aload_n 0, 1) := by decide +kernel
theorem dX12_readBack_1 : decode M_X12_readBack.2.2.1 1 = .ok (.iload_n 1, 1) := by decide +kernel
theorem dX12_readBack_2 : decode M_X12_readBack.2.2.1 2 = .ok (.iload_n 2, 1) := by decide +kernel
theorem dX12_readBack_3 : decode M_X12_readBack.2.2.1 3 = .ok (.invokevirtual 163, 3) := by decide +kernel
theorem dX12_readBack_6 : decode M_X12_readBack.2.2.1 6 = .ok (.aload_n 0, 1) := by decide +kernel
theorem dX12_readBack_7 : decode M_X12_readBack.2.2.1 7 = .ok (.iload_n 1, 1) := by decide +kernel
theorem dX12_readBack_8 : decode M_X12_readBack.2.2.1 8 = .ok (.iload_n 2, 1) := by decide +kernel
theorem dX12_readBack_9 : decode M_X12_readBack.2.2.1 9 = .ok (.iconst 1, 1) := by decide +kernel
theorem dX12_readBack_10 : decode M_X12_readBack.2.2.1 10 = .ok (.isub, 1) := by decide +kernel
theorem dX12_readBack_11 : decode M_X12_readBack.2.2.1 11 = .ok (.invokevirtual 163, 3) := by decide +kernel
theorem dX12_readBack_14 : decode M_X12_readBack.2.2.1 14 = .ok (.isub, 1) := by decide +kernel
theorem dX12_readBack_15 : decode M_X12_readBack.2.2.1 15 = .ok (.istore 5, 2) := by decide +kernel
theorem dX12_readBack_17 : decode M_X12_readBack.2.2.1 17 = .ok (.aload_n 0, 1) := by decide +kernel
theorem dX12_readBack_18 : decode M_X12_readBack.2.2.1 18 = .ok (.iload_n 1, 1) := by decide +kernel
theorem dX12_readBack_19 : decode M_X12_readBack.2.2.1 19 = .ok (.iload_n 2, 1) := by decide +kernel
theorem dX12_readBack_20 : decode M_X12_readBack.2.2.1 20 = .ok (.iconst 1, 1) := by decide +kernel
theorem dX12_readBack_21 : decode M_X12_readBack.2.2.1 21 = .ok (.isub, 1) := by decide +kernel
theorem dX12_readBack_22 : decode M_X12_readBack.2.2.1 22 = .ok (.invokevirtual 163, 3) := by decide +kernel
theorem dX12_readBack_25 : decode M_X12_readBack.2.2.1 25 = .ok (.aload_n 0, 1) := by decide +kernel
theorem dX12_readBack_26 : decode M_X12_readBack.2.2.1 26 = .ok (.iload_n 1, 1) := by decide +kernel
theorem dX12_readBack_27 : decode M_X12_readBack.2.2.1 27 = .ok (.iload_n 2, 1) := by decide +kernel
theorem dX12_readBack_28 : decode M_X12_readBack.2.2.1 28 = .ok (.iconst 2, 1) := by decide +kernel
theorem dX12_readBack_29 : decode M_X12_readBack.2.2.1 29 = .ok (.isub, 1) := by decide +kernel
theorem dX12_readBack_30 : decode M_X12_readBack.2.2.1 30 = .ok (.invokevirtual 163, 3) := by decide +kernel
theorem dX12_readBack_33 : decode M_X12_readBack.2.2.1 33 = .ok (.isub, 1) := by decide +kernel
theorem dX12_readBack_34 : decode M_X12_readBack.2.2.1 34 = .ok (.istore 6, 2) := by decide +kernel
theorem dX12_readBack_36 : decode M_X12_readBack.2.2.1 36 = .ok (.iload 5, 2) := by decide +kernel
theorem dX12_readBack_38 : decode M_X12_readBack.2.2.1 38 = .ok (.iload 6, 2) := by decide +kernel
theorem dX12_readBack_40 : decode M_X12_readBack.2.2.1 40 = .ok (.isub, 1) := by decide +kernel
theorem dX12_readBack_41 : decode M_X12_readBack.2.2.1 41 = .ok (.iload_n 3, 1) := by decide +kernel
theorem dX12_readBack_42 : decode M_X12_readBack.2.2.1 42 = .ok (.iload 6, 2) := by decide +kernel
theorem dX12_readBack_44 : decode M_X12_readBack.2.2.1 44 = .ok (.imul, 1) := by decide +kernel
theorem dX12_readBack_45 : decode M_X12_readBack.2.2.1 45 = .ok (.iload 4, 2) := by decide +kernel
theorem dX12_readBack_47 : decode M_X12_readBack.2.2.1 47 = .ok (.aload_n 0, 1) := by decide +kernel
theorem dX12_readBack_48 : decode M_X12_readBack.2.2.1 48 = .ok (.iload_n 1, 1) := by decide +kernel
theorem dX12_readBack_49 : decode M_X12_readBack.2.2.1 49 = .ok (.iload_n 2, 1) := by decide +kernel
theorem dX12_readBack_50 : decode M_X12_readBack.2.2.1 50 = .ok (.iconst 1, 1) := by decide +kernel
theorem dX12_readBack_51 : decode M_X12_readBack.2.2.1 51 = .ok (.isub, 1) := by decide +kernel
theorem dX12_readBack_52 : decode M_X12_readBack.2.2.1 52 = .ok (.invokevirtual 163, 3) := by decide +kernel
theorem dX12_readBack_55 : decode M_X12_readBack.2.2.1 55 = .ok (.imul, 1) := by decide +kernel
theorem dX12_readBack_56 : decode M_X12_readBack.2.2.1 56 = .ok (.iadd, 1) := by decide +kernel
theorem dX12_readBack_57 : decode M_X12_readBack.2.2.1 57 = .ok (.bipush 64, 2) := by decide +kernel
theorem dX12_readBack_59 : decode M_X12_readBack.2.2.1 59 = .ok (.idiv, 1) := by decide +kernel
theorem dX12_readBack_60 : decode M_X12_readBack.2.2.1 60 = .ok (.iadd, 1) := by decide +kernel
theorem dX12_readBack_61 : decode M_X12_readBack.2.2.1 61 = .ok (.ireturn, 1) := by decide +kernel
theorem dX12_canRead_0 : decode M_X12_canRead.2.2.1 0 = .ok (.iload_n 2, 1) := by decide +kernel
theorem dX12_canRead_1 : decode M_X12_canRead.2.2.1 1 = .ok (.iconst 2, 1) := by decide +kernel
theorem dX12_canRead_2 : decode M_X12_canRead.2.2.1 2 = .ok (.aload_n 0, 1) := by decide +kernel
theorem dX12_canRead_3 : decode M_X12_canRead.2.2.1 3 = .ok (.getfield 31, 3) := by decide +kernel
theorem dX12_canRead_6 : decode M_X12_canRead.2.2.1 6 = .ok (.iload_n 1, 1) := by decide +kernel
theorem dX12_canRead_7 : decode M_X12_canRead.2.2.1 7 = .ok (.iaload, 1) := by decide +kernel
theorem dX12_canRead_8 : decode M_X12_canRead.2.2.1 8 = .ok (.iconst 1, 1) := by decide +kernel
theorem dX12_canRead_9 : decode M_X12_canRead.2.2.1 9 = .ok (.isub, 1) := by decide +kernel
theorem dX12_canRead_10 : decode M_X12_canRead.2.2.1 10 = .ok (.invokestatic 147, 3) := by decide +kernel
theorem dX12_canRead_13 : decode M_X12_canRead.2.2.1 13 = .ok (.ifCond .eq 38, 3) := by decide +kernel
theorem dX12_canRead_16 : decode M_X12_canRead.2.2.1 16 = .ok (.aload_n 0, 1) := by decide +kernel
theorem dX12_canRead_17 : decode M_X12_canRead.2.2.1 17 = .ok (.iload_n 1, 1) := by decide +kernel
theorem dX12_canRead_18 : decode M_X12_canRead.2.2.1 18 = .ok (.iload_n 2, 1) := by decide +kernel
theorem dX12_canRead_19 : decode M_X12_canRead.2.2.1 19 = .ok (.invokevirtual 170, 3) := by decide +kernel
theorem dX12_canRead_22 : decode M_X12_canRead.2.2.1 22 = .ok (.ifCond .eq 29, 3) := by decide +kernel
theorem dX12_canRead_25 : decode M_X12_canRead.2.2.1 25 = .ok (.aload_n 0, 1) := by decide +kernel
theorem dX12_canRead_26 : decode M_X12_canRead.2.2.1 26 = .ok (.iload_n 1, 1) := by decide +kernel
theorem dX12_canRead_27 : decode M_X12_canRead.2.2.1 27 = .ok (.iload_n 2, 1) := by decide +kernel
theorem dX12_canRead_28 : decode M_X12_canRead.2.2.1 28 = .ok (.iconst 1, 1) := by decide +kernel
theorem dX12_canRead_29 : decode M_X12_canRead.2.2.1 29 = .ok (.isub, 1) := by decide +kernel
theorem dX12_canRead_30 : decode M_X12_canRead.2.2.1 30 = .ok (.invokevirtual 170, 3) := by decide +kernel
theorem dX12_canRead_33 : decode M_X12_canRead.2.2.1 33 = .ok (.ifCond .eq 18, 3) := by decide +kernel
theorem dX12_canRead_36 : decode M_X12_canRead.2.2.1 36 = .ok (.aload_n 0, 1) := by decide +kernel
theorem dX12_canRead_37 : decode M_X12_canRead.2.2.1 37 = .ok (.iload_n 1, 1) := by decide +kernel
theorem dX12_canRead_38 : decode M_X12_canRead.2.2.1 38 = .ok (.iload_n 2, 1) := by decide +kernel
theorem dX12_canRead_39 : decode M_X12_canRead.2.2.1 39 = .ok (.iconst 2, 1) := by decide +kernel
theorem dX12_canRead_40 : decode M_X12_canRead.2.2.1 40 = .ok (.isub, 1) := by decide +kernel
theorem dX12_canRead_41 : decode M_X12_canRead.2.2.1 41 = .ok (.invokevirtual 170, 3) := by decide +kernel
theorem dX12_canRead_44 : decode M_X12_canRead.2.2.1 44 = .ok (.ifCond .eq 7, 3) := by decide +kernel
theorem dX12_canRead_47 : decode M_X12_canRead.2.2.1 47 = .ok (.iconst 1, 1) := by decide +kernel
theorem dX12_canRead_48 : decode M_X12_canRead.2.2.1 48 = .ok (.goto 4, 3) := by decide +kernel
theorem dX12_canRead_51 : decode M_X12_canRead.2.2.1 51 = .ok (.iconst 0, 1) := by decide +kernel
theorem dX12_canRead_52 : decode M_X12_canRead.2.2.1 52 = .ok (.ireturn, 1) := by decide +kernel
theorem dX12_back_0 : decode M_X12_back.2.2.1 0 = .ok (.aload_n 0, 1) := by decide +kernel
theorem dX12_back_1 : decode M_X12_back.2.2.1 1 = .ok (.iload_n 1, 1) := by decide +kernel
theorem dX12_back_2 : decode M_X12_back.2.2.1 2 = .ok (.invokevirtual 158, 3) := by decide +kernel
theorem dX12_back_5 : decode M_X12_back.2.2.1 5 = .ok (.ifCond .eq 33, 3) := by decide +kernel
theorem dX12_back_8 : decode M_X12_back.2.2.1 8 = .ok (.aload_n 0, 1) := by decide +kernel
theorem dX12_back_9 : decode M_X12_back.2.2.1 9 = .ok (.iload_n 1, 1) := by decide +kernel
theorem dX12_back_10 : decode M_X12_back.2.2.1 10 = .ok (.iload_n 2, 1) := by decide +kernel
theorem dX12_back_11 : decode M_X12_back.2.2.1 11 = .ok (.invokevirtual 173, 3) := by decide +kernel
theorem dX12_back_14 : decode M_X12_back.2.2.1 14 = .ok (.ifCond .eq 24, 3) := by decide +kernel
theorem dX12_back_17 : decode M_X12_back.2.2.1 17 = .ok (.aload_n 0, 1) := by decide +kernel
theorem dX12_back_18 : decode M_X12_back.2.2.1 18 = .ok (.iload_n 1, 1) := by decide +kernel
theorem dX12_back_19 : decode M_X12_back.2.2.1 19 = .ok (.iload_n 2, 1) := by decide +kernel
theorem dX12_back_20 : decode M_X12_back.2.2.1 20 = .ok (.aload_n 0, 1) := by decide +kernel
theorem dX12_back_21 : decode M_X12_back.2.2.1 21 = .ok (.getfield 13, 3) := by decide +kernel
theorem dX12_back_24 : decode M_X12_back.2.2.1 24 = .ok (.iload_n 1, 1) := by decide +kernel
theorem dX12_back_25 : decode M_X12_back.2.2.1 25 = .ok (.iaload, 1) := by decide +kernel
theorem dX12_back_26 : decode M_X12_back.2.2.1 26 = .ok (.aload_n 0, 1) := by decide +kernel
theorem dX12_back_27 : decode M_X12_back.2.2.1 27 = .ok (.getfield 16, 3) := by decide +kernel
theorem dX12_back_30 : decode M_X12_back.2.2.1 30 = .ok (.iload_n 1, 1) := by decide +kernel
theorem dX12_back_31 : decode M_X12_back.2.2.1 31 = .ok (.iaload, 1) := by decide +kernel
theorem dX12_back_32 : decode M_X12_back.2.2.1 32 = .ok (.invokevirtual 176, 3) := by decide +kernel
theorem dX12_back_35 : decode M_X12_back.2.2.1 35 = .ok (.goto 5, 3) := by decide +kernel
theorem dX12_back_38 : decode M_X12_back.2.2.1 38 = .ok (.ldc 162, 2) := by decide +kernel
theorem dX12_back_40 : decode M_X12_back.2.2.1 40 = .ok (.ireturn, 1) := by decide +kernel
theorem dX12_swings_0 : decode M_X12_swings.2.2.1 0 = .ok (.iload_n 2, 1) := by decide +kernel
theorem dX12_swings_1 : decode M_X12_swings.2.2.1 1 = .ok (.iconst 2, 1) := by decide +kernel
theorem dX12_swings_2 : decode M_X12_swings.2.2.1 2 = .ok (.iadd, 1) := by decide +kernel
theorem dX12_swings_3 : decode M_X12_swings.2.2.1 3 = .ok (.istore 6, 2) := by decide +kernel
theorem dX12_swings_5 : decode M_X12_swings.2.2.1 5 = .ok (.iload 6, 2) := by decide +kernel
theorem dX12_swings_7 : decode M_X12_swings.2.2.1 7 = .ok (.iload_n 3, 1) := by decide +kernel
theorem dX12_swings_8 : decode M_X12_swings.2.2.1 8 = .ok (.if_icmp .gt 25, 3) := by decide +kernel
theorem dX12_swings_11 : decode M_X12_swings.2.2.1 11 = .ok (.aload_n 0, 1) := by decide +kernel
theorem dX12_swings_12 : decode M_X12_swings.2.2.1 12 = .ok (.iload_n 1, 1) := by decide +kernel
theorem dX12_swings_13 : decode M_X12_swings.2.2.1 13 = .ok (.iload 6, 2) := by decide +kernel
theorem dX12_swings_15 : decode M_X12_swings.2.2.1 15 = .ok (.iload 4, 2) := by decide +kernel
theorem dX12_swings_17 : decode M_X12_swings.2.2.1 17 = .ok (.iload 5, 2) := by decide +kernel
theorem dX12_swings_19 : decode M_X12_swings.2.2.1 19 = .ok (.invokevirtual 176, 3) := by decide +kernel
theorem dX12_swings_22 : decode M_X12_swings.2.2.1 22 = .ok (.ifCond .eq 5, 3) := by decide +kernel
theorem dX12_swings_25 : decode M_X12_swings.2.2.1 25 = .ok (.iconst 0, 1) := by decide +kernel
theorem dX12_swings_26 : decode M_X12_swings.2.2.1 26 = .ok (.ireturn, 1) := by decide +kernel
theorem dX12_swings_27 : decode M_X12_swings.2.2.1 27 = .ok (.iinc 6 1, 3) := by decide +kernel
theorem dX12_swings_30 : decode M_X12_swings.2.2.1 30 = .ok (.goto (-25), 3) := by decide +kernel
theorem dX12_swings_33 : decode M_X12_swings.2.2.1 33 = .ok (.iconst 1, 1) := by decide +kernel
theorem dX12_swings_34 : decode M_X12_swings.2.2.1 34 = .ok (.ireturn, 1) := by decide +kernel
theorem dX12_swing_0 : decode M_X12_swing.2.2.1 0 = .ok (.aload_n 0, 1) := by decide +kernel
theorem dX12_swing_1 : decode M_X12_swing.2.2.1 1 = .ok (.iload_n 1, 1) := by decide +kernel
theorem dX12_swing_2 : decode M_X12_swing.2.2.1 2 = .ok (.invokevirtual 158, 3) := by decide +kernel
theorem dX12_swing_5 : decode M_X12_swing.2.2.1 5 = .ok (.ifCond .eq 41, 3) := by decide +kernel
theorem dX12_swing_8 : decode M_X12_swing.2.2.1 8 = .ok (.iload_n 2, 1) := by decide +kernel
theorem dX12_swing_9 : decode M_X12_swing.2.2.1 9 = .ok (.iconst 0, 1) := by decide +kernel
theorem dX12_swing_10 : decode M_X12_swing.2.2.1 10 = .ok (.sipush 200, 3) := by decide +kernel
theorem dX12_swing_13 : decode M_X12_swing.2.2.1 13 = .ok (.invokestatic 147, 3) := by decide +kernel
theorem dX12_swing_16 : decode M_X12_swing.2.2.1 16 = .ok (.ifCond .eq 30, 3) := by decide +kernel
theorem dX12_swing_19 : decode M_X12_swing.2.2.1 19 = .ok (.iload_n 3, 1) := by decide +kernel
theorem dX12_swing_20 : decode M_X12_swing.2.2.1 20 = .ok (.iload_n 2, 1) := by decide +kernel
theorem dX12_swing_21 : decode M_X12_swing.2.2.1 21 = .ok (.iconst 2, 1) := by decide +kernel
theorem dX12_swing_22 : decode M_X12_swing.2.2.1 22 = .ok (.iadd, 1) := by decide +kernel
theorem dX12_swing_23 : decode M_X12_swing.2.2.1 23 = .ok (.if_icmp .lt 23, 3) := by decide +kernel
theorem dX12_swing_26 : decode M_X12_swing.2.2.1 26 = .ok (.iload_n 3, 1) := by decide +kernel
theorem dX12_swing_27 : decode M_X12_swing.2.2.1 27 = .ok (.aload_n 0, 1) := by decide +kernel
theorem dX12_swing_28 : decode M_X12_swing.2.2.1 28 = .ok (.getfield 31, 3) := by decide +kernel
theorem dX12_swing_31 : decode M_X12_swing.2.2.1 31 = .ok (.iload_n 1, 1) := by decide +kernel
theorem dX12_swing_32 : decode M_X12_swing.2.2.1 32 = .ok (.iaload, 1) := by decide +kernel
theorem dX12_swing_33 : decode M_X12_swing.2.2.1 33 = .ok (.if_icmp .ge 13, 3) := by decide +kernel
theorem dX12_swing_36 : decode M_X12_swing.2.2.1 36 = .ok (.iload 4, 2) := by decide +kernel
theorem dX12_swing_38 : decode M_X12_swing.2.2.1 38 = .ok (.iconst 0, 1) := by decide +kernel
theorem dX12_swing_39 : decode M_X12_swing.2.2.1 39 = .ok (.iconst 2, 1) := by decide +kernel
theorem dX12_swing_40 : decode M_X12_swing.2.2.1 40 = .ok (.invokestatic 147, 3) := by decide +kernel
theorem dX12_swing_43 : decode M_X12_swing.2.2.1 43 = .ok (.ifCond .ne 5, 3) := by decide +kernel
theorem dX12_swing_46 : decode M_X12_swing.2.2.1 46 = .ok (.iconst (-1), 1) := by decide +kernel
theorem dX12_swing_47 : decode M_X12_swing.2.2.1 47 = .ok (.ireturn, 1) := by decide +kernel
theorem dX12_swing_48 : decode M_X12_swing.2.2.1 48 = .ok (.iload_n 2, 1) := by decide +kernel
theorem dX12_swing_49 : decode M_X12_swing.2.2.1 49 = .ok (.iconst 2, 1) := by decide +kernel
theorem dX12_swing_50 : decode M_X12_swing.2.2.1 50 = .ok (.iadd, 1) := by decide +kernel
theorem dX12_swing_51 : decode M_X12_swing.2.2.1 51 = .ok (.istore 5, 2) := by decide +kernel
theorem dX12_swing_53 : decode M_X12_swing.2.2.1 53 = .ok (.iload 5, 2) := by decide +kernel
theorem dX12_swing_55 : decode M_X12_swing.2.2.1 55 = .ok (.iload_n 3, 1) := by decide +kernel
theorem dX12_swing_56 : decode M_X12_swing.2.2.1 56 = .ok (.if_icmp .gt 21, 3) := by decide +kernel
theorem dX12_swing_59 : decode M_X12_swing.2.2.1 59 = .ok (.aload_n 0, 1) := by decide +kernel
theorem dX12_swing_60 : decode M_X12_swing.2.2.1 60 = .ok (.iload_n 1, 1) := by decide +kernel
theorem dX12_swing_61 : decode M_X12_swing.2.2.1 61 = .ok (.iload 5, 2) := by decide +kernel
theorem dX12_swing_63 : decode M_X12_swing.2.2.1 63 = .ok (.invokevirtual 173, 3) := by decide +kernel
theorem dX12_swing_66 : decode M_X12_swing.2.2.1 66 = .ok (.ifCond .ne 5, 3) := by decide +kernel
theorem dX12_swing_69 : decode M_X12_swing.2.2.1 69 = .ok (.iconst (-1), 1) := by decide +kernel
theorem dX12_swing_70 : decode M_X12_swing.2.2.1 70 = .ok (.ireturn, 1) := by decide +kernel
theorem dX12_swing_71 : decode M_X12_swing.2.2.1 71 = .ok (.iinc 5 1, 3) := by decide +kernel
theorem dX12_swing_74 : decode M_X12_swing.2.2.1 74 = .ok (.goto (-21), 3) := by decide +kernel
theorem dX12_swing_77 : decode M_X12_swing.2.2.1 77 = .ok (.iconst 0, 1) := by decide +kernel
theorem dX12_swing_78 : decode M_X12_swing.2.2.1 78 = .ok (.istore 5, 2) := by decide +kernel
theorem dX12_swing_80 : decode M_X12_swing.2.2.1 80 = .ok (.iconst (-1), 1) := by decide +kernel
theorem dX12_swing_81 : decode M_X12_swing.2.2.1 81 = .ok (.istore 6, 2) := by decide +kernel
theorem dX12_swing_83 : decode M_X12_swing.2.2.1 83 = .ok (.iconst 0, 1) := by decide +kernel
theorem dX12_swing_84 : decode M_X12_swing.2.2.1 84 = .ok (.istore 7, 2) := by decide +kernel
theorem dX12_swing_86 : decode M_X12_swing.2.2.1 86 = .ok (.iload 7, 2) := by decide +kernel
theorem dX12_swing_88 : decode M_X12_swing.2.2.1 88 = .ok (.bipush 64, 2) := by decide +kernel
theorem dX12_swing_90 : decode M_X12_swing.2.2.1 90 = .ok (.if_icmp .ge 65, 3) := by decide +kernel
theorem dX12_swing_93 : decode M_X12_swing.2.2.1 93 = .ok (.iconst 0, 1) := by decide +kernel
theorem dX12_swing_94 : decode M_X12_swing.2.2.1 94 = .ok (.istore 8, 2) := by decide +kernel
theorem dX12_swing_96 : decode M_X12_swing.2.2.1 96 = .ok (.iload 8, 2) := by decide +kernel
theorem dX12_swing_98 : decode M_X12_swing.2.2.1 98 = .ok (.bipush 64, 2) := by decide +kernel
theorem dX12_swing_100 : decode M_X12_swing.2.2.1 100 = .ok (.if_icmp .ge 49, 3) := by decide +kernel
theorem dX12_swing_103 : decode M_X12_swing.2.2.1 103 = .ok (.aload_n 0, 1) := by decide +kernel
theorem dX12_swing_104 : decode M_X12_swing.2.2.1 104 = .ok (.iload_n 1, 1) := by decide +kernel
theorem dX12_swing_105 : decode M_X12_swing.2.2.1 105 = .ok (.iload_n 2, 1) := by decide +kernel
theorem dX12_swing_106 : decode M_X12_swing.2.2.1 106 = .ok (.iload_n 3, 1) := by decide +kernel
theorem dX12_swing_107 : decode M_X12_swing.2.2.1 107 = .ok (.iload 7, 2) := by decide +kernel
theorem dX12_swing_109 : decode M_X12_swing.2.2.1 109 = .ok (.iload 8, 2) := by decide +kernel
theorem dX12_swing_111 : decode M_X12_swing.2.2.1 111 = .ok (.invokevirtual 180, 3) := by decide +kernel
theorem dX12_swing_114 : decode M_X12_swing.2.2.1 114 = .ok (.ifCond .ne 6, 3) := by decide +kernel
theorem dX12_swing_117 : decode M_X12_swing.2.2.1 117 = .ok (.goto 26, 3) := by decide +kernel
theorem dX12_swing_120 : decode M_X12_swing.2.2.1 120 = .ok (.iload 5, 2) := by decide +kernel
theorem dX12_swing_122 : decode M_X12_swing.2.2.1 122 = .ok (.ifCond .ne 14, 3) := by decide +kernel
theorem dX12_swing_125 : decode M_X12_swing.2.2.1 125 = .ok (.bipush 64, 2) := by decide +kernel
theorem dX12_swing_127 : decode M_X12_swing.2.2.1 127 = .ok (.iload 7, 2) := by decide +kernel
theorem dX12_swing_129 : decode M_X12_swing.2.2.1 129 = .ok (.imul, 1) := by decide +kernel
theorem dX12_swing_130 : decode M_X12_swing.2.2.1 130 = .ok (.iload 8, 2) := by decide +kernel
theorem dX12_swing_132 : decode M_X12_swing.2.2.1 132 = .ok (.iadd, 1) := by decide +kernel
theorem dX12_swing_133 : decode M_X12_swing.2.2.1 133 = .ok (.goto 5, 3) := by decide +kernel
theorem dX12_swing_136 : decode M_X12_swing.2.2.1 136 = .ok (.iload 6, 2) := by decide +kernel
theorem dX12_swing_138 : decode M_X12_swing.2.2.1 138 = .ok (.istore 6, 2) := by decide +kernel
theorem dX12_swing_140 : decode M_X12_swing.2.2.1 140 = .ok (.iinc 5 1, 3) := by decide +kernel
theorem dX12_swing_143 : decode M_X12_swing.2.2.1 143 = .ok (.iinc 8 1, 3) := by decide +kernel
theorem dX12_swing_146 : decode M_X12_swing.2.2.1 146 = .ok (.goto (-50), 3) := by decide +kernel
theorem dX12_swing_149 : decode M_X12_swing.2.2.1 149 = .ok (.iinc 7 1, 3) := by decide +kernel
theorem dX12_swing_152 : decode M_X12_swing.2.2.1 152 = .ok (.goto (-66), 3) := by decide +kernel
theorem dX12_swing_155 : decode M_X12_swing.2.2.1 155 = .ok (.iload 4, 2) := by decide +kernel
theorem dX12_swing_157 : decode M_X12_swing.2.2.1 157 = .ok (.ifCond .ne 8, 3) := by decide +kernel
theorem dX12_swing_160 : decode M_X12_swing.2.2.1 160 = .ok (.iload 5, 2) := by decide +kernel
theorem dX12_swing_162 : decode M_X12_swing.2.2.1 162 = .ok (.goto 31, 3) := by decide +kernel
theorem dX12_swing_165 : decode M_X12_swing.2.2.1 165 = .ok (.iload 5, 2) := by decide +kernel
theorem dX12_swing_167 : decode M_X12_swing.2.2.1 167 = .ok (.ifCond .ne 7, 3) := by decide +kernel
theorem dX12_swing_170 : decode M_X12_swing.2.2.1 170 = .ok (.iconst (-1), 1) := by decide +kernel
theorem dX12_swing_171 : decode M_X12_swing.2.2.1 171 = .ok (.goto 22, 3) := by decide +kernel
theorem dX12_swing_174 : decode M_X12_swing.2.2.1 174 = .ok (.iload 4, 2) := by decide +kernel
theorem dX12_swing_176 : decode M_X12_swing.2.2.1 176 = .ok (.iconst 1, 1) := by decide +kernel
theorem dX12_swing_177 : decode M_X12_swing.2.2.1 177 = .ok (.if_icmp .ne 11, 3) := by decide +kernel
theorem dX12_swing_180 : decode M_X12_swing.2.2.1 180 = .ok (.iload 6, 2) := by decide +kernel
theorem dX12_swing_182 : decode M_X12_swing.2.2.1 182 = .ok (.bipush 64, 2) := by decide +kernel
theorem dX12_swing_184 : decode M_X12_swing.2.2.1 184 = .ok (.idiv, 1) := by decide +kernel
theorem dX12_swing_185 : decode M_X12_swing.2.2.1 185 = .ok (.goto 8, 3) := by decide +kernel
theorem dX12_swing_188 : decode M_X12_swing.2.2.1 188 = .ok (.iload 6, 2) := by decide +kernel
theorem dX12_swing_190 : decode M_X12_swing.2.2.1 190 = .ok (.bipush 64, 2) := by decide +kernel
theorem dX12_swing_192 : decode M_X12_swing.2.2.1 192 = .ok (.irem, 1) := by decide +kernel
theorem dX12_swing_193 : decode M_X12_swing.2.2.1 193 = .ok (.ireturn, 1) := by decide +kernel
theorem dX12_mark_0 : decode M_X12_mark.2.2.1 0 = .ok (.aload_n 0, 1) := by decide +kernel
theorem dX12_mark_1 : decode M_X12_mark.2.2.1 1 = .ok (.iload_n 1, 1) := by decide +kernel
theorem dX12_mark_2 : decode M_X12_mark.2.2.1 2 = .ok (.invokevirtual 158, 3) := by decide +kernel
theorem dX12_mark_5 : decode M_X12_mark.2.2.1 5 = .ok (.ifCond .eq 41, 3) := by decide +kernel
theorem dX12_mark_8 : decode M_X12_mark.2.2.1 8 = .ok (.iload_n 2, 1) := by decide +kernel
theorem dX12_mark_9 : decode M_X12_mark.2.2.1 9 = .ok (.iconst 0, 1) := by decide +kernel
theorem dX12_mark_10 : decode M_X12_mark.2.2.1 10 = .ok (.aload_n 0, 1) := by decide +kernel
theorem dX12_mark_11 : decode M_X12_mark.2.2.1 11 = .ok (.getfield 31, 3) := by decide +kernel
theorem dX12_mark_14 : decode M_X12_mark.2.2.1 14 = .ok (.iload_n 1, 1) := by decide +kernel
theorem dX12_mark_15 : decode M_X12_mark.2.2.1 15 = .ok (.iaload, 1) := by decide +kernel
theorem dX12_mark_16 : decode M_X12_mark.2.2.1 16 = .ok (.iconst 1, 1) := by decide +kernel
theorem dX12_mark_17 : decode M_X12_mark.2.2.1 17 = .ok (.isub, 1) := by decide +kernel
theorem dX12_mark_18 : decode M_X12_mark.2.2.1 18 = .ok (.invokestatic 147, 3) := by decide +kernel
theorem dX12_mark_21 : decode M_X12_mark.2.2.1 21 = .ok (.ifCond .eq 25, 3) := by decide +kernel
theorem dX12_mark_24 : decode M_X12_mark.2.2.1 24 = .ok (.iload_n 3, 1) := by decide +kernel
theorem dX12_mark_25 : decode M_X12_mark.2.2.1 25 = .ok (.iconst 0, 1) := by decide +kernel
theorem dX12_mark_26 : decode M_X12_mark.2.2.1 26 = .ok (.sipush 9999, 3) := by decide +kernel
theorem dX12_mark_29 : decode M_X12_mark.2.2.1 29 = .ok (.invokestatic 147, 3) := by decide +kernel
theorem dX12_mark_32 : decode M_X12_mark.2.2.1 32 = .ok (.ifCond .eq 14, 3) := by decide +kernel
theorem dX12_mark_35 : decode M_X12_mark.2.2.1 35 = .ok (.aload_n 0, 1) := by decide +kernel
theorem dX12_mark_36 : decode M_X12_mark.2.2.1 36 = .ok (.getfield 40, 3) := by decide +kernel
theorem dX12_mark_39 : decode M_X12_mark.2.2.1 39 = .ok (.iload_n 1, 1) := by decide +kernel
theorem dX12_mark_40 : decode M_X12_mark.2.2.1 40 = .ok (.iaload, 1) := by decide +kernel
theorem dX12_mark_41 : decode M_X12_mark.2.2.1 41 = .ok (.bipush 40, 2) := by decide +kernel
theorem dX12_mark_43 : decode M_X12_mark.2.2.1 43 = .ok (.if_icmp .ne 5, 3) := by decide +kernel
theorem dX12_mark_46 : decode M_X12_mark.2.2.1 46 = .ok (.iconst 0, 1) := by decide +kernel
theorem dX12_mark_47 : decode M_X12_mark.2.2.1 47 = .ok (.ireturn, 1) := by decide +kernel
theorem dX12_mark_48 : decode M_X12_mark.2.2.1 48 = .ok (.bipush 40, 2) := by decide +kernel
theorem dX12_mark_50 : decode M_X12_mark.2.2.1 50 = .ok (.iload_n 1, 1) := by decide +kernel
theorem dX12_mark_51 : decode M_X12_mark.2.2.1 51 = .ok (.imul, 1) := by decide +kernel
theorem dX12_mark_52 : decode M_X12_mark.2.2.1 52 = .ok (.aload_n 0, 1) := by decide +kernel
theorem dX12_mark_53 : decode M_X12_mark.2.2.1 53 = .ok (.getfield 40, 3) := by decide +kernel
theorem dX12_mark_56 : decode M_X12_mark.2.2.1 56 = .ok (.iload_n 1, 1) := by decide +kernel
theorem dX12_mark_57 : decode M_X12_mark.2.2.1 57 = .ok (.iaload, 1) := by decide +kernel
theorem dX12_mark_58 : decode M_X12_mark.2.2.1 58 = .ok (.iadd, 1) := by decide +kernel
theorem dX12_mark_59 : decode M_X12_mark.2.2.1 59 = .ok (.istore 4, 2) := by decide +kernel
theorem dX12_mark_61 : decode M_X12_mark.2.2.1 61 = .ok (.aload_n 0, 1) := by decide +kernel
theorem dX12_mark_62 : decode M_X12_mark.2.2.1 62 = .ok (.getfield 40, 3) := by decide +kernel
theorem dX12_mark_65 : decode M_X12_mark.2.2.1 65 = .ok (.iload_n 1, 1) := by decide +kernel
theorem dX12_mark_66 : decode M_X12_mark.2.2.1 66 = .ok (.iaload, 1) := by decide +kernel
theorem dX12_mark_67 : decode M_X12_mark.2.2.1 67 = .ok (.ifCond .le 31, 3) := by decide +kernel
theorem dX12_mark_70 : decode M_X12_mark.2.2.1 70 = .ok (.iload_n 2, 1) := by decide +kernel
theorem dX12_mark_71 : decode M_X12_mark.2.2.1 71 = .ok (.aload_n 0, 1) := by decide +kernel
theorem dX12_mark_72 : decode M_X12_mark.2.2.1 72 = .ok (.getfield 34, 3) := by decide +kernel
theorem dX12_mark_75 : decode M_X12_mark.2.2.1 75 = .ok (.iload 4, 2) := by decide +kernel
theorem dX12_mark_77 : decode M_X12_mark.2.2.1 77 = .ok (.iconst 1, 1) := by decide +kernel
theorem dX12_mark_78 : decode M_X12_mark.2.2.1 78 = .ok (.isub, 1) := by decide +kernel
theorem dX12_mark_79 : decode M_X12_mark.2.2.1 79 = .ok (.iaload, 1) := by decide +kernel
theorem dX12_mark_80 : decode M_X12_mark.2.2.1 80 = .ok (.if_icmp .le 16, 3) := by decide +kernel
theorem dX12_mark_83 : decode M_X12_mark.2.2.1 83 = .ok (.iload_n 3, 1) := by decide +kernel
theorem dX12_mark_84 : decode M_X12_mark.2.2.1 84 = .ok (.aload_n 0, 1) := by decide +kernel
theorem dX12_mark_85 : decode M_X12_mark.2.2.1 85 = .ok (.getfield 37, 3) := by decide +kernel
theorem dX12_mark_88 : decode M_X12_mark.2.2.1 88 = .ok (.iload 4, 2) := by decide +kernel
theorem dX12_mark_90 : decode M_X12_mark.2.2.1 90 = .ok (.iconst 1, 1) := by decide +kernel
theorem dX12_mark_91 : decode M_X12_mark.2.2.1 91 = .ok (.isub, 1) := by decide +kernel
theorem dX12_mark_92 : decode M_X12_mark.2.2.1 92 = .ok (.iaload, 1) := by decide +kernel
theorem dX12_mark_93 : decode M_X12_mark.2.2.1 93 = .ok (.if_icmp .gt 5, 3) := by decide +kernel
theorem dX12_mark_96 : decode M_X12_mark.2.2.1 96 = .ok (.iconst 0, 1) := by decide +kernel
theorem dX12_mark_97 : decode M_X12_mark.2.2.1 97 = .ok (.ireturn, 1) := by decide +kernel
theorem dX12_mark_98 : decode M_X12_mark.2.2.1 98 = .ok (.aload_n 0, 1) := by decide +kernel
theorem dX12_mark_99 : decode M_X12_mark.2.2.1 99 = .ok (.getfield 34, 3) := by decide +kernel
theorem dX12_mark_102 : decode M_X12_mark.2.2.1 102 = .ok (.iload 4, 2) := by decide +kernel
theorem dX12_mark_104 : decode M_X12_mark.2.2.1 104 = .ok (.iload_n 2, 1) := by decide +kernel
theorem dX12_mark_105 : decode M_X12_mark.2.2.1 105 = .ok (.iastore, 1) := by decide +kernel
theorem dX12_mark_106 : decode M_X12_mark.2.2.1 106 = .ok (.aload_n 0, 1) := by decide +kernel
theorem dX12_mark_107 : decode M_X12_mark.2.2.1 107 = .ok (.getfield 37, 3) := by decide +kernel
theorem dX12_mark_110 : decode M_X12_mark.2.2.1 110 = .ok (.iload 4, 2) := by decide +kernel
theorem dX12_mark_112 : decode M_X12_mark.2.2.1 112 = .ok (.iload_n 3, 1) := by decide +kernel
theorem dX12_mark_113 : decode M_X12_mark.2.2.1 113 = .ok (.iastore, 1) := by decide +kernel
theorem dX12_mark_114 : decode M_X12_mark.2.2.1 114 = .ok (.aload_n 0, 1) := by decide +kernel
theorem dX12_mark_115 : decode M_X12_mark.2.2.1 115 = .ok (.getfield 40, 3) := by decide +kernel
theorem dX12_mark_118 : decode M_X12_mark.2.2.1 118 = .ok (.iload_n 1, 1) := by decide +kernel
theorem dX12_mark_119 : decode M_X12_mark.2.2.1 119 = .ok (.dup2, 1) := by decide +kernel
theorem dX12_mark_120 : decode M_X12_mark.2.2.1 120 = .ok (.iaload, 1) := by decide +kernel
theorem dX12_mark_121 : decode M_X12_mark.2.2.1 121 = .ok (.iconst 1, 1) := by decide +kernel
theorem dX12_mark_122 : decode M_X12_mark.2.2.1 122 = .ok (.iadd, 1) := by decide +kernel
theorem dX12_mark_123 : decode M_X12_mark.2.2.1 123 = .ok (.iastore, 1) := by decide +kernel
theorem dX12_mark_124 : decode M_X12_mark.2.2.1 124 = .ok (.iconst 1, 1) := by decide +kernel
theorem dX12_mark_125 : decode M_X12_mark.2.2.1 125 = .ok (.ireturn, 1) := by decide +kernel
theorem dX12_clock_0 : decode M_X12_clock.2.2.1 0 = .ok (.aload_n 0, 1) := by decide +kernel
theorem dX12_clock_1 : decode M_X12_clock.2.2.1 1 = .ok (.iload_n 1, 1) := by decide +kernel
theorem dX12_clock_2 : decode M_X12_clock.2.2.1 2 = .ok (.invokevirtual 158, 3) := by decide +kernel
theorem dX12_clock_5 : decode M_X12_clock.2.2.1 5 = .ok (.ifCond .eq 38, 3) := by decide +kernel
theorem dX12_clock_8 : decode M_X12_clock.2.2.1 8 = .ok (.iload_n 2, 1) := by decide +kernel
theorem dX12_clock_9 : decode M_X12_clock.2.2.1 9 = .ok (.iconst 0, 1) := by decide +kernel
theorem dX12_clock_10 : decode M_X12_clock.2.2.1 10 = .ok (.ldc 184, 2) := by decide +kernel
theorem dX12_clock_12 : decode M_X12_clock.2.2.1 12 = .ok (.invokestatic 147, 3) := by decide +kernel
theorem dX12_clock_15 : decode M_X12_clock.2.2.1 15 = .ok (.ifCond .eq 28, 3) := by decide +kernel
theorem dX12_clock_18 : decode M_X12_clock.2.2.1 18 = .ok (.iload_n 3, 1) := by decide +kernel
theorem dX12_clock_19 : decode M_X12_clock.2.2.1 19 = .ok (.sipush 500, 3) := by decide +kernel
theorem dX12_clock_22 : decode M_X12_clock.2.2.1 22 = .ok (.sipush 700, 3) := by decide +kernel
theorem dX12_clock_25 : decode M_X12_clock.2.2.1 25 = .ok (.invokestatic 147, 3) := by decide +kernel
theorem dX12_clock_28 : decode M_X12_clock.2.2.1 28 = .ok (.ifCond .eq 15, 3) := by decide +kernel
theorem dX12_clock_31 : decode M_X12_clock.2.2.1 31 = .ok (.iload 4, 2) := by decide +kernel
theorem dX12_clock_33 : decode M_X12_clock.2.2.1 33 = .ok (.iload_n 3, 1) := by decide +kernel
theorem dX12_clock_34 : decode M_X12_clock.2.2.1 34 = .ok (.sipush 700, 3) := by decide +kernel
theorem dX12_clock_37 : decode M_X12_clock.2.2.1 37 = .ok (.invokestatic 147, 3) := by decide +kernel
theorem dX12_clock_40 : decode M_X12_clock.2.2.1 40 = .ok (.ifCond .ne 5, 3) := by decide +kernel
theorem dX12_clock_43 : decode M_X12_clock.2.2.1 43 = .ok (.iconst 0, 1) := by decide +kernel
theorem dX12_clock_44 : decode M_X12_clock.2.2.1 44 = .ok (.ireturn, 1) := by decide +kernel
theorem dX12_clock_45 : decode M_X12_clock.2.2.1 45 = .ok (.aload_n 0, 1) := by decide +kernel
theorem dX12_clock_46 : decode M_X12_clock.2.2.1 46 = .ok (.getfield 43, 3) := by decide +kernel
theorem dX12_clock_49 : decode M_X12_clock.2.2.1 49 = .ok (.iload_n 1, 1) := by decide +kernel
theorem dX12_clock_50 : decode M_X12_clock.2.2.1 50 = .ok (.iload_n 2, 1) := by decide +kernel
theorem dX12_clock_51 : decode M_X12_clock.2.2.1 51 = .ok (.iastore, 1) := by decide +kernel
theorem dX12_clock_52 : decode M_X12_clock.2.2.1 52 = .ok (.aload_n 0, 1) := by decide +kernel
theorem dX12_clock_53 : decode M_X12_clock.2.2.1 53 = .ok (.getfield 46, 3) := by decide +kernel
theorem dX12_clock_56 : decode M_X12_clock.2.2.1 56 = .ok (.iload_n 1, 1) := by decide +kernel
theorem dX12_clock_57 : decode M_X12_clock.2.2.1 57 = .ok (.iload_n 3, 1) := by decide +kernel
theorem dX12_clock_58 : decode M_X12_clock.2.2.1 58 = .ok (.iastore, 1) := by decide +kernel
theorem dX12_clock_59 : decode M_X12_clock.2.2.1 59 = .ok (.aload_n 0, 1) := by decide +kernel
theorem dX12_clock_60 : decode M_X12_clock.2.2.1 60 = .ok (.getfield 49, 3) := by decide +kernel
theorem dX12_clock_63 : decode M_X12_clock.2.2.1 63 = .ok (.iload_n 1, 1) := by decide +kernel
theorem dX12_clock_64 : decode M_X12_clock.2.2.1 64 = .ok (.iload 4, 2) := by decide +kernel
theorem dX12_clock_66 : decode M_X12_clock.2.2.1 66 = .ok (.iastore, 1) := by decide +kernel
theorem dX12_clock_67 : decode M_X12_clock.2.2.1 67 = .ok (.iconst 1, 1) := by decide +kernel
theorem dX12_clock_68 : decode M_X12_clock.2.2.1 68 = .ok (.ireturn, 1) := by decide +kernel
theorem dX12_secondsOf_0 : decode M_X12_secondsOf.2.2.1 0 = .ok (.iconst 1, 1) := by decide +kernel
theorem dX12_secondsOf_1 : decode M_X12_secondsOf.2.2.1 1 = .ok (.istore_n 3, 1) := by decide +kernel
theorem dX12_secondsOf_2 : decode M_X12_secondsOf.2.2.1 2 = .ok (.iload_n 3, 1) := by decide +kernel
theorem dX12_secondsOf_3 : decode M_X12_secondsOf.2.2.1 3 = .ok (.aload_n 0, 1) := by decide +kernel
theorem dX12_secondsOf_4 : decode M_X12_secondsOf.2.2.1 4 = .ok (.getfield 40, 3) := by decide +kernel
theorem dX12_secondsOf_7 : decode M_X12_secondsOf.2.2.1 7 = .ok (.iload_n 1, 1) := by decide +kernel
theorem dX12_secondsOf_8 : decode M_X12_secondsOf.2.2.1 8 = .ok (.iaload, 1) := by decide +kernel
theorem dX12_secondsOf_9 : decode M_X12_secondsOf.2.2.1 9 = .ok (.if_icmp .ge 108, 3) := by decide +kernel
theorem dX12_secondsOf_12 : decode M_X12_secondsOf.2.2.1 12 = .ok (.bipush 40, 2) := by decide +kernel
theorem dX12_secondsOf_14 : decode M_X12_secondsOf.2.2.1 14 = .ok (.iload_n 1, 1) := by decide +kernel
theorem dX12_secondsOf_15 : decode M_X12_secondsOf.2.2.1 15 = .ok (.imul, 1) := by decide +kernel
theorem dX12_secondsOf_16 : decode M_X12_secondsOf.2.2.1 16 = .ok (.iload_n 3, 1) := by decide +kernel
theorem dX12_secondsOf_17 : decode M_X12_secondsOf.2.2.1 17 = .ok (.iadd, 1) := by decide +kernel
theorem dX12_secondsOf_18 : decode M_X12_secondsOf.2.2.1 18 = .ok (.istore 4, 2) := by decide +kernel
theorem dX12_secondsOf_20 : decode M_X12_secondsOf.2.2.1 20 = .ok (.iload_n 2, 1) := by decide +kernel
theorem dX12_secondsOf_21 : decode M_X12_secondsOf.2.2.1 21 = .ok (.aload_n 0, 1) := by decide +kernel
theorem dX12_secondsOf_22 : decode M_X12_secondsOf.2.2.1 22 = .ok (.getfield 34, 3) := by decide +kernel
theorem dX12_secondsOf_25 : decode M_X12_secondsOf.2.2.1 25 = .ok (.iload 4, 2) := by decide +kernel
theorem dX12_secondsOf_27 : decode M_X12_secondsOf.2.2.1 27 = .ok (.iconst 1, 1) := by decide +kernel
theorem dX12_secondsOf_28 : decode M_X12_secondsOf.2.2.1 28 = .ok (.isub, 1) := by decide +kernel
theorem dX12_secondsOf_29 : decode M_X12_secondsOf.2.2.1 29 = .ok (.iaload, 1) := by decide +kernel
theorem dX12_secondsOf_30 : decode M_X12_secondsOf.2.2.1 30 = .ok (.if_icmp .lt 81, 3) := by decide +kernel
theorem dX12_secondsOf_33 : decode M_X12_secondsOf.2.2.1 33 = .ok (.iload_n 2, 1) := by decide +kernel
theorem dX12_secondsOf_34 : decode M_X12_secondsOf.2.2.1 34 = .ok (.aload_n 0, 1) := by decide +kernel
theorem dX12_secondsOf_35 : decode M_X12_secondsOf.2.2.1 35 = .ok (.getfield 34, 3) := by decide +kernel
theorem dX12_secondsOf_38 : decode M_X12_secondsOf.2.2.1 38 = .ok (.iload 4, 2) := by decide +kernel
theorem dX12_secondsOf_40 : decode M_X12_secondsOf.2.2.1 40 = .ok (.iaload, 1) := by decide +kernel
theorem dX12_secondsOf_41 : decode M_X12_secondsOf.2.2.1 41 = .ok (.if_icmp .lt 6, 3) := by decide +kernel
theorem dX12_secondsOf_44 : decode M_X12_secondsOf.2.2.1 44 = .ok (.goto 67, 3) := by decide +kernel
theorem dX12_secondsOf_47 : decode M_X12_secondsOf.2.2.1 47 = .ok (.bipush 60, 2) := by decide +kernel
theorem dX12_secondsOf_49 : decode M_X12_secondsOf.2.2.1 49 = .ok (.aload_n 0, 1) := by decide +kernel
theorem dX12_secondsOf_50 : decode M_X12_secondsOf.2.2.1 50 = .ok (.getfield 37, 3) := by decide +kernel
theorem dX12_secondsOf_53 : decode M_X12_secondsOf.2.2.1 53 = .ok (.iload 4, 2) := by decide +kernel
theorem dX12_secondsOf_55 : decode M_X12_secondsOf.2.2.1 55 = .ok (.iconst 1, 1) := by decide +kernel
theorem dX12_secondsOf_56 : decode M_X12_secondsOf.2.2.1 56 = .ok (.isub, 1) := by decide +kernel
theorem dX12_secondsOf_57 : decode M_X12_secondsOf.2.2.1 57 = .ok (.iaload, 1) := by decide +kernel
theorem dX12_secondsOf_58 : decode M_X12_secondsOf.2.2.1 58 = .ok (.imul, 1) := by decide +kernel
theorem dX12_secondsOf_59 : decode M_X12_secondsOf.2.2.1 59 = .ok (.iload_n 2, 1) := by decide +kernel
theorem dX12_secondsOf_60 : decode M_X12_secondsOf.2.2.1 60 = .ok (.aload_n 0, 1) := by decide +kernel
theorem dX12_secondsOf_61 : decode M_X12_secondsOf.2.2.1 61 = .ok (.getfield 34, 3) := by decide +kernel
theorem dX12_secondsOf_64 : decode M_X12_secondsOf.2.2.1 64 = .ok (.iload 4, 2) := by decide +kernel
theorem dX12_secondsOf_66 : decode M_X12_secondsOf.2.2.1 66 = .ok (.iconst 1, 1) := by decide +kernel
theorem dX12_secondsOf_67 : decode M_X12_secondsOf.2.2.1 67 = .ok (.isub, 1) := by decide +kernel
theorem dX12_secondsOf_68 : decode M_X12_secondsOf.2.2.1 68 = .ok (.iaload, 1) := by decide +kernel
theorem dX12_secondsOf_69 : decode M_X12_secondsOf.2.2.1 69 = .ok (.isub, 1) := by decide +kernel
theorem dX12_secondsOf_70 : decode M_X12_secondsOf.2.2.1 70 = .ok (.bipush 60, 2) := by decide +kernel
theorem dX12_secondsOf_72 : decode M_X12_secondsOf.2.2.1 72 = .ok (.imul, 1) := by decide +kernel
theorem dX12_secondsOf_73 : decode M_X12_secondsOf.2.2.1 73 = .ok (.aload_n 0, 1) := by decide +kernel
theorem dX12_secondsOf_74 : decode M_X12_secondsOf.2.2.1 74 = .ok (.getfield 37, 3) := by decide +kernel
theorem dX12_secondsOf_77 : decode M_X12_secondsOf.2.2.1 77 = .ok (.iload 4, 2) := by decide +kernel
theorem dX12_secondsOf_79 : decode M_X12_secondsOf.2.2.1 79 = .ok (.iaload, 1) := by decide +kernel
theorem dX12_secondsOf_80 : decode M_X12_secondsOf.2.2.1 80 = .ok (.aload_n 0, 1) := by decide +kernel
theorem dX12_secondsOf_81 : decode M_X12_secondsOf.2.2.1 81 = .ok (.getfield 37, 3) := by decide +kernel
theorem dX12_secondsOf_84 : decode M_X12_secondsOf.2.2.1 84 = .ok (.iload 4, 2) := by decide +kernel
theorem dX12_secondsOf_86 : decode M_X12_secondsOf.2.2.1 86 = .ok (.iconst 1, 1) := by decide +kernel
theorem dX12_secondsOf_87 : decode M_X12_secondsOf.2.2.1 87 = .ok (.isub, 1) := by decide +kernel
theorem dX12_secondsOf_88 : decode M_X12_secondsOf.2.2.1 88 = .ok (.iaload, 1) := by decide +kernel
theorem dX12_secondsOf_89 : decode M_X12_secondsOf.2.2.1 89 = .ok (.isub, 1) := by decide +kernel
theorem dX12_secondsOf_90 : decode M_X12_secondsOf.2.2.1 90 = .ok (.imul, 1) := by decide +kernel
theorem dX12_secondsOf_91 : decode M_X12_secondsOf.2.2.1 91 = .ok (.aload_n 0, 1) := by decide +kernel
theorem dX12_secondsOf_92 : decode M_X12_secondsOf.2.2.1 92 = .ok (.getfield 34, 3) := by decide +kernel
theorem dX12_secondsOf_95 : decode M_X12_secondsOf.2.2.1 95 = .ok (.iload 4, 2) := by decide +kernel
theorem dX12_secondsOf_97 : decode M_X12_secondsOf.2.2.1 97 = .ok (.iaload, 1) := by decide +kernel
theorem dX12_secondsOf_98 : decode M_X12_secondsOf.2.2.1 98 = .ok (.aload_n 0, 1) := by decide +kernel
theorem dX12_secondsOf_99 : decode M_X12_secondsOf.2.2.1 99 = .ok (.getfield 34, 3) := by decide +kernel
theorem dX12_secondsOf_102 : decode M_X12_secondsOf.2.2.1 102 = .ok (.iload 4, 2) := by decide +kernel
theorem dX12_secondsOf_104 : decode M_X12_secondsOf.2.2.1 104 = .ok (.iconst 1, 1) := by decide +kernel
theorem dX12_secondsOf_105 : decode M_X12_secondsOf.2.2.1 105 = .ok (.isub, 1) := by decide +kernel
theorem dX12_secondsOf_106 : decode M_X12_secondsOf.2.2.1 106 = .ok (.iaload, 1) := by decide +kernel
theorem dX12_secondsOf_107 : decode M_X12_secondsOf.2.2.1 107 = .ok (.isub, 1) := by decide +kernel
theorem dX12_secondsOf_108 : decode M_X12_secondsOf.2.2.1 108 = .ok (.idiv, 1) := by decide +kernel
theorem dX12_secondsOf_109 : decode M_X12_secondsOf.2.2.1 109 = .ok (.iadd, 1) := by decide +kernel
theorem dX12_secondsOf_110 : decode M_X12_secondsOf.2.2.1 110 = .ok (.ireturn, 1) := by decide +kernel
theorem dX12_secondsOf_111 : decode M_X12_secondsOf.2.2.1 111 = .ok (.iinc 3 1, 3) := by decide +kernel
theorem dX12_secondsOf_114 : decode M_X12_secondsOf.2.2.1 114 = .ok (.goto (-112), 3) := by decide +kernel
theorem dX12_secondsOf_117 : decode M_X12_secondsOf.2.2.1 117 = .ok (.iconst (-1), 1) := by decide +kernel
theorem dX12_secondsOf_118 : decode M_X12_secondsOf.2.2.1 118 = .ok (.ireturn, 1) := by decide +kernel
theorem dX12_time_0 : decode M_X12_time.2.2.1 0 = .ok (.aload_n 0, 1) := by decide +kernel
theorem dX12_time_1 : decode M_X12_time.2.2.1 1 = .ok (.iload_n 1, 1) := by decide +kernel
theorem dX12_time_2 : decode M_X12_time.2.2.1 2 = .ok (.invokevirtual 158, 3) := by decide +kernel
theorem dX12_time_5 : decode M_X12_time.2.2.1 5 = .ok (.ifCond .eq 12, 3) := by decide +kernel
theorem dX12_time_8 : decode M_X12_time.2.2.1 8 = .ok (.iload_n 3, 1) := by decide +kernel
theorem dX12_time_9 : decode M_X12_time.2.2.1 9 = .ok (.iconst 0, 1) := by decide +kernel
theorem dX12_time_10 : decode M_X12_time.2.2.1 10 = .ok (.iconst 2, 1) := by decide +kernel
theorem dX12_time_11 : decode M_X12_time.2.2.1 11 = .ok (.invokestatic 147, 3) := by decide +kernel
theorem dX12_time_14 : decode M_X12_time.2.2.1 14 = .ok (.ifCond .ne 7, 3) := by decide +kernel
theorem dX12_time_17 : decode M_X12_time.2.2.1 17 = .ok (.ldc2_w 185, 3) := by decide +kernel
theorem dX12_time_20 : decode M_X12_time.2.2.1 20 = .ok (.lreturn, 1) := by decide +kernel
theorem dX12_time_21 : decode M_X12_time.2.2.1 21 = .ok (.aload_n 0, 1) := by decide +kernel
theorem dX12_time_22 : decode M_X12_time.2.2.1 22 = .ok (.iload_n 1, 1) := by decide +kernel
theorem dX12_time_23 : decode M_X12_time.2.2.1 23 = .ok (.iload_n 2, 1) := by decide +kernel
theorem dX12_time_24 : decode M_X12_time.2.2.1 24 = .ok (.invokevirtual 187, 3) := by decide +kernel
theorem dX12_time_27 : decode M_X12_time.2.2.1 27 = .ok (.i2l, 1) := by decide +kernel
theorem dX12_time_28 : decode M_X12_time.2.2.1 28 = .ok (.lstore 4, 2) := by decide +kernel
theorem dX12_time_30 : decode M_X12_time.2.2.1 30 = .ok (.lload 4, 2) := by decide +kernel
theorem dX12_time_32 : decode M_X12_time.2.2.1 32 = .ok (.ldc2_w 185, 3) := by decide +kernel
theorem dX12_time_35 : decode M_X12_time.2.2.1 35 = .ok (.lcmp, 1) := by decide +kernel
theorem dX12_time_36 : decode M_X12_time.2.2.1 36 = .ok (.ifCond .eq 8, 3) := by decide +kernel
theorem dX12_time_39 : decode M_X12_time.2.2.1 39 = .ok (.iload_n 3, 1) := by decide +kernel
theorem dX12_time_40 : decode M_X12_time.2.2.1 40 = .ok (.iconst 2, 1) := by decide +kernel
theorem dX12_time_41 : decode M_X12_time.2.2.1 41 = .ok (.if_icmp .ne 6, 3) := by decide +kernel
theorem dX12_time_44 : decode M_X12_time.2.2.1 44 = .ok (.lload 4, 2) := by decide +kernel
theorem dX12_time_46 : decode M_X12_time.2.2.1 46 = .ok (.lreturn, 1) := by decide +kernel
theorem dX12_time_47 : decode M_X12_time.2.2.1 47 = .ok (.aload_n 0, 1) := by decide +kernel
theorem dX12_time_48 : decode M_X12_time.2.2.1 48 = .ok (.getfield 43, 3) := by decide +kernel
theorem dX12_time_51 : decode M_X12_time.2.2.1 51 = .ok (.iload_n 1, 1) := by decide +kernel
theorem dX12_time_52 : decode M_X12_time.2.2.1 52 = .ok (.iaload, 1) := by decide +kernel
theorem dX12_time_53 : decode M_X12_time.2.2.1 53 = .ok (.i2l, 1) := by decide +kernel
theorem dX12_time_54 : decode M_X12_time.2.2.1 54 = .ok (.iload_n 3, 1) := by decide +kernel
theorem dX12_time_55 : decode M_X12_time.2.2.1 55 = .ok (.ifCond .ne 20, 3) := by decide +kernel
theorem dX12_time_58 : decode M_X12_time.2.2.1 58 = .ok (.lload 4, 2) := by decide +kernel
theorem dX12_time_60 : decode M_X12_time.2.2.1 60 = .ok (.aload_n 0, 1) := by decide +kernel
theorem dX12_time_61 : decode M_X12_time.2.2.1 61 = .ok (.getfield 46, 3) := by decide +kernel
theorem dX12_time_64 : decode M_X12_time.2.2.1 64 = .ok (.iload_n 1, 1) := by decide +kernel
theorem dX12_time_65 : decode M_X12_time.2.2.1 65 = .ok (.iaload, 1) := by decide +kernel
theorem dX12_time_66 : decode M_X12_time.2.2.1 66 = .ok (.i2l, 1) := by decide +kernel
theorem dX12_time_67 : decode M_X12_time.2.2.1 67 = .ok (.lmul, 1) := by decide +kernel
theorem dX12_time_68 : decode M_X12_time.2.2.1 68 = .ok (.ldc2_w 190, 3) := by decide +kernel
theorem dX12_time_71 : decode M_X12_time.2.2.1 71 = .ok (.ldiv, 1) := by decide +kernel
theorem dX12_time_72 : decode M_X12_time.2.2.1 72 = .ok (.goto 19, 3) := by decide +kernel
theorem dX12_time_75 : decode M_X12_time.2.2.1 75 = .ok (.lload 4, 2) := by decide +kernel
theorem dX12_time_77 : decode M_X12_time.2.2.1 77 = .ok (.lconst 1, 1) := by decide +kernel
theorem dX12_time_78 : decode M_X12_time.2.2.1 78 = .ok (.ladd, 1) := by decide +kernel
theorem dX12_time_79 : decode M_X12_time.2.2.1 79 = .ok (.aload_n 0, 1) := by decide +kernel
theorem dX12_time_80 : decode M_X12_time.2.2.1 80 = .ok (.getfield 49, 3) := by decide +kernel
theorem dX12_time_83 : decode M_X12_time.2.2.1 83 = .ok (.iload_n 1, 1) := by decide +kernel
theorem dX12_time_84 : decode M_X12_time.2.2.1 84 = .ok (.iaload, 1) := by decide +kernel
theorem dX12_time_85 : decode M_X12_time.2.2.1 85 = .ok (.i2l, 1) := by decide +kernel
theorem dX12_time_86 : decode M_X12_time.2.2.1 86 = .ok (.lmul, 1) := by decide +kernel
theorem dX12_time_87 : decode M_X12_time.2.2.1 87 = .ok (.ldc2_w 190, 3) := by decide +kernel
theorem dX12_time_90 : decode M_X12_time.2.2.1 90 = .ok (.ldiv, 1) := by decide +kernel
theorem dX12_time_91 : decode M_X12_time.2.2.1 91 = .ok (.ladd, 1) := by decide +kernel
theorem dX12_time_92 : decode M_X12_time.2.2.1 92 = .ok (.lreturn, 1) := by decide +kernel
theorem dX12_far_0 : decode M_X12_far.2.2.1 0 = .ok (.iload_n 0, 1) := by decide +kernel
theorem dX12_far_1 : decode M_X12_far.2.2.1 1 = .ok (.ifCond .ge 8, 3) := by decide +kernel
theorem dX12_far_4 : decode M_X12_far.2.2.1 4 = .ok (.iload_n 0, 1) := by decide +kernel
theorem dX12_far_5 : decode M_X12_far.2.2.1 5 = .ok (.ineg, 1) := by decide +kernel
theorem dX12_far_6 : decode M_X12_far.2.2.1 6 = .ok (.goto 4, 3) := by decide +kernel
theorem dX12_far_9 : decode M_X12_far.2.2.1 9 = .ok (.iload_n 0, 1) := by decide +kernel
theorem dX12_far_10 : decode M_X12_far.2.2.1 10 = .ok (.ireturn, 1) := by decide +kernel
theorem dX12_first_0 : decode M_X12_first.2.2.1 0 = .ok (.aload_n 0, 1) := by decide +kernel
theorem dX12_first_1 : decode M_X12_first.2.2.1 1 = .ok (.iload_n 1, 1) := by decide +kernel
theorem dX12_first_2 : decode M_X12_first.2.2.1 2 = .ok (.invokevirtual 158, 3) := by decide +kernel
theorem dX12_first_5 : decode M_X12_first.2.2.1 5 = .ok (.ifCond .eq 14, 3) := by decide +kernel
theorem dX12_first_8 : decode M_X12_first.2.2.1 8 = .ok (.iload_n 2, 1) := by decide +kernel
theorem dX12_first_9 : decode M_X12_first.2.2.1 9 = .ok (.iconst 0, 1) := by decide +kernel
theorem dX12_first_10 : decode M_X12_first.2.2.1 10 = .ok (.sipush 999, 3) := by decide +kernel
theorem dX12_first_13 : decode M_X12_first.2.2.1 13 = .ok (.invokestatic 147, 3) := by decide +kernel
theorem dX12_first_16 : decode M_X12_first.2.2.1 16 = .ok (.ifCond .ne 5, 3) := by decide +kernel
theorem dX12_first_19 : decode M_X12_first.2.2.1 19 = .ok (.iconst (-1), 1) := by decide +kernel
theorem dX12_first_20 : decode M_X12_first.2.2.1 20 = .ok (.ireturn, 1) := by decide +kernel
theorem dX12_first_21 : decode M_X12_first.2.2.1 21 = .ok (.iconst 0, 1) := by decide +kernel
theorem dX12_first_22 : decode M_X12_first.2.2.1 22 = .ok (.istore_n 3, 1) := by decide +kernel
theorem dX12_first_23 : decode M_X12_first.2.2.1 23 = .ok (.iload_n 3, 1) := by decide +kernel
theorem dX12_first_24 : decode M_X12_first.2.2.1 24 = .ok (.aload_n 0, 1) := by decide +kernel
theorem dX12_first_25 : decode M_X12_first.2.2.1 25 = .ok (.getfield 31, 3) := by decide +kernel
theorem dX12_first_28 : decode M_X12_first.2.2.1 28 = .ok (.iload_n 1, 1) := by decide +kernel
theorem dX12_first_29 : decode M_X12_first.2.2.1 29 = .ok (.iaload, 1) := by decide +kernel
theorem dX12_first_30 : decode M_X12_first.2.2.1 30 = .ok (.if_icmp .ge 35, 3) := by decide +kernel
theorem dX12_first_33 : decode M_X12_first.2.2.1 33 = .ok (.aload_n 0, 1) := by decide +kernel
theorem dX12_first_34 : decode M_X12_first.2.2.1 34 = .ok (.iload_n 1, 1) := by decide +kernel
theorem dX12_first_35 : decode M_X12_first.2.2.1 35 = .ok (.iload_n 3, 1) := by decide +kernel
theorem dX12_first_36 : decode M_X12_first.2.2.1 36 = .ok (.invokevirtual 163, 3) := by decide +kernel
theorem dX12_first_39 : decode M_X12_first.2.2.1 39 = .ok (.ldc 162, 2) := by decide +kernel
theorem dX12_first_41 : decode M_X12_first.2.2.1 41 = .ok (.if_icmp .eq 18, 3) := by decide +kernel
theorem dX12_first_44 : decode M_X12_first.2.2.1 44 = .ok (.aload_n 0, 1) := by decide +kernel
theorem dX12_first_45 : decode M_X12_first.2.2.1 45 = .ok (.iload_n 1, 1) := by decide +kernel
theorem dX12_first_46 : decode M_X12_first.2.2.1 46 = .ok (.iload_n 3, 1) := by decide +kernel
theorem dX12_first_47 : decode M_X12_first.2.2.1 47 = .ok (.invokevirtual 163, 3) := by decide +kernel
theorem dX12_first_50 : decode M_X12_first.2.2.1 50 = .ok (.invokestatic 192, 3) := by decide +kernel
theorem dX12_first_53 : decode M_X12_first.2.2.1 53 = .ok (.iload_n 2, 1) := by decide +kernel
theorem dX12_first_54 : decode M_X12_first.2.2.1 54 = .ok (.if_icmp .le 5, 3) := by decide +kernel
theorem dX12_first_57 : decode M_X12_first.2.2.1 57 = .ok (.iload_n 3, 1) := by decide +kernel
theorem dX12_first_58 : decode M_X12_first.2.2.1 58 = .ok (.ireturn, 1) := by decide +kernel
theorem dX12_first_59 : decode M_X12_first.2.2.1 59 = .ok (.iinc 3 1, 3) := by decide +kernel
theorem dX12_first_62 : decode M_X12_first.2.2.1 62 = .ok (.goto (-39), 3) := by decide +kernel
theorem dX12_first_65 : decode M_X12_first.2.2.1 65 = .ok (.iconst (-1), 1) := by decide +kernel
theorem dX12_first_66 : decode M_X12_first.2.2.1 66 = .ok (.ireturn, 1) := by decide +kernel
theorem dX12_isBurst_0 : decode M_X12_isBurst.2.2.1 0 = .ok (.aload_n 0, 1) := by decide +kernel
theorem dX12_isBurst_1 : decode M_X12_isBurst.2.2.1 1 = .ok (.iload_n 1, 1) := by decide +kernel
theorem dX12_isBurst_2 : decode M_X12_isBurst.2.2.1 2 = .ok (.invokevirtual 158, 3) := by decide +kernel
theorem dX12_isBurst_5 : decode M_X12_isBurst.2.2.1 5 = .ok (.ifCond .eq 35, 3) := by decide +kernel
theorem dX12_isBurst_8 : decode M_X12_isBurst.2.2.1 8 = .ok (.iload_n 2, 1) := by decide +kernel
theorem dX12_isBurst_9 : decode M_X12_isBurst.2.2.1 9 = .ok (.iconst 0, 1) := by decide +kernel
theorem dX12_isBurst_10 : decode M_X12_isBurst.2.2.1 10 = .ok (.aload_n 0, 1) := by decide +kernel
theorem dX12_isBurst_11 : decode M_X12_isBurst.2.2.1 11 = .ok (.getfield 31, 3) := by decide +kernel
theorem dX12_isBurst_14 : decode M_X12_isBurst.2.2.1 14 = .ok (.iload_n 1, 1) := by decide +kernel
theorem dX12_isBurst_15 : decode M_X12_isBurst.2.2.1 15 = .ok (.iaload, 1) := by decide +kernel
theorem dX12_isBurst_16 : decode M_X12_isBurst.2.2.1 16 = .ok (.iconst 1, 1) := by decide +kernel
theorem dX12_isBurst_17 : decode M_X12_isBurst.2.2.1 17 = .ok (.isub, 1) := by decide +kernel
theorem dX12_isBurst_18 : decode M_X12_isBurst.2.2.1 18 = .ok (.invokestatic 147, 3) := by decide +kernel
theorem dX12_isBurst_21 : decode M_X12_isBurst.2.2.1 21 = .ok (.ifCond .eq 19, 3) := by decide +kernel
theorem dX12_isBurst_24 : decode M_X12_isBurst.2.2.1 24 = .ok (.iload_n 3, 1) := by decide +kernel
theorem dX12_isBurst_25 : decode M_X12_isBurst.2.2.1 25 = .ok (.iload_n 2, 1) := by decide +kernel
theorem dX12_isBurst_26 : decode M_X12_isBurst.2.2.1 26 = .ok (.aload_n 0, 1) := by decide +kernel
theorem dX12_isBurst_27 : decode M_X12_isBurst.2.2.1 27 = .ok (.getfield 31, 3) := by decide +kernel
theorem dX12_isBurst_30 : decode M_X12_isBurst.2.2.1 30 = .ok (.iload_n 1, 1) := by decide +kernel
theorem dX12_isBurst_31 : decode M_X12_isBurst.2.2.1 31 = .ok (.iaload, 1) := by decide +kernel
theorem dX12_isBurst_32 : decode M_X12_isBurst.2.2.1 32 = .ok (.iconst 1, 1) := by decide +kernel
theorem dX12_isBurst_33 : decode M_X12_isBurst.2.2.1 33 = .ok (.isub, 1) := by decide +kernel
theorem dX12_isBurst_34 : decode M_X12_isBurst.2.2.1 34 = .ok (.invokestatic 147, 3) := by decide +kernel
theorem dX12_isBurst_37 : decode M_X12_isBurst.2.2.1 37 = .ok (.ifCond .ne 5, 3) := by decide +kernel
theorem dX12_isBurst_40 : decode M_X12_isBurst.2.2.1 40 = .ok (.iconst 0, 1) := by decide +kernel
theorem dX12_isBurst_41 : decode M_X12_isBurst.2.2.1 41 = .ok (.ireturn, 1) := by decide +kernel
theorem dX12_isBurst_42 : decode M_X12_isBurst.2.2.1 42 = .ok (.iload_n 2, 1) := by decide +kernel
theorem dX12_isBurst_43 : decode M_X12_isBurst.2.2.1 43 = .ok (.istore 4, 2) := by decide +kernel
theorem dX12_isBurst_45 : decode M_X12_isBurst.2.2.1 45 = .ok (.iload 4, 2) := by decide +kernel
theorem dX12_isBurst_47 : decode M_X12_isBurst.2.2.1 47 = .ok (.iload_n 3, 1) := by decide +kernel
theorem dX12_isBurst_48 : decode M_X12_isBurst.2.2.1 48 = .ok (.if_icmp .gt 23, 3) := by decide +kernel
theorem dX12_isBurst_51 : decode M_X12_isBurst.2.2.1 51 = .ok (.aload_n 0, 1) := by decide +kernel
theorem dX12_isBurst_52 : decode M_X12_isBurst.2.2.1 52 = .ok (.iload_n 1, 1) := by decide +kernel
theorem dX12_isBurst_53 : decode M_X12_isBurst.2.2.1 53 = .ok (.iload 4, 2) := by decide +kernel
theorem dX12_isBurst_55 : decode M_X12_isBurst.2.2.1 55 = .ok (.invokevirtual 163, 3) := by decide +kernel
theorem dX12_isBurst_58 : decode M_X12_isBurst.2.2.1 58 = .ok (.ldc 162, 2) := by decide +kernel
theorem dX12_isBurst_60 : decode M_X12_isBurst.2.2.1 60 = .ok (.if_icmp .ne 5, 3) := by decide +kernel
theorem dX12_isBurst_63 : decode M_X12_isBurst.2.2.1 63 = .ok (.iconst 0, 1) := by decide +kernel
theorem dX12_isBurst_64 : decode M_X12_isBurst.2.2.1 64 = .ok (.ireturn, 1) := by decide +kernel
theorem dX12_isBurst_65 : decode M_X12_isBurst.2.2.1 65 = .ok (.iinc 4 1, 3) := by decide +kernel
theorem dX12_isBurst_68 : decode M_X12_isBurst.2.2.1 68 = .ok (.goto (-23), 3) := by decide +kernel
theorem dX12_isBurst_71 : decode M_X12_isBurst.2.2.1 71 = .ok (.iconst 1, 1) := by decide +kernel
theorem dX12_isBurst_72 : decode M_X12_isBurst.2.2.1 72 = .ok (.ireturn, 1) := by decide +kernel
theorem dX12_gathers_0 : decode M_X12_gathers.2.2.1 0 = .ok (.iconst 3, 1) := by decide +kernel
theorem dX12_gathers_1 : decode M_X12_gathers.2.2.1 1 = .ok (.istore 4, 2) := by decide +kernel
theorem dX12_gathers_3 : decode M_X12_gathers.2.2.1 3 = .ok (.iload 4, 2) := by decide +kernel
theorem dX12_gathers_5 : decode M_X12_gathers.2.2.1 5 = .ok (.bipush 7, 2) := by decide +kernel
theorem dX12_gathers_7 : decode M_X12_gathers.2.2.1 7 = .ok (.if_icmp .gt 17, 3) := by decide +kernel
theorem dX12_gathers_10 : decode M_X12_gathers.2.2.1 10 = .ok (.aload_n 0, 1) := by decide +kernel
theorem dX12_gathers_11 : decode M_X12_gathers.2.2.1 11 = .ok (.getfield 55, 3) := by decide +kernel
theorem dX12_gathers_14 : decode M_X12_gathers.2.2.1 14 = .ok (.iload 4, 2) := by decide +kernel
theorem dX12_gathers_16 : decode M_X12_gathers.2.2.1 16 = .ok (.iconst 0, 1) := by decide +kernel
theorem dX12_gathers_17 : decode M_X12_gathers.2.2.1 17 = .ok (.iastore, 1) := by decide +kernel
theorem dX12_gathers_18 : decode M_X12_gathers.2.2.1 18 = .ok (.iinc 4 1, 3) := by decide +kernel
theorem dX12_gathers_21 : decode M_X12_gathers.2.2.1 21 = .ok (.goto (-18), 3) := by decide +kernel
theorem dX12_gathers_24 : decode M_X12_gathers.2.2.1 24 = .ok (.aload_n 0, 1) := by decide +kernel
theorem dX12_gathers_25 : decode M_X12_gathers.2.2.1 25 = .ok (.getfield 55, 3) := by decide +kernel
theorem dX12_gathers_28 : decode M_X12_gathers.2.2.1 28 = .ok (.iconst 4, 1) := by decide +kernel
theorem dX12_gathers_29 : decode M_X12_gathers.2.2.1 29 = .ok (.iload_n 3, 1) := by decide +kernel
theorem dX12_gathers_30 : decode M_X12_gathers.2.2.1 30 = .ok (.iload_n 2, 1) := by decide +kernel
theorem dX12_gathers_31 : decode M_X12_gathers.2.2.1 31 = .ok (.isub, 1) := by decide +kernel
theorem dX12_gathers_32 : decode M_X12_gathers.2.2.1 32 = .ok (.iconst 1, 1) := by decide +kernel
theorem dX12_gathers_33 : decode M_X12_gathers.2.2.1 33 = .ok (.iadd, 1) := by decide +kernel
theorem dX12_gathers_34 : decode M_X12_gathers.2.2.1 34 = .ok (.iastore, 1) := by decide +kernel
theorem dX12_gathers_35 : decode M_X12_gathers.2.2.1 35 = .ok (.iload_n 2, 1) := by decide +kernel
theorem dX12_gathers_36 : decode M_X12_gathers.2.2.1 36 = .ok (.istore 4, 2) := by decide +kernel
theorem dX12_gathers_38 : decode M_X12_gathers.2.2.1 38 = .ok (.iload 4, 2) := by decide +kernel
theorem dX12_gathers_40 : decode M_X12_gathers.2.2.1 40 = .ok (.iload_n 3, 1) := by decide +kernel
theorem dX12_gathers_41 : decode M_X12_gathers.2.2.1 41 = .ok (.if_icmp .gt 133, 3) := by decide +kernel
theorem dX12_gathers_44 : decode M_X12_gathers.2.2.1 44 = .ok (.aload_n 0, 1) := by decide +kernel
theorem dX12_gathers_45 : decode M_X12_gathers.2.2.1 45 = .ok (.iload_n 1, 1) := by decide +kernel
theorem dX12_gathers_46 : decode M_X12_gathers.2.2.1 46 = .ok (.iload 4, 2) := by decide +kernel
theorem dX12_gathers_48 : decode M_X12_gathers.2.2.1 48 = .ok (.invokevirtual 163, 3) := by decide +kernel
theorem dX12_gathers_51 : decode M_X12_gathers.2.2.1 51 = .ok (.istore 5, 2) := by decide +kernel
theorem dX12_gathers_53 : decode M_X12_gathers.2.2.1 53 = .ok (.iload 5, 2) := by decide +kernel
theorem dX12_gathers_55 : decode M_X12_gathers.2.2.1 55 = .ok (.invokestatic 192, 3) := by decide +kernel
theorem dX12_gathers_58 : decode M_X12_gathers.2.2.1 58 = .ok (.aload_n 0, 1) := by decide +kernel
theorem dX12_gathers_59 : decode M_X12_gathers.2.2.1 59 = .ok (.getfield 55, 3) := by decide +kernel
theorem dX12_gathers_62 : decode M_X12_gathers.2.2.1 62 = .ok (.iconst 3, 1) := by decide +kernel
theorem dX12_gathers_63 : decode M_X12_gathers.2.2.1 63 = .ok (.iaload, 1) := by decide +kernel
theorem dX12_gathers_64 : decode M_X12_gathers.2.2.1 64 = .ok (.if_icmp .le 25, 3) := by decide +kernel
theorem dX12_gathers_67 : decode M_X12_gathers.2.2.1 67 = .ok (.aload_n 0, 1) := by decide +kernel
theorem dX12_gathers_68 : decode M_X12_gathers.2.2.1 68 = .ok (.getfield 55, 3) := by decide +kernel
theorem dX12_gathers_71 : decode M_X12_gathers.2.2.1 71 = .ok (.iconst 3, 1) := by decide +kernel
theorem dX12_gathers_72 : decode M_X12_gathers.2.2.1 72 = .ok (.iload 5, 2) := by decide +kernel
theorem dX12_gathers_74 : decode M_X12_gathers.2.2.1 74 = .ok (.invokestatic 192, 3) := by decide +kernel
theorem dX12_gathers_77 : decode M_X12_gathers.2.2.1 77 = .ok (.iastore, 1) := by decide +kernel
theorem dX12_gathers_78 : decode M_X12_gathers.2.2.1 78 = .ok (.aload_n 0, 1) := by decide +kernel
theorem dX12_gathers_79 : decode M_X12_gathers.2.2.1 79 = .ok (.getfield 55, 3) := by decide +kernel
theorem dX12_gathers_82 : decode M_X12_gathers.2.2.1 82 = .ok (.bipush 6, 2) := by decide +kernel
theorem dX12_gathers_84 : decode M_X12_gathers.2.2.1 84 = .ok (.iload 4, 2) := by decide +kernel
theorem dX12_gathers_86 : decode M_X12_gathers.2.2.1 86 = .ok (.iload_n 2, 1) := by decide +kernel
theorem dX12_gathers_87 : decode M_X12_gathers.2.2.1 87 = .ok (.isub, 1) := by decide +kernel
theorem dX12_gathers_88 : decode M_X12_gathers.2.2.1 88 = .ok (.iastore, 1) := by decide +kernel
theorem dX12_gathers_89 : decode M_X12_gathers.2.2.1 89 = .ok (.aload_n 0, 1) := by decide +kernel
theorem dX12_gathers_90 : decode M_X12_gathers.2.2.1 90 = .ok (.getfield 55, 3) := by decide +kernel
theorem dX12_gathers_93 : decode M_X12_gathers.2.2.1 93 = .ok (.bipush 7, 2) := by decide +kernel
theorem dX12_gathers_95 : decode M_X12_gathers.2.2.1 95 = .ok (.dup2, 1) := by decide +kernel
theorem dX12_gathers_96 : decode M_X12_gathers.2.2.1 96 = .ok (.iaload, 1) := by decide +kernel
theorem dX12_gathers_97 : decode M_X12_gathers.2.2.1 97 = .ok (.aload_n 0, 1) := by decide +kernel
theorem dX12_gathers_98 : decode M_X12_gathers.2.2.1 98 = .ok (.iload_n 1, 1) := by decide +kernel
theorem dX12_gathers_99 : decode M_X12_gathers.2.2.1 99 = .ok (.iload 4, 2) := by decide +kernel
theorem dX12_gathers_101 : decode M_X12_gathers.2.2.1 101 = .ok (.invokevirtual 167, 3) := by decide +kernel
theorem dX12_gathers_104 : decode M_X12_gathers.2.2.1 104 = .ok (.ifCond .eq 7, 3) := by decide +kernel
theorem dX12_gathers_107 : decode M_X12_gathers.2.2.1 107 = .ok (.iconst 1, 1) := by decide +kernel
theorem dX12_gathers_108 : decode M_X12_gathers.2.2.1 108 = .ok (.goto 4, 3) := by decide +kernel
theorem dX12_gathers_111 : decode M_X12_gathers.2.2.1 111 = .ok (.iconst 0, 1) := by decide +kernel
theorem dX12_gathers_112 : decode M_X12_gathers.2.2.1 112 = .ok (.iadd, 1) := by decide +kernel
theorem dX12_gathers_113 : decode M_X12_gathers.2.2.1 113 = .ok (.iastore, 1) := by decide +kernel
theorem dX12_gathers_114 : decode M_X12_gathers.2.2.1 114 = .ok (.iload 4, 2) := by decide +kernel
theorem dX12_gathers_116 : decode M_X12_gathers.2.2.1 116 = .ok (.iload_n 2, 1) := by decide +kernel
theorem dX12_gathers_117 : decode M_X12_gathers.2.2.1 117 = .ok (.if_icmp .le 51, 3) := by decide +kernel
theorem dX12_gathers_120 : decode M_X12_gathers.2.2.1 120 = .ok (.aload_n 0, 1) := by decide +kernel
theorem dX12_gathers_121 : decode M_X12_gathers.2.2.1 121 = .ok (.getfield 55, 3) := by decide +kernel
theorem dX12_gathers_124 : decode M_X12_gathers.2.2.1 124 = .ok (.iconst 5, 1) := by decide +kernel
theorem dX12_gathers_125 : decode M_X12_gathers.2.2.1 125 = .ok (.dup2, 1) := by decide +kernel
theorem dX12_gathers_126 : decode M_X12_gathers.2.2.1 126 = .ok (.iaload, 1) := by decide +kernel
theorem dX12_gathers_127 : decode M_X12_gathers.2.2.1 127 = .ok (.iload 5, 2) := by decide +kernel
theorem dX12_gathers_129 : decode M_X12_gathers.2.2.1 129 = .ok (.ifCond .le 15, 3) := by decide +kernel
theorem dX12_gathers_132 : decode M_X12_gathers.2.2.1 132 = .ok (.aload_n 0, 1) := by decide +kernel
theorem dX12_gathers_133 : decode M_X12_gathers.2.2.1 133 = .ok (.iload_n 1, 1) := by decide +kernel
theorem dX12_gathers_134 : decode M_X12_gathers.2.2.1 134 = .ok (.iload 4, 2) := by decide +kernel
theorem dX12_gathers_136 : decode M_X12_gathers.2.2.1 136 = .ok (.iconst 1, 1) := by decide +kernel
theorem dX12_gathers_137 : decode M_X12_gathers.2.2.1 137 = .ok (.isub, 1) := by decide +kernel
theorem dX12_gathers_138 : decode M_X12_gathers.2.2.1 138 = .ok (.invokevirtual 163, 3) := by decide +kernel
theorem dX12_gathers_141 : decode M_X12_gathers.2.2.1 141 = .ok (.ifCond .lt 20, 3) := by decide +kernel
theorem dX12_gathers_144 : decode M_X12_gathers.2.2.1 144 = .ok (.iload 5, 2) := by decide +kernel
theorem dX12_gathers_146 : decode M_X12_gathers.2.2.1 146 = .ok (.ifCond .ge 19, 3) := by decide +kernel
theorem dX12_gathers_149 : decode M_X12_gathers.2.2.1 149 = .ok (.aload_n 0, 1) := by decide +kernel
theorem dX12_gathers_150 : decode M_X12_gathers.2.2.1 150 = .ok (.iload_n 1, 1) := by decide +kernel
theorem dX12_gathers_151 : decode M_X12_gathers.2.2.1 151 = .ok (.iload 4, 2) := by decide +kernel
theorem dX12_gathers_153 : decode M_X12_gathers.2.2.1 153 = .ok (.iconst 1, 1) := by decide +kernel
theorem dX12_gathers_154 : decode M_X12_gathers.2.2.1 154 = .ok (.isub, 1) := by decide +kernel
theorem dX12_gathers_155 : decode M_X12_gathers.2.2.1 155 = .ok (.invokevirtual 163, 3) := by decide +kernel
theorem dX12_gathers_158 : decode M_X12_gathers.2.2.1 158 = .ok (.ifCond .le 7, 3) := by decide +kernel
theorem dX12_gathers_161 : decode M_X12_gathers.2.2.1 161 = .ok (.iconst 1, 1) := by decide +kernel
theorem dX12_gathers_162 : decode M_X12_gathers.2.2.1 162 = .ok (.goto 4, 3) := by decide +kernel
theorem dX12_gathers_165 : decode M_X12_gathers.2.2.1 165 = .ok (.iconst 0, 1) := by decide +kernel
theorem dX12_gathers_166 : decode M_X12_gathers.2.2.1 166 = .ok (.iadd, 1) := by decide +kernel
theorem dX12_gathers_167 : decode M_X12_gathers.2.2.1 167 = .ok (.iastore, 1) := by decide +kernel
theorem dX12_gathers_168 : decode M_X12_gathers.2.2.1 168 = .ok (.iinc 4 1, 3) := by decide +kernel
theorem dX12_gathers_171 : decode M_X12_gathers.2.2.1 171 = .ok (.goto (-133), 3) := by decide +kernel
theorem dX12_gathers_174 : decode M_X12_gathers.2.2.1 174 = .ok (.return_, 1) := by decide +kernel
theorem dX12_burst_0 : decode M_X12_burst.2.2.1 0 = .ok (.aload_n 0, 1) := by decide +kernel
theorem dX12_burst_1 : decode M_X12_burst.2.2.1 1 = .ok (.iload_n 1, 1) := by decide +kernel
theorem dX12_burst_2 : decode M_X12_burst.2.2.1 2 = .ok (.iload_n 2, 1) := by decide +kernel
theorem dX12_burst_3 : decode M_X12_burst.2.2.1 3 = .ok (.iload_n 3, 1) := by decide +kernel
theorem dX12_burst_4 : decode M_X12_burst.2.2.1 4 = .ok (.invokevirtual 196, 3) := by decide +kernel
theorem dX12_burst_7 : decode M_X12_burst.2.2.1 7 = .ok (.ifCond .ne 5, 3) := by decide +kernel
theorem dX12_burst_10 : decode M_X12_burst.2.2.1 10 = .ok (.iconst (-1), 1) := by decide +kernel
theorem dX12_burst_11 : decode M_X12_burst.2.2.1 11 = .ok (.ireturn, 1) := by decide +kernel
theorem dX12_burst_12 : decode M_X12_burst.2.2.1 12 = .ok (.aload_n 0, 1) := by decide +kernel
theorem dX12_burst_13 : decode M_X12_burst.2.2.1 13 = .ok (.iload_n 1, 1) := by decide +kernel
theorem dX12_burst_14 : decode M_X12_burst.2.2.1 14 = .ok (.iload_n 2, 1) := by decide +kernel
theorem dX12_burst_15 : decode M_X12_burst.2.2.1 15 = .ok (.iload_n 3, 1) := by decide +kernel
theorem dX12_burst_16 : decode M_X12_burst.2.2.1 16 = .ok (.invokevirtual 199, 3) := by decide +kernel
theorem dX12_burst_19 : decode M_X12_burst.2.2.1 19 = .ok (.iload 4, 2) := by decide +kernel
theorem dX12_burst_21 : decode M_X12_burst.2.2.1 21 = .ok (.tableswitch 61 0 3 #[31, 38, 45, 53], 31) := by decide +kernel
theorem dX12_burst_52 : decode M_X12_burst.2.2.1 52 = .ok (.aload_n 0, 1) := by decide +kernel
theorem dX12_burst_53 : decode M_X12_burst.2.2.1 53 = .ok (.getfield 55, 3) := by decide +kernel
theorem dX12_burst_56 : decode M_X12_burst.2.2.1 56 = .ok (.iconst 3, 1) := by decide +kernel
theorem dX12_burst_57 : decode M_X12_burst.2.2.1 57 = .ok (.iaload, 1) := by decide +kernel
theorem dX12_burst_58 : decode M_X12_burst.2.2.1 58 = .ok (.ireturn, 1) := by decide +kernel
theorem dX12_burst_59 : decode M_X12_burst.2.2.1 59 = .ok (.aload_n 0, 1) := by decide +kernel
theorem dX12_burst_60 : decode M_X12_burst.2.2.1 60 = .ok (.getfield 55, 3) := by decide +kernel
theorem dX12_burst_63 : decode M_X12_burst.2.2.1 63 = .ok (.iconst 5, 1) := by decide +kernel
theorem dX12_burst_64 : decode M_X12_burst.2.2.1 64 = .ok (.iaload, 1) := by decide +kernel
theorem dX12_burst_65 : decode M_X12_burst.2.2.1 65 = .ok (.ireturn, 1) := by decide +kernel
theorem dX12_burst_66 : decode M_X12_burst.2.2.1 66 = .ok (.aload_n 0, 1) := by decide +kernel
theorem dX12_burst_67 : decode M_X12_burst.2.2.1 67 = .ok (.getfield 55, 3) := by decide +kernel
theorem dX12_burst_70 : decode M_X12_burst.2.2.1 70 = .ok (.bipush 6, 2) := by decide +kernel
theorem dX12_burst_72 : decode M_X12_burst.2.2.1 72 = .ok (.iaload, 1) := by decide +kernel
theorem dX12_burst_73 : decode M_X12_burst.2.2.1 73 = .ok (.ireturn, 1) := by decide +kernel
theorem dX12_burst_74 : decode M_X12_burst.2.2.1 74 = .ok (.aload_n 0, 1) := by decide +kernel
theorem dX12_burst_75 : decode M_X12_burst.2.2.1 75 = .ok (.getfield 55, 3) := by decide +kernel
theorem dX12_burst_78 : decode M_X12_burst.2.2.1 78 = .ok (.bipush 7, 2) := by decide +kernel
theorem dX12_burst_80 : decode M_X12_burst.2.2.1 80 = .ok (.iaload, 1) := by decide +kernel
theorem dX12_burst_81 : decode M_X12_burst.2.2.1 81 = .ok (.ireturn, 1) := by decide +kernel
theorem dX12_burst_82 : decode M_X12_burst.2.2.1 82 = .ok (.iconst (-1), 1) := by decide +kernel
theorem dX12_burst_83 : decode M_X12_burst.2.2.1 83 = .ok (.ireturn, 1) := by decide +kernel
theorem dX12_feed_0 : decode M_X12_feed.2.2.1 0 = .ok (.aload_n 0, 1) := by decide +kernel
theorem dX12_feed_1 : decode M_X12_feed.2.2.1 1 = .ok (.getfield 203, 3) := by decide +kernel
theorem dX12_feed_4 : decode M_X12_feed.2.2.1 4 = .ok (.bipush 20, 2) := by decide +kernel
theorem dX12_feed_6 : decode M_X12_feed.2.2.1 6 = .ok (.iadd, 1) := by decide +kernel
theorem dX12_feed_7 : decode M_X12_feed.2.2.1 7 = .ok (.sipush 600, 3) := by decide +kernel
theorem dX12_feed_10 : decode M_X12_feed.2.2.1 10 = .ok (.if_icmp .le 5, 3) := by decide +kernel
theorem dX12_feed_13 : decode M_X12_feed.2.2.1 13 = .ok (.iconst (-1), 1) := by decide +kernel
theorem dX12_feed_14 : decode M_X12_feed.2.2.1 14 = .ok (.ireturn, 1) := by decide +kernel
theorem dX12_feed_15 : decode M_X12_feed.2.2.1 15 = .ok (.iconst 0, 1) := by decide +kernel
theorem dX12_feed_16 : decode M_X12_feed.2.2.1 16 = .ok (.istore 6, 2) := by decide +kernel
theorem dX12_feed_18 : decode M_X12_feed.2.2.1 18 = .ok (.iload 6, 2) := by decide +kernel
theorem dX12_feed_20 : decode M_X12_feed.2.2.1 20 = .ok (.bipush 20, 2) := by decide +kernel
theorem dX12_feed_22 : decode M_X12_feed.2.2.1 22 = .ok (.if_icmp .ge 93, 3) := by decide +kernel
theorem dX12_feed_25 : decode M_X12_feed.2.2.1 25 = .ok (.iload 6, 2) := by decide +kernel
theorem dX12_feed_27 : decode M_X12_feed.2.2.1 27 = .ok (.iconst 4, 1) := by decide +kernel
theorem dX12_feed_28 : decode M_X12_feed.2.2.1 28 = .ok (.if_icmp .ge 7, 3) := by decide +kernel
theorem dX12_feed_31 : decode M_X12_feed.2.2.1 31 = .ok (.iload_n 1, 1) := by decide +kernel
theorem dX12_feed_32 : decode M_X12_feed.2.2.1 32 = .ok (.goto 39, 3) := by decide +kernel
theorem dX12_feed_35 : decode M_X12_feed.2.2.1 35 = .ok (.iload 6, 2) := by decide +kernel
theorem dX12_feed_37 : decode M_X12_feed.2.2.1 37 = .ok (.bipush 8, 2) := by decide +kernel
theorem dX12_feed_39 : decode M_X12_feed.2.2.1 39 = .ok (.if_icmp .ge 7, 3) := by decide +kernel
theorem dX12_feed_42 : decode M_X12_feed.2.2.1 42 = .ok (.iload_n 2, 1) := by decide +kernel
theorem dX12_feed_43 : decode M_X12_feed.2.2.1 43 = .ok (.goto 28, 3) := by decide +kernel
theorem dX12_feed_46 : decode M_X12_feed.2.2.1 46 = .ok (.iload 6, 2) := by decide +kernel
theorem dX12_feed_48 : decode M_X12_feed.2.2.1 48 = .ok (.bipush 12, 2) := by decide +kernel
theorem dX12_feed_50 : decode M_X12_feed.2.2.1 50 = .ok (.if_icmp .ge 7, 3) := by decide +kernel
theorem dX12_feed_53 : decode M_X12_feed.2.2.1 53 = .ok (.iload_n 3, 1) := by decide +kernel
theorem dX12_feed_54 : decode M_X12_feed.2.2.1 54 = .ok (.goto 17, 3) := by decide +kernel
theorem dX12_feed_57 : decode M_X12_feed.2.2.1 57 = .ok (.iload 6, 2) := by decide +kernel
theorem dX12_feed_59 : decode M_X12_feed.2.2.1 59 = .ok (.bipush 16, 2) := by decide +kernel
theorem dX12_feed_61 : decode M_X12_feed.2.2.1 61 = .ok (.if_icmp .ge 8, 3) := by decide +kernel
theorem dX12_feed_64 : decode M_X12_feed.2.2.1 64 = .ok (.iload 4, 2) := by decide +kernel
theorem dX12_feed_66 : decode M_X12_feed.2.2.1 66 = .ok (.goto 5, 3) := by decide +kernel
theorem dX12_feed_69 : decode M_X12_feed.2.2.1 69 = .ok (.iload 5, 2) := by decide +kernel
theorem dX12_feed_71 : decode M_X12_feed.2.2.1 71 = .ok (.istore 7, 2) := by decide +kernel
theorem dX12_feed_73 : decode M_X12_feed.2.2.1 73 = .ok (.aload_n 0, 1) := by decide +kernel
theorem dX12_feed_74 : decode M_X12_feed.2.2.1 74 = .ok (.getfield 58, 3) := by decide +kernel
theorem dX12_feed_77 : decode M_X12_feed.2.2.1 77 = .ok (.aload_n 0, 1) := by decide +kernel
theorem dX12_feed_78 : decode M_X12_feed.2.2.1 78 = .ok (.getfield 203, 3) := by decide +kernel
theorem dX12_feed_81 : decode M_X12_feed.2.2.1 81 = .ok (.iload 7, 2) := by decide +kernel
theorem dX12_feed_83 : decode M_X12_feed.2.2.1 83 = .ok (.bipush 24, 2) := by decide +kernel
theorem dX12_feed_85 : decode M_X12_feed.2.2.1 85 = .ok (.bipush 8, 2) := by decide +kernel
theorem dX12_feed_87 : decode M_X12_feed.2.2.1 87 = .ok (.iload 6, 2) := by decide +kernel
theorem dX12_feed_89 : decode M_X12_feed.2.2.1 89 = .ok (.iconst 4, 1) := by decide +kernel
theorem dX12_feed_90 : decode M_X12_feed.2.2.1 90 = .ok (.irem, 1) := by decide +kernel
theorem dX12_feed_91 : decode M_X12_feed.2.2.1 91 = .ok (.imul, 1) := by decide +kernel
theorem dX12_feed_92 : decode M_X12_feed.2.2.1 92 = .ok (.isub, 1) := by decide +kernel
theorem dX12_feed_93 : decode M_X12_feed.2.2.1 93 = .ok (.ishr, 1) := by decide +kernel
theorem dX12_feed_94 : decode M_X12_feed.2.2.1 94 = .ok (.sipush 255, 3) := by decide +kernel
theorem dX12_feed_97 : decode M_X12_feed.2.2.1 97 = .ok (.iand, 1) := by decide +kernel
theorem dX12_feed_98 : decode M_X12_feed.2.2.1 98 = .ok (.iastore, 1) := by decide +kernel
theorem dX12_feed_99 : decode M_X12_feed.2.2.1 99 = .ok (.aload_n 0, 1) := by decide +kernel
theorem dX12_feed_100 : decode M_X12_feed.2.2.1 100 = .ok (.dup, 1) := by decide +kernel
theorem dX12_feed_101 : decode M_X12_feed.2.2.1 101 = .ok (.getfield 203, 3) := by decide +kernel
theorem dX12_feed_104 : decode M_X12_feed.2.2.1 104 = .ok (.iconst 1, 1) := by decide +kernel
theorem dX12_feed_105 : decode M_X12_feed.2.2.1 105 = .ok (.iadd, 1) := by decide +kernel
theorem dX12_feed_106 : decode M_X12_feed.2.2.1 106 = .ok (.putfield 203, 3) := by decide +kernel
theorem dX12_feed_109 : decode M_X12_feed.2.2.1 109 = .ok (.iinc 6 1, 3) := by decide +kernel
theorem dX12_feed_112 : decode M_X12_feed.2.2.1 112 = .ok (.goto (-94), 3) := by decide +kernel
theorem dX12_feed_115 : decode M_X12_feed.2.2.1 115 = .ok (.aload_n 0, 1) := by decide +kernel
theorem dX12_feed_116 : decode M_X12_feed.2.2.1 116 = .ok (.getfield 203, 3) := by decide +kernel
theorem dX12_feed_119 : decode M_X12_feed.2.2.1 119 = .ok (.ireturn, 1) := by decide +kernel
theorem dX12_end_0 : decode M_X12_end.2.2.1 0 = .ok (.iload_n 1, 1) := by decide +kernel
theorem dX12_end_1 : decode M_X12_end.2.2.1 1 = .ok (.iconst 0, 1) := by decide +kernel
theorem dX12_end_2 : decode M_X12_end.2.2.1 2 = .ok (.aload_n 0, 1) := by decide +kernel
theorem dX12_end_3 : decode M_X12_end.2.2.1 3 = .ok (.getfield 203, 3) := by decide +kernel
theorem dX12_end_6 : decode M_X12_end.2.2.1 6 = .ok (.invokestatic 147, 3) := by decide +kernel
theorem dX12_end_9 : decode M_X12_end.2.2.1 9 = .ok (.ifCond .ne 5, 3) := by decide +kernel
theorem dX12_end_12 : decode M_X12_end.2.2.1 12 = .ok (.iconst 0, 1) := by decide +kernel
theorem dX12_end_13 : decode M_X12_end.2.2.1 13 = .ok (.ireturn, 1) := by decide +kernel
theorem dX12_end_14 : decode M_X12_end.2.2.1 14 = .ok (.aload_n 0, 1) := by decide +kernel
theorem dX12_end_15 : decode M_X12_end.2.2.1 15 = .ok (.iload_n 1, 1) := by decide +kernel
theorem dX12_end_16 : decode M_X12_end.2.2.1 16 = .ok (.putfield 203, 3) := by decide +kernel
theorem dX12_end_19 : decode M_X12_end.2.2.1 19 = .ok (.iconst 1, 1) := by decide +kernel
theorem dX12_end_20 : decode M_X12_end.2.2.1 20 = .ok (.ireturn, 1) := by decide +kernel
theorem dX12_see_0 : decode M_X12_see.2.2.1 0 = .ok (.iload_n 1, 1) := by decide +kernel
theorem dX12_see_1 : decode M_X12_see.2.2.1 1 = .ok (.aload_n 0, 1) := by decide +kernel
theorem dX12_see_2 : decode M_X12_see.2.2.1 2 = .ok (.getfield 203, 3) := by decide +kernel
theorem dX12_see_5 : decode M_X12_see.2.2.1 5 = .ok (.if_icmp .ge 12, 3) := by decide +kernel
theorem dX12_see_8 : decode M_X12_see.2.2.1 8 = .ok (.aload_n 0, 1) := by decide +kernel
theorem dX12_see_9 : decode M_X12_see.2.2.1 9 = .ok (.getfield 58, 3) := by decide +kernel
theorem dX12_see_12 : decode M_X12_see.2.2.1 12 = .ok (.iload_n 1, 1) := by decide +kernel
theorem dX12_see_13 : decode M_X12_see.2.2.1 13 = .ok (.iaload, 1) := by decide +kernel
theorem dX12_see_14 : decode M_X12_see.2.2.1 14 = .ok (.goto 4, 3) := by decide +kernel
theorem dX12_see_17 : decode M_X12_see.2.2.1 17 = .ok (.iconst (-1), 1) := by decide +kernel
theorem dX12_see_18 : decode M_X12_see.2.2.1 18 = .ok (.ireturn, 1) := by decide +kernel
theorem dX12_isLetter_0 : decode M_X12_isLetter.2.2.1 0 = .ok (.iload_n 0, 1) := by decide +kernel
theorem dX12_isLetter_1 : decode M_X12_isLetter.2.2.1 1 = .ok (.bipush 97, 2) := by decide +kernel
theorem dX12_isLetter_3 : decode M_X12_isLetter.2.2.1 3 = .ok (.bipush 122, 2) := by decide +kernel
theorem dX12_isLetter_5 : decode M_X12_isLetter.2.2.1 5 = .ok (.invokestatic 147, 3) := by decide +kernel
theorem dX12_isLetter_8 : decode M_X12_isLetter.2.2.1 8 = .ok (.ifCond .ne 14, 3) := by decide +kernel
theorem dX12_isLetter_11 : decode M_X12_isLetter.2.2.1 11 = .ok (.iload_n 0, 1) := by decide +kernel
theorem dX12_isLetter_12 : decode M_X12_isLetter.2.2.1 12 = .ok (.bipush 65, 2) := by decide +kernel
theorem dX12_isLetter_14 : decode M_X12_isLetter.2.2.1 14 = .ok (.bipush 90, 2) := by decide +kernel
theorem dX12_isLetter_16 : decode M_X12_isLetter.2.2.1 16 = .ok (.invokestatic 147, 3) := by decide +kernel
theorem dX12_isLetter_19 : decode M_X12_isLetter.2.2.1 19 = .ok (.ifCond .eq 7, 3) := by decide +kernel
theorem dX12_isLetter_22 : decode M_X12_isLetter.2.2.1 22 = .ok (.iconst 1, 1) := by decide +kernel
theorem dX12_isLetter_23 : decode M_X12_isLetter.2.2.1 23 = .ok (.goto 4, 3) := by decide +kernel
theorem dX12_isLetter_26 : decode M_X12_isLetter.2.2.1 26 = .ok (.iconst 0, 1) := by decide +kernel
theorem dX12_isLetter_27 : decode M_X12_isLetter.2.2.1 27 = .ok (.ireturn, 1) := by decide +kernel
theorem dX12_isDigit_0 : decode M_X12_isDigit.2.2.1 0 = .ok (.iload_n 0, 1) := by decide +kernel
theorem dX12_isDigit_1 : decode M_X12_isDigit.2.2.1 1 = .ok (.bipush 48, 2) := by decide +kernel
theorem dX12_isDigit_3 : decode M_X12_isDigit.2.2.1 3 = .ok (.bipush 57, 2) := by decide +kernel
theorem dX12_isDigit_5 : decode M_X12_isDigit.2.2.1 5 = .ok (.invokestatic 147, 3) := by decide +kernel
theorem dX12_isDigit_8 : decode M_X12_isDigit.2.2.1 8 = .ok (.ireturn, 1) := by decide +kernel
theorem dX12_is_0 : decode M_X12_is.2.2.1 0 = .ok (.aload_n 0, 1) := by decide +kernel
theorem dX12_is_1 : decode M_X12_is.2.2.1 1 = .ok (.getfield 206, 3) := by decide +kernel
theorem dX12_is_4 : decode M_X12_is.2.2.1 4 = .ok (.aload_n 0, 1) := by decide +kernel
theorem dX12_is_5 : decode M_X12_is.2.2.1 5 = .ok (.getfield 209, 3) := by decide +kernel
theorem dX12_is_8 : decode M_X12_is.2.2.1 8 = .ok (.isub, 1) := by decide +kernel
theorem dX12_is_9 : decode M_X12_is.2.2.1 9 = .ok (.aload_n 1, 1) := by decide +kernel
theorem dX12_is_10 : decode M_X12_is.2.2.1 10 = .ok (.invokevirtual 212, 3) := by decide +kernel
theorem dX12_is_13 : decode M_X12_is.2.2.1 13 = .ok (.if_icmp .ne 7, 3) := by decide +kernel
theorem dX12_is_16 : decode M_X12_is.2.2.1 16 = .ok (.iconst 1, 1) := by decide +kernel
theorem dX12_is_17 : decode M_X12_is.2.2.1 17 = .ok (.goto 4, 3) := by decide +kernel
theorem dX12_is_20 : decode M_X12_is.2.2.1 20 = .ok (.iconst 0, 1) := by decide +kernel
theorem dX12_is_21 : decode M_X12_is.2.2.1 21 = .ok (.istore_n 2, 1) := by decide +kernel
theorem dX12_is_22 : decode M_X12_is.2.2.1 22 = .ok (.iconst 0, 1) := by decide +kernel
theorem dX12_is_23 : decode M_X12_is.2.2.1 23 = .ok (.istore_n 3, 1) := by decide +kernel
theorem dX12_is_24 : decode M_X12_is.2.2.1 24 = .ok (.iload_n 3, 1) := by decide +kernel
theorem dX12_is_25 : decode M_X12_is.2.2.1 25 = .ok (.aload_n 1, 1) := by decide +kernel
theorem dX12_is_26 : decode M_X12_is.2.2.1 26 = .ok (.invokevirtual 212, 3) := by decide +kernel
theorem dX12_is_29 : decode M_X12_is.2.2.1 29 = .ok (.if_icmp .ge 38, 3) := by decide +kernel
theorem dX12_is_32 : decode M_X12_is.2.2.1 32 = .ok (.iload_n 2, 1) := by decide +kernel
theorem dX12_is_33 : decode M_X12_is.2.2.1 33 = .ok (.ifCond .eq 34, 3) := by decide +kernel
theorem dX12_is_36 : decode M_X12_is.2.2.1 36 = .ok (.aload_n 0, 1) := by decide +kernel
theorem dX12_is_37 : decode M_X12_is.2.2.1 37 = .ok (.getfield 58, 3) := by decide +kernel
theorem dX12_is_40 : decode M_X12_is.2.2.1 40 = .ok (.aload_n 0, 1) := by decide +kernel
theorem dX12_is_41 : decode M_X12_is.2.2.1 41 = .ok (.getfield 209, 3) := by decide +kernel
theorem dX12_is_44 : decode M_X12_is.2.2.1 44 = .ok (.iload_n 3, 1) := by decide +kernel
theorem dX12_is_45 : decode M_X12_is.2.2.1 45 = .ok (.iadd, 1) := by decide +kernel
theorem dX12_is_46 : decode M_X12_is.2.2.1 46 = .ok (.iaload, 1) := by decide +kernel
theorem dX12_is_47 : decode M_X12_is.2.2.1 47 = .ok (.aload_n 1, 1) := by decide +kernel
theorem dX12_is_48 : decode M_X12_is.2.2.1 48 = .ok (.iload_n 3, 1) := by decide +kernel
theorem dX12_is_49 : decode M_X12_is.2.2.1 49 = .ok (.invokevirtual 218, 3) := by decide +kernel
theorem dX12_is_52 : decode M_X12_is.2.2.1 52 = .ok (.if_icmp .ne 7, 3) := by decide +kernel
theorem dX12_is_55 : decode M_X12_is.2.2.1 55 = .ok (.iconst 1, 1) := by decide +kernel
theorem dX12_is_56 : decode M_X12_is.2.2.1 56 = .ok (.goto 4, 3) := by decide +kernel
theorem dX12_is_59 : decode M_X12_is.2.2.1 59 = .ok (.iconst 0, 1) := by decide +kernel
theorem dX12_is_60 : decode M_X12_is.2.2.1 60 = .ok (.istore_n 2, 1) := by decide +kernel
theorem dX12_is_61 : decode M_X12_is.2.2.1 61 = .ok (.iinc 3 1, 3) := by decide +kernel
theorem dX12_is_64 : decode M_X12_is.2.2.1 64 = .ok (.goto (-40), 3) := by decide +kernel
theorem dX12_is_67 : decode M_X12_is.2.2.1 67 = .ok (.iload_n 2, 1) := by decide +kernel
theorem dX12_is_68 : decode M_X12_is.2.2.1 68 = .ok (.ireturn, 1) := by decide +kernel
theorem dX12_word_0 : decode M_X12_word.2.2.1 0 = .ok (.aload_n 0, 1) := by decide +kernel
theorem dX12_word_1 : decode M_X12_word.2.2.1 1 = .ok (.ldc 222, 2) := by decide +kernel
theorem dX12_word_3 : decode M_X12_word.2.2.1 3 = .ok (.invokevirtual 224, 3) := by decide +kernel
theorem dX12_word_6 : decode M_X12_word.2.2.1 6 = .ok (.ifCond .eq 6, 3) := by decide +kernel
theorem dX12_word_9 : decode M_X12_word.2.2.1 9 = .ok (.bipush 11, 2) := by decide +kernel
theorem dX12_word_11 : decode M_X12_word.2.2.1 11 = .ok (.ireturn, 1) := by decide +kernel
theorem dX12_word_12 : decode M_X12_word.2.2.1 12 = .ok (.aload_n 0, 1) := by decide +kernel
theorem dX12_word_13 : decode M_X12_word.2.2.1 13 = .ok (.ldc 228, 2) := by decide +kernel
theorem dX12_word_15 : decode M_X12_word.2.2.1 15 = .ok (.invokevirtual 224, 3) := by decide +kernel
theorem dX12_word_18 : decode M_X12_word.2.2.1 18 = .ok (.ifCond .eq 6, 3) := by decide +kernel
theorem dX12_word_21 : decode M_X12_word.2.2.1 21 = .ok (.bipush 12, 2) := by decide +kernel
theorem dX12_word_23 : decode M_X12_word.2.2.1 23 = .ok (.ireturn, 1) := by decide +kernel
theorem dX12_word_24 : decode M_X12_word.2.2.1 24 = .ok (.aload_n 0, 1) := by decide +kernel
theorem dX12_word_25 : decode M_X12_word.2.2.1 25 = .ok (.ldc 230, 2) := by decide +kernel
theorem dX12_word_27 : decode M_X12_word.2.2.1 27 = .ok (.invokevirtual 224, 3) := by decide +kernel
theorem dX12_word_30 : decode M_X12_word.2.2.1 30 = .ok (.ifCond .eq 6, 3) := by decide +kernel
theorem dX12_word_33 : decode M_X12_word.2.2.1 33 = .ok (.bipush 13, 2) := by decide +kernel
theorem dX12_word_35 : decode M_X12_word.2.2.1 35 = .ok (.ireturn, 1) := by decide +kernel
theorem dX12_word_36 : decode M_X12_word.2.2.1 36 = .ok (.aload_n 0, 1) := by decide +kernel
theorem dX12_word_37 : decode M_X12_word.2.2.1 37 = .ok (.ldc 232, 2) := by decide +kernel
theorem dX12_word_39 : decode M_X12_word.2.2.1 39 = .ok (.invokevirtual 224, 3) := by decide +kernel
theorem dX12_word_42 : decode M_X12_word.2.2.1 42 = .ok (.ifCond .eq 5, 3) := by decide +kernel
theorem dX12_word_45 : decode M_X12_word.2.2.1 45 = .ok (.iconst 3, 1) := by decide +kernel
theorem dX12_word_46 : decode M_X12_word.2.2.1 46 = .ok (.ireturn, 1) := by decide +kernel
theorem dX12_word_47 : decode M_X12_word.2.2.1 47 = .ok (.aload_n 0, 1) := by decide +kernel
theorem dX12_word_48 : decode M_X12_word.2.2.1 48 = .ok (.ldc 234, 2) := by decide +kernel
theorem dX12_word_50 : decode M_X12_word.2.2.1 50 = .ok (.invokevirtual 224, 3) := by decide +kernel
theorem dX12_word_53 : decode M_X12_word.2.2.1 53 = .ok (.ifCond .eq 5, 3) := by decide +kernel
theorem dX12_word_56 : decode M_X12_word.2.2.1 56 = .ok (.iconst 4, 1) := by decide +kernel
theorem dX12_word_57 : decode M_X12_word.2.2.1 57 = .ok (.ireturn, 1) := by decide +kernel
theorem dX12_word_58 : decode M_X12_word.2.2.1 58 = .ok (.aload_n 0, 1) := by decide +kernel
theorem dX12_word_59 : decode M_X12_word.2.2.1 59 = .ok (.ldc 236, 2) := by decide +kernel
theorem dX12_word_61 : decode M_X12_word.2.2.1 61 = .ok (.invokevirtual 224, 3) := by decide +kernel
theorem dX12_word_64 : decode M_X12_word.2.2.1 64 = .ok (.ifCond .eq 5, 3) := by decide +kernel
theorem dX12_word_67 : decode M_X12_word.2.2.1 67 = .ok (.iconst 5, 1) := by decide +kernel
theorem dX12_word_68 : decode M_X12_word.2.2.1 68 = .ok (.ireturn, 1) := by decide +kernel
theorem dX12_word_69 : decode M_X12_word.2.2.1 69 = .ok (.aload_n 0, 1) := by decide +kernel
theorem dX12_word_70 : decode M_X12_word.2.2.1 70 = .ok (.ldc 238, 2) := by decide +kernel
theorem dX12_word_72 : decode M_X12_word.2.2.1 72 = .ok (.invokevirtual 224, 3) := by decide +kernel
theorem dX12_word_75 : decode M_X12_word.2.2.1 75 = .ok (.ifCond .eq 6, 3) := by decide +kernel
theorem dX12_word_78 : decode M_X12_word.2.2.1 78 = .ok (.bipush 6, 2) := by decide +kernel
theorem dX12_word_80 : decode M_X12_word.2.2.1 80 = .ok (.ireturn, 1) := by decide +kernel
theorem dX12_word_81 : decode M_X12_word.2.2.1 81 = .ok (.aload_n 0, 1) := by decide +kernel
theorem dX12_word_82 : decode M_X12_word.2.2.1 82 = .ok (.ldc 240, 2) := by decide +kernel
theorem dX12_word_84 : decode M_X12_word.2.2.1 84 = .ok (.invokevirtual 224, 3) := by decide +kernel
theorem dX12_word_87 : decode M_X12_word.2.2.1 87 = .ok (.ifCond .eq 6, 3) := by decide +kernel
theorem dX12_word_90 : decode M_X12_word.2.2.1 90 = .ok (.bipush 21, 2) := by decide +kernel
theorem dX12_word_92 : decode M_X12_word.2.2.1 92 = .ok (.ireturn, 1) := by decide +kernel
theorem dX12_word_93 : decode M_X12_word.2.2.1 93 = .ok (.aload_n 0, 1) := by decide +kernel
theorem dX12_word_94 : decode M_X12_word.2.2.1 94 = .ok (.ldc 242, 2) := by decide +kernel
theorem dX12_word_96 : decode M_X12_word.2.2.1 96 = .ok (.invokevirtual 224, 3) := by decide +kernel
theorem dX12_word_99 : decode M_X12_word.2.2.1 99 = .ok (.ifCond .eq 6, 3) := by decide +kernel
theorem dX12_word_102 : decode M_X12_word.2.2.1 102 = .ok (.bipush 22, 2) := by decide +kernel
theorem dX12_word_104 : decode M_X12_word.2.2.1 104 = .ok (.ireturn, 1) := by decide +kernel
theorem dX12_word_105 : decode M_X12_word.2.2.1 105 = .ok (.aload_n 0, 1) := by decide +kernel
theorem dX12_word_106 : decode M_X12_word.2.2.1 106 = .ok (.ldc 244, 2) := by decide +kernel
theorem dX12_word_108 : decode M_X12_word.2.2.1 108 = .ok (.invokevirtual 224, 3) := by decide +kernel
theorem dX12_word_111 : decode M_X12_word.2.2.1 111 = .ok (.ifCond .eq 6, 3) := by decide +kernel
theorem dX12_word_114 : decode M_X12_word.2.2.1 114 = .ok (.bipush 23, 2) := by decide +kernel
theorem dX12_word_116 : decode M_X12_word.2.2.1 116 = .ok (.ireturn, 1) := by decide +kernel
theorem dX12_word_117 : decode M_X12_word.2.2.1 117 = .ok (.aload_n 0, 1) := by decide +kernel
theorem dX12_word_118 : decode M_X12_word.2.2.1 118 = .ok (.ldc 245, 2) := by decide +kernel
theorem dX12_word_120 : decode M_X12_word.2.2.1 120 = .ok (.invokevirtual 224, 3) := by decide +kernel
theorem dX12_word_123 : decode M_X12_word.2.2.1 123 = .ok (.ifCond .eq 6, 3) := by decide +kernel
theorem dX12_word_126 : decode M_X12_word.2.2.1 126 = .ok (.bipush 24, 2) := by decide +kernel
theorem dX12_word_128 : decode M_X12_word.2.2.1 128 = .ok (.ireturn, 1) := by decide +kernel
theorem dX12_word_129 : decode M_X12_word.2.2.1 129 = .ok (.aload_n 0, 1) := by decide +kernel
theorem dX12_word_130 : decode M_X12_word.2.2.1 130 = .ok (.ldc 246, 2) := by decide +kernel
theorem dX12_word_132 : decode M_X12_word.2.2.1 132 = .ok (.invokevirtual 224, 3) := by decide +kernel
theorem dX12_word_135 : decode M_X12_word.2.2.1 135 = .ok (.ifCond .eq 6, 3) := by decide +kernel
theorem dX12_word_138 : decode M_X12_word.2.2.1 138 = .ok (.bipush 25, 2) := by decide +kernel
theorem dX12_word_140 : decode M_X12_word.2.2.1 140 = .ok (.ireturn, 1) := by decide +kernel
theorem dX12_word_141 : decode M_X12_word.2.2.1 141 = .ok (.aload_n 0, 1) := by decide +kernel
theorem dX12_word_142 : decode M_X12_word.2.2.1 142 = .ok (.ldc 248, 2) := by decide +kernel
theorem dX12_word_144 : decode M_X12_word.2.2.1 144 = .ok (.invokevirtual 224, 3) := by decide +kernel
theorem dX12_word_147 : decode M_X12_word.2.2.1 147 = .ok (.ifCond .eq 6, 3) := by decide +kernel
theorem dX12_word_150 : decode M_X12_word.2.2.1 150 = .ok (.bipush 26, 2) := by decide +kernel
theorem dX12_word_152 : decode M_X12_word.2.2.1 152 = .ok (.ireturn, 1) := by decide +kernel
theorem dX12_word_153 : decode M_X12_word.2.2.1 153 = .ok (.aload_n 0, 1) := by decide +kernel
theorem dX12_word_154 : decode M_X12_word.2.2.1 154 = .ok (.ldc 250, 2) := by decide +kernel
theorem dX12_word_156 : decode M_X12_word.2.2.1 156 = .ok (.invokevirtual 224, 3) := by decide +kernel
theorem dX12_word_159 : decode M_X12_word.2.2.1 159 = .ok (.ifCond .eq 8, 3) := by decide +kernel
theorem dX12_word_162 : decode M_X12_word.2.2.1 162 = .ok (.bipush 27, 2) := by decide +kernel
theorem dX12_word_164 : decode M_X12_word.2.2.1 164 = .ok (.goto 4, 3) := by decide +kernel
theorem dX12_word_167 : decode M_X12_word.2.2.1 167 = .ok (.iconst 1, 1) := by decide +kernel
theorem dX12_word_168 : decode M_X12_word.2.2.1 168 = .ok (.ireturn, 1) := by decide +kernel
theorem dX12_next0_0 : decode M_X12_next0.2.2.1 0 = .ok (.aload_n 0, 1) := by decide +kernel
theorem dX12_next0_1 : decode M_X12_next0.2.2.1 1 = .ok (.aload_n 0, 1) := by decide +kernel
theorem dX12_next0_2 : decode M_X12_next0.2.2.1 2 = .ok (.getfield 206, 3) := by decide +kernel
theorem dX12_next0_5 : decode M_X12_next0.2.2.1 5 = .ok (.invokevirtual 252, 3) := by decide +kernel
theorem dX12_next0_8 : decode M_X12_next0.2.2.1 8 = .ok (.bipush 32, 2) := by decide +kernel
theorem dX12_next0_10 : decode M_X12_next0.2.2.1 10 = .ok (.if_icmp .eq 16, 3) := by decide +kernel
theorem dX12_next0_13 : decode M_X12_next0.2.2.1 13 = .ok (.aload_n 0, 1) := by decide +kernel
theorem dX12_next0_14 : decode M_X12_next0.2.2.1 14 = .ok (.aload_n 0, 1) := by decide +kernel
theorem dX12_next0_15 : decode M_X12_next0.2.2.1 15 = .ok (.getfield 206, 3) := by decide +kernel
theorem dX12_next0_18 : decode M_X12_next0.2.2.1 18 = .ok (.invokevirtual 252, 3) := by decide +kernel
theorem dX12_next0_21 : decode M_X12_next0.2.2.1 21 = .ok (.bipush 10, 2) := by decide +kernel
theorem dX12_next0_23 : decode M_X12_next0.2.2.1 23 = .ok (.if_icmp .ne 16, 3) := by decide +kernel
theorem dX12_next0_26 : decode M_X12_next0.2.2.1 26 = .ok (.aload_n 0, 1) := by decide +kernel
theorem dX12_next0_27 : decode M_X12_next0.2.2.1 27 = .ok (.dup, 1) := by decide +kernel
theorem dX12_next0_28 : decode M_X12_next0.2.2.1 28 = .ok (.getfield 206, 3) := by decide +kernel
theorem dX12_next0_31 : decode M_X12_next0.2.2.1 31 = .ok (.iconst 1, 1) := by decide +kernel
theorem dX12_next0_32 : decode M_X12_next0.2.2.1 32 = .ok (.iadd, 1) := by decide +kernel
theorem dX12_next0_33 : decode M_X12_next0.2.2.1 33 = .ok (.putfield 206, 3) := by decide +kernel
theorem dX12_next0_36 : decode M_X12_next0.2.2.1 36 = .ok (.goto (-36), 3) := by decide +kernel
theorem dX12_next0_39 : decode M_X12_next0.2.2.1 39 = .ok (.aload_n 0, 1) := by decide +kernel
theorem dX12_next0_40 : decode M_X12_next0.2.2.1 40 = .ok (.aload_n 0, 1) := by decide +kernel
theorem dX12_next0_41 : decode M_X12_next0.2.2.1 41 = .ok (.getfield 206, 3) := by decide +kernel
theorem dX12_next0_44 : decode M_X12_next0.2.2.1 44 = .ok (.putfield 209, 3) := by decide +kernel
theorem dX12_next0_47 : decode M_X12_next0.2.2.1 47 = .ok (.aload_n 0, 1) := by decide +kernel
theorem dX12_next0_48 : decode M_X12_next0.2.2.1 48 = .ok (.aload_n 0, 1) := by decide +kernel
theorem dX12_next0_49 : decode M_X12_next0.2.2.1 49 = .ok (.getfield 206, 3) := by decide +kernel
theorem dX12_next0_52 : decode M_X12_next0.2.2.1 52 = .ok (.invokevirtual 252, 3) := by decide +kernel
theorem dX12_next0_55 : decode M_X12_next0.2.2.1 55 = .ok (.istore_n 1, 1) := by decide +kernel
theorem dX12_next0_56 : decode M_X12_next0.2.2.1 56 = .ok (.iload_n 1, 1) := by decide +kernel
theorem dX12_next0_57 : decode M_X12_next0.2.2.1 57 = .ok (.iconst (-1), 1) := by decide +kernel
theorem dX12_next0_58 : decode M_X12_next0.2.2.1 58 = .ok (.if_icmp .ne 11, 3) := by decide +kernel
theorem dX12_next0_61 : decode M_X12_next0.2.2.1 61 = .ok (.aload_n 0, 1) := by decide +kernel
theorem dX12_next0_62 : decode M_X12_next0.2.2.1 62 = .ok (.iconst 0, 1) := by decide +kernel
theorem dX12_next0_63 : decode M_X12_next0.2.2.1 63 = .ok (.putfield 255, 3) := by decide +kernel
theorem dX12_next0_66 : decode M_X12_next0.2.2.1 66 = .ok (.goto 240, 3) := by decide +kernel
theorem dX12_next0_69 : decode M_X12_next0.2.2.1 69 = .ok (.iload_n 1, 1) := by decide +kernel
theorem dX12_next0_70 : decode M_X12_next0.2.2.1 70 = .ok (.invokestatic 258, 3) := by decide +kernel
theorem dX12_next0_73 : decode M_X12_next0.2.2.1 73 = .ok (.ifCond .eq 41, 3) := by decide +kernel
theorem dX12_next0_76 : decode M_X12_next0.2.2.1 76 = .ok (.aload_n 0, 1) := by decide +kernel
theorem dX12_next0_77 : decode M_X12_next0.2.2.1 77 = .ok (.aload_n 0, 1) := by decide +kernel
theorem dX12_next0_78 : decode M_X12_next0.2.2.1 78 = .ok (.getfield 206, 3) := by decide +kernel
theorem dX12_next0_81 : decode M_X12_next0.2.2.1 81 = .ok (.invokevirtual 252, 3) := by decide +kernel
theorem dX12_next0_84 : decode M_X12_next0.2.2.1 84 = .ok (.invokestatic 258, 3) := by decide +kernel
theorem dX12_next0_87 : decode M_X12_next0.2.2.1 87 = .ok (.ifCond .eq 16, 3) := by decide +kernel
theorem dX12_next0_90 : decode M_X12_next0.2.2.1 90 = .ok (.aload_n 0, 1) := by decide +kernel
theorem dX12_next0_91 : decode M_X12_next0.2.2.1 91 = .ok (.dup, 1) := by decide +kernel
theorem dX12_next0_92 : decode M_X12_next0.2.2.1 92 = .ok (.getfield 206, 3) := by decide +kernel
theorem dX12_next0_95 : decode M_X12_next0.2.2.1 95 = .ok (.iconst 1, 1) := by decide +kernel
theorem dX12_next0_96 : decode M_X12_next0.2.2.1 96 = .ok (.iadd, 1) := by decide +kernel
theorem dX12_next0_97 : decode M_X12_next0.2.2.1 97 = .ok (.putfield 206, 3) := by decide +kernel
theorem dX12_next0_100 : decode M_X12_next0.2.2.1 100 = .ok (.goto (-24), 3) := by decide +kernel
theorem dX12_next0_103 : decode M_X12_next0.2.2.1 103 = .ok (.aload_n 0, 1) := by decide +kernel
theorem dX12_next0_104 : decode M_X12_next0.2.2.1 104 = .ok (.aload_n 0, 1) := by decide +kernel
theorem dX12_next0_105 : decode M_X12_next0.2.2.1 105 = .ok (.invokevirtual 261, 3) := by decide +kernel
theorem dX12_next0_108 : decode M_X12_next0.2.2.1 108 = .ok (.putfield 255, 3) := by decide +kernel
theorem dX12_next0_111 : decode M_X12_next0.2.2.1 111 = .ok (.goto 195, 3) := by decide +kernel
theorem dX12_next0_114 : decode M_X12_next0.2.2.1 114 = .ok (.iload_n 1, 1) := by decide +kernel
theorem dX12_next0_115 : decode M_X12_next0.2.2.1 115 = .ok (.invokestatic 264, 3) := by decide +kernel
theorem dX12_next0_118 : decode M_X12_next0.2.2.1 118 = .ok (.ifCond .eq 96, 3) := by decide +kernel
theorem dX12_next0_121 : decode M_X12_next0.2.2.1 121 = .ok (.aload_n 0, 1) := by decide +kernel
theorem dX12_next0_122 : decode M_X12_next0.2.2.1 122 = .ok (.iconst 0, 1) := by decide +kernel
theorem dX12_next0_123 : decode M_X12_next0.2.2.1 123 = .ok (.putfield 267, 3) := by decide +kernel
theorem dX12_next0_126 : decode M_X12_next0.2.2.1 126 = .ok (.aload_n 0, 1) := by decide +kernel
theorem dX12_next0_127 : decode M_X12_next0.2.2.1 127 = .ok (.aload_n 0, 1) := by decide +kernel
theorem dX12_next0_128 : decode M_X12_next0.2.2.1 128 = .ok (.getfield 206, 3) := by decide +kernel
theorem dX12_next0_131 : decode M_X12_next0.2.2.1 131 = .ok (.invokevirtual 252, 3) := by decide +kernel
theorem dX12_next0_134 : decode M_X12_next0.2.2.1 134 = .ok (.invokestatic 264, 3) := by decide +kernel
theorem dX12_next0_137 : decode M_X12_next0.2.2.1 137 = .ok (.ifCond .eq 52, 3) := by decide +kernel
theorem dX12_next0_140 : decode M_X12_next0.2.2.1 140 = .ok (.aload_n 0, 1) := by decide +kernel
theorem dX12_next0_141 : decode M_X12_next0.2.2.1 141 = .ok (.getfield 206, 3) := by decide +kernel
theorem dX12_next0_144 : decode M_X12_next0.2.2.1 144 = .ok (.aload_n 0, 1) := by decide +kernel
theorem dX12_next0_145 : decode M_X12_next0.2.2.1 145 = .ok (.getfield 209, 3) := by decide +kernel
theorem dX12_next0_148 : decode M_X12_next0.2.2.1 148 = .ok (.iconst 4, 1) := by decide +kernel
theorem dX12_next0_149 : decode M_X12_next0.2.2.1 149 = .ok (.iadd, 1) := by decide +kernel
theorem dX12_next0_150 : decode M_X12_next0.2.2.1 150 = .ok (.if_icmp .ge 26, 3) := by decide +kernel
theorem dX12_next0_153 : decode M_X12_next0.2.2.1 153 = .ok (.aload_n 0, 1) := by decide +kernel
theorem dX12_next0_154 : decode M_X12_next0.2.2.1 154 = .ok (.bipush 10, 2) := by decide +kernel
theorem dX12_next0_156 : decode M_X12_next0.2.2.1 156 = .ok (.aload_n 0, 1) := by decide +kernel
theorem dX12_next0_157 : decode M_X12_next0.2.2.1 157 = .ok (.getfield 267, 3) := by decide +kernel
theorem dX12_next0_160 : decode M_X12_next0.2.2.1 160 = .ok (.imul, 1) := by decide +kernel
theorem dX12_next0_161 : decode M_X12_next0.2.2.1 161 = .ok (.aload_n 0, 1) := by decide +kernel
theorem dX12_next0_162 : decode M_X12_next0.2.2.1 162 = .ok (.aload_n 0, 1) := by decide +kernel
theorem dX12_next0_163 : decode M_X12_next0.2.2.1 163 = .ok (.getfield 206, 3) := by decide +kernel
theorem dX12_next0_166 : decode M_X12_next0.2.2.1 166 = .ok (.invokevirtual 252, 3) := by decide +kernel
theorem dX12_next0_169 : decode M_X12_next0.2.2.1 169 = .ok (.iadd, 1) := by decide +kernel
theorem dX12_next0_170 : decode M_X12_next0.2.2.1 170 = .ok (.bipush 48, 2) := by decide +kernel
theorem dX12_next0_172 : decode M_X12_next0.2.2.1 172 = .ok (.isub, 1) := by decide +kernel
theorem dX12_next0_173 : decode M_X12_next0.2.2.1 173 = .ok (.putfield 267, 3) := by decide +kernel
theorem dX12_next0_176 : decode M_X12_next0.2.2.1 176 = .ok (.aload_n 0, 1) := by decide +kernel
theorem dX12_next0_177 : decode M_X12_next0.2.2.1 177 = .ok (.dup, 1) := by decide +kernel
theorem dX12_next0_178 : decode M_X12_next0.2.2.1 178 = .ok (.getfield 206, 3) := by decide +kernel
theorem dX12_next0_181 : decode M_X12_next0.2.2.1 181 = .ok (.iconst 1, 1) := by decide +kernel
theorem dX12_next0_182 : decode M_X12_next0.2.2.1 182 = .ok (.iadd, 1) := by decide +kernel
theorem dX12_next0_183 : decode M_X12_next0.2.2.1 183 = .ok (.putfield 206, 3) := by decide +kernel
theorem dX12_next0_186 : decode M_X12_next0.2.2.1 186 = .ok (.goto (-60), 3) := by decide +kernel
theorem dX12_next0_189 : decode M_X12_next0.2.2.1 189 = .ok (.aload_n 0, 1) := by decide +kernel
theorem dX12_next0_190 : decode M_X12_next0.2.2.1 190 = .ok (.aload_n 0, 1) := by decide +kernel
theorem dX12_next0_191 : decode M_X12_next0.2.2.1 191 = .ok (.getfield 206, 3) := by decide +kernel
theorem dX12_next0_194 : decode M_X12_next0.2.2.1 194 = .ok (.aload_n 0, 1) := by decide +kernel
theorem dX12_next0_195 : decode M_X12_next0.2.2.1 195 = .ok (.getfield 209, 3) := by decide +kernel
theorem dX12_next0_198 : decode M_X12_next0.2.2.1 198 = .ok (.isub, 1) := by decide +kernel
theorem dX12_next0_199 : decode M_X12_next0.2.2.1 199 = .ok (.iconst 5, 1) := by decide +kernel
theorem dX12_next0_200 : decode M_X12_next0.2.2.1 200 = .ok (.if_icmp .ge 7, 3) := by decide +kernel
theorem dX12_next0_203 : decode M_X12_next0.2.2.1 203 = .ok (.iconst 2, 1) := by decide +kernel
theorem dX12_next0_204 : decode M_X12_next0.2.2.1 204 = .ok (.goto 4, 3) := by decide +kernel
theorem dX12_next0_207 : decode M_X12_next0.2.2.1 207 = .ok (.iconst 1, 1) := by decide +kernel
theorem dX12_next0_208 : decode M_X12_next0.2.2.1 208 = .ok (.putfield 255, 3) := by decide +kernel
theorem dX12_next0_211 : decode M_X12_next0.2.2.1 211 = .ok (.goto 95, 3) := by decide +kernel
theorem dX12_next0_214 : decode M_X12_next0.2.2.1 214 = .ok (.aload_n 0, 1) := by decide +kernel
theorem dX12_next0_215 : decode M_X12_next0.2.2.1 215 = .ok (.dup, 1) := by decide +kernel
theorem dX12_next0_216 : decode M_X12_next0.2.2.1 216 = .ok (.getfield 206, 3) := by decide +kernel
theorem dX12_next0_219 : decode M_X12_next0.2.2.1 219 = .ok (.iconst 1, 1) := by decide +kernel
theorem dX12_next0_220 : decode M_X12_next0.2.2.1 220 = .ok (.iadd, 1) := by decide +kernel
theorem dX12_next0_221 : decode M_X12_next0.2.2.1 221 = .ok (.putfield 206, 3) := by decide +kernel
theorem dX12_next0_224 : decode M_X12_next0.2.2.1 224 = .ok (.iload_n 1, 1) := by decide +kernel
theorem dX12_next0_225 : decode M_X12_next0.2.2.1 225 = .ok (.bipush 59, 2) := by decide +kernel
theorem dX12_next0_227 : decode M_X12_next0.2.2.1 227 = .ok (.if_icmp .eq 57, 3) := by decide +kernel
theorem dX12_next0_230 : decode M_X12_next0.2.2.1 230 = .ok (.iload_n 1, 1) := by decide +kernel
theorem dX12_next0_231 : decode M_X12_next0.2.2.1 231 = .ok (.bipush 43, 2) := by decide +kernel
theorem dX12_next0_233 : decode M_X12_next0.2.2.1 233 = .ok (.if_icmp .eq 51, 3) := by decide +kernel
theorem dX12_next0_236 : decode M_X12_next0.2.2.1 236 = .ok (.iload_n 1, 1) := by decide +kernel
theorem dX12_next0_237 : decode M_X12_next0.2.2.1 237 = .ok (.bipush 45, 2) := by decide +kernel
theorem dX12_next0_239 : decode M_X12_next0.2.2.1 239 = .ok (.if_icmp .eq 45, 3) := by decide +kernel
theorem dX12_next0_242 : decode M_X12_next0.2.2.1 242 = .ok (.iload_n 1, 1) := by decide +kernel
theorem dX12_next0_243 : decode M_X12_next0.2.2.1 243 = .ok (.bipush 42, 2) := by decide +kernel
theorem dX12_next0_245 : decode M_X12_next0.2.2.1 245 = .ok (.if_icmp .eq 39, 3) := by decide +kernel
theorem dX12_next0_248 : decode M_X12_next0.2.2.1 248 = .ok (.iload_n 1, 1) := by decide +kernel
theorem dX12_next0_249 : decode M_X12_next0.2.2.1 249 = .ok (.bipush 47, 2) := by decide +kernel
theorem dX12_next0_251 : decode M_X12_next0.2.2.1 251 = .ok (.if_icmp .eq 33, 3) := by decide +kernel
theorem dX12_next0_254 : decode M_X12_next0.2.2.1 254 = .ok (.iload_n 1, 1) := by decide +kernel
theorem dX12_next0_255 : decode M_X12_next0.2.2.1 255 = .ok (.bipush 40, 2) := by decide +kernel
theorem dX12_next0_257 : decode M_X12_next0.2.2.1 257 = .ok (.if_icmp .eq 27, 3) := by decide +kernel
theorem dX12_next0_260 : decode M_X12_next0.2.2.1 260 = .ok (.iload_n 1, 1) := by decide +kernel
theorem dX12_next0_261 : decode M_X12_next0.2.2.1 261 = .ok (.bipush 41, 2) := by decide +kernel
theorem dX12_next0_263 : decode M_X12_next0.2.2.1 263 = .ok (.if_icmp .eq 21, 3) := by decide +kernel
theorem dX12_next0_266 : decode M_X12_next0.2.2.1 266 = .ok (.iload_n 1, 1) := by decide +kernel
theorem dX12_next0_267 : decode M_X12_next0.2.2.1 267 = .ok (.bipush 60, 2) := by decide +kernel
theorem dX12_next0_269 : decode M_X12_next0.2.2.1 269 = .ok (.if_icmp .eq 15, 3) := by decide +kernel
theorem dX12_next0_272 : decode M_X12_next0.2.2.1 272 = .ok (.iload_n 1, 1) := by decide +kernel
theorem dX12_next0_273 : decode M_X12_next0.2.2.1 273 = .ok (.bipush 61, 2) := by decide +kernel
theorem dX12_next0_275 : decode M_X12_next0.2.2.1 275 = .ok (.if_icmp .eq 9, 3) := by decide +kernel
theorem dX12_next0_278 : decode M_X12_next0.2.2.1 278 = .ok (.iload_n 1, 1) := by decide +kernel
theorem dX12_next0_279 : decode M_X12_next0.2.2.1 279 = .ok (.bipush 62, 2) := by decide +kernel
theorem dX12_next0_281 : decode M_X12_next0.2.2.1 281 = .ok (.if_icmp .ne 7, 3) := by decide +kernel
theorem dX12_next0_284 : decode M_X12_next0.2.2.1 284 = .ok (.iconst 1, 1) := by decide +kernel
theorem dX12_next0_285 : decode M_X12_next0.2.2.1 285 = .ok (.goto 4, 3) := by decide +kernel
theorem dX12_next0_288 : decode M_X12_next0.2.2.1 288 = .ok (.iconst 0, 1) := by decide +kernel
theorem dX12_next0_289 : decode M_X12_next0.2.2.1 289 = .ok (.istore_n 2, 1) := by decide +kernel
theorem dX12_next0_290 : decode M_X12_next0.2.2.1 290 = .ok (.aload_n 0, 1) := by decide +kernel
theorem dX12_next0_291 : decode M_X12_next0.2.2.1 291 = .ok (.iload_n 2, 1) := by decide +kernel
theorem dX12_next0_292 : decode M_X12_next0.2.2.1 292 = .ok (.ifCond .eq 10, 3) := by decide +kernel
theorem dX12_next0_295 : decode M_X12_next0.2.2.1 295 = .ok (.bipush 100, 2) := by decide +kernel
theorem dX12_next0_297 : decode M_X12_next0.2.2.1 297 = .ok (.iload_n 1, 1) := by decide +kernel
theorem dX12_next0_298 : decode M_X12_next0.2.2.1 298 = .ok (.iadd, 1) := by decide +kernel
theorem dX12_next0_299 : decode M_X12_next0.2.2.1 299 = .ok (.goto 4, 3) := by decide +kernel
theorem dX12_next0_302 : decode M_X12_next0.2.2.1 302 = .ok (.iconst 1, 1) := by decide +kernel
theorem dX12_next0_303 : decode M_X12_next0.2.2.1 303 = .ok (.putfield 255, 3) := by decide +kernel
theorem dX12_next0_306 : decode M_X12_next0.2.2.1 306 = .ok (.return_, 1) := by decide +kernel
theorem dX12_bad_0 : decode M_X12_bad.2.2.1 0 = .ok (.aload_n 0, 1) := by decide +kernel
theorem dX12_bad_1 : decode M_X12_bad.2.2.1 1 = .ok (.iload_n 1, 1) := by decide +kernel
theorem dX12_bad_2 : decode M_X12_bad.2.2.1 2 = .ok (.putfield 270, 3) := by decide +kernel
theorem dX12_bad_5 : decode M_X12_bad.2.2.1 5 = .ok (.aload_n 0, 1) := by decide +kernel
theorem dX12_bad_6 : decode M_X12_bad.2.2.1 6 = .ok (.aload_n 0, 1) := by decide +kernel
theorem dX12_bad_7 : decode M_X12_bad.2.2.1 7 = .ok (.getfield 209, 3) := by decide +kernel
theorem dX12_bad_10 : decode M_X12_bad.2.2.1 10 = .ok (.putfield 273, 3) := by decide +kernel
theorem dX12_bad_13 : decode M_X12_bad.2.2.1 13 = .ok (.iconst 0, 1) := by decide +kernel
theorem dX12_bad_14 : decode M_X12_bad.2.2.1 14 = .ok (.ireturn, 1) := by decide +kernel
theorem dX12_need_0 : decode M_X12_need.2.2.1 0 = .ok (.aload_n 0, 1) := by decide +kernel
theorem dX12_need_1 : decode M_X12_need.2.2.1 1 = .ok (.getfield 255, 3) := by decide +kernel
theorem dX12_need_4 : decode M_X12_need.2.2.1 4 = .ok (.iload_n 1, 1) := by decide +kernel
theorem dX12_need_5 : decode M_X12_need.2.2.1 5 = .ok (.if_icmp .eq 9, 3) := by decide +kernel
theorem dX12_need_8 : decode M_X12_need.2.2.1 8 = .ok (.aload_n 0, 1) := by decide +kernel
theorem dX12_need_9 : decode M_X12_need.2.2.1 9 = .ok (.iconst 1, 1) := by decide +kernel
theorem dX12_need_10 : decode M_X12_need.2.2.1 10 = .ok (.invokevirtual 276, 3) := by decide +kernel
theorem dX12_need_13 : decode M_X12_need.2.2.1 13 = .ok (.ireturn, 1) := by decide +kernel
theorem dX12_need_14 : decode M_X12_need.2.2.1 14 = .ok (.aload_n 0, 1) := by decide +kernel
theorem dX12_need_15 : decode M_X12_need.2.2.1 15 = .ok (.invokevirtual 279, 3) := by decide +kernel
theorem dX12_need_18 : decode M_X12_need.2.2.1 18 = .ok (.iconst 1, 1) := by decide +kernel
theorem dX12_need_19 : decode M_X12_need.2.2.1 19 = .ok (.ireturn, 1) := by decide +kernel
theorem dX12_lay_0 : decode M_X12_lay.2.2.1 0 = .ok (.aload_n 0, 1) := by decide +kernel
theorem dX12_lay_1 : decode M_X12_lay.2.2.1 1 = .ok (.getfield 67, 3) := by decide +kernel
theorem dX12_lay_4 : decode M_X12_lay.2.2.1 4 = .ok (.iconst 2, 1) := by decide +kernel
theorem dX12_lay_5 : decode M_X12_lay.2.2.1 5 = .ok (.aload_n 0, 1) := by decide +kernel
theorem dX12_lay_6 : decode M_X12_lay.2.2.1 6 = .ok (.getfield 282, 3) := by decide +kernel
theorem dX12_lay_9 : decode M_X12_lay.2.2.1 9 = .ok (.imul, 1) := by decide +kernel
theorem dX12_lay_10 : decode M_X12_lay.2.2.1 10 = .ok (.iload_n 1, 1) := by decide +kernel
theorem dX12_lay_11 : decode M_X12_lay.2.2.1 11 = .ok (.iastore, 1) := by decide +kernel
theorem dX12_lay_12 : decode M_X12_lay.2.2.1 12 = .ok (.aload_n 0, 1) := by decide +kernel
theorem dX12_lay_13 : decode M_X12_lay.2.2.1 13 = .ok (.getfield 67, 3) := by decide +kernel
theorem dX12_lay_16 : decode M_X12_lay.2.2.1 16 = .ok (.iconst 2, 1) := by decide +kernel
theorem dX12_lay_17 : decode M_X12_lay.2.2.1 17 = .ok (.aload_n 0, 1) := by decide +kernel
theorem dX12_lay_18 : decode M_X12_lay.2.2.1 18 = .ok (.getfield 282, 3) := by decide +kernel
theorem dX12_lay_21 : decode M_X12_lay.2.2.1 21 = .ok (.imul, 1) := by decide +kernel
theorem dX12_lay_22 : decode M_X12_lay.2.2.1 22 = .ok (.iconst 1, 1) := by decide +kernel
theorem dX12_lay_23 : decode M_X12_lay.2.2.1 23 = .ok (.iadd, 1) := by decide +kernel
theorem dX12_lay_24 : decode M_X12_lay.2.2.1 24 = .ok (.iload_n 2, 1) := by decide +kernel
theorem dX12_lay_25 : decode M_X12_lay.2.2.1 25 = .ok (.iastore, 1) := by decide +kernel
theorem dX12_lay_26 : decode M_X12_lay.2.2.1 26 = .ok (.aload_n 0, 1) := by decide +kernel
theorem dX12_lay_27 : decode M_X12_lay.2.2.1 27 = .ok (.dup, 1) := by decide +kernel
theorem dX12_lay_28 : decode M_X12_lay.2.2.1 28 = .ok (.getfield 282, 3) := by decide +kernel
theorem dX12_lay_31 : decode M_X12_lay.2.2.1 31 = .ok (.iconst 1, 1) := by decide +kernel
theorem dX12_lay_32 : decode M_X12_lay.2.2.1 32 = .ok (.iadd, 1) := by decide +kernel
theorem dX12_lay_33 : decode M_X12_lay.2.2.1 33 = .ok (.putfield 282, 3) := by decide +kernel
theorem dX12_lay_36 : decode M_X12_lay.2.2.1 36 = .ok (.return_, 1) := by decide +kernel
theorem dX12_opens_0 : decode M_X12_opens.2.2.1 0 = .ok (.aload_n 0, 1) := by decide +kernel
theorem dX12_opens_1 : decode M_X12_opens.2.2.1 1 = .ok (.getfield 285, 3) := by decide +kernel
theorem dX12_opens_4 : decode M_X12_opens.2.2.1 4 = .ok (.bipush 8, 2) := by decide +kernel
theorem dX12_opens_6 : decode M_X12_opens.2.2.1 6 = .ok (.if_icmp .ne 9, 3) := by decide +kernel
theorem dX12_opens_9 : decode M_X12_opens.2.2.1 9 = .ok (.aload_n 0, 1) := by decide +kernel
theorem dX12_opens_10 : decode M_X12_opens.2.2.1 10 = .ok (.iconst 3, 1) := by decide +kernel
theorem dX12_opens_11 : decode M_X12_opens.2.2.1 11 = .ok (.invokevirtual 276, 3) := by decide +kernel
theorem dX12_opens_14 : decode M_X12_opens.2.2.1 14 = .ok (.ireturn, 1) := by decide +kernel
theorem dX12_opens_15 : decode M_X12_opens.2.2.1 15 = .ok (.aload_n 0, 1) := by decide +kernel
theorem dX12_opens_16 : decode M_X12_opens.2.2.1 16 = .ok (.dup, 1) := by decide +kernel
theorem dX12_opens_17 : decode M_X12_opens.2.2.1 17 = .ok (.getfield 285, 3) := by decide +kernel
theorem dX12_opens_20 : decode M_X12_opens.2.2.1 20 = .ok (.iconst 1, 1) := by decide +kernel
theorem dX12_opens_21 : decode M_X12_opens.2.2.1 21 = .ok (.iadd, 1) := by decide +kernel
theorem dX12_opens_22 : decode M_X12_opens.2.2.1 22 = .ok (.putfield 285, 3) := by decide +kernel
theorem dX12_opens_25 : decode M_X12_opens.2.2.1 25 = .ok (.aload_n 0, 1) := by decide +kernel
theorem dX12_opens_26 : decode M_X12_opens.2.2.1 26 = .ok (.invokevirtual 279, 3) := by decide +kernel
theorem dX12_opens_29 : decode M_X12_opens.2.2.1 29 = .ok (.iconst 1, 1) := by decide +kernel
theorem dX12_opens_30 : decode M_X12_opens.2.2.1 30 = .ok (.ireturn, 1) := by decide +kernel
theorem dX12_sumUp_0 : decode M_X12_sumUp.2.2.1 0 = .ok (.aload_n 0, 1) := by decide +kernel
theorem dX12_sumUp_1 : decode M_X12_sumUp.2.2.1 1 = .ok (.invokevirtual 288, 3) := by decide +kernel
theorem dX12_sumUp_4 : decode M_X12_sumUp.2.2.1 4 = .ok (.ifCond .ne 5, 3) := by decide +kernel
theorem dX12_sumUp_7 : decode M_X12_sumUp.2.2.1 7 = .ok (.iconst 0, 1) := by decide +kernel
theorem dX12_sumUp_8 : decode M_X12_sumUp.2.2.1 8 = .ok (.ireturn, 1) := by decide +kernel
theorem dX12_sumUp_9 : decode M_X12_sumUp.2.2.1 9 = .ok (.aload_n 0, 1) := by decide +kernel
theorem dX12_sumUp_10 : decode M_X12_sumUp.2.2.1 10 = .ok (.getfield 255, 3) := by decide +kernel
theorem dX12_sumUp_13 : decode M_X12_sumUp.2.2.1 13 = .ok (.sipush 143, 3) := by decide +kernel
theorem dX12_sumUp_16 : decode M_X12_sumUp.2.2.1 16 = .ok (.if_icmp .eq 13, 3) := by decide +kernel
theorem dX12_sumUp_19 : decode M_X12_sumUp.2.2.1 19 = .ok (.aload_n 0, 1) := by decide +kernel
theorem dX12_sumUp_20 : decode M_X12_sumUp.2.2.1 20 = .ok (.getfield 255, 3) := by decide +kernel
theorem dX12_sumUp_23 : decode M_X12_sumUp.2.2.1 23 = .ok (.sipush 145, 3) := by decide +kernel
theorem dX12_sumUp_26 : decode M_X12_sumUp.2.2.1 26 = .ok (.if_icmp .ne 43, 3) := by decide +kernel
theorem dX12_sumUp_29 : decode M_X12_sumUp.2.2.1 29 = .ok (.aload_n 0, 1) := by decide +kernel
theorem dX12_sumUp_30 : decode M_X12_sumUp.2.2.1 30 = .ok (.getfield 255, 3) := by decide +kernel
theorem dX12_sumUp_33 : decode M_X12_sumUp.2.2.1 33 = .ok (.sipush 143, 3) := by decide +kernel
theorem dX12_sumUp_36 : decode M_X12_sumUp.2.2.1 36 = .ok (.if_icmp .ne 8, 3) := by decide +kernel
theorem dX12_sumUp_39 : decode M_X12_sumUp.2.2.1 39 = .ok (.bipush 8, 2) := by decide +kernel
theorem dX12_sumUp_41 : decode M_X12_sumUp.2.2.1 41 = .ok (.goto 5, 3) := by decide +kernel
theorem dX12_sumUp_44 : decode M_X12_sumUp.2.2.1 44 = .ok (.bipush 9, 2) := by decide +kernel
theorem dX12_sumUp_46 : decode M_X12_sumUp.2.2.1 46 = .ok (.istore_n 1, 1) := by decide +kernel
theorem dX12_sumUp_47 : decode M_X12_sumUp.2.2.1 47 = .ok (.aload_n 0, 1) := by decide +kernel
theorem dX12_sumUp_48 : decode M_X12_sumUp.2.2.1 48 = .ok (.invokevirtual 279, 3) := by decide +kernel
theorem dX12_sumUp_51 : decode M_X12_sumUp.2.2.1 51 = .ok (.aload_n 0, 1) := by decide +kernel
theorem dX12_sumUp_52 : decode M_X12_sumUp.2.2.1 52 = .ok (.invokevirtual 288, 3) := by decide +kernel
theorem dX12_sumUp_55 : decode M_X12_sumUp.2.2.1 55 = .ok (.ifCond .ne 5, 3) := by decide +kernel
theorem dX12_sumUp_58 : decode M_X12_sumUp.2.2.1 58 = .ok (.iconst 0, 1) := by decide +kernel
theorem dX12_sumUp_59 : decode M_X12_sumUp.2.2.1 59 = .ok (.ireturn, 1) := by decide +kernel
theorem dX12_sumUp_60 : decode M_X12_sumUp.2.2.1 60 = .ok (.aload_n 0, 1) := by decide +kernel
theorem dX12_sumUp_61 : decode M_X12_sumUp.2.2.1 61 = .ok (.iload_n 1, 1) := by decide +kernel
theorem dX12_sumUp_62 : decode M_X12_sumUp.2.2.1 62 = .ok (.iconst 0, 1) := by decide +kernel
theorem dX12_sumUp_63 : decode M_X12_sumUp.2.2.1 63 = .ok (.invokevirtual 292, 3) := by decide +kernel
theorem dX12_sumUp_66 : decode M_X12_sumUp.2.2.1 66 = .ok (.goto (-57), 3) := by decide +kernel
theorem dX12_sumUp_69 : decode M_X12_sumUp.2.2.1 69 = .ok (.iconst 1, 1) := by decide +kernel
theorem dX12_sumUp_70 : decode M_X12_sumUp.2.2.1 70 = .ok (.ireturn, 1) := by decide +kernel
theorem dX12_product_0 : decode M_X12_product.2.2.1 0 = .ok (.aload_n 0, 1) := by decide +kernel
theorem dX12_product_1 : decode M_X12_product.2.2.1 1 = .ok (.invokevirtual 296, 3) := by decide +kernel
theorem dX12_product_4 : decode M_X12_product.2.2.1 4 = .ok (.ifCond .ne 5, 3) := by decide +kernel
theorem dX12_product_7 : decode M_X12_product.2.2.1 7 = .ok (.iconst 0, 1) := by decide +kernel
theorem dX12_product_8 : decode M_X12_product.2.2.1 8 = .ok (.ireturn, 1) := by decide +kernel
theorem dX12_product_9 : decode M_X12_product.2.2.1 9 = .ok (.aload_n 0, 1) := by decide +kernel
theorem dX12_product_10 : decode M_X12_product.2.2.1 10 = .ok (.getfield 255, 3) := by decide +kernel
theorem dX12_product_13 : decode M_X12_product.2.2.1 13 = .ok (.sipush 142, 3) := by decide +kernel
theorem dX12_product_16 : decode M_X12_product.2.2.1 16 = .ok (.if_icmp .eq 13, 3) := by decide +kernel
theorem dX12_product_19 : decode M_X12_product.2.2.1 19 = .ok (.aload_n 0, 1) := by decide +kernel
theorem dX12_product_20 : decode M_X12_product.2.2.1 20 = .ok (.getfield 255, 3) := by decide +kernel
theorem dX12_product_23 : decode M_X12_product.2.2.1 23 = .ok (.sipush 147, 3) := by decide +kernel
theorem dX12_product_26 : decode M_X12_product.2.2.1 26 = .ok (.if_icmp .ne 90, 3) := by decide +kernel
theorem dX12_product_29 : decode M_X12_product.2.2.1 29 = .ok (.aload_n 0, 1) := by decide +kernel
theorem dX12_product_30 : decode M_X12_product.2.2.1 30 = .ok (.getfield 255, 3) := by decide +kernel
theorem dX12_product_33 : decode M_X12_product.2.2.1 33 = .ok (.sipush 147, 3) := by decide +kernel
theorem dX12_product_36 : decode M_X12_product.2.2.1 36 = .ok (.if_icmp .ne 7, 3) := by decide +kernel
theorem dX12_product_39 : decode M_X12_product.2.2.1 39 = .ok (.iconst 1, 1) := by decide +kernel
theorem dX12_product_40 : decode M_X12_product.2.2.1 40 = .ok (.goto 4, 3) := by decide +kernel
theorem dX12_product_43 : decode M_X12_product.2.2.1 43 = .ok (.iconst 0, 1) := by decide +kernel
theorem dX12_product_44 : decode M_X12_product.2.2.1 44 = .ok (.istore_n 1, 1) := by decide +kernel
theorem dX12_product_45 : decode M_X12_product.2.2.1 45 = .ok (.aload_n 0, 1) := by decide +kernel
theorem dX12_product_46 : decode M_X12_product.2.2.1 46 = .ok (.invokevirtual 279, 3) := by decide +kernel
theorem dX12_product_49 : decode M_X12_product.2.2.1 49 = .ok (.iload_n 1, 1) := by decide +kernel
theorem dX12_product_50 : decode M_X12_product.2.2.1 50 = .ok (.ifCond .eq 47, 3) := by decide +kernel
theorem dX12_product_53 : decode M_X12_product.2.2.1 53 = .ok (.aload_n 0, 1) := by decide +kernel
theorem dX12_product_54 : decode M_X12_product.2.2.1 54 = .ok (.getfield 255, 3) := by decide +kernel
theorem dX12_product_57 : decode M_X12_product.2.2.1 57 = .ok (.iconst 2, 1) := by decide +kernel
theorem dX12_product_58 : decode M_X12_product.2.2.1 58 = .ok (.if_icmp .eq 9, 3) := by decide +kernel
theorem dX12_product_61 : decode M_X12_product.2.2.1 61 = .ok (.aload_n 0, 1) := by decide +kernel
theorem dX12_product_62 : decode M_X12_product.2.2.1 62 = .ok (.iconst 1, 1) := by decide +kernel
theorem dX12_product_63 : decode M_X12_product.2.2.1 63 = .ok (.invokevirtual 276, 3) := by decide +kernel
theorem dX12_product_66 : decode M_X12_product.2.2.1 66 = .ok (.ireturn, 1) := by decide +kernel
theorem dX12_product_67 : decode M_X12_product.2.2.1 67 = .ok (.aload_n 0, 1) := by decide +kernel
theorem dX12_product_68 : decode M_X12_product.2.2.1 68 = .ok (.getfield 267, 3) := by decide +kernel
theorem dX12_product_71 : decode M_X12_product.2.2.1 71 = .ok (.ifCond .ne 9, 3) := by decide +kernel
theorem dX12_product_74 : decode M_X12_product.2.2.1 74 = .ok (.aload_n 0, 1) := by decide +kernel
theorem dX12_product_75 : decode M_X12_product.2.2.1 75 = .ok (.iconst 2, 1) := by decide +kernel
theorem dX12_product_76 : decode M_X12_product.2.2.1 76 = .ok (.invokevirtual 276, 3) := by decide +kernel
theorem dX12_product_79 : decode M_X12_product.2.2.1 79 = .ok (.ireturn, 1) := by decide +kernel
theorem dX12_product_80 : decode M_X12_product.2.2.1 80 = .ok (.aload_n 0, 1) := by decide +kernel
theorem dX12_product_81 : decode M_X12_product.2.2.1 81 = .ok (.bipush 11, 2) := by decide +kernel
theorem dX12_product_83 : decode M_X12_product.2.2.1 83 = .ok (.aload_n 0, 1) := by decide +kernel
theorem dX12_product_84 : decode M_X12_product.2.2.1 84 = .ok (.getfield 267, 3) := by decide +kernel
theorem dX12_product_87 : decode M_X12_product.2.2.1 87 = .ok (.invokevirtual 292, 3) := by decide +kernel
theorem dX12_product_90 : decode M_X12_product.2.2.1 90 = .ok (.aload_n 0, 1) := by decide +kernel
theorem dX12_product_91 : decode M_X12_product.2.2.1 91 = .ok (.invokevirtual 279, 3) := by decide +kernel
theorem dX12_product_94 : decode M_X12_product.2.2.1 94 = .ok (.goto 19, 3) := by decide +kernel
theorem dX12_product_97 : decode M_X12_product.2.2.1 97 = .ok (.aload_n 0, 1) := by decide +kernel
theorem dX12_product_98 : decode M_X12_product.2.2.1 98 = .ok (.invokevirtual 296, 3) := by decide +kernel
theorem dX12_product_101 : decode M_X12_product.2.2.1 101 = .ok (.ifCond .ne 5, 3) := by decide +kernel
theorem dX12_product_104 : decode M_X12_product.2.2.1 104 = .ok (.iconst 0, 1) := by decide +kernel
theorem dX12_product_105 : decode M_X12_product.2.2.1 105 = .ok (.ireturn, 1) := by decide +kernel
theorem dX12_product_106 : decode M_X12_product.2.2.1 106 = .ok (.aload_n 0, 1) := by decide +kernel
theorem dX12_product_107 : decode M_X12_product.2.2.1 107 = .ok (.bipush 10, 2) := by decide +kernel
theorem dX12_product_109 : decode M_X12_product.2.2.1 109 = .ok (.iconst 0, 1) := by decide +kernel
theorem dX12_product_110 : decode M_X12_product.2.2.1 110 = .ok (.invokevirtual 292, 3) := by decide +kernel
theorem dX12_product_113 : decode M_X12_product.2.2.1 113 = .ok (.goto (-104), 3) := by decide +kernel
theorem dX12_product_116 : decode M_X12_product.2.2.1 116 = .ok (.iconst 1, 1) := by decide +kernel
theorem dX12_product_117 : decode M_X12_product.2.2.1 117 = .ok (.ireturn, 1) := by decide +kernel
theorem dX12_unit_0 : decode M_X12_unit.2.2.1 0 = .ok (.aload_n 0, 1) := by decide +kernel
theorem dX12_unit_1 : decode M_X12_unit.2.2.1 1 = .ok (.getfield 255, 3) := by decide +kernel
theorem dX12_unit_4 : decode M_X12_unit.2.2.1 4 = .ok (.bipush 21, 2) := by decide +kernel
theorem dX12_unit_6 : decode M_X12_unit.2.2.1 6 = .ok (.bipush 27, 2) := by decide +kernel
theorem dX12_unit_8 : decode M_X12_unit.2.2.1 8 = .ok (.invokestatic 147, 3) := by decide +kernel
theorem dX12_unit_11 : decode M_X12_unit.2.2.1 11 = .ok (.istore_n 1, 1) := by decide +kernel
theorem dX12_unit_12 : decode M_X12_unit.2.2.1 12 = .ok (.aload_n 0, 1) := by decide +kernel
theorem dX12_unit_13 : decode M_X12_unit.2.2.1 13 = .ok (.getfield 255, 3) := by decide +kernel
theorem dX12_unit_16 : decode M_X12_unit.2.2.1 16 = .ok (.iconst 2, 1) := by decide +kernel
theorem dX12_unit_17 : decode M_X12_unit.2.2.1 17 = .ok (.if_icmp .eq 13, 3) := by decide +kernel
theorem dX12_unit_20 : decode M_X12_unit.2.2.1 20 = .ok (.iload_n 1, 1) := by decide +kernel
theorem dX12_unit_21 : decode M_X12_unit.2.2.1 21 = .ok (.ifCond .ne 9, 3) := by decide +kernel
theorem dX12_unit_24 : decode M_X12_unit.2.2.1 24 = .ok (.aload_n 0, 1) := by decide +kernel
theorem dX12_unit_25 : decode M_X12_unit.2.2.1 25 = .ok (.iconst 1, 1) := by decide +kernel
theorem dX12_unit_26 : decode M_X12_unit.2.2.1 26 = .ok (.invokevirtual 276, 3) := by decide +kernel
theorem dX12_unit_29 : decode M_X12_unit.2.2.1 29 = .ok (.ireturn, 1) := by decide +kernel
theorem dX12_unit_30 : decode M_X12_unit.2.2.1 30 = .ok (.aload_n 0, 1) := by decide +kernel
theorem dX12_unit_31 : decode M_X12_unit.2.2.1 31 = .ok (.iload_n 1, 1) := by decide +kernel
theorem dX12_unit_32 : decode M_X12_unit.2.2.1 32 = .ok (.ifCond .eq 13, 3) := by decide +kernel
theorem dX12_unit_35 : decode M_X12_unit.2.2.1 35 = .ok (.aload_n 0, 1) := by decide +kernel
theorem dX12_unit_36 : decode M_X12_unit.2.2.1 36 = .ok (.getfield 255, 3) := by decide +kernel
theorem dX12_unit_39 : decode M_X12_unit.2.2.1 39 = .ok (.bipush 20, 2) := by decide +kernel
theorem dX12_unit_41 : decode M_X12_unit.2.2.1 41 = .ok (.isub, 1) := by decide +kernel
theorem dX12_unit_42 : decode M_X12_unit.2.2.1 42 = .ok (.goto 4, 3) := by decide +kernel
theorem dX12_unit_45 : decode M_X12_unit.2.2.1 45 = .ok (.iconst 0, 1) := by decide +kernel
theorem dX12_unit_46 : decode M_X12_unit.2.2.1 46 = .ok (.aload_n 0, 1) := by decide +kernel
theorem dX12_unit_47 : decode M_X12_unit.2.2.1 47 = .ok (.getfield 267, 3) := by decide +kernel
theorem dX12_unit_50 : decode M_X12_unit.2.2.1 50 = .ok (.invokevirtual 292, 3) := by decide +kernel
theorem dX12_unit_53 : decode M_X12_unit.2.2.1 53 = .ok (.aload_n 0, 1) := by decide +kernel
theorem dX12_unit_54 : decode M_X12_unit.2.2.1 54 = .ok (.invokevirtual 279, 3) := by decide +kernel
theorem dX12_unit_57 : decode M_X12_unit.2.2.1 57 = .ok (.iconst 1, 1) := by decide +kernel
theorem dX12_unit_58 : decode M_X12_unit.2.2.1 58 = .ok (.ireturn, 1) := by decide +kernel
theorem dX12_any_0 : decode M_X12_any.2.2.1 0 = .ok (.aload_n 0, 1) := by decide +kernel
theorem dX12_any_1 : decode M_X12_any.2.2.1 1 = .ok (.invokevirtual 299, 3) := by decide +kernel
theorem dX12_any_4 : decode M_X12_any.2.2.1 4 = .ok (.ifCond .ne 5, 3) := by decide +kernel
theorem dX12_any_7 : decode M_X12_any.2.2.1 7 = .ok (.iconst 0, 1) := by decide +kernel
theorem dX12_any_8 : decode M_X12_any.2.2.1 8 = .ok (.ireturn, 1) := by decide +kernel
theorem dX12_any_9 : decode M_X12_any.2.2.1 9 = .ok (.aload_n 0, 1) := by decide +kernel
theorem dX12_any_10 : decode M_X12_any.2.2.1 10 = .ok (.getfield 255, 3) := by decide +kernel
theorem dX12_any_13 : decode M_X12_any.2.2.1 13 = .ok (.iconst 4, 1) := by decide +kernel
theorem dX12_any_14 : decode M_X12_any.2.2.1 14 = .ok (.if_icmp .ne 26, 3) := by decide +kernel
theorem dX12_any_17 : decode M_X12_any.2.2.1 17 = .ok (.aload_n 0, 1) := by decide +kernel
theorem dX12_any_18 : decode M_X12_any.2.2.1 18 = .ok (.invokevirtual 279, 3) := by decide +kernel
theorem dX12_any_21 : decode M_X12_any.2.2.1 21 = .ok (.aload_n 0, 1) := by decide +kernel
theorem dX12_any_22 : decode M_X12_any.2.2.1 22 = .ok (.invokevirtual 299, 3) := by decide +kernel
theorem dX12_any_25 : decode M_X12_any.2.2.1 25 = .ok (.ifCond .ne 5, 3) := by decide +kernel
theorem dX12_any_28 : decode M_X12_any.2.2.1 28 = .ok (.iconst 0, 1) := by decide +kernel
theorem dX12_any_29 : decode M_X12_any.2.2.1 29 = .ok (.ireturn, 1) := by decide +kernel
theorem dX12_any_30 : decode M_X12_any.2.2.1 30 = .ok (.aload_n 0, 1) := by decide +kernel
theorem dX12_any_31 : decode M_X12_any.2.2.1 31 = .ok (.bipush 17, 2) := by decide +kernel
theorem dX12_any_33 : decode M_X12_any.2.2.1 33 = .ok (.iconst 0, 1) := by decide +kernel
theorem dX12_any_34 : decode M_X12_any.2.2.1 34 = .ok (.invokevirtual 292, 3) := by decide +kernel
theorem dX12_any_37 : decode M_X12_any.2.2.1 37 = .ok (.goto (-28), 3) := by decide +kernel
theorem dX12_any_40 : decode M_X12_any.2.2.1 40 = .ok (.iconst 1, 1) := by decide +kernel
theorem dX12_any_41 : decode M_X12_any.2.2.1 41 = .ok (.ireturn, 1) := by decide +kernel
theorem dX12_every_0 : decode M_X12_every.2.2.1 0 = .ok (.aload_n 0, 1) := by decide +kernel
theorem dX12_every_1 : decode M_X12_every.2.2.1 1 = .ok (.invokevirtual 302, 3) := by decide +kernel
theorem dX12_every_4 : decode M_X12_every.2.2.1 4 = .ok (.ifCond .ne 5, 3) := by decide +kernel
theorem dX12_every_7 : decode M_X12_every.2.2.1 7 = .ok (.iconst 0, 1) := by decide +kernel
theorem dX12_every_8 : decode M_X12_every.2.2.1 8 = .ok (.ireturn, 1) := by decide +kernel
theorem dX12_every_9 : decode M_X12_every.2.2.1 9 = .ok (.aload_n 0, 1) := by decide +kernel
theorem dX12_every_10 : decode M_X12_every.2.2.1 10 = .ok (.getfield 255, 3) := by decide +kernel
theorem dX12_every_13 : decode M_X12_every.2.2.1 13 = .ok (.iconst 5, 1) := by decide +kernel
theorem dX12_every_14 : decode M_X12_every.2.2.1 14 = .ok (.if_icmp .ne 26, 3) := by decide +kernel
theorem dX12_every_17 : decode M_X12_every.2.2.1 17 = .ok (.aload_n 0, 1) := by decide +kernel
theorem dX12_every_18 : decode M_X12_every.2.2.1 18 = .ok (.invokevirtual 279, 3) := by decide +kernel
theorem dX12_every_21 : decode M_X12_every.2.2.1 21 = .ok (.aload_n 0, 1) := by decide +kernel
theorem dX12_every_22 : decode M_X12_every.2.2.1 22 = .ok (.invokevirtual 302, 3) := by decide +kernel
theorem dX12_every_25 : decode M_X12_every.2.2.1 25 = .ok (.ifCond .ne 5, 3) := by decide +kernel
theorem dX12_every_28 : decode M_X12_every.2.2.1 28 = .ok (.iconst 0, 1) := by decide +kernel
theorem dX12_every_29 : decode M_X12_every.2.2.1 29 = .ok (.ireturn, 1) := by decide +kernel
theorem dX12_every_30 : decode M_X12_every.2.2.1 30 = .ok (.aload_n 0, 1) := by decide +kernel
theorem dX12_every_31 : decode M_X12_every.2.2.1 31 = .ok (.bipush 16, 2) := by decide +kernel
theorem dX12_every_33 : decode M_X12_every.2.2.1 33 = .ok (.iconst 0, 1) := by decide +kernel
theorem dX12_every_34 : decode M_X12_every.2.2.1 34 = .ok (.invokevirtual 292, 3) := by decide +kernel
theorem dX12_every_37 : decode M_X12_every.2.2.1 37 = .ok (.goto (-28), 3) := by decide +kernel
theorem dX12_every_40 : decode M_X12_every.2.2.1 40 = .ok (.iconst 1, 1) := by decide +kernel
theorem dX12_every_41 : decode M_X12_every.2.2.1 41 = .ok (.ireturn, 1) := by decide +kernel
theorem dX12_one_0 : decode M_X12_one.2.2.1 0 = .ok (.aload_n 0, 1) := by decide +kernel
theorem dX12_one_1 : decode M_X12_one.2.2.1 1 = .ok (.getfield 255, 3) := by decide +kernel
theorem dX12_one_4 : decode M_X12_one.2.2.1 4 = .ok (.bipush 6, 2) := by decide +kernel
theorem dX12_one_6 : decode M_X12_one.2.2.1 6 = .ok (.if_icmp .ne 38, 3) := by decide +kernel
theorem dX12_one_9 : decode M_X12_one.2.2.1 9 = .ok (.aload_n 0, 1) := by decide +kernel
theorem dX12_one_10 : decode M_X12_one.2.2.1 10 = .ok (.invokevirtual 305, 3) := by decide +kernel
theorem dX12_one_13 : decode M_X12_one.2.2.1 13 = .ok (.ifCond .eq 10, 3) := by decide +kernel
theorem dX12_one_16 : decode M_X12_one.2.2.1 16 = .ok (.aload_n 0, 1) := by decide +kernel
theorem dX12_one_17 : decode M_X12_one.2.2.1 17 = .ok (.invokevirtual 302, 3) := by decide +kernel
theorem dX12_one_20 : decode M_X12_one.2.2.1 20 = .ok (.ifCond .ne 5, 3) := by decide +kernel
theorem dX12_one_23 : decode M_X12_one.2.2.1 23 = .ok (.iconst 0, 1) := by decide +kernel
theorem dX12_one_24 : decode M_X12_one.2.2.1 24 = .ok (.ireturn, 1) := by decide +kernel
theorem dX12_one_25 : decode M_X12_one.2.2.1 25 = .ok (.aload_n 0, 1) := by decide +kernel
theorem dX12_one_26 : decode M_X12_one.2.2.1 26 = .ok (.dup, 1) := by decide +kernel
theorem dX12_one_27 : decode M_X12_one.2.2.1 27 = .ok (.getfield 285, 3) := by decide +kernel
theorem dX12_one_30 : decode M_X12_one.2.2.1 30 = .ok (.iconst 1, 1) := by decide +kernel
theorem dX12_one_31 : decode M_X12_one.2.2.1 31 = .ok (.isub, 1) := by decide +kernel
theorem dX12_one_32 : decode M_X12_one.2.2.1 32 = .ok (.putfield 285, 3) := by decide +kernel
theorem dX12_one_35 : decode M_X12_one.2.2.1 35 = .ok (.aload_n 0, 1) := by decide +kernel
theorem dX12_one_36 : decode M_X12_one.2.2.1 36 = .ok (.bipush 15, 2) := by decide +kernel
theorem dX12_one_38 : decode M_X12_one.2.2.1 38 = .ok (.iconst 0, 1) := by decide +kernel
theorem dX12_one_39 : decode M_X12_one.2.2.1 39 = .ok (.invokevirtual 292, 3) := by decide +kernel
theorem dX12_one_42 : decode M_X12_one.2.2.1 42 = .ok (.iconst 1, 1) := by decide +kernel
theorem dX12_one_43 : decode M_X12_one.2.2.1 43 = .ok (.ireturn, 1) := by decide +kernel
theorem dX12_one_44 : decode M_X12_one.2.2.1 44 = .ok (.aload_n 0, 1) := by decide +kernel
theorem dX12_one_45 : decode M_X12_one.2.2.1 45 = .ok (.getfield 255, 3) := by decide +kernel
theorem dX12_one_48 : decode M_X12_one.2.2.1 48 = .ok (.sipush 140, 3) := by decide +kernel
theorem dX12_one_51 : decode M_X12_one.2.2.1 51 = .ok (.if_icmp .ne 41, 3) := by decide +kernel
theorem dX12_one_54 : decode M_X12_one.2.2.1 54 = .ok (.aload_n 0, 1) := by decide +kernel
theorem dX12_one_55 : decode M_X12_one.2.2.1 55 = .ok (.invokevirtual 305, 3) := by decide +kernel
theorem dX12_one_58 : decode M_X12_one.2.2.1 58 = .ok (.ifCond .eq 20, 3) := by decide +kernel
theorem dX12_one_61 : decode M_X12_one.2.2.1 61 = .ok (.aload_n 0, 1) := by decide +kernel
theorem dX12_one_62 : decode M_X12_one.2.2.1 62 = .ok (.invokevirtual 308, 3) := by decide +kernel
theorem dX12_one_65 : decode M_X12_one.2.2.1 65 = .ok (.ifCond .eq 13, 3) := by decide +kernel
theorem dX12_one_68 : decode M_X12_one.2.2.1 68 = .ok (.aload_n 0, 1) := by decide +kernel
theorem dX12_one_69 : decode M_X12_one.2.2.1 69 = .ok (.sipush 141, 3) := by decide +kernel
theorem dX12_one_72 : decode M_X12_one.2.2.1 72 = .ok (.invokevirtual 311, 3) := by decide +kernel
theorem dX12_one_75 : decode M_X12_one.2.2.1 75 = .ok (.ifCond .ne 5, 3) := by decide +kernel
theorem dX12_one_78 : decode M_X12_one.2.2.1 78 = .ok (.iconst 0, 1) := by decide +kernel
theorem dX12_one_79 : decode M_X12_one.2.2.1 79 = .ok (.ireturn, 1) := by decide +kernel
theorem dX12_one_80 : decode M_X12_one.2.2.1 80 = .ok (.aload_n 0, 1) := by decide +kernel
theorem dX12_one_81 : decode M_X12_one.2.2.1 81 = .ok (.dup, 1) := by decide +kernel
theorem dX12_one_82 : decode M_X12_one.2.2.1 82 = .ok (.getfield 285, 3) := by decide +kernel
theorem dX12_one_85 : decode M_X12_one.2.2.1 85 = .ok (.iconst 1, 1) := by decide +kernel
theorem dX12_one_86 : decode M_X12_one.2.2.1 86 = .ok (.isub, 1) := by decide +kernel
theorem dX12_one_87 : decode M_X12_one.2.2.1 87 = .ok (.putfield 285, 3) := by decide +kernel
theorem dX12_one_90 : decode M_X12_one.2.2.1 90 = .ok (.iconst 1, 1) := by decide +kernel
theorem dX12_one_91 : decode M_X12_one.2.2.1 91 = .ok (.ireturn, 1) := by decide +kernel
theorem dX12_one_92 : decode M_X12_one.2.2.1 92 = .ok (.aload_n 0, 1) := by decide +kernel
theorem dX12_one_93 : decode M_X12_one.2.2.1 93 = .ok (.invokevirtual 314, 3) := by decide +kernel
theorem dX12_one_96 : decode M_X12_one.2.2.1 96 = .ok (.ifCond .ne 5, 3) := by decide +kernel
theorem dX12_one_99 : decode M_X12_one.2.2.1 99 = .ok (.iconst 0, 1) := by decide +kernel
theorem dX12_one_100 : decode M_X12_one.2.2.1 100 = .ok (.ireturn, 1) := by decide +kernel
theorem dX12_one_101 : decode M_X12_one.2.2.1 101 = .ok (.aload_n 0, 1) := by decide +kernel
theorem dX12_one_102 : decode M_X12_one.2.2.1 102 = .ok (.getfield 255, 3) := by decide +kernel
theorem dX12_one_105 : decode M_X12_one.2.2.1 105 = .ok (.sipush 160, 3) := by decide +kernel
theorem dX12_one_108 : decode M_X12_one.2.2.1 108 = .ok (.if_icmp .ne 8, 3) := by decide +kernel
theorem dX12_one_111 : decode M_X12_one.2.2.1 111 = .ok (.bipush 12, 2) := by decide +kernel
theorem dX12_one_113 : decode M_X12_one.2.2.1 113 = .ok (.goto 34, 3) := by decide +kernel
theorem dX12_one_116 : decode M_X12_one.2.2.1 116 = .ok (.aload_n 0, 1) := by decide +kernel
theorem dX12_one_117 : decode M_X12_one.2.2.1 117 = .ok (.getfield 255, 3) := by decide +kernel
theorem dX12_one_120 : decode M_X12_one.2.2.1 120 = .ok (.sipush 161, 3) := by decide +kernel
theorem dX12_one_123 : decode M_X12_one.2.2.1 123 = .ok (.if_icmp .ne 8, 3) := by decide +kernel
theorem dX12_one_126 : decode M_X12_one.2.2.1 126 = .ok (.bipush 13, 2) := by decide +kernel
theorem dX12_one_128 : decode M_X12_one.2.2.1 128 = .ok (.goto 19, 3) := by decide +kernel
theorem dX12_one_131 : decode M_X12_one.2.2.1 131 = .ok (.aload_n 0, 1) := by decide +kernel
theorem dX12_one_132 : decode M_X12_one.2.2.1 132 = .ok (.getfield 255, 3) := by decide +kernel
theorem dX12_one_135 : decode M_X12_one.2.2.1 135 = .ok (.sipush 162, 3) := by decide +kernel
theorem dX12_one_138 : decode M_X12_one.2.2.1 138 = .ok (.if_icmp .ne 8, 3) := by decide +kernel
theorem dX12_one_141 : decode M_X12_one.2.2.1 141 = .ok (.bipush 14, 2) := by decide +kernel
theorem dX12_one_143 : decode M_X12_one.2.2.1 143 = .ok (.goto 4, 3) := by decide +kernel
theorem dX12_one_146 : decode M_X12_one.2.2.1 146 = .ok (.iconst (-1), 1) := by decide +kernel
theorem dX12_one_147 : decode M_X12_one.2.2.1 147 = .ok (.istore_n 1, 1) := by decide +kernel
theorem dX12_one_148 : decode M_X12_one.2.2.1 148 = .ok (.iload_n 1, 1) := by decide +kernel
theorem dX12_one_149 : decode M_X12_one.2.2.1 149 = .ok (.iconst (-1), 1) := by decide +kernel
theorem dX12_one_150 : decode M_X12_one.2.2.1 150 = .ok (.if_icmp .ne 9, 3) := by decide +kernel
theorem dX12_one_153 : decode M_X12_one.2.2.1 153 = .ok (.aload_n 0, 1) := by decide +kernel
theorem dX12_one_154 : decode M_X12_one.2.2.1 154 = .ok (.iconst 1, 1) := by decide +kernel
theorem dX12_one_155 : decode M_X12_one.2.2.1 155 = .ok (.invokevirtual 276, 3) := by decide +kernel
theorem dX12_one_158 : decode M_X12_one.2.2.1 158 = .ok (.ireturn, 1) := by decide +kernel
theorem dX12_one_159 : decode M_X12_one.2.2.1 159 = .ok (.aload_n 0, 1) := by decide +kernel
theorem dX12_one_160 : decode M_X12_one.2.2.1 160 = .ok (.invokevirtual 279, 3) := by decide +kernel
theorem dX12_one_163 : decode M_X12_one.2.2.1 163 = .ok (.aload_n 0, 1) := by decide +kernel
theorem dX12_one_164 : decode M_X12_one.2.2.1 164 = .ok (.invokevirtual 314, 3) := by decide +kernel
theorem dX12_one_167 : decode M_X12_one.2.2.1 167 = .ok (.ifCond .ne 5, 3) := by decide +kernel
theorem dX12_one_170 : decode M_X12_one.2.2.1 170 = .ok (.iconst 0, 1) := by decide +kernel
theorem dX12_one_171 : decode M_X12_one.2.2.1 171 = .ok (.ireturn, 1) := by decide +kernel
theorem dX12_one_172 : decode M_X12_one.2.2.1 172 = .ok (.aload_n 0, 1) := by decide +kernel
theorem dX12_one_173 : decode M_X12_one.2.2.1 173 = .ok (.iload_n 1, 1) := by decide +kernel
theorem dX12_one_174 : decode M_X12_one.2.2.1 174 = .ok (.iconst 0, 1) := by decide +kernel
theorem dX12_one_175 : decode M_X12_one.2.2.1 175 = .ok (.invokevirtual 292, 3) := by decide +kernel
theorem dX12_one_178 : decode M_X12_one.2.2.1 178 = .ok (.iconst 1, 1) := by decide +kernel
theorem dX12_one_179 : decode M_X12_one.2.2.1 179 = .ok (.ireturn, 1) := by decide +kernel
theorem dX12_aLine_0 : decode M_X12_aLine.2.2.1 0 = .ok (.aload_n 0, 1) := by decide +kernel
theorem dX12_aLine_1 : decode M_X12_aLine.2.2.1 1 = .ok (.getfield 255, 3) := by decide +kernel
theorem dX12_aLine_4 : decode M_X12_aLine.2.2.1 4 = .ok (.bipush 11, 2) := by decide +kernel
theorem dX12_aLine_6 : decode M_X12_aLine.2.2.1 6 = .ok (.bipush 13, 2) := by decide +kernel
theorem dX12_aLine_8 : decode M_X12_aLine.2.2.1 8 = .ok (.invokestatic 147, 3) := by decide +kernel
theorem dX12_aLine_11 : decode M_X12_aLine.2.2.1 11 = .ok (.ifCond .ne 9, 3) := by decide +kernel
theorem dX12_aLine_14 : decode M_X12_aLine.2.2.1 14 = .ok (.aload_n 0, 1) := by decide +kernel
theorem dX12_aLine_15 : decode M_X12_aLine.2.2.1 15 = .ok (.iconst 1, 1) := by decide +kernel
theorem dX12_aLine_16 : decode M_X12_aLine.2.2.1 16 = .ok (.invokevirtual 276, 3) := by decide +kernel
theorem dX12_aLine_19 : decode M_X12_aLine.2.2.1 19 = .ok (.ireturn, 1) := by decide +kernel
theorem dX12_aLine_20 : decode M_X12_aLine.2.2.1 20 = .ok (.aload_n 0, 1) := by decide +kernel
theorem dX12_aLine_21 : decode M_X12_aLine.2.2.1 21 = .ok (.getfield 317, 3) := by decide +kernel
theorem dX12_aLine_24 : decode M_X12_aLine.2.2.1 24 = .ok (.bipush 16, 2) := by decide +kernel
theorem dX12_aLine_26 : decode M_X12_aLine.2.2.1 26 = .ok (.if_icmp .ne 9, 3) := by decide +kernel
theorem dX12_aLine_29 : decode M_X12_aLine.2.2.1 29 = .ok (.aload_n 0, 1) := by decide +kernel
theorem dX12_aLine_30 : decode M_X12_aLine.2.2.1 30 = .ok (.iconst 3, 1) := by decide +kernel
theorem dX12_aLine_31 : decode M_X12_aLine.2.2.1 31 = .ok (.invokevirtual 276, 3) := by decide +kernel
theorem dX12_aLine_34 : decode M_X12_aLine.2.2.1 34 = .ok (.ireturn, 1) := by decide +kernel
theorem dX12_aLine_35 : decode M_X12_aLine.2.2.1 35 = .ok (.aload_n 0, 1) := by decide +kernel
theorem dX12_aLine_36 : decode M_X12_aLine.2.2.1 36 = .ok (.getfield 76, 3) := by decide +kernel
theorem dX12_aLine_39 : decode M_X12_aLine.2.2.1 39 = .ok (.aload_n 0, 1) := by decide +kernel
theorem dX12_aLine_40 : decode M_X12_aLine.2.2.1 40 = .ok (.getfield 317, 3) := by decide +kernel
theorem dX12_aLine_43 : decode M_X12_aLine.2.2.1 43 = .ok (.aload_n 0, 1) := by decide +kernel
theorem dX12_aLine_44 : decode M_X12_aLine.2.2.1 44 = .ok (.getfield 255, 3) := by decide +kernel
theorem dX12_aLine_47 : decode M_X12_aLine.2.2.1 47 = .ok (.bipush 10, 2) := by decide +kernel
theorem dX12_aLine_49 : decode M_X12_aLine.2.2.1 49 = .ok (.isub, 1) := by decide +kernel
theorem dX12_aLine_50 : decode M_X12_aLine.2.2.1 50 = .ok (.iastore, 1) := by decide +kernel
theorem dX12_aLine_51 : decode M_X12_aLine.2.2.1 51 = .ok (.aload_n 0, 1) := by decide +kernel
theorem dX12_aLine_52 : decode M_X12_aLine.2.2.1 52 = .ok (.getfield 79, 3) := by decide +kernel
theorem dX12_aLine_55 : decode M_X12_aLine.2.2.1 55 = .ok (.aload_n 0, 1) := by decide +kernel
theorem dX12_aLine_56 : decode M_X12_aLine.2.2.1 56 = .ok (.getfield 317, 3) := by decide +kernel
theorem dX12_aLine_59 : decode M_X12_aLine.2.2.1 59 = .ok (.aload_n 0, 1) := by decide +kernel
theorem dX12_aLine_60 : decode M_X12_aLine.2.2.1 60 = .ok (.getfield 282, 3) := by decide +kernel
theorem dX12_aLine_63 : decode M_X12_aLine.2.2.1 63 = .ok (.iastore, 1) := by decide +kernel
theorem dX12_aLine_64 : decode M_X12_aLine.2.2.1 64 = .ok (.aload_n 0, 1) := by decide +kernel
theorem dX12_aLine_65 : decode M_X12_aLine.2.2.1 65 = .ok (.iconst 0, 1) := by decide +kernel
theorem dX12_aLine_66 : decode M_X12_aLine.2.2.1 66 = .ok (.putfield 285, 3) := by decide +kernel
theorem dX12_aLine_69 : decode M_X12_aLine.2.2.1 69 = .ok (.aload_n 0, 1) := by decide +kernel
theorem dX12_aLine_70 : decode M_X12_aLine.2.2.1 70 = .ok (.invokevirtual 279, 3) := by decide +kernel
theorem dX12_aLine_73 : decode M_X12_aLine.2.2.1 73 = .ok (.aload_n 0, 1) := by decide +kernel
theorem dX12_aLine_74 : decode M_X12_aLine.2.2.1 74 = .ok (.iconst 3, 1) := by decide +kernel
theorem dX12_aLine_75 : decode M_X12_aLine.2.2.1 75 = .ok (.invokevirtual 311, 3) := by decide +kernel
theorem dX12_aLine_78 : decode M_X12_aLine.2.2.1 78 = .ok (.ifCond .eq 10, 3) := by decide +kernel
theorem dX12_aLine_81 : decode M_X12_aLine.2.2.1 81 = .ok (.aload_n 0, 1) := by decide +kernel
theorem dX12_aLine_82 : decode M_X12_aLine.2.2.1 82 = .ok (.invokevirtual 308, 3) := by decide +kernel
theorem dX12_aLine_85 : decode M_X12_aLine.2.2.1 85 = .ok (.ifCond .ne 5, 3) := by decide +kernel
theorem dX12_aLine_88 : decode M_X12_aLine.2.2.1 88 = .ok (.iconst 0, 1) := by decide +kernel
theorem dX12_aLine_89 : decode M_X12_aLine.2.2.1 89 = .ok (.ireturn, 1) := by decide +kernel
theorem dX12_aLine_90 : decode M_X12_aLine.2.2.1 90 = .ok (.aload_n 0, 1) := by decide +kernel
theorem dX12_aLine_91 : decode M_X12_aLine.2.2.1 91 = .ok (.dup, 1) := by decide +kernel
theorem dX12_aLine_92 : decode M_X12_aLine.2.2.1 92 = .ok (.getfield 317, 3) := by decide +kernel
theorem dX12_aLine_95 : decode M_X12_aLine.2.2.1 95 = .ok (.iconst 1, 1) := by decide +kernel
theorem dX12_aLine_96 : decode M_X12_aLine.2.2.1 96 = .ok (.iadd, 1) := by decide +kernel
theorem dX12_aLine_97 : decode M_X12_aLine.2.2.1 97 = .ok (.putfield 317, 3) := by decide +kernel
theorem dX12_aLine_100 : decode M_X12_aLine.2.2.1 100 = .ok (.aload_n 0, 1) := by decide +kernel
theorem dX12_aLine_101 : decode M_X12_aLine.2.2.1 101 = .ok (.getfield 79, 3) := by decide +kernel
theorem dX12_aLine_104 : decode M_X12_aLine.2.2.1 104 = .ok (.aload_n 0, 1) := by decide +kernel
theorem dX12_aLine_105 : decode M_X12_aLine.2.2.1 105 = .ok (.getfield 317, 3) := by decide +kernel
theorem dX12_aLine_108 : decode M_X12_aLine.2.2.1 108 = .ok (.aload_n 0, 1) := by decide +kernel
theorem dX12_aLine_109 : decode M_X12_aLine.2.2.1 109 = .ok (.getfield 282, 3) := by decide +kernel
theorem dX12_aLine_112 : decode M_X12_aLine.2.2.1 112 = .ok (.iastore, 1) := by decide +kernel
theorem dX12_aLine_113 : decode M_X12_aLine.2.2.1 113 = .ok (.aload_n 0, 1) := by decide +kernel
theorem dX12_aLine_114 : decode M_X12_aLine.2.2.1 114 = .ok (.sipush 159, 3) := by decide +kernel
theorem dX12_aLine_117 : decode M_X12_aLine.2.2.1 117 = .ok (.invokevirtual 311, 3) := by decide +kernel
theorem dX12_aLine_120 : decode M_X12_aLine.2.2.1 120 = .ok (.ireturn, 1) := by decide +kernel
theorem dX12_rules_0 : decode M_X12_rules.2.2.1 0 = .ok (.aload_n 0, 1) := by decide +kernel
theorem dX12_rules_1 : decode M_X12_rules.2.2.1 1 = .ok (.iconst 0, 1) := by decide +kernel
theorem dX12_rules_2 : decode M_X12_rules.2.2.1 2 = .ok (.putfield 270, 3) := by decide +kernel
theorem dX12_rules_5 : decode M_X12_rules.2.2.1 5 = .ok (.aload_n 0, 1) := by decide +kernel
theorem dX12_rules_6 : decode M_X12_rules.2.2.1 6 = .ok (.iconst 0, 1) := by decide +kernel
theorem dX12_rules_7 : decode M_X12_rules.2.2.1 7 = .ok (.putfield 206, 3) := by decide +kernel
theorem dX12_rules_10 : decode M_X12_rules.2.2.1 10 = .ok (.aload_n 0, 1) := by decide +kernel
theorem dX12_rules_11 : decode M_X12_rules.2.2.1 11 = .ok (.iconst 0, 1) := by decide +kernel
theorem dX12_rules_12 : decode M_X12_rules.2.2.1 12 = .ok (.putfield 317, 3) := by decide +kernel
theorem dX12_rules_15 : decode M_X12_rules.2.2.1 15 = .ok (.aload_n 0, 1) := by decide +kernel
theorem dX12_rules_16 : decode M_X12_rules.2.2.1 16 = .ok (.iconst 0, 1) := by decide +kernel
theorem dX12_rules_17 : decode M_X12_rules.2.2.1 17 = .ok (.putfield 282, 3) := by decide +kernel
theorem dX12_rules_20 : decode M_X12_rules.2.2.1 20 = .ok (.aload_n 0, 1) := by decide +kernel
theorem dX12_rules_21 : decode M_X12_rules.2.2.1 21 = .ok (.getfield 79, 3) := by decide +kernel
theorem dX12_rules_24 : decode M_X12_rules.2.2.1 24 = .ok (.iconst 0, 1) := by decide +kernel
theorem dX12_rules_25 : decode M_X12_rules.2.2.1 25 = .ok (.iconst 0, 1) := by decide +kernel
theorem dX12_rules_26 : decode M_X12_rules.2.2.1 26 = .ok (.iastore, 1) := by decide +kernel
theorem dX12_rules_27 : decode M_X12_rules.2.2.1 27 = .ok (.aload_n 0, 1) := by decide +kernel
theorem dX12_rules_28 : decode M_X12_rules.2.2.1 28 = .ok (.invokevirtual 279, 3) := by decide +kernel
theorem dX12_rules_31 : decode M_X12_rules.2.2.1 31 = .ok (.iconst 1, 1) := by decide +kernel
theorem dX12_rules_32 : decode M_X12_rules.2.2.1 32 = .ok (.istore_n 1, 1) := by decide +kernel
theorem dX12_rules_33 : decode M_X12_rules.2.2.1 33 = .ok (.iload_n 1, 1) := by decide +kernel
theorem dX12_rules_34 : decode M_X12_rules.2.2.1 34 = .ok (.ifCond .eq 18, 3) := by decide +kernel
theorem dX12_rules_37 : decode M_X12_rules.2.2.1 37 = .ok (.aload_n 0, 1) := by decide +kernel
theorem dX12_rules_38 : decode M_X12_rules.2.2.1 38 = .ok (.getfield 255, 3) := by decide +kernel
theorem dX12_rules_41 : decode M_X12_rules.2.2.1 41 = .ok (.ifCond .eq 11, 3) := by decide +kernel
theorem dX12_rules_44 : decode M_X12_rules.2.2.1 44 = .ok (.aload_n 0, 1) := by decide +kernel
theorem dX12_rules_45 : decode M_X12_rules.2.2.1 45 = .ok (.invokevirtual 320, 3) := by decide +kernel
theorem dX12_rules_48 : decode M_X12_rules.2.2.1 48 = .ok (.istore_n 1, 1) := by decide +kernel
theorem dX12_rules_49 : decode M_X12_rules.2.2.1 49 = .ok (.goto (-16), 3) := by decide +kernel
theorem dX12_rules_52 : decode M_X12_rules.2.2.1 52 = .ok (.aload_n 0, 1) := by decide +kernel
theorem dX12_rules_53 : decode M_X12_rules.2.2.1 53 = .ok (.iconst 0, 1) := by decide +kernel
theorem dX12_rules_54 : decode M_X12_rules.2.2.1 54 = .ok (.putfield 203, 3) := by decide +kernel
theorem dX12_rules_57 : decode M_X12_rules.2.2.1 57 = .ok (.aload_n 0, 1) := by decide +kernel
theorem dX12_rules_58 : decode M_X12_rules.2.2.1 58 = .ok (.aload_n 0, 1) := by decide +kernel
theorem dX12_rules_59 : decode M_X12_rules.2.2.1 59 = .ok (.getfield 270, 3) := by decide +kernel
theorem dX12_rules_62 : decode M_X12_rules.2.2.1 62 = .ok (.putfield 323, 3) := by decide +kernel
theorem dX12_rules_65 : decode M_X12_rules.2.2.1 65 = .ok (.aload_n 0, 1) := by decide +kernel
theorem dX12_rules_66 : decode M_X12_rules.2.2.1 66 = .ok (.iload_n 1, 1) := by decide +kernel
theorem dX12_rules_67 : decode M_X12_rules.2.2.1 67 = .ok (.ifCond .eq 7, 3) := by decide +kernel
theorem dX12_rules_70 : decode M_X12_rules.2.2.1 70 = .ok (.iconst (-1), 1) := by decide +kernel
theorem dX12_rules_71 : decode M_X12_rules.2.2.1 71 = .ok (.goto 7, 3) := by decide +kernel
theorem dX12_rules_74 : decode M_X12_rules.2.2.1 74 = .ok (.aload_n 0, 1) := by decide +kernel
theorem dX12_rules_75 : decode M_X12_rules.2.2.1 75 = .ok (.getfield 273, 3) := by decide +kernel
theorem dX12_rules_78 : decode M_X12_rules.2.2.1 78 = .ok (.putfield 82, 3) := by decide +kernel
theorem dX12_rules_81 : decode M_X12_rules.2.2.1 81 = .ok (.iload_n 1, 1) := by decide +kernel
theorem dX12_rules_82 : decode M_X12_rules.2.2.1 82 = .ok (.ifCond .ne 5, 3) := by decide +kernel
theorem dX12_rules_85 : decode M_X12_rules.2.2.1 85 = .ok (.iconst (-1), 1) := by decide +kernel
theorem dX12_rules_86 : decode M_X12_rules.2.2.1 86 = .ok (.ireturn, 1) := by decide +kernel
theorem dX12_rules_87 : decode M_X12_rules.2.2.1 87 = .ok (.aload_n 0, 1) := by decide +kernel
theorem dX12_rules_88 : decode M_X12_rules.2.2.1 88 = .ok (.aload_n 0, 1) := by decide +kernel
theorem dX12_rules_89 : decode M_X12_rules.2.2.1 89 = .ok (.getfield 317, 3) := by decide +kernel
theorem dX12_rules_92 : decode M_X12_rules.2.2.1 92 = .ok (.putfield 326, 3) := by decide +kernel
theorem dX12_rules_95 : decode M_X12_rules.2.2.1 95 = .ok (.iconst 0, 1) := by decide +kernel
theorem dX12_rules_96 : decode M_X12_rules.2.2.1 96 = .ok (.istore_n 2, 1) := by decide +kernel
theorem dX12_rules_97 : decode M_X12_rules.2.2.1 97 = .ok (.iload_n 2, 1) := by decide +kernel
theorem dX12_rules_98 : decode M_X12_rules.2.2.1 98 = .ok (.aload_n 0, 1) := by decide +kernel
theorem dX12_rules_99 : decode M_X12_rules.2.2.1 99 = .ok (.getfield 326, 3) := by decide +kernel
theorem dX12_rules_102 : decode M_X12_rules.2.2.1 102 = .ok (.if_icmp .ge 21, 3) := by decide +kernel
theorem dX12_rules_105 : decode M_X12_rules.2.2.1 105 = .ok (.aload_n 0, 1) := by decide +kernel
theorem dX12_rules_106 : decode M_X12_rules.2.2.1 106 = .ok (.getfield 70, 3) := by decide +kernel
theorem dX12_rules_109 : decode M_X12_rules.2.2.1 109 = .ok (.iload_n 2, 1) := by decide +kernel
theorem dX12_rules_110 : decode M_X12_rules.2.2.1 110 = .ok (.aload_n 0, 1) := by decide +kernel
theorem dX12_rules_111 : decode M_X12_rules.2.2.1 111 = .ok (.getfield 76, 3) := by decide +kernel
theorem dX12_rules_114 : decode M_X12_rules.2.2.1 114 = .ok (.iload_n 2, 1) := by decide +kernel
theorem dX12_rules_115 : decode M_X12_rules.2.2.1 115 = .ok (.iaload, 1) := by decide +kernel
theorem dX12_rules_116 : decode M_X12_rules.2.2.1 116 = .ok (.iastore, 1) := by decide +kernel
theorem dX12_rules_117 : decode M_X12_rules.2.2.1 117 = .ok (.iinc 2 1, 3) := by decide +kernel
theorem dX12_rules_120 : decode M_X12_rules.2.2.1 120 = .ok (.goto (-23), 3) := by decide +kernel
theorem dX12_rules_123 : decode M_X12_rules.2.2.1 123 = .ok (.iconst 0, 1) := by decide +kernel
theorem dX12_rules_124 : decode M_X12_rules.2.2.1 124 = .ok (.istore_n 2, 1) := by decide +kernel
theorem dX12_rules_125 : decode M_X12_rules.2.2.1 125 = .ok (.iload_n 2, 1) := by decide +kernel
theorem dX12_rules_126 : decode M_X12_rules.2.2.1 126 = .ok (.aload_n 0, 1) := by decide +kernel
theorem dX12_rules_127 : decode M_X12_rules.2.2.1 127 = .ok (.getfield 326, 3) := by decide +kernel
theorem dX12_rules_130 : decode M_X12_rules.2.2.1 130 = .ok (.if_icmp .gt 21, 3) := by decide +kernel
theorem dX12_rules_133 : decode M_X12_rules.2.2.1 133 = .ok (.aload_n 0, 1) := by decide +kernel
theorem dX12_rules_134 : decode M_X12_rules.2.2.1 134 = .ok (.getfield 73, 3) := by decide +kernel
theorem dX12_rules_137 : decode M_X12_rules.2.2.1 137 = .ok (.iload_n 2, 1) := by decide +kernel
theorem dX12_rules_138 : decode M_X12_rules.2.2.1 138 = .ok (.aload_n 0, 1) := by decide +kernel
theorem dX12_rules_139 : decode M_X12_rules.2.2.1 139 = .ok (.getfield 79, 3) := by decide +kernel
theorem dX12_rules_142 : decode M_X12_rules.2.2.1 142 = .ok (.iload_n 2, 1) := by decide +kernel
theorem dX12_rules_143 : decode M_X12_rules.2.2.1 143 = .ok (.iaload, 1) := by decide +kernel
theorem dX12_rules_144 : decode M_X12_rules.2.2.1 144 = .ok (.iastore, 1) := by decide +kernel
theorem dX12_rules_145 : decode M_X12_rules.2.2.1 145 = .ok (.iinc 2 1, 3) := by decide +kernel
theorem dX12_rules_148 : decode M_X12_rules.2.2.1 148 = .ok (.goto (-23), 3) := by decide +kernel
theorem dX12_rules_151 : decode M_X12_rules.2.2.1 151 = .ok (.iconst 0, 1) := by decide +kernel
theorem dX12_rules_152 : decode M_X12_rules.2.2.1 152 = .ok (.istore_n 2, 1) := by decide +kernel
theorem dX12_rules_153 : decode M_X12_rules.2.2.1 153 = .ok (.iload_n 2, 1) := by decide +kernel
theorem dX12_rules_154 : decode M_X12_rules.2.2.1 154 = .ok (.iconst 2, 1) := by decide +kernel
theorem dX12_rules_155 : decode M_X12_rules.2.2.1 155 = .ok (.aload_n 0, 1) := by decide +kernel
theorem dX12_rules_156 : decode M_X12_rules.2.2.1 156 = .ok (.getfield 282, 3) := by decide +kernel
theorem dX12_rules_159 : decode M_X12_rules.2.2.1 159 = .ok (.imul, 1) := by decide +kernel
theorem dX12_rules_160 : decode M_X12_rules.2.2.1 160 = .ok (.if_icmp .ge 21, 3) := by decide +kernel
theorem dX12_rules_163 : decode M_X12_rules.2.2.1 163 = .ok (.aload_n 0, 1) := by decide +kernel
theorem dX12_rules_164 : decode M_X12_rules.2.2.1 164 = .ok (.getfield 64, 3) := by decide +kernel
theorem dX12_rules_167 : decode M_X12_rules.2.2.1 167 = .ok (.iload_n 2, 1) := by decide +kernel
theorem dX12_rules_168 : decode M_X12_rules.2.2.1 168 = .ok (.aload_n 0, 1) := by decide +kernel
theorem dX12_rules_169 : decode M_X12_rules.2.2.1 169 = .ok (.getfield 67, 3) := by decide +kernel
theorem dX12_rules_172 : decode M_X12_rules.2.2.1 172 = .ok (.iload_n 2, 1) := by decide +kernel
theorem dX12_rules_173 : decode M_X12_rules.2.2.1 173 = .ok (.iaload, 1) := by decide +kernel
theorem dX12_rules_174 : decode M_X12_rules.2.2.1 174 = .ok (.iastore, 1) := by decide +kernel
theorem dX12_rules_175 : decode M_X12_rules.2.2.1 175 = .ok (.iinc 2 1, 3) := by decide +kernel
theorem dX12_rules_178 : decode M_X12_rules.2.2.1 178 = .ok (.goto (-25), 3) := by decide +kernel
theorem dX12_rules_181 : decode M_X12_rules.2.2.1 181 = .ok (.aload_n 0, 1) := by decide +kernel
theorem dX12_rules_182 : decode M_X12_rules.2.2.1 182 = .ok (.getfield 326, 3) := by decide +kernel
theorem dX12_rules_185 : decode M_X12_rules.2.2.1 185 = .ok (.ireturn, 1) := by decide +kernel
theorem dX12_fault_0 : decode M_X12_fault.2.2.1 0 = .ok (.iload_n 1, 1) := by decide +kernel
theorem dX12_fault_1 : decode M_X12_fault.2.2.1 1 = .ok (.ifCond .ne 10, 3) := by decide +kernel
theorem dX12_fault_4 : decode M_X12_fault.2.2.1 4 = .ok (.aload_n 0, 1) := by decide +kernel
theorem dX12_fault_5 : decode M_X12_fault.2.2.1 5 = .ok (.getfield 323, 3) := by decide +kernel
theorem dX12_fault_8 : decode M_X12_fault.2.2.1 8 = .ok (.goto 16, 3) := by decide +kernel
theorem dX12_fault_11 : decode M_X12_fault.2.2.1 11 = .ok (.iload_n 1, 1) := by decide +kernel
theorem dX12_fault_12 : decode M_X12_fault.2.2.1 12 = .ok (.iconst 1, 1) := by decide +kernel
theorem dX12_fault_13 : decode M_X12_fault.2.2.1 13 = .ok (.if_icmp .ne 10, 3) := by decide +kernel
theorem dX12_fault_16 : decode M_X12_fault.2.2.1 16 = .ok (.aload_n 0, 1) := by decide +kernel
theorem dX12_fault_17 : decode M_X12_fault.2.2.1 17 = .ok (.getfield 82, 3) := by decide +kernel
theorem dX12_fault_20 : decode M_X12_fault.2.2.1 20 = .ok (.goto 4, 3) := by decide +kernel
theorem dX12_fault_23 : decode M_X12_fault.2.2.1 23 = .ok (.iconst (-1), 1) := by decide +kernel
theorem dX12_fault_24 : decode M_X12_fault.2.2.1 24 = .ok (.ireturn, 1) := by decide +kernel
theorem dX12_both_0 : decode M_X12_both.2.2.1 0 = .ok (.iload_n 0, 1) := by decide +kernel
theorem dX12_both_1 : decode M_X12_both.2.2.1 1 = .ok (.tableswitch 100 8 16 #[51, 55, 59, 100, 63, 74, 85, 100, 96], 51) := by decide +kernel
theorem dX12_both_52 : decode M_X12_both.2.2.1 52 = .ok (.iload_n 1, 1) := by decide +kernel
theorem dX12_both_53 : decode M_X12_both.2.2.1 53 = .ok (.iload_n 2, 1) := by decide +kernel
theorem dX12_both_54 : decode M_X12_both.2.2.1 54 = .ok (.iadd, 1) := by decide +kernel
theorem dX12_both_55 : decode M_X12_both.2.2.1 55 = .ok (.ireturn, 1) := by decide +kernel
theorem dX12_both_56 : decode M_X12_both.2.2.1 56 = .ok (.iload_n 1, 1) := by decide +kernel
theorem dX12_both_57 : decode M_X12_both.2.2.1 57 = .ok (.iload_n 2, 1) := by decide +kernel
theorem dX12_both_58 : decode M_X12_both.2.2.1 58 = .ok (.isub, 1) := by decide +kernel
theorem dX12_both_59 : decode M_X12_both.2.2.1 59 = .ok (.ireturn, 1) := by decide +kernel
theorem dX12_both_60 : decode M_X12_both.2.2.1 60 = .ok (.iload_n 1, 1) := by decide +kernel
theorem dX12_both_61 : decode M_X12_both.2.2.1 61 = .ok (.iload_n 2, 1) := by decide +kernel
theorem dX12_both_62 : decode M_X12_both.2.2.1 62 = .ok (.imul, 1) := by decide +kernel
theorem dX12_both_63 : decode M_X12_both.2.2.1 63 = .ok (.ireturn, 1) := by decide +kernel
theorem dX12_both_64 : decode M_X12_both.2.2.1 64 = .ok (.iload_n 1, 1) := by decide +kernel
theorem dX12_both_65 : decode M_X12_both.2.2.1 65 = .ok (.iload_n 2, 1) := by decide +kernel
theorem dX12_both_66 : decode M_X12_both.2.2.1 66 = .ok (.if_icmp .ge 7, 3) := by decide +kernel
theorem dX12_both_69 : decode M_X12_both.2.2.1 69 = .ok (.iconst 1, 1) := by decide +kernel
theorem dX12_both_70 : decode M_X12_both.2.2.1 70 = .ok (.goto 4, 3) := by decide +kernel
theorem dX12_both_73 : decode M_X12_both.2.2.1 73 = .ok (.iconst 0, 1) := by decide +kernel
theorem dX12_both_74 : decode M_X12_both.2.2.1 74 = .ok (.ireturn, 1) := by decide +kernel
theorem dX12_both_75 : decode M_X12_both.2.2.1 75 = .ok (.iload_n 1, 1) := by decide +kernel
theorem dX12_both_76 : decode M_X12_both.2.2.1 76 = .ok (.iload_n 2, 1) := by decide +kernel
theorem dX12_both_77 : decode M_X12_both.2.2.1 77 = .ok (.if_icmp .ne 7, 3) := by decide +kernel
theorem dX12_both_80 : decode M_X12_both.2.2.1 80 = .ok (.iconst 1, 1) := by decide +kernel
theorem dX12_both_81 : decode M_X12_both.2.2.1 81 = .ok (.goto 4, 3) := by decide +kernel
theorem dX12_both_84 : decode M_X12_both.2.2.1 84 = .ok (.iconst 0, 1) := by decide +kernel
theorem dX12_both_85 : decode M_X12_both.2.2.1 85 = .ok (.ireturn, 1) := by decide +kernel
theorem dX12_both_86 : decode M_X12_both.2.2.1 86 = .ok (.iload_n 1, 1) := by decide +kernel
theorem dX12_both_87 : decode M_X12_both.2.2.1 87 = .ok (.iload_n 2, 1) := by decide +kernel
theorem dX12_both_88 : decode M_X12_both.2.2.1 88 = .ok (.if_icmp .le 7, 3) := by decide +kernel
theorem dX12_both_91 : decode M_X12_both.2.2.1 91 = .ok (.iconst 1, 1) := by decide +kernel
theorem dX12_both_92 : decode M_X12_both.2.2.1 92 = .ok (.goto 4, 3) := by decide +kernel
theorem dX12_both_95 : decode M_X12_both.2.2.1 95 = .ok (.iconst 0, 1) := by decide +kernel
theorem dX12_both_96 : decode M_X12_both.2.2.1 96 = .ok (.ireturn, 1) := by decide +kernel
theorem dX12_both_97 : decode M_X12_both.2.2.1 97 = .ok (.iload_n 1, 1) := by decide +kernel
theorem dX12_both_98 : decode M_X12_both.2.2.1 98 = .ok (.iload_n 2, 1) := by decide +kernel
theorem dX12_both_99 : decode M_X12_both.2.2.1 99 = .ok (.iand, 1) := by decide +kernel
theorem dX12_both_100 : decode M_X12_both.2.2.1 100 = .ok (.ireturn, 1) := by decide +kernel
theorem dX12_both_101 : decode M_X12_both.2.2.1 101 = .ok (.iload_n 1, 1) := by decide +kernel
theorem dX12_both_102 : decode M_X12_both.2.2.1 102 = .ok (.iload_n 2, 1) := by decide +kernel
theorem dX12_both_103 : decode M_X12_both.2.2.1 103 = .ok (.ior, 1) := by decide +kernel
theorem dX12_both_104 : decode M_X12_both.2.2.1 104 = .ok (.ireturn, 1) := by decide +kernel
theorem dX12_comesTo_0 : decode M_X12_comesTo.2.2.1 0 = .ok (.iconst 0, 1) := by decide +kernel
theorem dX12_comesTo_1 : decode M_X12_comesTo.2.2.1 1 = .ok (.istore_n 3, 1) := by decide +kernel
theorem dX12_comesTo_2 : decode M_X12_comesTo.2.2.1 2 = .ok (.iload_n 1, 1) := by decide +kernel
theorem dX12_comesTo_3 : decode M_X12_comesTo.2.2.1 3 = .ok (.istore 4, 2) := by decide +kernel
theorem dX12_comesTo_5 : decode M_X12_comesTo.2.2.1 5 = .ok (.iload 4, 2) := by decide +kernel
theorem dX12_comesTo_7 : decode M_X12_comesTo.2.2.1 7 = .ok (.iload_n 2, 1) := by decide +kernel
theorem dX12_comesTo_8 : decode M_X12_comesTo.2.2.1 8 = .ok (.if_icmp .ge 150, 3) := by decide +kernel
theorem dX12_comesTo_11 : decode M_X12_comesTo.2.2.1 11 = .ok (.aload_n 0, 1) := by decide +kernel
theorem dX12_comesTo_12 : decode M_X12_comesTo.2.2.1 12 = .ok (.getfield 64, 3) := by decide +kernel
theorem dX12_comesTo_15 : decode M_X12_comesTo.2.2.1 15 = .ok (.iconst 2, 1) := by decide +kernel
theorem dX12_comesTo_16 : decode M_X12_comesTo.2.2.1 16 = .ok (.iload 4, 2) := by decide +kernel
theorem dX12_comesTo_18 : decode M_X12_comesTo.2.2.1 18 = .ok (.imul, 1) := by decide +kernel
theorem dX12_comesTo_19 : decode M_X12_comesTo.2.2.1 19 = .ok (.iaload, 1) := by decide +kernel
theorem dX12_comesTo_20 : decode M_X12_comesTo.2.2.1 20 = .ok (.istore 5, 2) := by decide +kernel
theorem dX12_comesTo_22 : decode M_X12_comesTo.2.2.1 22 = .ok (.aload_n 0, 1) := by decide +kernel
theorem dX12_comesTo_23 : decode M_X12_comesTo.2.2.1 23 = .ok (.getfield 64, 3) := by decide +kernel
theorem dX12_comesTo_26 : decode M_X12_comesTo.2.2.1 26 = .ok (.iconst 2, 1) := by decide +kernel
theorem dX12_comesTo_27 : decode M_X12_comesTo.2.2.1 27 = .ok (.iload 4, 2) := by decide +kernel
theorem dX12_comesTo_29 : decode M_X12_comesTo.2.2.1 29 = .ok (.imul, 1) := by decide +kernel
theorem dX12_comesTo_30 : decode M_X12_comesTo.2.2.1 30 = .ok (.iconst 1, 1) := by decide +kernel
theorem dX12_comesTo_31 : decode M_X12_comesTo.2.2.1 31 = .ok (.iadd, 1) := by decide +kernel
theorem dX12_comesTo_32 : decode M_X12_comesTo.2.2.1 32 = .ok (.iaload, 1) := by decide +kernel
theorem dX12_comesTo_33 : decode M_X12_comesTo.2.2.1 33 = .ok (.istore 6, 2) := by decide +kernel
theorem dX12_comesTo_35 : decode M_X12_comesTo.2.2.1 35 = .ok (.iload 5, 2) := by decide +kernel
theorem dX12_comesTo_37 : decode M_X12_comesTo.2.2.1 37 = .ok (.bipush 8, 2) := by decide +kernel
theorem dX12_comesTo_39 : decode M_X12_comesTo.2.2.1 39 = .ok (.if_icmp .ge 32, 3) := by decide +kernel
theorem dX12_comesTo_42 : decode M_X12_comesTo.2.2.1 42 = .ok (.aload_n 0, 1) := by decide +kernel
theorem dX12_comesTo_43 : decode M_X12_comesTo.2.2.1 43 = .ok (.getfield 61, 3) := by decide +kernel
theorem dX12_comesTo_46 : decode M_X12_comesTo.2.2.1 46 = .ok (.iload_n 3, 1) := by decide +kernel
theorem dX12_comesTo_47 : decode M_X12_comesTo.2.2.1 47 = .ok (.iload 5, 2) := by decide +kernel
theorem dX12_comesTo_49 : decode M_X12_comesTo.2.2.1 49 = .ok (.ifCond .ne 8, 3) := by decide +kernel
theorem dX12_comesTo_52 : decode M_X12_comesTo.2.2.1 52 = .ok (.iload 6, 2) := by decide +kernel
theorem dX12_comesTo_54 : decode M_X12_comesTo.2.2.1 54 = .ok (.goto 10, 3) := by decide +kernel
theorem dX12_comesTo_57 : decode M_X12_comesTo.2.2.1 57 = .ok (.aload_n 0, 1) := by decide +kernel
theorem dX12_comesTo_58 : decode M_X12_comesTo.2.2.1 58 = .ok (.getfield 55, 3) := by decide +kernel
theorem dX12_comesTo_61 : decode M_X12_comesTo.2.2.1 61 = .ok (.iload 5, 2) := by decide +kernel
theorem dX12_comesTo_63 : decode M_X12_comesTo.2.2.1 63 = .ok (.iaload, 1) := by decide +kernel
theorem dX12_comesTo_64 : decode M_X12_comesTo.2.2.1 64 = .ok (.iastore, 1) := by decide +kernel
theorem dX12_comesTo_65 : decode M_X12_comesTo.2.2.1 65 = .ok (.iinc 3 1, 3) := by decide +kernel
theorem dX12_comesTo_68 : decode M_X12_comesTo.2.2.1 68 = .ok (.goto 84, 3) := by decide +kernel
theorem dX12_comesTo_71 : decode M_X12_comesTo.2.2.1 71 = .ok (.iload 5, 2) := by decide +kernel
theorem dX12_comesTo_73 : decode M_X12_comesTo.2.2.1 73 = .ok (.bipush 11, 2) := by decide +kernel
theorem dX12_comesTo_75 : decode M_X12_comesTo.2.2.1 75 = .ok (.if_icmp .ne 19, 3) := by decide +kernel
theorem dX12_comesTo_78 : decode M_X12_comesTo.2.2.1 78 = .ok (.aload_n 0, 1) := by decide +kernel
theorem dX12_comesTo_79 : decode M_X12_comesTo.2.2.1 79 = .ok (.getfield 61, 3) := by decide +kernel
theorem dX12_comesTo_82 : decode M_X12_comesTo.2.2.1 82 = .ok (.iload_n 3, 1) := by decide +kernel
theorem dX12_comesTo_83 : decode M_X12_comesTo.2.2.1 83 = .ok (.iconst 1, 1) := by decide +kernel
theorem dX12_comesTo_84 : decode M_X12_comesTo.2.2.1 84 = .ok (.isub, 1) := by decide +kernel
theorem dX12_comesTo_85 : decode M_X12_comesTo.2.2.1 85 = .ok (.dup2, 1) := by decide +kernel
theorem dX12_comesTo_86 : decode M_X12_comesTo.2.2.1 86 = .ok (.iaload, 1) := by decide +kernel
theorem dX12_comesTo_87 : decode M_X12_comesTo.2.2.1 87 = .ok (.iload 6, 2) := by decide +kernel
theorem dX12_comesTo_89 : decode M_X12_comesTo.2.2.1 89 = .ok (.idiv, 1) := by decide +kernel
theorem dX12_comesTo_90 : decode M_X12_comesTo.2.2.1 90 = .ok (.iastore, 1) := by decide +kernel
theorem dX12_comesTo_91 : decode M_X12_comesTo.2.2.1 91 = .ok (.goto 61, 3) := by decide +kernel
theorem dX12_comesTo_94 : decode M_X12_comesTo.2.2.1 94 = .ok (.iload 5, 2) := by decide +kernel
theorem dX12_comesTo_96 : decode M_X12_comesTo.2.2.1 96 = .ok (.bipush 15, 2) := by decide +kernel
theorem dX12_comesTo_98 : decode M_X12_comesTo.2.2.1 98 = .ok (.if_icmp .ne 24, 3) := by decide +kernel
theorem dX12_comesTo_101 : decode M_X12_comesTo.2.2.1 101 = .ok (.aload_n 0, 1) := by decide +kernel
theorem dX12_comesTo_102 : decode M_X12_comesTo.2.2.1 102 = .ok (.getfield 61, 3) := by decide +kernel
theorem dX12_comesTo_105 : decode M_X12_comesTo.2.2.1 105 = .ok (.iload_n 3, 1) := by decide +kernel
theorem dX12_comesTo_106 : decode M_X12_comesTo.2.2.1 106 = .ok (.iconst 1, 1) := by decide +kernel
theorem dX12_comesTo_107 : decode M_X12_comesTo.2.2.1 107 = .ok (.isub, 1) := by decide +kernel
theorem dX12_comesTo_108 : decode M_X12_comesTo.2.2.1 108 = .ok (.iconst 1, 1) := by decide +kernel
theorem dX12_comesTo_109 : decode M_X12_comesTo.2.2.1 109 = .ok (.aload_n 0, 1) := by decide +kernel
theorem dX12_comesTo_110 : decode M_X12_comesTo.2.2.1 110 = .ok (.getfield 61, 3) := by decide +kernel
theorem dX12_comesTo_113 : decode M_X12_comesTo.2.2.1 113 = .ok (.iload_n 3, 1) := by decide +kernel
theorem dX12_comesTo_114 : decode M_X12_comesTo.2.2.1 114 = .ok (.iconst 1, 1) := by decide +kernel
theorem dX12_comesTo_115 : decode M_X12_comesTo.2.2.1 115 = .ok (.isub, 1) := by decide +kernel
theorem dX12_comesTo_116 : decode M_X12_comesTo.2.2.1 116 = .ok (.iaload, 1) := by decide +kernel
theorem dX12_comesTo_117 : decode M_X12_comesTo.2.2.1 117 = .ok (.isub, 1) := by decide +kernel
theorem dX12_comesTo_118 : decode M_X12_comesTo.2.2.1 118 = .ok (.iastore, 1) := by decide +kernel
theorem dX12_comesTo_119 : decode M_X12_comesTo.2.2.1 119 = .ok (.goto 33, 3) := by decide +kernel
theorem dX12_comesTo_122 : decode M_X12_comesTo.2.2.1 122 = .ok (.iinc 3 (-1), 3) := by decide +kernel
theorem dX12_comesTo_125 : decode M_X12_comesTo.2.2.1 125 = .ok (.aload_n 0, 1) := by decide +kernel
theorem dX12_comesTo_126 : decode M_X12_comesTo.2.2.1 126 = .ok (.getfield 61, 3) := by decide +kernel
theorem dX12_comesTo_129 : decode M_X12_comesTo.2.2.1 129 = .ok (.iload_n 3, 1) := by decide +kernel
theorem dX12_comesTo_130 : decode M_X12_comesTo.2.2.1 130 = .ok (.iconst 1, 1) := by decide +kernel
theorem dX12_comesTo_131 : decode M_X12_comesTo.2.2.1 131 = .ok (.isub, 1) := by decide +kernel
theorem dX12_comesTo_132 : decode M_X12_comesTo.2.2.1 132 = .ok (.iload 5, 2) := by decide +kernel
theorem dX12_comesTo_134 : decode M_X12_comesTo.2.2.1 134 = .ok (.aload_n 0, 1) := by decide +kernel
theorem dX12_comesTo_135 : decode M_X12_comesTo.2.2.1 135 = .ok (.getfield 61, 3) := by decide +kernel
theorem dX12_comesTo_138 : decode M_X12_comesTo.2.2.1 138 = .ok (.iload_n 3, 1) := by decide +kernel
theorem dX12_comesTo_139 : decode M_X12_comesTo.2.2.1 139 = .ok (.iconst 1, 1) := by decide +kernel
theorem dX12_comesTo_140 : decode M_X12_comesTo.2.2.1 140 = .ok (.isub, 1) := by decide +kernel
theorem dX12_comesTo_141 : decode M_X12_comesTo.2.2.1 141 = .ok (.iaload, 1) := by decide +kernel
theorem dX12_comesTo_142 : decode M_X12_comesTo.2.2.1 142 = .ok (.aload_n 0, 1) := by decide +kernel
theorem dX12_comesTo_143 : decode M_X12_comesTo.2.2.1 143 = .ok (.getfield 61, 3) := by decide +kernel
theorem dX12_comesTo_146 : decode M_X12_comesTo.2.2.1 146 = .ok (.iload_n 3, 1) := by decide +kernel
theorem dX12_comesTo_147 : decode M_X12_comesTo.2.2.1 147 = .ok (.iaload, 1) := by decide +kernel
theorem dX12_comesTo_148 : decode M_X12_comesTo.2.2.1 148 = .ok (.invokestatic 329, 3) := by decide +kernel
theorem dX12_comesTo_151 : decode M_X12_comesTo.2.2.1 151 = .ok (.iastore, 1) := by decide +kernel
theorem dX12_comesTo_152 : decode M_X12_comesTo.2.2.1 152 = .ok (.iinc 4 1, 3) := by decide +kernel
theorem dX12_comesTo_155 : decode M_X12_comesTo.2.2.1 155 = .ok (.goto (-150), 3) := by decide +kernel
theorem dX12_comesTo_158 : decode M_X12_comesTo.2.2.1 158 = .ok (.aload_n 0, 1) := by decide +kernel
theorem dX12_comesTo_159 : decode M_X12_comesTo.2.2.1 159 = .ok (.getfield 61, 3) := by decide +kernel
theorem dX12_comesTo_162 : decode M_X12_comesTo.2.2.1 162 = .ok (.iconst 0, 1) := by decide +kernel
theorem dX12_comesTo_163 : decode M_X12_comesTo.2.2.1 163 = .ok (.iaload, 1) := by decide +kernel
theorem dX12_comesTo_164 : decode M_X12_comesTo.2.2.1 164 = .ok (.ireturn, 1) := by decide +kernel
theorem dX12_kind_0 : decode M_X12_kind.2.2.1 0 = .ok (.aload_n 0, 1) := by decide +kernel
theorem dX12_kind_1 : decode M_X12_kind.2.2.1 1 = .ok (.iload_n 1, 1) := by decide +kernel
theorem dX12_kind_2 : decode M_X12_kind.2.2.1 2 = .ok (.iload_n 2, 1) := by decide +kernel
theorem dX12_kind_3 : decode M_X12_kind.2.2.1 3 = .ok (.iload_n 3, 1) := by decide +kernel
theorem dX12_kind_4 : decode M_X12_kind.2.2.1 4 = .ok (.invokevirtual 196, 3) := by decide +kernel
theorem dX12_kind_7 : decode M_X12_kind.2.2.1 7 = .ok (.ifCond .eq 25, 3) := by decide +kernel
theorem dX12_kind_10 : decode M_X12_kind.2.2.1 10 = .ok (.iload 4, 2) := by decide +kernel
theorem dX12_kind_12 : decode M_X12_kind.2.2.1 12 = .ok (.iconst 0, 1) := by decide +kernel
theorem dX12_kind_13 : decode M_X12_kind.2.2.1 13 = .ok (.bipush 23, 2) := by decide +kernel
theorem dX12_kind_15 : decode M_X12_kind.2.2.1 15 = .ok (.invokestatic 147, 3) := by decide +kernel
theorem dX12_kind_18 : decode M_X12_kind.2.2.1 18 = .ok (.ifCond .eq 14, 3) := by decide +kernel
theorem dX12_kind_21 : decode M_X12_kind.2.2.1 21 = .ok (.iload 5, 2) := by decide +kernel
theorem dX12_kind_23 : decode M_X12_kind.2.2.1 23 = .ok (.iconst 0, 1) := by decide +kernel
theorem dX12_kind_24 : decode M_X12_kind.2.2.1 24 = .ok (.bipush 6, 2) := by decide +kernel
theorem dX12_kind_26 : decode M_X12_kind.2.2.1 26 = .ok (.invokestatic 147, 3) := by decide +kernel
theorem dX12_kind_29 : decode M_X12_kind.2.2.1 29 = .ok (.ifCond .ne 5, 3) := by decide +kernel
theorem dX12_kind_32 : decode M_X12_kind.2.2.1 32 = .ok (.iconst (-1), 1) := by decide +kernel
theorem dX12_kind_33 : decode M_X12_kind.2.2.1 33 = .ok (.ireturn, 1) := by decide +kernel
theorem dX12_kind_34 : decode M_X12_kind.2.2.1 34 = .ok (.aload_n 0, 1) := by decide +kernel
theorem dX12_kind_35 : decode M_X12_kind.2.2.1 35 = .ok (.iload_n 1, 1) := by decide +kernel
theorem dX12_kind_36 : decode M_X12_kind.2.2.1 36 = .ok (.iload_n 2, 1) := by decide +kernel
theorem dX12_kind_37 : decode M_X12_kind.2.2.1 37 = .ok (.iload_n 3, 1) := by decide +kernel
theorem dX12_kind_38 : decode M_X12_kind.2.2.1 38 = .ok (.invokevirtual 199, 3) := by decide +kernel
theorem dX12_kind_41 : decode M_X12_kind.2.2.1 41 = .ok (.aload_n 0, 1) := by decide +kernel
theorem dX12_kind_42 : decode M_X12_kind.2.2.1 42 = .ok (.getfield 55, 3) := by decide +kernel
theorem dX12_kind_45 : decode M_X12_kind.2.2.1 45 = .ok (.iconst 1, 1) := by decide +kernel
theorem dX12_kind_46 : decode M_X12_kind.2.2.1 46 = .ok (.iload 4, 2) := by decide +kernel
theorem dX12_kind_48 : decode M_X12_kind.2.2.1 48 = .ok (.iastore, 1) := by decide +kernel
theorem dX12_kind_49 : decode M_X12_kind.2.2.1 49 = .ok (.aload_n 0, 1) := by decide +kernel
theorem dX12_kind_50 : decode M_X12_kind.2.2.1 50 = .ok (.getfield 55, 3) := by decide +kernel
theorem dX12_kind_53 : decode M_X12_kind.2.2.1 53 = .ok (.iconst 2, 1) := by decide +kernel
theorem dX12_kind_54 : decode M_X12_kind.2.2.1 54 = .ok (.iload 5, 2) := by decide +kernel
theorem dX12_kind_56 : decode M_X12_kind.2.2.1 56 = .ok (.iastore, 1) := by decide +kernel
theorem dX12_kind_57 : decode M_X12_kind.2.2.1 57 = .ok (.iconst 0, 1) := by decide +kernel
theorem dX12_kind_58 : decode M_X12_kind.2.2.1 58 = .ok (.istore 6, 2) := by decide +kernel
theorem dX12_kind_60 : decode M_X12_kind.2.2.1 60 = .ok (.iload 6, 2) := by decide +kernel
theorem dX12_kind_62 : decode M_X12_kind.2.2.1 62 = .ok (.aload_n 0, 1) := by decide +kernel
theorem dX12_kind_63 : decode M_X12_kind.2.2.1 63 = .ok (.getfield 326, 3) := by decide +kernel
theorem dX12_kind_66 : decode M_X12_kind.2.2.1 66 = .ok (.if_icmp .ge 41, 3) := by decide +kernel
theorem dX12_kind_69 : decode M_X12_kind.2.2.1 69 = .ok (.aload_n 0, 1) := by decide +kernel
theorem dX12_kind_70 : decode M_X12_kind.2.2.1 70 = .ok (.aload_n 0, 1) := by decide +kernel
theorem dX12_kind_71 : decode M_X12_kind.2.2.1 71 = .ok (.getfield 73, 3) := by decide +kernel
theorem dX12_kind_74 : decode M_X12_kind.2.2.1 74 = .ok (.iload 6, 2) := by decide +kernel
theorem dX12_kind_76 : decode M_X12_kind.2.2.1 76 = .ok (.iaload, 1) := by decide +kernel
theorem dX12_kind_77 : decode M_X12_kind.2.2.1 77 = .ok (.aload_n 0, 1) := by decide +kernel
theorem dX12_kind_78 : decode M_X12_kind.2.2.1 78 = .ok (.getfield 73, 3) := by decide +kernel
theorem dX12_kind_81 : decode M_X12_kind.2.2.1 81 = .ok (.iload 6, 2) := by decide +kernel
theorem dX12_kind_83 : decode M_X12_kind.2.2.1 83 = .ok (.iconst 1, 1) := by decide +kernel
theorem dX12_kind_84 : decode M_X12_kind.2.2.1 84 = .ok (.iadd, 1) := by decide +kernel
theorem dX12_kind_85 : decode M_X12_kind.2.2.1 85 = .ok (.iaload, 1) := by decide +kernel
theorem dX12_kind_86 : decode M_X12_kind.2.2.1 86 = .ok (.invokevirtual 333, 3) := by decide +kernel
theorem dX12_kind_89 : decode M_X12_kind.2.2.1 89 = .ok (.iconst 1, 1) := by decide +kernel
theorem dX12_kind_90 : decode M_X12_kind.2.2.1 90 = .ok (.if_icmp .ne 11, 3) := by decide +kernel
theorem dX12_kind_93 : decode M_X12_kind.2.2.1 93 = .ok (.aload_n 0, 1) := by decide +kernel
theorem dX12_kind_94 : decode M_X12_kind.2.2.1 94 = .ok (.getfield 70, 3) := by decide +kernel
theorem dX12_kind_97 : decode M_X12_kind.2.2.1 97 = .ok (.iload 6, 2) := by decide +kernel
theorem dX12_kind_99 : decode M_X12_kind.2.2.1 99 = .ok (.iaload, 1) := by decide +kernel
theorem dX12_kind_100 : decode M_X12_kind.2.2.1 100 = .ok (.ireturn, 1) := by decide +kernel
theorem dX12_kind_101 : decode M_X12_kind.2.2.1 101 = .ok (.iinc 6 1, 3) := by decide +kernel
theorem dX12_kind_104 : decode M_X12_kind.2.2.1 104 = .ok (.goto (-44), 3) := by decide +kernel
theorem dX12_kind_107 : decode M_X12_kind.2.2.1 107 = .ok (.iconst 0, 1) := by decide +kernel
theorem dX12_kind_108 : decode M_X12_kind.2.2.1 108 = .ok (.ireturn, 1) := by decide +kernel
theorem dX12_isQuake_0 : decode M_X12_isQuake.2.2.1 0 = .ok (.iload_n 1, 1) := by decide +kernel
theorem dX12_isQuake_1 : decode M_X12_isQuake.2.2.1 1 = .ok (.iconst 0, 1) := by decide +kernel
theorem dX12_isQuake_2 : decode M_X12_isQuake.2.2.1 2 = .ok (.aload_n 0, 1) := by decide +kernel
theorem dX12_isQuake_3 : decode M_X12_isQuake.2.2.1 3 = .ok (.getfield 336, 3) := by decide +kernel
theorem dX12_isQuake_6 : decode M_X12_isQuake.2.2.1 6 = .ok (.iconst 1, 1) := by decide +kernel
theorem dX12_isQuake_7 : decode M_X12_isQuake.2.2.1 7 = .ok (.isub, 1) := by decide +kernel
theorem dX12_isQuake_8 : decode M_X12_isQuake.2.2.1 8 = .ok (.invokestatic 147, 3) := by decide +kernel
theorem dX12_isQuake_11 : decode M_X12_isQuake.2.2.1 11 = .ok (.ireturn, 1) := by decide +kernel
theorem dX12_waves_0 : decode M_X12_waves.2.2.1 0 = .ok (.iload_n 1, 1) := by decide +kernel
theorem dX12_waves_1 : decode M_X12_waves.2.2.1 1 = .ok (.iconst 1, 1) := by decide +kernel
theorem dX12_waves_2 : decode M_X12_waves.2.2.1 2 = .ok (.bipush 99, 2) := by decide +kernel
theorem dX12_waves_4 : decode M_X12_waves.2.2.1 4 = .ok (.invokestatic 147, 3) := by decide +kernel
theorem dX12_waves_7 : decode M_X12_waves.2.2.1 7 = .ok (.ifCond .eq 15, 3) := by decide +kernel
theorem dX12_waves_10 : decode M_X12_waves.2.2.1 10 = .ok (.iload_n 2, 1) := by decide +kernel
theorem dX12_waves_11 : decode M_X12_waves.2.2.1 11 = .ok (.iload_n 1, 1) := by decide +kernel
theorem dX12_waves_12 : decode M_X12_waves.2.2.1 12 = .ok (.iconst 1, 1) := by decide +kernel
theorem dX12_waves_13 : decode M_X12_waves.2.2.1 13 = .ok (.iadd, 1) := by decide +kernel
theorem dX12_waves_14 : decode M_X12_waves.2.2.1 14 = .ok (.bipush 99, 2) := by decide +kernel
theorem dX12_waves_16 : decode M_X12_waves.2.2.1 16 = .ok (.invokestatic 147, 3) := by decide +kernel
theorem dX12_waves_19 : decode M_X12_waves.2.2.1 19 = .ok (.ifCond .ne 5, 3) := by decide +kernel
theorem dX12_waves_22 : decode M_X12_waves.2.2.1 22 = .ok (.iconst 0, 1) := by decide +kernel
theorem dX12_waves_23 : decode M_X12_waves.2.2.1 23 = .ok (.ireturn, 1) := by decide +kernel
theorem dX12_waves_24 : decode M_X12_waves.2.2.1 24 = .ok (.aload_n 0, 1) := by decide +kernel
theorem dX12_waves_25 : decode M_X12_waves.2.2.1 25 = .ok (.iload_n 1, 1) := by decide +kernel
theorem dX12_waves_26 : decode M_X12_waves.2.2.1 26 = .ok (.putfield 86, 3) := by decide +kernel
theorem dX12_waves_29 : decode M_X12_waves.2.2.1 29 = .ok (.aload_n 0, 1) := by decide +kernel
theorem dX12_waves_30 : decode M_X12_waves.2.2.1 30 = .ok (.iload_n 2, 1) := by decide +kernel
theorem dX12_waves_31 : decode M_X12_waves.2.2.1 31 = .ok (.putfield 89, 3) := by decide +kernel
theorem dX12_waves_34 : decode M_X12_waves.2.2.1 34 = .ok (.iconst 1, 1) := by decide +kernel
theorem dX12_waves_35 : decode M_X12_waves.2.2.1 35 = .ok (.ireturn, 1) := by decide +kernel
theorem dX12_quake_0 : decode M_X12_quake.2.2.1 0 = .ok (.aload_n 0, 1) := by decide +kernel
theorem dX12_quake_1 : decode M_X12_quake.2.2.1 1 = .ok (.getfield 336, 3) := by decide +kernel
theorem dX12_quake_4 : decode M_X12_quake.2.2.1 4 = .ok (.bipush 16, 2) := by decide +kernel
theorem dX12_quake_6 : decode M_X12_quake.2.2.1 6 = .ok (.if_icmp .ne 5, 3) := by decide +kernel
theorem dX12_quake_9 : decode M_X12_quake.2.2.1 9 = .ok (.iconst (-1), 1) := by decide +kernel
theorem dX12_quake_10 : decode M_X12_quake.2.2.1 10 = .ok (.ireturn, 1) := by decide +kernel
theorem dX12_quake_11 : decode M_X12_quake.2.2.1 11 = .ok (.aload_n 0, 1) := by decide +kernel
theorem dX12_quake_12 : decode M_X12_quake.2.2.1 12 = .ok (.dup, 1) := by decide +kernel
theorem dX12_quake_13 : decode M_X12_quake.2.2.1 13 = .ok (.getfield 336, 3) := by decide +kernel
theorem dX12_quake_16 : decode M_X12_quake.2.2.1 16 = .ok (.iconst 1, 1) := by decide +kernel
theorem dX12_quake_17 : decode M_X12_quake.2.2.1 17 = .ok (.iadd, 1) := by decide +kernel
theorem dX12_quake_18 : decode M_X12_quake.2.2.1 18 = .ok (.putfield 336, 3) := by decide +kernel
theorem dX12_quake_21 : decode M_X12_quake.2.2.1 21 = .ok (.aload_n 0, 1) := by decide +kernel
theorem dX12_quake_22 : decode M_X12_quake.2.2.1 22 = .ok (.getfield 336, 3) := by decide +kernel
theorem dX12_quake_25 : decode M_X12_quake.2.2.1 25 = .ok (.iconst 1, 1) := by decide +kernel
theorem dX12_quake_26 : decode M_X12_quake.2.2.1 26 = .ok (.isub, 1) := by decide +kernel
theorem dX12_quake_27 : decode M_X12_quake.2.2.1 27 = .ok (.ireturn, 1) := by decide +kernel
theorem dX12_areTimes_0 : decode M_X12_areTimes.2.2.1 0 = .ok (.iload_n 0, 1) := by decide +kernel
theorem dX12_areTimes_1 : decode M_X12_areTimes.2.2.1 1 = .ok (.iconst 0, 1) := by decide +kernel
theorem dX12_areTimes_2 : decode M_X12_areTimes.2.2.1 2 = .ok (.ldc_w 339, 3) := by decide +kernel
theorem dX12_areTimes_5 : decode M_X12_areTimes.2.2.1 5 = .ok (.invokestatic 147, 3) := by decide +kernel
theorem dX12_areTimes_8 : decode M_X12_areTimes.2.2.1 8 = .ok (.ifCond .eq 18, 3) := by decide +kernel
theorem dX12_areTimes_11 : decode M_X12_areTimes.2.2.1 11 = .ok (.iload_n 1, 1) := by decide +kernel
theorem dX12_areTimes_12 : decode M_X12_areTimes.2.2.1 12 = .ok (.iload_n 0, 1) := by decide +kernel
theorem dX12_areTimes_13 : decode M_X12_areTimes.2.2.1 13 = .ok (.ldc_w 339, 3) := by decide +kernel
theorem dX12_areTimes_16 : decode M_X12_areTimes.2.2.1 16 = .ok (.invokestatic 147, 3) := by decide +kernel
theorem dX12_areTimes_19 : decode M_X12_areTimes.2.2.1 19 = .ok (.ifCond .eq 7, 3) := by decide +kernel
theorem dX12_areTimes_22 : decode M_X12_areTimes.2.2.1 22 = .ok (.iconst 1, 1) := by decide +kernel
theorem dX12_areTimes_23 : decode M_X12_areTimes.2.2.1 23 = .ok (.goto 4, 3) := by decide +kernel
theorem dX12_areTimes_26 : decode M_X12_areTimes.2.2.1 26 = .ok (.iconst 0, 1) := by decide +kernel
theorem dX12_areTimes_27 : decode M_X12_areTimes.2.2.1 27 = .ok (.ireturn, 1) := by decide +kernel
theorem dX12_read_0 : decode M_X12_read.2.2.1 0 = .ok (.aload_n 0, 1) := by decide +kernel
theorem dX12_read_1 : decode M_X12_read.2.2.1 1 = .ok (.iload_n 1, 1) := by decide +kernel
theorem dX12_read_2 : decode M_X12_read.2.2.1 2 = .ok (.invokevirtual 340, 3) := by decide +kernel
theorem dX12_read_5 : decode M_X12_read.2.2.1 5 = .ok (.ifCond .eq 20, 3) := by decide +kernel
theorem dX12_read_8 : decode M_X12_read.2.2.1 8 = .ok (.aload_n 0, 1) := by decide +kernel
theorem dX12_read_9 : decode M_X12_read.2.2.1 9 = .ok (.iload_n 2, 1) := by decide +kernel
theorem dX12_read_10 : decode M_X12_read.2.2.1 10 = .ok (.invokevirtual 158, 3) := by decide +kernel
theorem dX12_read_13 : decode M_X12_read.2.2.1 13 = .ok (.ifCond .eq 12, 3) := by decide +kernel
theorem dX12_read_16 : decode M_X12_read.2.2.1 16 = .ok (.iload_n 3, 1) := by decide +kernel
theorem dX12_read_17 : decode M_X12_read.2.2.1 17 = .ok (.iload 4, 2) := by decide +kernel
theorem dX12_read_19 : decode M_X12_read.2.2.1 19 = .ok (.invokestatic 343, 3) := by decide +kernel
theorem dX12_read_22 : decode M_X12_read.2.2.1 22 = .ok (.ifCond .ne 5, 3) := by decide +kernel
theorem dX12_read_25 : decode M_X12_read.2.2.1 25 = .ok (.iconst 0, 1) := by decide +kernel
theorem dX12_read_26 : decode M_X12_read.2.2.1 26 = .ok (.ireturn, 1) := by decide +kernel
theorem dX12_read_27 : decode M_X12_read.2.2.1 27 = .ok (.bipush 6, 2) := by decide +kernel
theorem dX12_read_29 : decode M_X12_read.2.2.1 29 = .ok (.iload_n 1, 1) := by decide +kernel
theorem dX12_read_30 : decode M_X12_read.2.2.1 30 = .ok (.imul, 1) := by decide +kernel
theorem dX12_read_31 : decode M_X12_read.2.2.1 31 = .ok (.iload_n 2, 1) := by decide +kernel
theorem dX12_read_32 : decode M_X12_read.2.2.1 32 = .ok (.iadd, 1) := by decide +kernel
theorem dX12_read_33 : decode M_X12_read.2.2.1 33 = .ok (.istore 5, 2) := by decide +kernel
theorem dX12_read_35 : decode M_X12_read.2.2.1 35 = .ok (.aload_n 0, 1) := by decide +kernel
theorem dX12_read_36 : decode M_X12_read.2.2.1 36 = .ok (.getfield 92, 3) := by decide +kernel
theorem dX12_read_39 : decode M_X12_read.2.2.1 39 = .ok (.iload 5, 2) := by decide +kernel
theorem dX12_read_41 : decode M_X12_read.2.2.1 41 = .ok (.iconst 1, 1) := by decide +kernel
theorem dX12_read_42 : decode M_X12_read.2.2.1 42 = .ok (.bastore, 1) := by decide +kernel
theorem dX12_read_43 : decode M_X12_read.2.2.1 43 = .ok (.aload_n 0, 1) := by decide +kernel
theorem dX12_read_44 : decode M_X12_read.2.2.1 44 = .ok (.getfield 96, 3) := by decide +kernel
theorem dX12_read_47 : decode M_X12_read.2.2.1 47 = .ok (.iload 5, 2) := by decide +kernel
theorem dX12_read_49 : decode M_X12_read.2.2.1 49 = .ok (.iconst 0, 1) := by decide +kernel
theorem dX12_read_50 : decode M_X12_read.2.2.1 50 = .ok (.bastore, 1) := by decide +kernel
theorem dX12_read_51 : decode M_X12_read.2.2.1 51 = .ok (.aload_n 0, 1) := by decide +kernel
theorem dX12_read_52 : decode M_X12_read.2.2.1 52 = .ok (.getfield 99, 3) := by decide +kernel
theorem dX12_read_55 : decode M_X12_read.2.2.1 55 = .ok (.iload 5, 2) := by decide +kernel
theorem dX12_read_57 : decode M_X12_read.2.2.1 57 = .ok (.iload_n 3, 1) := by decide +kernel
theorem dX12_read_58 : decode M_X12_read.2.2.1 58 = .ok (.iastore, 1) := by decide +kernel
theorem dX12_read_59 : decode M_X12_read.2.2.1 59 = .ok (.aload_n 0, 1) := by decide +kernel
theorem dX12_read_60 : decode M_X12_read.2.2.1 60 = .ok (.getfield 102, 3) := by decide +kernel
theorem dX12_read_63 : decode M_X12_read.2.2.1 63 = .ok (.iload 5, 2) := by decide +kernel
theorem dX12_read_65 : decode M_X12_read.2.2.1 65 = .ok (.iload 4, 2) := by decide +kernel
theorem dX12_read_67 : decode M_X12_read.2.2.1 67 = .ok (.iastore, 1) := by decide +kernel
theorem dX12_read_68 : decode M_X12_read.2.2.1 68 = .ok (.aload_n 0, 1) := by decide +kernel
theorem dX12_read_69 : decode M_X12_read.2.2.1 69 = .ok (.getfield 111, 3) := by decide +kernel
theorem dX12_read_72 : decode M_X12_read.2.2.1 72 = .ok (.iload 5, 2) := by decide +kernel
theorem dX12_read_74 : decode M_X12_read.2.2.1 74 = .ok (.iconst 0, 1) := by decide +kernel
theorem dX12_read_75 : decode M_X12_read.2.2.1 75 = .ok (.iastore, 1) := by decide +kernel
theorem dX12_read_76 : decode M_X12_read.2.2.1 76 = .ok (.aload_n 0, 1) := by decide +kernel
theorem dX12_read_77 : decode M_X12_read.2.2.1 77 = .ok (.getfield 114, 3) := by decide +kernel
theorem dX12_read_80 : decode M_X12_read.2.2.1 80 = .ok (.iload 5, 2) := by decide +kernel
theorem dX12_read_82 : decode M_X12_read.2.2.1 82 = .ok (.iconst 0, 1) := by decide +kernel
theorem dX12_read_83 : decode M_X12_read.2.2.1 83 = .ok (.iastore, 1) := by decide +kernel
theorem dX12_read_84 : decode M_X12_read.2.2.1 84 = .ok (.iconst 1, 1) := by decide +kernel
theorem dX12_read_85 : decode M_X12_read.2.2.1 85 = .ok (.ireturn, 1) := by decide +kernel
theorem dX12_isReading_0 : decode M_X12_isReading.2.2.1 0 = .ok (.aload_n 0, 1) := by decide +kernel
theorem dX12_isReading_1 : decode M_X12_isReading.2.2.1 1 = .ok (.iload_n 1, 1) := by decide +kernel
theorem dX12_isReading_2 : decode M_X12_isReading.2.2.1 2 = .ok (.invokevirtual 340, 3) := by decide +kernel
theorem dX12_isReading_5 : decode M_X12_isReading.2.2.1 5 = .ok (.ifCond .eq 29, 3) := by decide +kernel
theorem dX12_isReading_8 : decode M_X12_isReading.2.2.1 8 = .ok (.aload_n 0, 1) := by decide +kernel
theorem dX12_isReading_9 : decode M_X12_isReading.2.2.1 9 = .ok (.iload_n 2, 1) := by decide +kernel
theorem dX12_isReading_10 : decode M_X12_isReading.2.2.1 10 = .ok (.invokevirtual 158, 3) := by decide +kernel
theorem dX12_isReading_13 : decode M_X12_isReading.2.2.1 13 = .ok (.ifCond .eq 21, 3) := by decide +kernel
theorem dX12_isReading_16 : decode M_X12_isReading.2.2.1 16 = .ok (.aload_n 0, 1) := by decide +kernel
theorem dX12_isReading_17 : decode M_X12_isReading.2.2.1 17 = .ok (.getfield 92, 3) := by decide +kernel
theorem dX12_isReading_20 : decode M_X12_isReading.2.2.1 20 = .ok (.bipush 6, 2) := by decide +kernel
theorem dX12_isReading_22 : decode M_X12_isReading.2.2.1 22 = .ok (.iload_n 1, 1) := by decide +kernel
theorem dX12_isReading_23 : decode M_X12_isReading.2.2.1 23 = .ok (.imul, 1) := by decide +kernel
theorem dX12_isReading_24 : decode M_X12_isReading.2.2.1 24 = .ok (.iload_n 2, 1) := by decide +kernel
theorem dX12_isReading_25 : decode M_X12_isReading.2.2.1 25 = .ok (.iadd, 1) := by decide +kernel
theorem dX12_isReading_26 : decode M_X12_isReading.2.2.1 26 = .ok (.baload, 1) := by decide +kernel
theorem dX12_isReading_27 : decode M_X12_isReading.2.2.1 27 = .ok (.ifCond .eq 7, 3) := by decide +kernel
theorem dX12_isReading_30 : decode M_X12_isReading.2.2.1 30 = .ok (.iconst 1, 1) := by decide +kernel
theorem dX12_isReading_31 : decode M_X12_isReading.2.2.1 31 = .ok (.goto 4, 3) := by decide +kernel
theorem dX12_isReading_34 : decode M_X12_isReading.2.2.1 34 = .ok (.iconst 0, 1) := by decide +kernel
theorem dX12_isReading_35 : decode M_X12_isReading.2.2.1 35 = .ok (.ireturn, 1) := by decide +kernel
theorem dX12_second_0 : decode M_X12_second.2.2.1 0 = .ok (.aload_n 0, 1) := by decide +kernel
theorem dX12_second_1 : decode M_X12_second.2.2.1 1 = .ok (.iload_n 1, 1) := by decide +kernel
theorem dX12_second_2 : decode M_X12_second.2.2.1 2 = .ok (.iload_n 2, 1) := by decide +kernel
theorem dX12_second_3 : decode M_X12_second.2.2.1 3 = .ok (.invokevirtual 346, 3) := by decide +kernel
theorem dX12_second_6 : decode M_X12_second.2.2.1 6 = .ok (.ifCond .eq 17, 3) := by decide +kernel
theorem dX12_second_9 : decode M_X12_second.2.2.1 9 = .ok (.iload_n 3, 1) := by decide +kernel
theorem dX12_second_10 : decode M_X12_second.2.2.1 10 = .ok (.iconst (-1), 1) := by decide +kernel
theorem dX12_second_11 : decode M_X12_second.2.2.1 11 = .ok (.if_icmp .eq 14, 3) := by decide +kernel
theorem dX12_second_14 : decode M_X12_second.2.2.1 14 = .ok (.iload_n 3, 1) := by decide +kernel
theorem dX12_second_15 : decode M_X12_second.2.2.1 15 = .ok (.iload 4, 2) := by decide +kernel
theorem dX12_second_17 : decode M_X12_second.2.2.1 17 = .ok (.invokestatic 343, 3) := by decide +kernel
theorem dX12_second_20 : decode M_X12_second.2.2.1 20 = .ok (.ifCond .ne 5, 3) := by decide +kernel
theorem dX12_second_23 : decode M_X12_second.2.2.1 23 = .ok (.iconst 0, 1) := by decide +kernel
theorem dX12_second_24 : decode M_X12_second.2.2.1 24 = .ok (.ireturn, 1) := by decide +kernel
theorem dX12_second_25 : decode M_X12_second.2.2.1 25 = .ok (.bipush 6, 2) := by decide +kernel
theorem dX12_second_27 : decode M_X12_second.2.2.1 27 = .ok (.iload_n 1, 1) := by decide +kernel
theorem dX12_second_28 : decode M_X12_second.2.2.1 28 = .ok (.imul, 1) := by decide +kernel
theorem dX12_second_29 : decode M_X12_second.2.2.1 29 = .ok (.iload_n 2, 1) := by decide +kernel
theorem dX12_second_30 : decode M_X12_second.2.2.1 30 = .ok (.iadd, 1) := by decide +kernel
theorem dX12_second_31 : decode M_X12_second.2.2.1 31 = .ok (.istore 5, 2) := by decide +kernel
theorem dX12_second_33 : decode M_X12_second.2.2.1 33 = .ok (.aload_n 0, 1) := by decide +kernel
theorem dX12_second_34 : decode M_X12_second.2.2.1 34 = .ok (.getfield 96, 3) := by decide +kernel
theorem dX12_second_37 : decode M_X12_second.2.2.1 37 = .ok (.iload 5, 2) := by decide +kernel
theorem dX12_second_39 : decode M_X12_second.2.2.1 39 = .ok (.iload_n 3, 1) := by decide +kernel
theorem dX12_second_40 : decode M_X12_second.2.2.1 40 = .ok (.iconst (-1), 1) := by decide +kernel
theorem dX12_second_41 : decode M_X12_second.2.2.1 41 = .ok (.if_icmp .eq 7, 3) := by decide +kernel
theorem dX12_second_44 : decode M_X12_second.2.2.1 44 = .ok (.iconst 1, 1) := by decide +kernel
theorem dX12_second_45 : decode M_X12_second.2.2.1 45 = .ok (.goto 4, 3) := by decide +kernel
theorem dX12_second_48 : decode M_X12_second.2.2.1 48 = .ok (.iconst 0, 1) := by decide +kernel
theorem dX12_second_49 : decode M_X12_second.2.2.1 49 = .ok (.bastore, 1) := by decide +kernel
theorem dX12_second_50 : decode M_X12_second.2.2.1 50 = .ok (.aload_n 0, 1) := by decide +kernel
theorem dX12_second_51 : decode M_X12_second.2.2.1 51 = .ok (.getfield 105, 3) := by decide +kernel
theorem dX12_second_54 : decode M_X12_second.2.2.1 54 = .ok (.iload 5, 2) := by decide +kernel
theorem dX12_second_56 : decode M_X12_second.2.2.1 56 = .ok (.iload_n 3, 1) := by decide +kernel
theorem dX12_second_57 : decode M_X12_second.2.2.1 57 = .ok (.iastore, 1) := by decide +kernel
theorem dX12_second_58 : decode M_X12_second.2.2.1 58 = .ok (.aload_n 0, 1) := by decide +kernel
theorem dX12_second_59 : decode M_X12_second.2.2.1 59 = .ok (.getfield 108, 3) := by decide +kernel
theorem dX12_second_62 : decode M_X12_second.2.2.1 62 = .ok (.iload 5, 2) := by decide +kernel
theorem dX12_second_64 : decode M_X12_second.2.2.1 64 = .ok (.iload 4, 2) := by decide +kernel
theorem dX12_second_66 : decode M_X12_second.2.2.1 66 = .ok (.iastore, 1) := by decide +kernel
theorem dX12_second_67 : decode M_X12_second.2.2.1 67 = .ok (.iconst 1, 1) := by decide +kernel
theorem dX12_second_68 : decode M_X12_second.2.2.1 68 = .ok (.ireturn, 1) := by decide +kernel
theorem dX12_beat_0 : decode M_X12_beat.2.2.1 0 = .ok (.aload_n 0, 1) := by decide +kernel
theorem dX12_beat_1 : decode M_X12_beat.2.2.1 1 = .ok (.iload_n 1, 1) := by decide +kernel
theorem dX12_beat_2 : decode M_X12_beat.2.2.1 2 = .ok (.iload_n 2, 1) := by decide +kernel
theorem dX12_beat_3 : decode M_X12_beat.2.2.1 3 = .ok (.invokevirtual 346, 3) := by decide +kernel
theorem dX12_beat_6 : decode M_X12_beat.2.2.1 6 = .ok (.ifCond .eq 23, 3) := by decide +kernel
theorem dX12_beat_9 : decode M_X12_beat.2.2.1 9 = .ok (.iload_n 3, 1) := by decide +kernel
theorem dX12_beat_10 : decode M_X12_beat.2.2.1 10 = .ok (.iconst (-1), 1) := by decide +kernel
theorem dX12_beat_11 : decode M_X12_beat.2.2.1 11 = .ok (.iconst 1, 1) := by decide +kernel
theorem dX12_beat_12 : decode M_X12_beat.2.2.1 12 = .ok (.invokestatic 147, 3) := by decide +kernel
theorem dX12_beat_15 : decode M_X12_beat.2.2.1 15 = .ok (.ifCond .eq 14, 3) := by decide +kernel
theorem dX12_beat_18 : decode M_X12_beat.2.2.1 18 = .ok (.iload 4, 2) := by decide +kernel
theorem dX12_beat_20 : decode M_X12_beat.2.2.1 20 = .ok (.iconst 0, 1) := by decide +kernel
theorem dX12_beat_21 : decode M_X12_beat.2.2.1 21 = .ok (.ldc 184, 2) := by decide +kernel
theorem dX12_beat_23 : decode M_X12_beat.2.2.1 23 = .ok (.invokestatic 147, 3) := by decide +kernel
theorem dX12_beat_26 : decode M_X12_beat.2.2.1 26 = .ok (.ifCond .ne 5, 3) := by decide +kernel
theorem dX12_beat_29 : decode M_X12_beat.2.2.1 29 = .ok (.iconst 0, 1) := by decide +kernel
theorem dX12_beat_30 : decode M_X12_beat.2.2.1 30 = .ok (.ireturn, 1) := by decide +kernel
theorem dX12_beat_31 : decode M_X12_beat.2.2.1 31 = .ok (.aload_n 0, 1) := by decide +kernel
theorem dX12_beat_32 : decode M_X12_beat.2.2.1 32 = .ok (.getfield 111, 3) := by decide +kernel
theorem dX12_beat_35 : decode M_X12_beat.2.2.1 35 = .ok (.bipush 6, 2) := by decide +kernel
theorem dX12_beat_37 : decode M_X12_beat.2.2.1 37 = .ok (.iload_n 1, 1) := by decide +kernel
theorem dX12_beat_38 : decode M_X12_beat.2.2.1 38 = .ok (.imul, 1) := by decide +kernel
theorem dX12_beat_39 : decode M_X12_beat.2.2.1 39 = .ok (.iload_n 2, 1) := by decide +kernel
theorem dX12_beat_40 : decode M_X12_beat.2.2.1 40 = .ok (.iadd, 1) := by decide +kernel
theorem dX12_beat_41 : decode M_X12_beat.2.2.1 41 = .ok (.iload_n 3, 1) := by decide +kernel
theorem dX12_beat_42 : decode M_X12_beat.2.2.1 42 = .ok (.iastore, 1) := by decide +kernel
theorem dX12_beat_43 : decode M_X12_beat.2.2.1 43 = .ok (.aload_n 0, 1) := by decide +kernel
theorem dX12_beat_44 : decode M_X12_beat.2.2.1 44 = .ok (.getfield 114, 3) := by decide +kernel
theorem dX12_beat_47 : decode M_X12_beat.2.2.1 47 = .ok (.bipush 6, 2) := by decide +kernel
theorem dX12_beat_49 : decode M_X12_beat.2.2.1 49 = .ok (.iload_n 1, 1) := by decide +kernel
theorem dX12_beat_50 : decode M_X12_beat.2.2.1 50 = .ok (.imul, 1) := by decide +kernel
theorem dX12_beat_51 : decode M_X12_beat.2.2.1 51 = .ok (.iload_n 2, 1) := by decide +kernel
theorem dX12_beat_52 : decode M_X12_beat.2.2.1 52 = .ok (.iadd, 1) := by decide +kernel
theorem dX12_beat_53 : decode M_X12_beat.2.2.1 53 = .ok (.iload 4, 2) := by decide +kernel
theorem dX12_beat_55 : decode M_X12_beat.2.2.1 55 = .ok (.iastore, 1) := by decide +kernel
theorem dX12_beat_56 : decode M_X12_beat.2.2.1 56 = .ok (.iconst 1, 1) := by decide +kernel
theorem dX12_beat_57 : decode M_X12_beat.2.2.1 57 = .ok (.ireturn, 1) := by decide +kernel
theorem dX12_isFit_0 : decode M_X12_isFit.2.2.1 0 = .ok (.ldc_w 349, 3) := by decide +kernel
theorem dX12_isFit_3 : decode M_X12_isFit.2.2.1 3 = .ok (.istore 4, 2) := by decide +kernel
theorem dX12_isFit_5 : decode M_X12_isFit.2.2.1 5 = .ok (.ldc_w 339, 3) := by decide +kernel
theorem dX12_isFit_8 : decode M_X12_isFit.2.2.1 8 = .ok (.istore 5, 2) := by decide +kernel
theorem dX12_isFit_10 : decode M_X12_isFit.2.2.1 10 = .ok (.iconst 0, 1) := by decide +kernel
theorem dX12_isFit_11 : decode M_X12_isFit.2.2.1 11 = .ok (.istore 6, 2) := by decide +kernel
theorem dX12_isFit_13 : decode M_X12_isFit.2.2.1 13 = .ok (.iload 6, 2) := by decide +kernel
theorem dX12_isFit_15 : decode M_X12_isFit.2.2.1 15 = .ok (.aload_n 0, 1) := by decide +kernel
theorem dX12_isFit_16 : decode M_X12_isFit.2.2.1 16 = .ok (.getfield 151, 3) := by decide +kernel
theorem dX12_isFit_19 : decode M_X12_isFit.2.2.1 19 = .ok (.if_icmp .ge 234, 3) := by decide +kernel
theorem dX12_isFit_22 : decode M_X12_isFit.2.2.1 22 = .ok (.bipush 6, 2) := by decide +kernel
theorem dX12_isFit_24 : decode M_X12_isFit.2.2.1 24 = .ok (.iload_n 1, 1) := by decide +kernel
theorem dX12_isFit_25 : decode M_X12_isFit.2.2.1 25 = .ok (.imul, 1) := by decide +kernel
theorem dX12_isFit_26 : decode M_X12_isFit.2.2.1 26 = .ok (.iload 6, 2) := by decide +kernel
theorem dX12_isFit_28 : decode M_X12_isFit.2.2.1 28 = .ok (.iadd, 1) := by decide +kernel
theorem dX12_isFit_29 : decode M_X12_isFit.2.2.1 29 = .ok (.istore 7, 2) := by decide +kernel
theorem dX12_isFit_31 : decode M_X12_isFit.2.2.1 31 = .ok (.iload_n 2, 1) := by decide +kernel
theorem dX12_isFit_32 : decode M_X12_isFit.2.2.1 32 = .ok (.iload 6, 2) := by decide +kernel
theorem dX12_isFit_34 : decode M_X12_isFit.2.2.1 34 = .ok (.ishr, 1) := by decide +kernel
theorem dX12_isFit_35 : decode M_X12_isFit.2.2.1 35 = .ok (.iconst 1, 1) := by decide +kernel
theorem dX12_isFit_36 : decode M_X12_isFit.2.2.1 36 = .ok (.iand, 1) := by decide +kernel
theorem dX12_isFit_37 : decode M_X12_isFit.2.2.1 37 = .ok (.ifCond .eq 210, 3) := by decide +kernel
theorem dX12_isFit_40 : decode M_X12_isFit.2.2.1 40 = .ok (.aload_n 0, 1) := by decide +kernel
theorem dX12_isFit_41 : decode M_X12_isFit.2.2.1 41 = .ok (.getfield 92, 3) := by decide +kernel
theorem dX12_isFit_44 : decode M_X12_isFit.2.2.1 44 = .ok (.iload 7, 2) := by decide +kernel
theorem dX12_isFit_46 : decode M_X12_isFit.2.2.1 46 = .ok (.baload, 1) := by decide +kernel
theorem dX12_isFit_47 : decode M_X12_isFit.2.2.1 47 = .ok (.ifCond .ne 6, 3) := by decide +kernel
theorem dX12_isFit_50 : decode M_X12_isFit.2.2.1 50 = .ok (.goto 197, 3) := by decide +kernel
theorem dX12_isFit_53 : decode M_X12_isFit.2.2.1 53 = .ok (.iload_n 3, 1) := by decide +kernel
theorem dX12_isFit_54 : decode M_X12_isFit.2.2.1 54 = .ok (.aload_n 0, 1) := by decide +kernel
theorem dX12_isFit_55 : decode M_X12_isFit.2.2.1 55 = .ok (.getfield 7, 3) := by decide +kernel
theorem dX12_isFit_58 : decode M_X12_isFit.2.2.1 58 = .ok (.iload 6, 2) := by decide +kernel
theorem dX12_isFit_60 : decode M_X12_isFit.2.2.1 60 = .ok (.iaload, 1) := by decide +kernel
theorem dX12_isFit_61 : decode M_X12_isFit.2.2.1 61 = .ok (.invokestatic 350, 3) := by decide +kernel
theorem dX12_isFit_64 : decode M_X12_isFit.2.2.1 64 = .ok (.istore 8, 2) := by decide +kernel
theorem dX12_isFit_66 : decode M_X12_isFit.2.2.1 66 = .ok (.aload_n 0, 1) := by decide +kernel
theorem dX12_isFit_67 : decode M_X12_isFit.2.2.1 67 = .ok (.getfield 99, 3) := by decide +kernel
theorem dX12_isFit_70 : decode M_X12_isFit.2.2.1 70 = .ok (.iload 7, 2) := by decide +kernel
theorem dX12_isFit_72 : decode M_X12_isFit.2.2.1 72 = .ok (.iaload, 1) := by decide +kernel
theorem dX12_isFit_73 : decode M_X12_isFit.2.2.1 73 = .ok (.aload_n 0, 1) := by decide +kernel
theorem dX12_isFit_74 : decode M_X12_isFit.2.2.1 74 = .ok (.getfield 86, 3) := by decide +kernel
theorem dX12_isFit_77 : decode M_X12_isFit.2.2.1 77 = .ok (.iload 8, 2) := by decide +kernel
theorem dX12_isFit_79 : decode M_X12_isFit.2.2.1 79 = .ok (.imul, 1) := by decide +kernel
theorem dX12_isFit_80 : decode M_X12_isFit.2.2.1 80 = .ok (.isub, 1) := by decide +kernel
theorem dX12_isFit_81 : decode M_X12_isFit.2.2.1 81 = .ok (.iload 4, 2) := by decide +kernel
theorem dX12_isFit_83 : decode M_X12_isFit.2.2.1 83 = .ok (.if_icmp .le 21, 3) := by decide +kernel
theorem dX12_isFit_86 : decode M_X12_isFit.2.2.1 86 = .ok (.aload_n 0, 1) := by decide +kernel
theorem dX12_isFit_87 : decode M_X12_isFit.2.2.1 87 = .ok (.getfield 99, 3) := by decide +kernel
theorem dX12_isFit_90 : decode M_X12_isFit.2.2.1 90 = .ok (.iload 7, 2) := by decide +kernel
theorem dX12_isFit_92 : decode M_X12_isFit.2.2.1 92 = .ok (.iaload, 1) := by decide +kernel
theorem dX12_isFit_93 : decode M_X12_isFit.2.2.1 93 = .ok (.aload_n 0, 1) := by decide +kernel
theorem dX12_isFit_94 : decode M_X12_isFit.2.2.1 94 = .ok (.getfield 86, 3) := by decide +kernel
theorem dX12_isFit_97 : decode M_X12_isFit.2.2.1 97 = .ok (.iload 8, 2) := by decide +kernel
theorem dX12_isFit_99 : decode M_X12_isFit.2.2.1 99 = .ok (.imul, 1) := by decide +kernel
theorem dX12_isFit_100 : decode M_X12_isFit.2.2.1 100 = .ok (.isub, 1) := by decide +kernel
theorem dX12_isFit_101 : decode M_X12_isFit.2.2.1 101 = .ok (.goto 5, 3) := by decide +kernel
theorem dX12_isFit_104 : decode M_X12_isFit.2.2.1 104 = .ok (.iload 4, 2) := by decide +kernel
theorem dX12_isFit_106 : decode M_X12_isFit.2.2.1 106 = .ok (.istore 4, 2) := by decide +kernel
theorem dX12_isFit_108 : decode M_X12_isFit.2.2.1 108 = .ok (.aload_n 0, 1) := by decide +kernel
theorem dX12_isFit_109 : decode M_X12_isFit.2.2.1 109 = .ok (.getfield 102, 3) := by decide +kernel
theorem dX12_isFit_112 : decode M_X12_isFit.2.2.1 112 = .ok (.iload 7, 2) := by decide +kernel
theorem dX12_isFit_114 : decode M_X12_isFit.2.2.1 114 = .ok (.iaload, 1) := by decide +kernel
theorem dX12_isFit_115 : decode M_X12_isFit.2.2.1 115 = .ok (.aload_n 0, 1) := by decide +kernel
theorem dX12_isFit_116 : decode M_X12_isFit.2.2.1 116 = .ok (.getfield 86, 3) := by decide +kernel
theorem dX12_isFit_119 : decode M_X12_isFit.2.2.1 119 = .ok (.iload 8, 2) := by decide +kernel
theorem dX12_isFit_121 : decode M_X12_isFit.2.2.1 121 = .ok (.imul, 1) := by decide +kernel
theorem dX12_isFit_122 : decode M_X12_isFit.2.2.1 122 = .ok (.isub, 1) := by decide +kernel
theorem dX12_isFit_123 : decode M_X12_isFit.2.2.1 123 = .ok (.iload 5, 2) := by decide +kernel
theorem dX12_isFit_125 : decode M_X12_isFit.2.2.1 125 = .ok (.if_icmp .ge 21, 3) := by decide +kernel
theorem dX12_isFit_128 : decode M_X12_isFit.2.2.1 128 = .ok (.aload_n 0, 1) := by decide +kernel
theorem dX12_isFit_129 : decode M_X12_isFit.2.2.1 129 = .ok (.getfield 102, 3) := by decide +kernel
theorem dX12_isFit_132 : decode M_X12_isFit.2.2.1 132 = .ok (.iload 7, 2) := by decide +kernel
theorem dX12_isFit_134 : decode M_X12_isFit.2.2.1 134 = .ok (.iaload, 1) := by decide +kernel
theorem dX12_isFit_135 : decode M_X12_isFit.2.2.1 135 = .ok (.aload_n 0, 1) := by decide +kernel
theorem dX12_isFit_136 : decode M_X12_isFit.2.2.1 136 = .ok (.getfield 86, 3) := by decide +kernel
theorem dX12_isFit_139 : decode M_X12_isFit.2.2.1 139 = .ok (.iload 8, 2) := by decide +kernel
theorem dX12_isFit_141 : decode M_X12_isFit.2.2.1 141 = .ok (.imul, 1) := by decide +kernel
theorem dX12_isFit_142 : decode M_X12_isFit.2.2.1 142 = .ok (.isub, 1) := by decide +kernel
theorem dX12_isFit_143 : decode M_X12_isFit.2.2.1 143 = .ok (.goto 5, 3) := by decide +kernel
theorem dX12_isFit_146 : decode M_X12_isFit.2.2.1 146 = .ok (.iload 5, 2) := by decide +kernel
theorem dX12_isFit_148 : decode M_X12_isFit.2.2.1 148 = .ok (.istore 5, 2) := by decide +kernel
theorem dX12_isFit_150 : decode M_X12_isFit.2.2.1 150 = .ok (.aload_n 0, 1) := by decide +kernel
theorem dX12_isFit_151 : decode M_X12_isFit.2.2.1 151 = .ok (.getfield 96, 3) := by decide +kernel
theorem dX12_isFit_154 : decode M_X12_isFit.2.2.1 154 = .ok (.iload 7, 2) := by decide +kernel
theorem dX12_isFit_156 : decode M_X12_isFit.2.2.1 156 = .ok (.baload, 1) := by decide +kernel
theorem dX12_isFit_157 : decode M_X12_isFit.2.2.1 157 = .ok (.ifCond .ne 6, 3) := by decide +kernel
theorem dX12_isFit_160 : decode M_X12_isFit.2.2.1 160 = .ok (.goto 87, 3) := by decide +kernel
theorem dX12_isFit_163 : decode M_X12_isFit.2.2.1 163 = .ok (.aload_n 0, 1) := by decide +kernel
theorem dX12_isFit_164 : decode M_X12_isFit.2.2.1 164 = .ok (.getfield 105, 3) := by decide +kernel
theorem dX12_isFit_167 : decode M_X12_isFit.2.2.1 167 = .ok (.iload 7, 2) := by decide +kernel
theorem dX12_isFit_169 : decode M_X12_isFit.2.2.1 169 = .ok (.iaload, 1) := by decide +kernel
theorem dX12_isFit_170 : decode M_X12_isFit.2.2.1 170 = .ok (.aload_n 0, 1) := by decide +kernel
theorem dX12_isFit_171 : decode M_X12_isFit.2.2.1 171 = .ok (.getfield 89, 3) := by decide +kernel
theorem dX12_isFit_174 : decode M_X12_isFit.2.2.1 174 = .ok (.iload 8, 2) := by decide +kernel
theorem dX12_isFit_176 : decode M_X12_isFit.2.2.1 176 = .ok (.imul, 1) := by decide +kernel
theorem dX12_isFit_177 : decode M_X12_isFit.2.2.1 177 = .ok (.isub, 1) := by decide +kernel
theorem dX12_isFit_178 : decode M_X12_isFit.2.2.1 178 = .ok (.iload 4, 2) := by decide +kernel
theorem dX12_isFit_180 : decode M_X12_isFit.2.2.1 180 = .ok (.if_icmp .le 21, 3) := by decide +kernel
theorem dX12_isFit_183 : decode M_X12_isFit.2.2.1 183 = .ok (.aload_n 0, 1) := by decide +kernel
theorem dX12_isFit_184 : decode M_X12_isFit.2.2.1 184 = .ok (.getfield 105, 3) := by decide +kernel
theorem dX12_isFit_187 : decode M_X12_isFit.2.2.1 187 = .ok (.iload 7, 2) := by decide +kernel
theorem dX12_isFit_189 : decode M_X12_isFit.2.2.1 189 = .ok (.iaload, 1) := by decide +kernel
theorem dX12_isFit_190 : decode M_X12_isFit.2.2.1 190 = .ok (.aload_n 0, 1) := by decide +kernel
theorem dX12_isFit_191 : decode M_X12_isFit.2.2.1 191 = .ok (.getfield 89, 3) := by decide +kernel
theorem dX12_isFit_194 : decode M_X12_isFit.2.2.1 194 = .ok (.iload 8, 2) := by decide +kernel
theorem dX12_isFit_196 : decode M_X12_isFit.2.2.1 196 = .ok (.imul, 1) := by decide +kernel
theorem dX12_isFit_197 : decode M_X12_isFit.2.2.1 197 = .ok (.isub, 1) := by decide +kernel
theorem dX12_isFit_198 : decode M_X12_isFit.2.2.1 198 = .ok (.goto 5, 3) := by decide +kernel
theorem dX12_isFit_201 : decode M_X12_isFit.2.2.1 201 = .ok (.iload 4, 2) := by decide +kernel
theorem dX12_isFit_203 : decode M_X12_isFit.2.2.1 203 = .ok (.istore 4, 2) := by decide +kernel
theorem dX12_isFit_205 : decode M_X12_isFit.2.2.1 205 = .ok (.aload_n 0, 1) := by decide +kernel
theorem dX12_isFit_206 : decode M_X12_isFit.2.2.1 206 = .ok (.getfield 108, 3) := by decide +kernel
theorem dX12_isFit_209 : decode M_X12_isFit.2.2.1 209 = .ok (.iload 7, 2) := by decide +kernel
theorem dX12_isFit_211 : decode M_X12_isFit.2.2.1 211 = .ok (.iaload, 1) := by decide +kernel
theorem dX12_isFit_212 : decode M_X12_isFit.2.2.1 212 = .ok (.aload_n 0, 1) := by decide +kernel
theorem dX12_isFit_213 : decode M_X12_isFit.2.2.1 213 = .ok (.getfield 89, 3) := by decide +kernel
theorem dX12_isFit_216 : decode M_X12_isFit.2.2.1 216 = .ok (.iload 8, 2) := by decide +kernel
theorem dX12_isFit_218 : decode M_X12_isFit.2.2.1 218 = .ok (.imul, 1) := by decide +kernel
theorem dX12_isFit_219 : decode M_X12_isFit.2.2.1 219 = .ok (.isub, 1) := by decide +kernel
theorem dX12_isFit_220 : decode M_X12_isFit.2.2.1 220 = .ok (.iload 5, 2) := by decide +kernel
theorem dX12_isFit_222 : decode M_X12_isFit.2.2.1 222 = .ok (.if_icmp .ge 21, 3) := by decide +kernel
theorem dX12_isFit_225 : decode M_X12_isFit.2.2.1 225 = .ok (.aload_n 0, 1) := by decide +kernel
theorem dX12_isFit_226 : decode M_X12_isFit.2.2.1 226 = .ok (.getfield 108, 3) := by decide +kernel
theorem dX12_isFit_229 : decode M_X12_isFit.2.2.1 229 = .ok (.iload 7, 2) := by decide +kernel
theorem dX12_isFit_231 : decode M_X12_isFit.2.2.1 231 = .ok (.iaload, 1) := by decide +kernel
theorem dX12_isFit_232 : decode M_X12_isFit.2.2.1 232 = .ok (.aload_n 0, 1) := by decide +kernel
theorem dX12_isFit_233 : decode M_X12_isFit.2.2.1 233 = .ok (.getfield 89, 3) := by decide +kernel
theorem dX12_isFit_236 : decode M_X12_isFit.2.2.1 236 = .ok (.iload 8, 2) := by decide +kernel
theorem dX12_isFit_238 : decode M_X12_isFit.2.2.1 238 = .ok (.imul, 1) := by decide +kernel
theorem dX12_isFit_239 : decode M_X12_isFit.2.2.1 239 = .ok (.isub, 1) := by decide +kernel
theorem dX12_isFit_240 : decode M_X12_isFit.2.2.1 240 = .ok (.goto 5, 3) := by decide +kernel
theorem dX12_isFit_243 : decode M_X12_isFit.2.2.1 243 = .ok (.iload 5, 2) := by decide +kernel
theorem dX12_isFit_245 : decode M_X12_isFit.2.2.1 245 = .ok (.istore 5, 2) := by decide +kernel
theorem dX12_isFit_247 : decode M_X12_isFit.2.2.1 247 = .ok (.iinc 6 1, 3) := by decide +kernel
theorem dX12_isFit_250 : decode M_X12_isFit.2.2.1 250 = .ok (.goto (-237), 3) := by decide +kernel
theorem dX12_isFit_253 : decode M_X12_isFit.2.2.1 253 = .ok (.iload 4, 2) := by decide +kernel
theorem dX12_isFit_255 : decode M_X12_isFit.2.2.1 255 = .ok (.iload 5, 2) := by decide +kernel
theorem dX12_isFit_257 : decode M_X12_isFit.2.2.1 257 = .ok (.if_icmp .gt 7, 3) := by decide +kernel
theorem dX12_isFit_260 : decode M_X12_isFit.2.2.1 260 = .ok (.iconst 1, 1) := by decide +kernel
theorem dX12_isFit_261 : decode M_X12_isFit.2.2.1 261 = .ok (.goto 4, 3) := by decide +kernel
theorem dX12_isFit_264 : decode M_X12_isFit.2.2.1 264 = .ok (.iconst 0, 1) := by decide +kernel
theorem dX12_isFit_265 : decode M_X12_isFit.2.2.1 265 = .ok (.ireturn, 1) := by decide +kernel
theorem dX12_fits_0 : decode M_X12_fits.2.2.1 0 = .ok (.aload_n 0, 1) := by decide +kernel
theorem dX12_fits_1 : decode M_X12_fits.2.2.1 1 = .ok (.iload_n 1, 1) := by decide +kernel
theorem dX12_fits_2 : decode M_X12_fits.2.2.1 2 = .ok (.invokevirtual 340, 3) := by decide +kernel
theorem dX12_fits_5 : decode M_X12_fits.2.2.1 5 = .ok (.ifCond .eq 17, 3) := by decide +kernel
theorem dX12_fits_8 : decode M_X12_fits.2.2.1 8 = .ok (.iload_n 2, 1) := by decide +kernel
theorem dX12_fits_9 : decode M_X12_fits.2.2.1 9 = .ok (.iconst 1, 1) := by decide +kernel
theorem dX12_fits_10 : decode M_X12_fits.2.2.1 10 = .ok (.bipush 63, 2) := by decide +kernel
theorem dX12_fits_12 : decode M_X12_fits.2.2.1 12 = .ok (.invokestatic 147, 3) := by decide +kernel
theorem dX12_fits_15 : decode M_X12_fits.2.2.1 15 = .ok (.ifCond .eq 7, 3) := by decide +kernel
theorem dX12_fits_18 : decode M_X12_fits.2.2.1 18 = .ok (.iload_n 3, 1) := by decide +kernel
theorem dX12_fits_19 : decode M_X12_fits.2.2.1 19 = .ok (.ifCond .ge 5, 3) := by decide +kernel
theorem dX12_fits_22 : decode M_X12_fits.2.2.1 22 = .ok (.iconst (-1), 1) := by decide +kernel
theorem dX12_fits_23 : decode M_X12_fits.2.2.1 23 = .ok (.ireturn, 1) := by decide +kernel
theorem dX12_fits_24 : decode M_X12_fits.2.2.1 24 = .ok (.iconst 0, 1) := by decide +kernel
theorem dX12_fits_25 : decode M_X12_fits.2.2.1 25 = .ok (.istore 4, 2) := by decide +kernel
theorem dX12_fits_27 : decode M_X12_fits.2.2.1 27 = .ok (.iconst 0, 1) := by decide +kernel
theorem dX12_fits_28 : decode M_X12_fits.2.2.1 28 = .ok (.istore 5, 2) := by decide +kernel
theorem dX12_fits_30 : decode M_X12_fits.2.2.1 30 = .ok (.iload 5, 2) := by decide +kernel
theorem dX12_fits_32 : decode M_X12_fits.2.2.1 32 = .ok (.sipush 1600, 3) := by decide +kernel
theorem dX12_fits_35 : decode M_X12_fits.2.2.1 35 = .ok (.if_icmp .ge 35, 3) := by decide +kernel
theorem dX12_fits_38 : decode M_X12_fits.2.2.1 38 = .ok (.aload_n 0, 1) := by decide +kernel
theorem dX12_fits_39 : decode M_X12_fits.2.2.1 39 = .ok (.iload_n 1, 1) := by decide +kernel
theorem dX12_fits_40 : decode M_X12_fits.2.2.1 40 = .ok (.iload_n 2, 1) := by decide +kernel
theorem dX12_fits_41 : decode M_X12_fits.2.2.1 41 = .ok (.iload 5, 2) := by decide +kernel
theorem dX12_fits_43 : decode M_X12_fits.2.2.1 43 = .ok (.invokevirtual 353, 3) := by decide +kernel
theorem dX12_fits_46 : decode M_X12_fits.2.2.1 46 = .ok (.ifCond .ne 6, 3) := by decide +kernel
theorem dX12_fits_49 : decode M_X12_fits.2.2.1 49 = .ok (.goto 15, 3) := by decide +kernel
theorem dX12_fits_52 : decode M_X12_fits.2.2.1 52 = .ok (.iinc 4 1, 3) := by decide +kernel
theorem dX12_fits_55 : decode M_X12_fits.2.2.1 55 = .ok (.iload 4, 2) := by decide +kernel
theorem dX12_fits_57 : decode M_X12_fits.2.2.1 57 = .ok (.iload_n 3, 1) := by decide +kernel
theorem dX12_fits_58 : decode M_X12_fits.2.2.1 58 = .ok (.if_icmp .ne 6, 3) := by decide +kernel
theorem dX12_fits_61 : decode M_X12_fits.2.2.1 61 = .ok (.iload 5, 2) := by decide +kernel
theorem dX12_fits_63 : decode M_X12_fits.2.2.1 63 = .ok (.ireturn, 1) := by decide +kernel
theorem dX12_fits_64 : decode M_X12_fits.2.2.1 64 = .ok (.iinc 5 1, 3) := by decide +kernel
theorem dX12_fits_67 : decode M_X12_fits.2.2.1 67 = .ok (.goto (-37), 3) := by decide +kernel
theorem dX12_fits_70 : decode M_X12_fits.2.2.1 70 = .ok (.iload_n 3, 1) := by decide +kernel
theorem dX12_fits_71 : decode M_X12_fits.2.2.1 71 = .ok (.ifCond .ne 8, 3) := by decide +kernel
theorem dX12_fits_74 : decode M_X12_fits.2.2.1 74 = .ok (.iload 4, 2) := by decide +kernel
theorem dX12_fits_76 : decode M_X12_fits.2.2.1 76 = .ok (.goto 4, 3) := by decide +kernel
theorem dX12_fits_79 : decode M_X12_fits.2.2.1 79 = .ok (.iconst (-1), 1) := by decide +kernel
theorem dX12_fits_80 : decode M_X12_fits.2.2.1 80 = .ok (.ireturn, 1) := by decide +kernel
theorem dX12_fit_0 : decode M_X12_fit.2.2.1 0 = .ok (.aload_n 0, 1) := by decide +kernel
theorem dX12_fit_1 : decode M_X12_fit.2.2.1 1 = .ok (.iload_n 1, 1) := by decide +kernel
theorem dX12_fit_2 : decode M_X12_fit.2.2.1 2 = .ok (.invokevirtual 340, 3) := by decide +kernel
theorem dX12_fit_5 : decode M_X12_fit.2.2.1 5 = .ok (.ifCond .eq 35, 3) := by decide +kernel
theorem dX12_fit_8 : decode M_X12_fit.2.2.1 8 = .ok (.iload_n 2, 1) := by decide +kernel
theorem dX12_fit_9 : decode M_X12_fit.2.2.1 9 = .ok (.iload_n 3, 1) := by decide +kernel
theorem dX12_fit_10 : decode M_X12_fit.2.2.1 10 = .ok (.invokestatic 154, 3) := by decide +kernel
theorem dX12_fit_13 : decode M_X12_fit.2.2.1 13 = .ok (.ifCond .eq 27, 3) := by decide +kernel
theorem dX12_fit_16 : decode M_X12_fit.2.2.1 16 = .ok (.aload_n 0, 1) := by decide +kernel
theorem dX12_fit_17 : decode M_X12_fit.2.2.1 17 = .ok (.iload_n 1, 1) := by decide +kernel
theorem dX12_fit_18 : decode M_X12_fit.2.2.1 18 = .ok (.bipush 63, 2) := by decide +kernel
theorem dX12_fit_20 : decode M_X12_fit.2.2.1 20 = .ok (.bipush 40, 2) := by decide +kernel
theorem dX12_fit_22 : decode M_X12_fit.2.2.1 22 = .ok (.iload_n 3, 1) := by decide +kernel
theorem dX12_fit_23 : decode M_X12_fit.2.2.1 23 = .ok (.imul, 1) := by decide +kernel
theorem dX12_fit_24 : decode M_X12_fit.2.2.1 24 = .ok (.iload_n 2, 1) := by decide +kernel
theorem dX12_fit_25 : decode M_X12_fit.2.2.1 25 = .ok (.iadd, 1) := by decide +kernel
theorem dX12_fit_26 : decode M_X12_fit.2.2.1 26 = .ok (.invokevirtual 353, 3) := by decide +kernel
theorem dX12_fit_29 : decode M_X12_fit.2.2.1 29 = .ok (.ifCond .eq 7, 3) := by decide +kernel
theorem dX12_fit_32 : decode M_X12_fit.2.2.1 32 = .ok (.iconst 1, 1) := by decide +kernel
theorem dX12_fit_33 : decode M_X12_fit.2.2.1 33 = .ok (.goto 8, 3) := by decide +kernel
theorem dX12_fit_36 : decode M_X12_fit.2.2.1 36 = .ok (.iconst 0, 1) := by decide +kernel
theorem dX12_fit_37 : decode M_X12_fit.2.2.1 37 = .ok (.goto 4, 3) := by decide +kernel
theorem dX12_fit_40 : decode M_X12_fit.2.2.1 40 = .ok (.iconst (-1), 1) := by decide +kernel
theorem dX12_fit_41 : decode M_X12_fit.2.2.1 41 = .ok (.ireturn, 1) := by decide +kernel
theorem dX12_fitsSome_0 : decode M_X12_fitsSome.2.2.1 0 = .ok (.iconst 0, 1) := by decide +kernel
theorem dX12_fitsSome_1 : decode M_X12_fitsSome.2.2.1 1 = .ok (.istore_n 3, 1) := by decide +kernel
theorem dX12_fitsSome_2 : decode M_X12_fitsSome.2.2.1 2 = .ok (.iload_n 3, 1) := by decide +kernel
theorem dX12_fitsSome_3 : decode M_X12_fitsSome.2.2.1 3 = .ok (.sipush 1600, 3) := by decide +kernel
theorem dX12_fitsSome_6 : decode M_X12_fitsSome.2.2.1 6 = .ok (.if_icmp .ge 21, 3) := by decide +kernel
theorem dX12_fitsSome_9 : decode M_X12_fitsSome.2.2.1 9 = .ok (.aload_n 0, 1) := by decide +kernel
theorem dX12_fitsSome_10 : decode M_X12_fitsSome.2.2.1 10 = .ok (.iload_n 1, 1) := by decide +kernel
theorem dX12_fitsSome_11 : decode M_X12_fitsSome.2.2.1 11 = .ok (.iload_n 2, 1) := by decide +kernel
theorem dX12_fitsSome_12 : decode M_X12_fitsSome.2.2.1 12 = .ok (.iload_n 3, 1) := by decide +kernel
theorem dX12_fitsSome_13 : decode M_X12_fitsSome.2.2.1 13 = .ok (.invokevirtual 353, 3) := by decide +kernel
theorem dX12_fitsSome_16 : decode M_X12_fitsSome.2.2.1 16 = .ok (.ifCond .eq 5, 3) := by decide +kernel
theorem dX12_fitsSome_19 : decode M_X12_fitsSome.2.2.1 19 = .ok (.iconst 1, 1) := by decide +kernel
theorem dX12_fitsSome_20 : decode M_X12_fitsSome.2.2.1 20 = .ok (.ireturn, 1) := by decide +kernel
theorem dX12_fitsSome_21 : decode M_X12_fitsSome.2.2.1 21 = .ok (.iinc 3 1, 3) := by decide +kernel
theorem dX12_fitsSome_24 : decode M_X12_fitsSome.2.2.1 24 = .ok (.goto (-22), 3) := by decide +kernel
theorem dX12_fitsSome_27 : decode M_X12_fitsSome.2.2.1 27 = .ok (.iconst 0, 1) := by decide +kernel
theorem dX12_fitsSome_28 : decode M_X12_fitsSome.2.2.1 28 = .ok (.ireturn, 1) := by decide +kernel
theorem dX12_wrong_0 : decode M_X12_wrong.2.2.1 0 = .ok (.aload_n 0, 1) := by decide +kernel
theorem dX12_wrong_1 : decode M_X12_wrong.2.2.1 1 = .ok (.iload_n 1, 1) := by decide +kernel
theorem dX12_wrong_2 : decode M_X12_wrong.2.2.1 2 = .ok (.invokevirtual 340, 3) := by decide +kernel
theorem dX12_wrong_5 : decode M_X12_wrong.2.2.1 5 = .ok (.ifCond .eq 13, 3) := by decide +kernel
theorem dX12_wrong_8 : decode M_X12_wrong.2.2.1 8 = .ok (.aload_n 0, 1) := by decide +kernel
theorem dX12_wrong_9 : decode M_X12_wrong.2.2.1 9 = .ok (.iload_n 1, 1) := by decide +kernel
theorem dX12_wrong_10 : decode M_X12_wrong.2.2.1 10 = .ok (.bipush 63, 2) := by decide +kernel
theorem dX12_wrong_12 : decode M_X12_wrong.2.2.1 12 = .ok (.invokevirtual 356, 3) := by decide +kernel
theorem dX12_wrong_15 : decode M_X12_wrong.2.2.1 15 = .ok (.ifCond .eq 5, 3) := by decide +kernel
theorem dX12_wrong_18 : decode M_X12_wrong.2.2.1 18 = .ok (.iconst (-1), 1) := by decide +kernel
theorem dX12_wrong_19 : decode M_X12_wrong.2.2.1 19 = .ok (.ireturn, 1) := by decide +kernel
theorem dX12_wrong_20 : decode M_X12_wrong.2.2.1 20 = .ok (.iconst (-1), 1) := by decide +kernel
theorem dX12_wrong_21 : decode M_X12_wrong.2.2.1 21 = .ok (.istore_n 2, 1) := by decide +kernel
theorem dX12_wrong_22 : decode M_X12_wrong.2.2.1 22 = .ok (.iconst 0, 1) := by decide +kernel
theorem dX12_wrong_23 : decode M_X12_wrong.2.2.1 23 = .ok (.istore_n 3, 1) := by decide +kernel
theorem dX12_wrong_24 : decode M_X12_wrong.2.2.1 24 = .ok (.iload_n 3, 1) := by decide +kernel
theorem dX12_wrong_25 : decode M_X12_wrong.2.2.1 25 = .ok (.aload_n 0, 1) := by decide +kernel
theorem dX12_wrong_26 : decode M_X12_wrong.2.2.1 26 = .ok (.getfield 151, 3) := by decide +kernel
theorem dX12_wrong_29 : decode M_X12_wrong.2.2.1 29 = .ok (.if_icmp .ge 51, 3) := by decide +kernel
theorem dX12_wrong_32 : decode M_X12_wrong.2.2.1 32 = .ok (.aload_n 0, 1) := by decide +kernel
theorem dX12_wrong_33 : decode M_X12_wrong.2.2.1 33 = .ok (.getfield 92, 3) := by decide +kernel
theorem dX12_wrong_36 : decode M_X12_wrong.2.2.1 36 = .ok (.bipush 6, 2) := by decide +kernel
theorem dX12_wrong_38 : decode M_X12_wrong.2.2.1 38 = .ok (.iload_n 1, 1) := by decide +kernel
theorem dX12_wrong_39 : decode M_X12_wrong.2.2.1 39 = .ok (.imul, 1) := by decide +kernel
theorem dX12_wrong_40 : decode M_X12_wrong.2.2.1 40 = .ok (.iload_n 3, 1) := by decide +kernel
theorem dX12_wrong_41 : decode M_X12_wrong.2.2.1 41 = .ok (.iadd, 1) := by decide +kernel
theorem dX12_wrong_42 : decode M_X12_wrong.2.2.1 42 = .ok (.baload, 1) := by decide +kernel
theorem dX12_wrong_43 : decode M_X12_wrong.2.2.1 43 = .ok (.ifCond .eq 31, 3) := by decide +kernel
theorem dX12_wrong_46 : decode M_X12_wrong.2.2.1 46 = .ok (.aload_n 0, 1) := by decide +kernel
theorem dX12_wrong_47 : decode M_X12_wrong.2.2.1 47 = .ok (.iload_n 1, 1) := by decide +kernel
theorem dX12_wrong_48 : decode M_X12_wrong.2.2.1 48 = .ok (.bipush 63, 2) := by decide +kernel
theorem dX12_wrong_50 : decode M_X12_wrong.2.2.1 50 = .ok (.iconst 1, 1) := by decide +kernel
theorem dX12_wrong_51 : decode M_X12_wrong.2.2.1 51 = .ok (.iload_n 3, 1) := by decide +kernel
theorem dX12_wrong_52 : decode M_X12_wrong.2.2.1 52 = .ok (.ishl, 1) := by decide +kernel
theorem dX12_wrong_53 : decode M_X12_wrong.2.2.1 53 = .ok (.iconst (-1), 1) := by decide +kernel
theorem dX12_wrong_54 : decode M_X12_wrong.2.2.1 54 = .ok (.ixor, 1) := by decide +kernel
theorem dX12_wrong_55 : decode M_X12_wrong.2.2.1 55 = .ok (.iand, 1) := by decide +kernel
theorem dX12_wrong_56 : decode M_X12_wrong.2.2.1 56 = .ok (.invokevirtual 356, 3) := by decide +kernel
theorem dX12_wrong_59 : decode M_X12_wrong.2.2.1 59 = .ok (.ifCond .ne 6, 3) := by decide +kernel
theorem dX12_wrong_62 : decode M_X12_wrong.2.2.1 62 = .ok (.goto 12, 3) := by decide +kernel
theorem dX12_wrong_65 : decode M_X12_wrong.2.2.1 65 = .ok (.iload_n 2, 1) := by decide +kernel
theorem dX12_wrong_66 : decode M_X12_wrong.2.2.1 66 = .ok (.iconst (-1), 1) := by decide +kernel
theorem dX12_wrong_67 : decode M_X12_wrong.2.2.1 67 = .ok (.if_icmp .eq 5, 3) := by decide +kernel
theorem dX12_wrong_70 : decode M_X12_wrong.2.2.1 70 = .ok (.iconst (-1), 1) := by decide +kernel
theorem dX12_wrong_71 : decode M_X12_wrong.2.2.1 71 = .ok (.ireturn, 1) := by decide +kernel
theorem dX12_wrong_72 : decode M_X12_wrong.2.2.1 72 = .ok (.iload_n 3, 1) := by decide +kernel
theorem dX12_wrong_73 : decode M_X12_wrong.2.2.1 73 = .ok (.istore_n 2, 1) := by decide +kernel
theorem dX12_wrong_74 : decode M_X12_wrong.2.2.1 74 = .ok (.iinc 3 1, 3) := by decide +kernel
theorem dX12_wrong_77 : decode M_X12_wrong.2.2.1 77 = .ok (.goto (-53), 3) := by decide +kernel
theorem dX12_wrong_80 : decode M_X12_wrong.2.2.1 80 = .ok (.iload_n 2, 1) := by decide +kernel
theorem dX12_wrong_81 : decode M_X12_wrong.2.2.1 81 = .ok (.ireturn, 1) := by decide +kernel
theorem dX12_sector_0 : decode M_X12_sector.2.2.1 0 = .ok (.iload_n 0, 1) := by decide +kernel
theorem dX12_sector_1 : decode M_X12_sector.2.2.1 1 = .ok (.ifCond .le 18, 3) := by decide +kernel
theorem dX12_sector_4 : decode M_X12_sector.2.2.1 4 = .ok (.iload_n 1, 1) := by decide +kernel
theorem dX12_sector_5 : decode M_X12_sector.2.2.1 5 = .ok (.ifCond .lt 14, 3) := by decide +kernel
theorem dX12_sector_8 : decode M_X12_sector.2.2.1 8 = .ok (.iload_n 1, 1) := by decide +kernel
theorem dX12_sector_9 : decode M_X12_sector.2.2.1 9 = .ok (.iload_n 0, 1) := by decide +kernel
theorem dX12_sector_10 : decode M_X12_sector.2.2.1 10 = .ok (.if_icmp .ge 7, 3) := by decide +kernel
theorem dX12_sector_13 : decode M_X12_sector.2.2.1 13 = .ok (.iconst 0, 1) := by decide +kernel
theorem dX12_sector_14 : decode M_X12_sector.2.2.1 14 = .ok (.goto 4, 3) := by decide +kernel
theorem dX12_sector_17 : decode M_X12_sector.2.2.1 17 = .ok (.iconst 1, 1) := by decide +kernel
theorem dX12_sector_18 : decode M_X12_sector.2.2.1 18 = .ok (.ireturn, 1) := by decide +kernel
theorem dX12_sector_19 : decode M_X12_sector.2.2.1 19 = .ok (.iload_n 0, 1) := by decide +kernel
theorem dX12_sector_20 : decode M_X12_sector.2.2.1 20 = .ok (.ifCond .gt 19, 3) := by decide +kernel
theorem dX12_sector_23 : decode M_X12_sector.2.2.1 23 = .ok (.iload_n 1, 1) := by decide +kernel
theorem dX12_sector_24 : decode M_X12_sector.2.2.1 24 = .ok (.ifCond .le 15, 3) := by decide +kernel
theorem dX12_sector_27 : decode M_X12_sector.2.2.1 27 = .ok (.iload_n 1, 1) := by decide +kernel
theorem dX12_sector_28 : decode M_X12_sector.2.2.1 28 = .ok (.iload_n 0, 1) := by decide +kernel
theorem dX12_sector_29 : decode M_X12_sector.2.2.1 29 = .ok (.ineg, 1) := by decide +kernel
theorem dX12_sector_30 : decode M_X12_sector.2.2.1 30 = .ok (.if_icmp .le 7, 3) := by decide +kernel
theorem dX12_sector_33 : decode M_X12_sector.2.2.1 33 = .ok (.iconst 2, 1) := by decide +kernel
theorem dX12_sector_34 : decode M_X12_sector.2.2.1 34 = .ok (.goto 4, 3) := by decide +kernel
theorem dX12_sector_37 : decode M_X12_sector.2.2.1 37 = .ok (.iconst 3, 1) := by decide +kernel
theorem dX12_sector_38 : decode M_X12_sector.2.2.1 38 = .ok (.ireturn, 1) := by decide +kernel
theorem dX12_sector_39 : decode M_X12_sector.2.2.1 39 = .ok (.iload_n 0, 1) := by decide +kernel
theorem dX12_sector_40 : decode M_X12_sector.2.2.1 40 = .ok (.ifCond .ne 11, 3) := by decide +kernel
theorem dX12_sector_43 : decode M_X12_sector.2.2.1 43 = .ok (.iload_n 1, 1) := by decide +kernel
theorem dX12_sector_44 : decode M_X12_sector.2.2.1 44 = .ok (.ifCond .ne 7, 3) := by decide +kernel
theorem dX12_sector_47 : decode M_X12_sector.2.2.1 47 = .ok (.iconst (-1), 1) := by decide +kernel
theorem dX12_sector_48 : decode M_X12_sector.2.2.1 48 = .ok (.goto 12, 3) := by decide +kernel
theorem dX12_sector_51 : decode M_X12_sector.2.2.1 51 = .ok (.iconst 4, 1) := by decide +kernel
theorem dX12_sector_52 : decode M_X12_sector.2.2.1 52 = .ok (.iload_n 0, 1) := by decide +kernel
theorem dX12_sector_53 : decode M_X12_sector.2.2.1 53 = .ok (.ineg, 1) := by decide +kernel
theorem dX12_sector_54 : decode M_X12_sector.2.2.1 54 = .ok (.iload_n 1, 1) := by decide +kernel
theorem dX12_sector_55 : decode M_X12_sector.2.2.1 55 = .ok (.ineg, 1) := by decide +kernel
theorem dX12_sector_56 : decode M_X12_sector.2.2.1 56 = .ok (.invokestatic 359, 3) := by decide +kernel
theorem dX12_sector_59 : decode M_X12_sector.2.2.1 59 = .ok (.iadd, 1) := by decide +kernel
theorem dX12_sector_60 : decode M_X12_sector.2.2.1 60 = .ok (.ireturn, 1) := by decide +kernel
theorem dX12_slides_0 : decode M_X12_slides.2.2.1 0 = .ok (.aload_n 0, 1) := by decide +kernel
theorem dX12_slides_1 : decode M_X12_slides.2.2.1 1 = .ok (.iload_n 1, 1) := by decide +kernel
theorem dX12_slides_2 : decode M_X12_slides.2.2.1 2 = .ok (.invokevirtual 340, 3) := by decide +kernel
theorem dX12_slides_5 : decode M_X12_slides.2.2.1 5 = .ok (.ifCond .eq 11, 3) := by decide +kernel
theorem dX12_slides_8 : decode M_X12_slides.2.2.1 8 = .ok (.iload_n 2, 1) := by decide +kernel
theorem dX12_slides_9 : decode M_X12_slides.2.2.1 9 = .ok (.iload_n 3, 1) := by decide +kernel
theorem dX12_slides_10 : decode M_X12_slides.2.2.1 10 = .ok (.invokestatic 154, 3) := by decide +kernel
theorem dX12_slides_13 : decode M_X12_slides.2.2.1 13 = .ok (.ifCond .ne 5, 3) := by decide +kernel
theorem dX12_slides_16 : decode M_X12_slides.2.2.1 16 = .ok (.iconst (-1), 1) := by decide +kernel
theorem dX12_slides_17 : decode M_X12_slides.2.2.1 17 = .ok (.ireturn, 1) := by decide +kernel
theorem dX12_slides_18 : decode M_X12_slides.2.2.1 18 = .ok (.bipush 15, 2) := by decide +kernel
theorem dX12_slides_20 : decode M_X12_slides.2.2.1 20 = .ok (.istore 4, 2) := by decide +kernel
theorem dX12_slides_22 : decode M_X12_slides.2.2.1 22 = .ok (.iconst 0, 1) := by decide +kernel
theorem dX12_slides_23 : decode M_X12_slides.2.2.1 23 = .ok (.istore 5, 2) := by decide +kernel
theorem dX12_slides_25 : decode M_X12_slides.2.2.1 25 = .ok (.iload 5, 2) := by decide +kernel
theorem dX12_slides_27 : decode M_X12_slides.2.2.1 27 = .ok (.aload_n 0, 1) := by decide +kernel
theorem dX12_slides_28 : decode M_X12_slides.2.2.1 28 = .ok (.getfield 151, 3) := by decide +kernel
theorem dX12_slides_31 : decode M_X12_slides.2.2.1 31 = .ok (.if_icmp .ge 144, 3) := by decide +kernel
theorem dX12_slides_34 : decode M_X12_slides.2.2.1 34 = .ok (.bipush 6, 2) := by decide +kernel
theorem dX12_slides_36 : decode M_X12_slides.2.2.1 36 = .ok (.iload_n 1, 1) := by decide +kernel
theorem dX12_slides_37 : decode M_X12_slides.2.2.1 37 = .ok (.imul, 1) := by decide +kernel
theorem dX12_slides_38 : decode M_X12_slides.2.2.1 38 = .ok (.iload 5, 2) := by decide +kernel
theorem dX12_slides_40 : decode M_X12_slides.2.2.1 40 = .ok (.iadd, 1) := by decide +kernel
theorem dX12_slides_41 : decode M_X12_slides.2.2.1 41 = .ok (.istore 6, 2) := by decide +kernel
theorem dX12_slides_43 : decode M_X12_slides.2.2.1 43 = .ok (.aload_n 0, 1) := by decide +kernel
theorem dX12_slides_44 : decode M_X12_slides.2.2.1 44 = .ok (.getfield 7, 3) := by decide +kernel
theorem dX12_slides_47 : decode M_X12_slides.2.2.1 47 = .ok (.iload 5, 2) := by decide +kernel
theorem dX12_slides_49 : decode M_X12_slides.2.2.1 49 = .ok (.iaload, 1) := by decide +kernel
theorem dX12_slides_50 : decode M_X12_slides.2.2.1 50 = .ok (.bipush 40, 2) := by decide +kernel
theorem dX12_slides_52 : decode M_X12_slides.2.2.1 52 = .ok (.irem, 1) := by decide +kernel
theorem dX12_slides_53 : decode M_X12_slides.2.2.1 53 = .ok (.iload_n 2, 1) := by decide +kernel
theorem dX12_slides_54 : decode M_X12_slides.2.2.1 54 = .ok (.isub, 1) := by decide +kernel
theorem dX12_slides_55 : decode M_X12_slides.2.2.1 55 = .ok (.aload_n 0, 1) := by decide +kernel
theorem dX12_slides_56 : decode M_X12_slides.2.2.1 56 = .ok (.getfield 7, 3) := by decide +kernel
theorem dX12_slides_59 : decode M_X12_slides.2.2.1 59 = .ok (.iload 5, 2) := by decide +kernel
theorem dX12_slides_61 : decode M_X12_slides.2.2.1 61 = .ok (.iaload, 1) := by decide +kernel
theorem dX12_slides_62 : decode M_X12_slides.2.2.1 62 = .ok (.bipush 40, 2) := by decide +kernel
theorem dX12_slides_64 : decode M_X12_slides.2.2.1 64 = .ok (.idiv, 1) := by decide +kernel
theorem dX12_slides_65 : decode M_X12_slides.2.2.1 65 = .ok (.iload_n 3, 1) := by decide +kernel
theorem dX12_slides_66 : decode M_X12_slides.2.2.1 66 = .ok (.isub, 1) := by decide +kernel
theorem dX12_slides_67 : decode M_X12_slides.2.2.1 67 = .ok (.invokestatic 359, 3) := by decide +kernel
theorem dX12_slides_70 : decode M_X12_slides.2.2.1 70 = .ok (.istore 7, 2) := by decide +kernel
theorem dX12_slides_72 : decode M_X12_slides.2.2.1 72 = .ok (.aload_n 0, 1) := by decide +kernel
theorem dX12_slides_73 : decode M_X12_slides.2.2.1 73 = .ok (.getfield 92, 3) := by decide +kernel
theorem dX12_slides_76 : decode M_X12_slides.2.2.1 76 = .ok (.iload 6, 2) := by decide +kernel
theorem dX12_slides_78 : decode M_X12_slides.2.2.1 78 = .ok (.baload, 1) := by decide +kernel
theorem dX12_slides_79 : decode M_X12_slides.2.2.1 79 = .ok (.ifCond .eq 90, 3) := by decide +kernel
theorem dX12_slides_82 : decode M_X12_slides.2.2.1 82 = .ok (.aload_n 0, 1) := by decide +kernel
theorem dX12_slides_83 : decode M_X12_slides.2.2.1 83 = .ok (.getfield 111, 3) := by decide +kernel
theorem dX12_slides_86 : decode M_X12_slides.2.2.1 86 = .ok (.iload 6, 2) := by decide +kernel
theorem dX12_slides_88 : decode M_X12_slides.2.2.1 88 = .ok (.iaload, 1) := by decide +kernel
theorem dX12_slides_89 : decode M_X12_slides.2.2.1 89 = .ok (.ifCond .eq 80, 3) := by decide +kernel
theorem dX12_slides_92 : decode M_X12_slides.2.2.1 92 = .ok (.iload 7, 2) := by decide +kernel
theorem dX12_slides_94 : decode M_X12_slides.2.2.1 94 = .ok (.iconst (-1), 1) := by decide +kernel
theorem dX12_slides_95 : decode M_X12_slides.2.2.1 95 = .ok (.if_icmp .ne 6, 3) := by decide +kernel
theorem dX12_slides_98 : decode M_X12_slides.2.2.1 98 = .ok (.goto 71, 3) := by decide +kernel
theorem dX12_slides_101 : decode M_X12_slides.2.2.1 101 = .ok (.iconst 0, 1) := by decide +kernel
theorem dX12_slides_102 : decode M_X12_slides.2.2.1 102 = .ok (.istore 8, 2) := by decide +kernel
theorem dX12_slides_104 : decode M_X12_slides.2.2.1 104 = .ok (.iload 8, 2) := by decide +kernel
theorem dX12_slides_106 : decode M_X12_slides.2.2.1 106 = .ok (.iconst 4, 1) := by decide +kernel
theorem dX12_slides_107 : decode M_X12_slides.2.2.1 107 = .ok (.if_icmp .ge 62, 3) := by decide +kernel
theorem dX12_slides_110 : decode M_X12_slides.2.2.1 110 = .ok (.iload 7, 2) := by decide +kernel
theorem dX12_slides_112 : decode M_X12_slides.2.2.1 112 = .ok (.iload 8, 2) := by decide +kernel
theorem dX12_slides_114 : decode M_X12_slides.2.2.1 114 = .ok (.isub, 1) := by decide +kernel
theorem dX12_slides_115 : decode M_X12_slides.2.2.1 115 = .ok (.bipush 8, 2) := by decide +kernel
theorem dX12_slides_117 : decode M_X12_slides.2.2.1 117 = .ok (.iadd, 1) := by decide +kernel
theorem dX12_slides_118 : decode M_X12_slides.2.2.1 118 = .ok (.iconst 4, 1) := by decide +kernel
theorem dX12_slides_119 : decode M_X12_slides.2.2.1 119 = .ok (.irem, 1) := by decide +kernel
theorem dX12_slides_120 : decode M_X12_slides.2.2.1 120 = .ok (.iconst 2, 1) := by decide +kernel
theorem dX12_slides_121 : decode M_X12_slides.2.2.1 121 = .ok (.if_icmp .ge 7, 3) := by decide +kernel
theorem dX12_slides_124 : decode M_X12_slides.2.2.1 124 = .ok (.iconst 1, 1) := by decide +kernel
theorem dX12_slides_125 : decode M_X12_slides.2.2.1 125 = .ok (.goto 4, 3) := by decide +kernel
theorem dX12_slides_128 : decode M_X12_slides.2.2.1 128 = .ok (.iconst 0, 1) := by decide +kernel
theorem dX12_slides_129 : decode M_X12_slides.2.2.1 129 = .ok (.istore 9, 2) := by decide +kernel
theorem dX12_slides_131 : decode M_X12_slides.2.2.1 131 = .ok (.iload 9, 2) := by decide +kernel
theorem dX12_slides_133 : decode M_X12_slides.2.2.1 133 = .ok (.aload_n 0, 1) := by decide +kernel
theorem dX12_slides_134 : decode M_X12_slides.2.2.1 134 = .ok (.getfield 111, 3) := by decide +kernel
theorem dX12_slides_137 : decode M_X12_slides.2.2.1 137 = .ok (.iload 6, 2) := by decide +kernel
theorem dX12_slides_139 : decode M_X12_slides.2.2.1 139 = .ok (.iaload, 1) := by decide +kernel
theorem dX12_slides_140 : decode M_X12_slides.2.2.1 140 = .ok (.iconst 1, 1) := by decide +kernel
theorem dX12_slides_141 : decode M_X12_slides.2.2.1 141 = .ok (.if_icmp .ne 7, 3) := by decide +kernel
theorem dX12_slides_144 : decode M_X12_slides.2.2.1 144 = .ok (.iconst 1, 1) := by decide +kernel
theorem dX12_slides_145 : decode M_X12_slides.2.2.1 145 = .ok (.goto 4, 3) := by decide +kernel
theorem dX12_slides_148 : decode M_X12_slides.2.2.1 148 = .ok (.iconst 0, 1) := by decide +kernel
theorem dX12_slides_149 : decode M_X12_slides.2.2.1 149 = .ok (.if_icmp .eq 14, 3) := by decide +kernel
theorem dX12_slides_152 : decode M_X12_slides.2.2.1 152 = .ok (.iload 4, 2) := by decide +kernel
theorem dX12_slides_154 : decode M_X12_slides.2.2.1 154 = .ok (.iconst 1, 1) := by decide +kernel
theorem dX12_slides_155 : decode M_X12_slides.2.2.1 155 = .ok (.iload 8, 2) := by decide +kernel
theorem dX12_slides_157 : decode M_X12_slides.2.2.1 157 = .ok (.ishl, 1) := by decide +kernel
theorem dX12_slides_158 : decode M_X12_slides.2.2.1 158 = .ok (.iconst (-1), 1) := by decide +kernel
theorem dX12_slides_159 : decode M_X12_slides.2.2.1 159 = .ok (.ixor, 1) := by decide +kernel
theorem dX12_slides_160 : decode M_X12_slides.2.2.1 160 = .ok (.iand, 1) := by decide +kernel
theorem dX12_slides_161 : decode M_X12_slides.2.2.1 161 = .ok (.istore 4, 2) := by decide +kernel
theorem dX12_slides_163 : decode M_X12_slides.2.2.1 163 = .ok (.iinc 8 1, 3) := by decide +kernel
theorem dX12_slides_166 : decode M_X12_slides.2.2.1 166 = .ok (.goto (-62), 3) := by decide +kernel
theorem dX12_slides_169 : decode M_X12_slides.2.2.1 169 = .ok (.iinc 5 1, 3) := by decide +kernel
theorem dX12_slides_172 : decode M_X12_slides.2.2.1 172 = .ok (.goto (-147), 3) := by decide +kernel
theorem dX12_slides_175 : decode M_X12_slides.2.2.1 175 = .ok (.iload 4, 2) := by decide +kernel
theorem dX12_slides_177 : decode M_X12_slides.2.2.1 177 = .ok (.ireturn, 1) := by decide +kernel
theorem dX12_levelOf_0 : decode M_X12_levelOf.2.2.1 0 = .ok (.iload_n 0, 1) := by decide +kernel
theorem dX12_levelOf_1 : decode M_X12_levelOf.2.2.1 1 = .ok (.ifCond .ne 5, 3) := by decide +kernel
theorem dX12_levelOf_4 : decode M_X12_levelOf.2.2.1 4 = .ok (.iconst 0, 1) := by decide +kernel
theorem dX12_levelOf_5 : decode M_X12_levelOf.2.2.1 5 = .ok (.ireturn, 1) := by decide +kernel
theorem dX12_levelOf_6 : decode M_X12_levelOf.2.2.1 6 = .ok (.iconst 0, 1) := by decide +kernel
theorem dX12_levelOf_7 : decode M_X12_levelOf.2.2.1 7 = .ok (.istore_n 1, 1) := by decide +kernel
theorem dX12_levelOf_8 : decode M_X12_levelOf.2.2.1 8 = .ok (.iload_n 0, 1) := by decide +kernel
theorem dX12_levelOf_9 : decode M_X12_levelOf.2.2.1 9 = .ok (.iload_n 1, 1) := by decide +kernel
theorem dX12_levelOf_10 : decode M_X12_levelOf.2.2.1 10 = .ok (.iconst 1, 1) := by decide +kernel
theorem dX12_levelOf_11 : decode M_X12_levelOf.2.2.1 11 = .ok (.iadd, 1) := by decide +kernel
theorem dX12_levelOf_12 : decode M_X12_levelOf.2.2.1 12 = .ok (.ishr, 1) := by decide +kernel
theorem dX12_levelOf_13 : decode M_X12_levelOf.2.2.1 13 = .ok (.ifCond .le 9, 3) := by decide +kernel
theorem dX12_levelOf_16 : decode M_X12_levelOf.2.2.1 16 = .ok (.iinc 1 1, 3) := by decide +kernel
theorem dX12_levelOf_19 : decode M_X12_levelOf.2.2.1 19 = .ok (.goto (-11), 3) := by decide +kernel
theorem dX12_levelOf_22 : decode M_X12_levelOf.2.2.1 22 = .ok (.bipush 10, 2) := by decide +kernel
theorem dX12_levelOf_24 : decode M_X12_levelOf.2.2.1 24 = .ok (.iload_n 1, 1) := by decide +kernel
theorem dX12_levelOf_25 : decode M_X12_levelOf.2.2.1 25 = .ok (.imul, 1) := by decide +kernel
theorem dX12_levelOf_26 : decode M_X12_levelOf.2.2.1 26 = .ok (.iload_n 0, 1) := by decide +kernel
theorem dX12_levelOf_27 : decode M_X12_levelOf.2.2.1 27 = .ok (.i2l, 1) := by decide +kernel
theorem dX12_levelOf_28 : decode M_X12_levelOf.2.2.1 28 = .ok (.lconst 1, 1) := by decide +kernel
theorem dX12_levelOf_29 : decode M_X12_levelOf.2.2.1 29 = .ok (.iload_n 1, 1) := by decide +kernel
theorem dX12_levelOf_30 : decode M_X12_levelOf.2.2.1 30 = .ok (.lshl, 1) := by decide +kernel
theorem dX12_levelOf_31 : decode M_X12_levelOf.2.2.1 31 = .ok (.lsub, 1) := by decide +kernel
theorem dX12_levelOf_32 : decode M_X12_levelOf.2.2.1 32 = .ok (.ldc2_w 362, 3) := by decide +kernel
theorem dX12_levelOf_35 : decode M_X12_levelOf.2.2.1 35 = .ok (.lmul, 1) := by decide +kernel
theorem dX12_levelOf_36 : decode M_X12_levelOf.2.2.1 36 = .ok (.iload_n 1, 1) := by decide +kernel
theorem dX12_levelOf_37 : decode M_X12_levelOf.2.2.1 37 = .ok (.lshr, 1) := by decide +kernel
theorem dX12_levelOf_38 : decode M_X12_levelOf.2.2.1 38 = .ok (.l2i, 1) := by decide +kernel
theorem dX12_levelOf_39 : decode M_X12_levelOf.2.2.1 39 = .ok (.iadd, 1) := by decide +kernel
theorem dX12_levelOf_40 : decode M_X12_levelOf.2.2.1 40 = .ok (.ireturn, 1) := by decide +kernel
theorem dX12_level_0 : decode M_X12_level.2.2.1 0 = .ok (.iload_n 1, 1) := by decide +kernel
theorem dX12_level_1 : decode M_X12_level.2.2.1 1 = .ok (.ifCond .ge 7, 3) := by decide +kernel
theorem dX12_level_4 : decode M_X12_level.2.2.1 4 = .ok (.iconst (-1), 1) := by decide +kernel
theorem dX12_level_5 : decode M_X12_level.2.2.1 5 = .ok (.goto 7, 3) := by decide +kernel
theorem dX12_level_8 : decode M_X12_level.2.2.1 8 = .ok (.iload_n 1, 1) := by decide +kernel
theorem dX12_level_9 : decode M_X12_level.2.2.1 9 = .ok (.invokestatic 364, 3) := by decide +kernel
theorem dX12_level_12 : decode M_X12_level.2.2.1 12 = .ok (.ireturn, 1) := by decide +kernel
theorem dX12_habit_0 : decode M_X12_habit.2.2.1 0 = .ok (.aload_n 0, 1) := by decide +kernel
theorem dX12_habit_1 : decode M_X12_habit.2.2.1 1 = .ok (.iload_n 1, 1) := by decide +kernel
theorem dX12_habit_2 : decode M_X12_habit.2.2.1 2 = .ok (.invokevirtual 158, 3) := by decide +kernel
theorem dX12_habit_5 : decode M_X12_habit.2.2.1 5 = .ok (.ifCond .eq 14, 3) := by decide +kernel
theorem dX12_habit_8 : decode M_X12_habit.2.2.1 8 = .ok (.iload_n 2, 1) := by decide +kernel
theorem dX12_habit_9 : decode M_X12_habit.2.2.1 9 = .ok (.bipush (-50), 2) := by decide +kernel
theorem dX12_habit_11 : decode M_X12_habit.2.2.1 11 = .ok (.bipush 50, 2) := by decide +kernel
theorem dX12_habit_13 : decode M_X12_habit.2.2.1 13 = .ok (.invokestatic 147, 3) := by decide +kernel
theorem dX12_habit_16 : decode M_X12_habit.2.2.1 16 = .ok (.ifCond .ne 5, 3) := by decide +kernel
theorem dX12_habit_19 : decode M_X12_habit.2.2.1 19 = .ok (.iconst 0, 1) := by decide +kernel
theorem dX12_habit_20 : decode M_X12_habit.2.2.1 20 = .ok (.ireturn, 1) := by decide +kernel
theorem dX12_habit_21 : decode M_X12_habit.2.2.1 21 = .ok (.aload_n 0, 1) := by decide +kernel
theorem dX12_habit_22 : decode M_X12_habit.2.2.1 22 = .ok (.getfield 52, 3) := by decide +kernel
theorem dX12_habit_25 : decode M_X12_habit.2.2.1 25 = .ok (.iload_n 1, 1) := by decide +kernel
theorem dX12_habit_26 : decode M_X12_habit.2.2.1 26 = .ok (.iload_n 2, 1) := by decide +kernel
theorem dX12_habit_27 : decode M_X12_habit.2.2.1 27 = .ok (.iastore, 1) := by decide +kernel
theorem dX12_habit_28 : decode M_X12_habit.2.2.1 28 = .ok (.iconst 1, 1) := by decide +kernel
theorem dX12_habit_29 : decode M_X12_habit.2.2.1 29 = .ok (.ireturn, 1) := by decide +kernel
theorem dX12_tells_0 : decode M_X12_tells.2.2.1 0 = .ok (.aload_n 0, 1) := by decide +kernel
theorem dX12_tells_1 : decode M_X12_tells.2.2.1 1 = .ok (.getfield 92, 3) := by decide +kernel
theorem dX12_tells_4 : decode M_X12_tells.2.2.1 4 = .ok (.bipush 6, 2) := by decide +kernel
theorem dX12_tells_6 : decode M_X12_tells.2.2.1 6 = .ok (.iload_n 1, 1) := by decide +kernel
theorem dX12_tells_7 : decode M_X12_tells.2.2.1 7 = .ok (.imul, 1) := by decide +kernel
theorem dX12_tells_8 : decode M_X12_tells.2.2.1 8 = .ok (.iload_n 2, 1) := by decide +kernel
theorem dX12_tells_9 : decode M_X12_tells.2.2.1 9 = .ok (.iadd, 1) := by decide +kernel
theorem dX12_tells_10 : decode M_X12_tells.2.2.1 10 = .ok (.baload, 1) := by decide +kernel
theorem dX12_tells_11 : decode M_X12_tells.2.2.1 11 = .ok (.ifCond .eq 21, 3) := by decide +kernel
theorem dX12_tells_14 : decode M_X12_tells.2.2.1 14 = .ok (.aload_n 0, 1) := by decide +kernel
theorem dX12_tells_15 : decode M_X12_tells.2.2.1 15 = .ok (.getfield 114, 3) := by decide +kernel
theorem dX12_tells_18 : decode M_X12_tells.2.2.1 18 = .ok (.bipush 6, 2) := by decide +kernel
theorem dX12_tells_20 : decode M_X12_tells.2.2.1 20 = .ok (.iload_n 1, 1) := by decide +kernel
theorem dX12_tells_21 : decode M_X12_tells.2.2.1 21 = .ok (.imul, 1) := by decide +kernel
theorem dX12_tells_22 : decode M_X12_tells.2.2.1 22 = .ok (.iload_n 2, 1) := by decide +kernel
theorem dX12_tells_23 : decode M_X12_tells.2.2.1 23 = .ok (.iadd, 1) := by decide +kernel
theorem dX12_tells_24 : decode M_X12_tells.2.2.1 24 = .ok (.iaload, 1) := by decide +kernel
theorem dX12_tells_25 : decode M_X12_tells.2.2.1 25 = .ok (.ifCond .le 7, 3) := by decide +kernel
theorem dX12_tells_28 : decode M_X12_tells.2.2.1 28 = .ok (.iconst 1, 1) := by decide +kernel
theorem dX12_tells_29 : decode M_X12_tells.2.2.1 29 = .ok (.goto 4, 3) := by decide +kernel
theorem dX12_tells_32 : decode M_X12_tells.2.2.1 32 = .ok (.iconst 0, 1) := by decide +kernel
theorem dX12_tells_33 : decode M_X12_tells.2.2.1 33 = .ok (.ireturn, 1) := by decide +kernel
theorem dX12_fades_0 : decode M_X12_fades.2.2.1 0 = .ok (.iconst 3, 1) := by decide +kernel
theorem dX12_fades_1 : decode M_X12_fades.2.2.1 1 = .ok (.iload_n 0, 1) := by decide +kernel
theorem dX12_fades_2 : decode M_X12_fades.2.2.1 2 = .ok (.iload_n 1, 1) := by decide +kernel
theorem dX12_fades_3 : decode M_X12_fades.2.2.1 3 = .ok (.invokestatic 350, 3) := by decide +kernel
theorem dX12_fades_6 : decode M_X12_fades.2.2.1 6 = .ok (.iconst 1, 1) := by decide +kernel
theorem dX12_fades_7 : decode M_X12_fades.2.2.1 7 = .ok (.iadd, 1) := by decide +kernel
theorem dX12_fades_8 : decode M_X12_fades.2.2.1 8 = .ok (.invokestatic 364, 3) := by decide +kernel
theorem dX12_fades_11 : decode M_X12_fades.2.2.1 11 = .ok (.imul, 1) := by decide +kernel
theorem dX12_fades_12 : decode M_X12_fades.2.2.1 12 = .ok (.iconst 2, 1) := by decide +kernel
theorem dX12_fades_13 : decode M_X12_fades.2.2.1 13 = .ok (.idiv, 1) := by decide +kernel
theorem dX12_fades_14 : decode M_X12_fades.2.2.1 14 = .ok (.ireturn, 1) := by decide +kernel
theorem dX12_bare_0 : decode M_X12_bare.2.2.1 0 = .ok (.aload_n 0, 1) := by decide +kernel
theorem dX12_bare_1 : decode M_X12_bare.2.2.1 1 = .ok (.getfield 114, 3) := by decide +kernel
theorem dX12_bare_4 : decode M_X12_bare.2.2.1 4 = .ok (.bipush 6, 2) := by decide +kernel
theorem dX12_bare_6 : decode M_X12_bare.2.2.1 6 = .ok (.iload_n 1, 1) := by decide +kernel
theorem dX12_bare_7 : decode M_X12_bare.2.2.1 7 = .ok (.imul, 1) := by decide +kernel
theorem dX12_bare_8 : decode M_X12_bare.2.2.1 8 = .ok (.iload_n 3, 1) := by decide +kernel
theorem dX12_bare_9 : decode M_X12_bare.2.2.1 9 = .ok (.iadd, 1) := by decide +kernel
theorem dX12_bare_10 : decode M_X12_bare.2.2.1 10 = .ok (.iaload, 1) := by decide +kernel
theorem dX12_bare_11 : decode M_X12_bare.2.2.1 11 = .ok (.invokestatic 364, 3) := by decide +kernel
theorem dX12_bare_14 : decode M_X12_bare.2.2.1 14 = .ok (.iload_n 2, 1) := by decide +kernel
theorem dX12_bare_15 : decode M_X12_bare.2.2.1 15 = .ok (.aload_n 0, 1) := by decide +kernel
theorem dX12_bare_16 : decode M_X12_bare.2.2.1 16 = .ok (.getfield 7, 3) := by decide +kernel
theorem dX12_bare_19 : decode M_X12_bare.2.2.1 19 = .ok (.iload_n 3, 1) := by decide +kernel
theorem dX12_bare_20 : decode M_X12_bare.2.2.1 20 = .ok (.iaload, 1) := by decide +kernel
theorem dX12_bare_21 : decode M_X12_bare.2.2.1 21 = .ok (.invokestatic 367, 3) := by decide +kernel
theorem dX12_bare_24 : decode M_X12_bare.2.2.1 24 = .ok (.iadd, 1) := by decide +kernel
theorem dX12_bare_25 : decode M_X12_bare.2.2.1 25 = .ok (.ireturn, 1) := by decide +kernel
theorem dX12_sizeBut_0 : decode M_X12_sizeBut.2.2.1 0 = .ok (.iconst 0, 1) := by decide +kernel
theorem dX12_sizeBut_1 : decode M_X12_sizeBut.2.2.1 1 = .ok (.istore 4, 2) := by decide +kernel
theorem dX12_sizeBut_3 : decode M_X12_sizeBut.2.2.1 3 = .ok (.iconst 0, 1) := by decide +kernel
theorem dX12_sizeBut_4 : decode M_X12_sizeBut.2.2.1 4 = .ok (.istore 5, 2) := by decide +kernel
theorem dX12_sizeBut_6 : decode M_X12_sizeBut.2.2.1 6 = .ok (.iconst 0, 1) := by decide +kernel
theorem dX12_sizeBut_7 : decode M_X12_sizeBut.2.2.1 7 = .ok (.istore 6, 2) := by decide +kernel
theorem dX12_sizeBut_9 : decode M_X12_sizeBut.2.2.1 9 = .ok (.iload 6, 2) := by decide +kernel
theorem dX12_sizeBut_11 : decode M_X12_sizeBut.2.2.1 11 = .ok (.aload_n 0, 1) := by decide +kernel
theorem dX12_sizeBut_12 : decode M_X12_sizeBut.2.2.1 12 = .ok (.getfield 151, 3) := by decide +kernel
theorem dX12_sizeBut_15 : decode M_X12_sizeBut.2.2.1 15 = .ok (.if_icmp .ge 52, 3) := by decide +kernel
theorem dX12_sizeBut_18 : decode M_X12_sizeBut.2.2.1 18 = .ok (.iload 6, 2) := by decide +kernel
theorem dX12_sizeBut_20 : decode M_X12_sizeBut.2.2.1 20 = .ok (.iload_n 3, 1) := by decide +kernel
theorem dX12_sizeBut_21 : decode M_X12_sizeBut.2.2.1 21 = .ok (.if_icmp .eq 40, 3) := by decide +kernel
theorem dX12_sizeBut_24 : decode M_X12_sizeBut.2.2.1 24 = .ok (.aload_n 0, 1) := by decide +kernel
theorem dX12_sizeBut_25 : decode M_X12_sizeBut.2.2.1 25 = .ok (.iload_n 1, 1) := by decide +kernel
theorem dX12_sizeBut_26 : decode M_X12_sizeBut.2.2.1 26 = .ok (.iload 6, 2) := by decide +kernel
theorem dX12_sizeBut_28 : decode M_X12_sizeBut.2.2.1 28 = .ok (.invokevirtual 370, 3) := by decide +kernel
theorem dX12_sizeBut_31 : decode M_X12_sizeBut.2.2.1 31 = .ok (.ifCond .ne 6, 3) := by decide +kernel
theorem dX12_sizeBut_34 : decode M_X12_sizeBut.2.2.1 34 = .ok (.goto 27, 3) := by decide +kernel
theorem dX12_sizeBut_37 : decode M_X12_sizeBut.2.2.1 37 = .ok (.iinc 4 1, 3) := by decide +kernel
theorem dX12_sizeBut_40 : decode M_X12_sizeBut.2.2.1 40 = .ok (.iload 5, 2) := by decide +kernel
theorem dX12_sizeBut_42 : decode M_X12_sizeBut.2.2.1 42 = .ok (.aload_n 0, 1) := by decide +kernel
theorem dX12_sizeBut_43 : decode M_X12_sizeBut.2.2.1 43 = .ok (.iload_n 1, 1) := by decide +kernel
theorem dX12_sizeBut_44 : decode M_X12_sizeBut.2.2.1 44 = .ok (.iload_n 2, 1) := by decide +kernel
theorem dX12_sizeBut_45 : decode M_X12_sizeBut.2.2.1 45 = .ok (.iload 6, 2) := by decide +kernel
theorem dX12_sizeBut_47 : decode M_X12_sizeBut.2.2.1 47 = .ok (.invokevirtual 373, 3) := by decide +kernel
theorem dX12_sizeBut_50 : decode M_X12_sizeBut.2.2.1 50 = .ok (.aload_n 0, 1) := by decide +kernel
theorem dX12_sizeBut_51 : decode M_X12_sizeBut.2.2.1 51 = .ok (.getfield 52, 3) := by decide +kernel
theorem dX12_sizeBut_54 : decode M_X12_sizeBut.2.2.1 54 = .ok (.iload 6, 2) := by decide +kernel
theorem dX12_sizeBut_56 : decode M_X12_sizeBut.2.2.1 56 = .ok (.iaload, 1) := by decide +kernel
theorem dX12_sizeBut_57 : decode M_X12_sizeBut.2.2.1 57 = .ok (.iadd, 1) := by decide +kernel
theorem dX12_sizeBut_58 : decode M_X12_sizeBut.2.2.1 58 = .ok (.iadd, 1) := by decide +kernel
theorem dX12_sizeBut_59 : decode M_X12_sizeBut.2.2.1 59 = .ok (.istore 5, 2) := by decide +kernel
theorem dX12_sizeBut_61 : decode M_X12_sizeBut.2.2.1 61 = .ok (.iinc 6 1, 3) := by decide +kernel
theorem dX12_sizeBut_64 : decode M_X12_sizeBut.2.2.1 64 = .ok (.goto (-55), 3) := by decide +kernel
theorem dX12_sizeBut_67 : decode M_X12_sizeBut.2.2.1 67 = .ok (.iload 4, 2) := by decide +kernel
theorem dX12_sizeBut_69 : decode M_X12_sizeBut.2.2.1 69 = .ok (.ifCond .ne 8, 3) := by decide +kernel
theorem dX12_sizeBut_72 : decode M_X12_sizeBut.2.2.1 72 = .ok (.ldc 162, 2) := by decide +kernel
theorem dX12_sizeBut_74 : decode M_X12_sizeBut.2.2.1 74 = .ok (.goto 10, 3) := by decide +kernel
theorem dX12_sizeBut_77 : decode M_X12_sizeBut.2.2.1 77 = .ok (.iload 5, 2) := by decide +kernel
theorem dX12_sizeBut_79 : decode M_X12_sizeBut.2.2.1 79 = .ok (.iload 4, 2) := by decide +kernel
theorem dX12_sizeBut_81 : decode M_X12_sizeBut.2.2.1 81 = .ok (.invokestatic 376, 3) := by decide +kernel
theorem dX12_sizeBut_84 : decode M_X12_sizeBut.2.2.1 84 = .ok (.ireturn, 1) := by decide +kernel
theorem dX12_size_0 : decode M_X12_size.2.2.1 0 = .ok (.aload_n 0, 1) := by decide +kernel
theorem dX12_size_1 : decode M_X12_size.2.2.1 1 = .ok (.iload_n 1, 1) := by decide +kernel
theorem dX12_size_2 : decode M_X12_size.2.2.1 2 = .ok (.invokevirtual 340, 3) := by decide +kernel
theorem dX12_size_5 : decode M_X12_size.2.2.1 5 = .ok (.ifCond .eq 26, 3) := by decide +kernel
theorem dX12_size_8 : decode M_X12_size.2.2.1 8 = .ok (.iload_n 2, 1) := by decide +kernel
theorem dX12_size_9 : decode M_X12_size.2.2.1 9 = .ok (.iload_n 3, 1) := by decide +kernel
theorem dX12_size_10 : decode M_X12_size.2.2.1 10 = .ok (.invokestatic 154, 3) := by decide +kernel
theorem dX12_size_13 : decode M_X12_size.2.2.1 13 = .ok (.ifCond .eq 18, 3) := by decide +kernel
theorem dX12_size_16 : decode M_X12_size.2.2.1 16 = .ok (.iload 4, 2) := by decide +kernel
theorem dX12_size_18 : decode M_X12_size.2.2.1 18 = .ok (.iconst (-1), 1) := by decide +kernel
theorem dX12_size_19 : decode M_X12_size.2.2.1 19 = .ok (.if_icmp .eq 15, 3) := by decide +kernel
theorem dX12_size_22 : decode M_X12_size.2.2.1 22 = .ok (.aload_n 0, 1) := by decide +kernel
theorem dX12_size_23 : decode M_X12_size.2.2.1 23 = .ok (.iload 4, 2) := by decide +kernel
theorem dX12_size_25 : decode M_X12_size.2.2.1 25 = .ok (.invokevirtual 158, 3) := by decide +kernel
theorem dX12_size_28 : decode M_X12_size.2.2.1 28 = .ok (.ifCond .ne 6, 3) := by decide +kernel
theorem dX12_size_31 : decode M_X12_size.2.2.1 31 = .ok (.ldc 162, 2) := by decide +kernel
theorem dX12_size_33 : decode M_X12_size.2.2.1 33 = .ok (.ireturn, 1) := by decide +kernel
theorem dX12_size_34 : decode M_X12_size.2.2.1 34 = .ok (.bipush 40, 2) := by decide +kernel
theorem dX12_size_36 : decode M_X12_size.2.2.1 36 = .ok (.iload_n 3, 1) := by decide +kernel
theorem dX12_size_37 : decode M_X12_size.2.2.1 37 = .ok (.imul, 1) := by decide +kernel
theorem dX12_size_38 : decode M_X12_size.2.2.1 38 = .ok (.iload_n 2, 1) := by decide +kernel
theorem dX12_size_39 : decode M_X12_size.2.2.1 39 = .ok (.iadd, 1) := by decide +kernel
theorem dX12_size_40 : decode M_X12_size.2.2.1 40 = .ok (.istore 5, 2) := by decide +kernel
theorem dX12_size_42 : decode M_X12_size.2.2.1 42 = .ok (.iload 4, 2) := by decide +kernel
theorem dX12_size_44 : decode M_X12_size.2.2.1 44 = .ok (.iconst (-1), 1) := by decide +kernel
theorem dX12_size_45 : decode M_X12_size.2.2.1 45 = .ok (.if_icmp .ne 12, 3) := by decide +kernel
theorem dX12_size_48 : decode M_X12_size.2.2.1 48 = .ok (.aload_n 0, 1) := by decide +kernel
theorem dX12_size_49 : decode M_X12_size.2.2.1 49 = .ok (.iload_n 1, 1) := by decide +kernel
theorem dX12_size_50 : decode M_X12_size.2.2.1 50 = .ok (.iload 5, 2) := by decide +kernel
theorem dX12_size_52 : decode M_X12_size.2.2.1 52 = .ok (.iconst (-1), 1) := by decide +kernel
theorem dX12_size_53 : decode M_X12_size.2.2.1 53 = .ok (.invokevirtual 379, 3) := by decide +kernel
theorem dX12_size_56 : decode M_X12_size.2.2.1 56 = .ok (.ireturn, 1) := by decide +kernel
theorem dX12_size_57 : decode M_X12_size.2.2.1 57 = .ok (.aload_n 0, 1) := by decide +kernel
theorem dX12_size_58 : decode M_X12_size.2.2.1 58 = .ok (.iload_n 1, 1) := by decide +kernel
theorem dX12_size_59 : decode M_X12_size.2.2.1 59 = .ok (.iload 4, 2) := by decide +kernel
theorem dX12_size_61 : decode M_X12_size.2.2.1 61 = .ok (.invokevirtual 370, 3) := by decide +kernel
theorem dX12_size_64 : decode M_X12_size.2.2.1 64 = .ok (.ifCond .eq 23, 3) := by decide +kernel
theorem dX12_size_67 : decode M_X12_size.2.2.1 67 = .ok (.aload_n 0, 1) := by decide +kernel
theorem dX12_size_68 : decode M_X12_size.2.2.1 68 = .ok (.iload_n 1, 1) := by decide +kernel
theorem dX12_size_69 : decode M_X12_size.2.2.1 69 = .ok (.iload 5, 2) := by decide +kernel
theorem dX12_size_71 : decode M_X12_size.2.2.1 71 = .ok (.iload 4, 2) := by decide +kernel
theorem dX12_size_73 : decode M_X12_size.2.2.1 73 = .ok (.invokevirtual 373, 3) := by decide +kernel
theorem dX12_size_76 : decode M_X12_size.2.2.1 76 = .ok (.aload_n 0, 1) := by decide +kernel
theorem dX12_size_77 : decode M_X12_size.2.2.1 77 = .ok (.getfield 52, 3) := by decide +kernel
theorem dX12_size_80 : decode M_X12_size.2.2.1 80 = .ok (.iload 4, 2) := by decide +kernel
theorem dX12_size_82 : decode M_X12_size.2.2.1 82 = .ok (.iaload, 1) := by decide +kernel
theorem dX12_size_83 : decode M_X12_size.2.2.1 83 = .ok (.iadd, 1) := by decide +kernel
theorem dX12_size_84 : decode M_X12_size.2.2.1 84 = .ok (.goto 5, 3) := by decide +kernel
theorem dX12_size_87 : decode M_X12_size.2.2.1 87 = .ok (.ldc 162, 2) := by decide +kernel
theorem dX12_size_89 : decode M_X12_size.2.2.1 89 = .ok (.ireturn, 1) := by decide +kernel
theorem dX12_place_0 : decode M_X12_place.2.2.1 0 = .ok (.aload_n 0, 1) := by decide +kernel
theorem dX12_place_1 : decode M_X12_place.2.2.1 1 = .ok (.iload_n 1, 1) := by decide +kernel
theorem dX12_place_2 : decode M_X12_place.2.2.1 2 = .ok (.invokevirtual 340, 3) := by decide +kernel
theorem dX12_place_5 : decode M_X12_place.2.2.1 5 = .ok (.ifCond .eq 11, 3) := by decide +kernel
theorem dX12_place_8 : decode M_X12_place.2.2.1 8 = .ok (.iload_n 2, 1) := by decide +kernel
theorem dX12_place_9 : decode M_X12_place.2.2.1 9 = .ok (.iload_n 3, 1) := by decide +kernel
theorem dX12_place_10 : decode M_X12_place.2.2.1 10 = .ok (.invokestatic 154, 3) := by decide +kernel
theorem dX12_place_13 : decode M_X12_place.2.2.1 13 = .ok (.ifCond .ne 5, 3) := by decide +kernel
theorem dX12_place_16 : decode M_X12_place.2.2.1 16 = .ok (.iconst 0, 1) := by decide +kernel
theorem dX12_place_17 : decode M_X12_place.2.2.1 17 = .ok (.ireturn, 1) := by decide +kernel
theorem dX12_place_18 : decode M_X12_place.2.2.1 18 = .ok (.aload_n 0, 1) := by decide +kernel
theorem dX12_place_19 : decode M_X12_place.2.2.1 19 = .ok (.getfield 117, 3) := by decide +kernel
theorem dX12_place_22 : decode M_X12_place.2.2.1 22 = .ok (.iload_n 1, 1) := by decide +kernel
theorem dX12_place_23 : decode M_X12_place.2.2.1 23 = .ok (.bipush 40, 2) := by decide +kernel
theorem dX12_place_25 : decode M_X12_place.2.2.1 25 = .ok (.iload_n 3, 1) := by decide +kernel
theorem dX12_place_26 : decode M_X12_place.2.2.1 26 = .ok (.imul, 1) := by decide +kernel
theorem dX12_place_27 : decode M_X12_place.2.2.1 27 = .ok (.iload_n 2, 1) := by decide +kernel
theorem dX12_place_28 : decode M_X12_place.2.2.1 28 = .ok (.iadd, 1) := by decide +kernel
theorem dX12_place_29 : decode M_X12_place.2.2.1 29 = .ok (.iastore, 1) := by decide +kernel
theorem dX12_place_30 : decode M_X12_place.2.2.1 30 = .ok (.iconst 1, 1) := by decide +kernel
theorem dX12_place_31 : decode M_X12_place.2.2.1 31 = .ok (.ireturn, 1) := by decide +kernel
theorem dX12_own_0 : decode M_X12_own.2.2.1 0 = .ok (.aload_n 0, 1) := by decide +kernel
theorem dX12_own_1 : decode M_X12_own.2.2.1 1 = .ok (.iload_n 1, 1) := by decide +kernel
theorem dX12_own_2 : decode M_X12_own.2.2.1 2 = .ok (.invokevirtual 158, 3) := by decide +kernel
theorem dX12_own_5 : decode M_X12_own.2.2.1 5 = .ok (.ifCond .ne 6, 3) := by decide +kernel
theorem dX12_own_8 : decode M_X12_own.2.2.1 8 = .ok (.ldc 162, 2) := by decide +kernel
theorem dX12_own_10 : decode M_X12_own.2.2.1 10 = .ok (.ireturn, 1) := by decide +kernel
theorem dX12_own_11 : decode M_X12_own.2.2.1 11 = .ok (.iconst 0, 1) := by decide +kernel
theorem dX12_own_12 : decode M_X12_own.2.2.1 12 = .ok (.istore_n 2, 1) := by decide +kernel
theorem dX12_own_13 : decode M_X12_own.2.2.1 13 = .ok (.iconst 0, 1) := by decide +kernel
theorem dX12_own_14 : decode M_X12_own.2.2.1 14 = .ok (.istore_n 3, 1) := by decide +kernel
theorem dX12_own_15 : decode M_X12_own.2.2.1 15 = .ok (.iconst 0, 1) := by decide +kernel
theorem dX12_own_16 : decode M_X12_own.2.2.1 16 = .ok (.istore 4, 2) := by decide +kernel
theorem dX12_own_18 : decode M_X12_own.2.2.1 18 = .ok (.iload 4, 2) := by decide +kernel
theorem dX12_own_20 : decode M_X12_own.2.2.1 20 = .ok (.aload_n 0, 1) := by decide +kernel
theorem dX12_own_21 : decode M_X12_own.2.2.1 21 = .ok (.getfield 336, 3) := by decide +kernel
theorem dX12_own_24 : decode M_X12_own.2.2.1 24 = .ok (.if_icmp .ge 82, 3) := by decide +kernel
theorem dX12_own_27 : decode M_X12_own.2.2.1 27 = .ok (.aload_n 0, 1) := by decide +kernel
theorem dX12_own_28 : decode M_X12_own.2.2.1 28 = .ok (.getfield 117, 3) := by decide +kernel
theorem dX12_own_31 : decode M_X12_own.2.2.1 31 = .ok (.iload 4, 2) := by decide +kernel
theorem dX12_own_33 : decode M_X12_own.2.2.1 33 = .ok (.iaload, 1) := by decide +kernel
theorem dX12_own_34 : decode M_X12_own.2.2.1 34 = .ok (.iconst (-1), 1) := by decide +kernel
theorem dX12_own_35 : decode M_X12_own.2.2.1 35 = .ok (.if_icmp .eq 65, 3) := by decide +kernel
theorem dX12_own_38 : decode M_X12_own.2.2.1 38 = .ok (.aload_n 0, 1) := by decide +kernel
theorem dX12_own_39 : decode M_X12_own.2.2.1 39 = .ok (.iload 4, 2) := by decide +kernel
theorem dX12_own_41 : decode M_X12_own.2.2.1 41 = .ok (.iload_n 1, 1) := by decide +kernel
theorem dX12_own_42 : decode M_X12_own.2.2.1 42 = .ok (.invokevirtual 370, 3) := by decide +kernel
theorem dX12_own_45 : decode M_X12_own.2.2.1 45 = .ok (.ifCond .ne 6, 3) := by decide +kernel
theorem dX12_own_48 : decode M_X12_own.2.2.1 48 = .ok (.goto 52, 3) := by decide +kernel
theorem dX12_own_51 : decode M_X12_own.2.2.1 51 = .ok (.aload_n 0, 1) := by decide +kernel
theorem dX12_own_52 : decode M_X12_own.2.2.1 52 = .ok (.iload 4, 2) := by decide +kernel
theorem dX12_own_54 : decode M_X12_own.2.2.1 54 = .ok (.aload_n 0, 1) := by decide +kernel
theorem dX12_own_55 : decode M_X12_own.2.2.1 55 = .ok (.getfield 117, 3) := by decide +kernel
theorem dX12_own_58 : decode M_X12_own.2.2.1 58 = .ok (.iload 4, 2) := by decide +kernel
theorem dX12_own_60 : decode M_X12_own.2.2.1 60 = .ok (.iaload, 1) := by decide +kernel
theorem dX12_own_61 : decode M_X12_own.2.2.1 61 = .ok (.iload_n 1, 1) := by decide +kernel
theorem dX12_own_62 : decode M_X12_own.2.2.1 62 = .ok (.invokevirtual 379, 3) := by decide +kernel
theorem dX12_own_65 : decode M_X12_own.2.2.1 65 = .ok (.istore 5, 2) := by decide +kernel
theorem dX12_own_67 : decode M_X12_own.2.2.1 67 = .ok (.iload 5, 2) := by decide +kernel
theorem dX12_own_69 : decode M_X12_own.2.2.1 69 = .ok (.ldc 162, 2) := by decide +kernel
theorem dX12_own_71 : decode M_X12_own.2.2.1 71 = .ok (.if_icmp .ne 6, 3) := by decide +kernel
theorem dX12_own_74 : decode M_X12_own.2.2.1 74 = .ok (.goto 26, 3) := by decide +kernel
theorem dX12_own_77 : decode M_X12_own.2.2.1 77 = .ok (.iinc 2 1, 3) := by decide +kernel
theorem dX12_own_80 : decode M_X12_own.2.2.1 80 = .ok (.iload_n 3, 1) := by decide +kernel
theorem dX12_own_81 : decode M_X12_own.2.2.1 81 = .ok (.iload 5, 2) := by decide +kernel
theorem dX12_own_83 : decode M_X12_own.2.2.1 83 = .ok (.aload_n 0, 1) := by decide +kernel
theorem dX12_own_84 : decode M_X12_own.2.2.1 84 = .ok (.iload 4, 2) := by decide +kernel
theorem dX12_own_86 : decode M_X12_own.2.2.1 86 = .ok (.aload_n 0, 1) := by decide +kernel
theorem dX12_own_87 : decode M_X12_own.2.2.1 87 = .ok (.getfield 117, 3) := by decide +kernel
theorem dX12_own_90 : decode M_X12_own.2.2.1 90 = .ok (.iload 4, 2) := by decide +kernel
theorem dX12_own_92 : decode M_X12_own.2.2.1 92 = .ok (.iaload, 1) := by decide +kernel
theorem dX12_own_93 : decode M_X12_own.2.2.1 93 = .ok (.iload_n 1, 1) := by decide +kernel
theorem dX12_own_94 : decode M_X12_own.2.2.1 94 = .ok (.invokevirtual 373, 3) := by decide +kernel
theorem dX12_own_97 : decode M_X12_own.2.2.1 97 = .ok (.isub, 1) := by decide +kernel
theorem dX12_own_98 : decode M_X12_own.2.2.1 98 = .ok (.iadd, 1) := by decide +kernel
theorem dX12_own_99 : decode M_X12_own.2.2.1 99 = .ok (.istore_n 3, 1) := by decide +kernel
theorem dX12_own_100 : decode M_X12_own.2.2.1 100 = .ok (.iinc 4 1, 3) := by decide +kernel
theorem dX12_own_103 : decode M_X12_own.2.2.1 103 = .ok (.goto (-85), 3) := by decide +kernel
theorem dX12_own_106 : decode M_X12_own.2.2.1 106 = .ok (.iload_n 2, 1) := by decide +kernel
theorem dX12_own_107 : decode M_X12_own.2.2.1 107 = .ok (.ifCond .ne 8, 3) := by decide +kernel
theorem dX12_own_110 : decode M_X12_own.2.2.1 110 = .ok (.ldc 162, 2) := by decide +kernel
theorem dX12_own_112 : decode M_X12_own.2.2.1 112 = .ok (.goto 8, 3) := by decide +kernel
theorem dX12_own_115 : decode M_X12_own.2.2.1 115 = .ok (.iload_n 3, 1) := by decide +kernel
theorem dX12_own_116 : decode M_X12_own.2.2.1 116 = .ok (.iload_n 2, 1) := by decide +kernel
theorem dX12_own_117 : decode M_X12_own.2.2.1 117 = .ok (.invokestatic 376, 3) := by decide +kernel
theorem dX12_own_120 : decode M_X12_own.2.2.1 120 = .ok (.ireturn, 1) := by decide +kernel
theorem dX12_pick_0 : decode M_X12_pick.2.2.1 0 = .ok (.iload_n 1, 1) := by decide +kernel
theorem dX12_pick_1 : decode M_X12_pick.2.2.1 1 = .ok (.iconst (-1), 1) := by decide +kernel
theorem dX12_pick_2 : decode M_X12_pick.2.2.1 2 = .ok (.if_icmp .ne 10, 3) := by decide +kernel
theorem dX12_pick_5 : decode M_X12_pick.2.2.1 5 = .ok (.aload_n 0, 1) := by decide +kernel
theorem dX12_pick_6 : decode M_X12_pick.2.2.1 6 = .ok (.iconst 0, 1) := by decide +kernel
theorem dX12_pick_7 : decode M_X12_pick.2.2.1 7 = .ok (.putfield 382, 3) := by decide +kernel
theorem dX12_pick_10 : decode M_X12_pick.2.2.1 10 = .ok (.iconst 0, 1) := by decide +kernel
theorem dX12_pick_11 : decode M_X12_pick.2.2.1 11 = .ok (.ireturn, 1) := by decide +kernel
theorem dX12_pick_12 : decode M_X12_pick.2.2.1 12 = .ok (.iload_n 1, 1) := by decide +kernel
theorem dX12_pick_13 : decode M_X12_pick.2.2.1 13 = .ok (.iconst 0, 1) := by decide +kernel
theorem dX12_pick_14 : decode M_X12_pick.2.2.1 14 = .ok (.ldc_w 339, 3) := by decide +kernel
theorem dX12_pick_17 : decode M_X12_pick.2.2.1 17 = .ok (.invokestatic 147, 3) := by decide +kernel
theorem dX12_pick_20 : decode M_X12_pick.2.2.1 20 = .ok (.ifCond .eq 34, 3) := by decide +kernel
theorem dX12_pick_23 : decode M_X12_pick.2.2.1 23 = .ok (.aload_n 0, 1) := by decide +kernel
theorem dX12_pick_24 : decode M_X12_pick.2.2.1 24 = .ok (.getfield 382, 3) := by decide +kernel
theorem dX12_pick_27 : decode M_X12_pick.2.2.1 27 = .ok (.bipush 8, 2) := by decide +kernel
theorem dX12_pick_29 : decode M_X12_pick.2.2.1 29 = .ok (.if_icmp .eq 25, 3) := by decide +kernel
theorem dX12_pick_32 : decode M_X12_pick.2.2.1 32 = .ok (.aload_n 0, 1) := by decide +kernel
theorem dX12_pick_33 : decode M_X12_pick.2.2.1 33 = .ok (.getfield 382, 3) := by decide +kernel
theorem dX12_pick_36 : decode M_X12_pick.2.2.1 36 = .ok (.ifCond .le 21, 3) := by decide +kernel
theorem dX12_pick_39 : decode M_X12_pick.2.2.1 39 = .ok (.iload_n 1, 1) := by decide +kernel
theorem dX12_pick_40 : decode M_X12_pick.2.2.1 40 = .ok (.aload_n 0, 1) := by decide +kernel
theorem dX12_pick_41 : decode M_X12_pick.2.2.1 41 = .ok (.getfield 120, 3) := by decide +kernel
theorem dX12_pick_44 : decode M_X12_pick.2.2.1 44 = .ok (.aload_n 0, 1) := by decide +kernel
theorem dX12_pick_45 : decode M_X12_pick.2.2.1 45 = .ok (.getfield 382, 3) := by decide +kernel
theorem dX12_pick_48 : decode M_X12_pick.2.2.1 48 = .ok (.iconst 1, 1) := by decide +kernel
theorem dX12_pick_49 : decode M_X12_pick.2.2.1 49 = .ok (.isub, 1) := by decide +kernel
theorem dX12_pick_50 : decode M_X12_pick.2.2.1 50 = .ok (.iaload, 1) := by decide +kernel
theorem dX12_pick_51 : decode M_X12_pick.2.2.1 51 = .ok (.if_icmp .gt 6, 3) := by decide +kernel
theorem dX12_pick_54 : decode M_X12_pick.2.2.1 54 = .ok (.bipush (-2), 2) := by decide +kernel
theorem dX12_pick_56 : decode M_X12_pick.2.2.1 56 = .ok (.ireturn, 1) := by decide +kernel
theorem dX12_pick_57 : decode M_X12_pick.2.2.1 57 = .ok (.aload_n 0, 1) := by decide +kernel
theorem dX12_pick_58 : decode M_X12_pick.2.2.1 58 = .ok (.getfield 120, 3) := by decide +kernel
theorem dX12_pick_61 : decode M_X12_pick.2.2.1 61 = .ok (.aload_n 0, 1) := by decide +kernel
theorem dX12_pick_62 : decode M_X12_pick.2.2.1 62 = .ok (.getfield 382, 3) := by decide +kernel
theorem dX12_pick_65 : decode M_X12_pick.2.2.1 65 = .ok (.iload_n 1, 1) := by decide +kernel
theorem dX12_pick_66 : decode M_X12_pick.2.2.1 66 = .ok (.iastore, 1) := by decide +kernel
theorem dX12_pick_67 : decode M_X12_pick.2.2.1 67 = .ok (.aload_n 0, 1) := by decide +kernel
theorem dX12_pick_68 : decode M_X12_pick.2.2.1 68 = .ok (.dup, 1) := by decide +kernel
theorem dX12_pick_69 : decode M_X12_pick.2.2.1 69 = .ok (.getfield 382, 3) := by decide +kernel
theorem dX12_pick_72 : decode M_X12_pick.2.2.1 72 = .ok (.iconst 1, 1) := by decide +kernel
theorem dX12_pick_73 : decode M_X12_pick.2.2.1 73 = .ok (.iadd, 1) := by decide +kernel
theorem dX12_pick_74 : decode M_X12_pick.2.2.1 74 = .ok (.putfield 382, 3) := by decide +kernel
theorem dX12_pick_77 : decode M_X12_pick.2.2.1 77 = .ok (.aload_n 0, 1) := by decide +kernel
theorem dX12_pick_78 : decode M_X12_pick.2.2.1 78 = .ok (.getfield 382, 3) := by decide +kernel
theorem dX12_pick_81 : decode M_X12_pick.2.2.1 81 = .ok (.ireturn, 1) := by decide +kernel
theorem dX12_couplesOf_0 : decode M_X12_couplesOf.2.2.1 0 = .ok (.iconst 0, 1) := by decide +kernel
theorem dX12_couplesOf_1 : decode M_X12_couplesOf.2.2.1 1 = .ok (.istore_n 3, 1) := by decide +kernel
theorem dX12_couplesOf_2 : decode M_X12_couplesOf.2.2.1 2 = .ok (.iload_n 3, 1) := by decide +kernel
theorem dX12_couplesOf_3 : decode M_X12_couplesOf.2.2.1 3 = .ok (.aload_n 0, 1) := by decide +kernel
theorem dX12_couplesOf_4 : decode M_X12_couplesOf.2.2.1 4 = .ok (.getfield 382, 3) := by decide +kernel
theorem dX12_couplesOf_7 : decode M_X12_couplesOf.2.2.1 7 = .ok (.if_icmp .ge 18, 3) := by decide +kernel
theorem dX12_couplesOf_10 : decode M_X12_couplesOf.2.2.1 10 = .ok (.iload_n 1, 1) := by decide +kernel
theorem dX12_couplesOf_11 : decode M_X12_couplesOf.2.2.1 11 = .ok (.iload_n 3, 1) := by decide +kernel
theorem dX12_couplesOf_12 : decode M_X12_couplesOf.2.2.1 12 = .ok (.ishr, 1) := by decide +kernel
theorem dX12_couplesOf_13 : decode M_X12_couplesOf.2.2.1 13 = .ok (.iconst 1, 1) := by decide +kernel
theorem dX12_couplesOf_14 : decode M_X12_couplesOf.2.2.1 14 = .ok (.iand, 1) := by decide +kernel
theorem dX12_couplesOf_15 : decode M_X12_couplesOf.2.2.1 15 = .ok (.iconst 1, 1) := by decide +kernel
theorem dX12_couplesOf_16 : decode M_X12_couplesOf.2.2.1 16 = .ok (.if_icmp .ne 9, 3) := by decide +kernel
theorem dX12_couplesOf_19 : decode M_X12_couplesOf.2.2.1 19 = .ok (.iinc 3 1, 3) := by decide +kernel
theorem dX12_couplesOf_22 : decode M_X12_couplesOf.2.2.1 22 = .ok (.goto (-20), 3) := by decide +kernel
theorem dX12_couplesOf_25 : decode M_X12_couplesOf.2.2.1 25 = .ok (.iload_n 3, 1) := by decide +kernel
theorem dX12_couplesOf_26 : decode M_X12_couplesOf.2.2.1 26 = .ok (.aload_n 0, 1) := by decide +kernel
theorem dX12_couplesOf_27 : decode M_X12_couplesOf.2.2.1 27 = .ok (.getfield 382, 3) := by decide +kernel
theorem dX12_couplesOf_30 : decode M_X12_couplesOf.2.2.1 30 = .ok (.if_icmp .ne 5, 3) := by decide +kernel
theorem dX12_couplesOf_33 : decode M_X12_couplesOf.2.2.1 33 = .ok (.iconst 1, 1) := by decide +kernel
theorem dX12_couplesOf_34 : decode M_X12_couplesOf.2.2.1 34 = .ok (.ireturn, 1) := by decide +kernel
theorem dX12_couplesOf_35 : decode M_X12_couplesOf.2.2.1 35 = .ok (.iconst 0, 1) := by decide +kernel
theorem dX12_couplesOf_36 : decode M_X12_couplesOf.2.2.1 36 = .ok (.istore 4, 2) := by decide +kernel
theorem dX12_couplesOf_38 : decode M_X12_couplesOf.2.2.1 38 = .ok (.iload_n 3, 1) := by decide +kernel
theorem dX12_couplesOf_39 : decode M_X12_couplesOf.2.2.1 39 = .ok (.iconst 1, 1) := by decide +kernel
theorem dX12_couplesOf_40 : decode M_X12_couplesOf.2.2.1 40 = .ok (.iadd, 1) := by decide +kernel
theorem dX12_couplesOf_41 : decode M_X12_couplesOf.2.2.1 41 = .ok (.istore 5, 2) := by decide +kernel
theorem dX12_couplesOf_43 : decode M_X12_couplesOf.2.2.1 43 = .ok (.iload 5, 2) := by decide +kernel
theorem dX12_couplesOf_45 : decode M_X12_couplesOf.2.2.1 45 = .ok (.aload_n 0, 1) := by decide +kernel
theorem dX12_couplesOf_46 : decode M_X12_couplesOf.2.2.1 46 = .ok (.getfield 382, 3) := by decide +kernel
theorem dX12_couplesOf_49 : decode M_X12_couplesOf.2.2.1 49 = .ok (.if_icmp .ge 56, 3) := by decide +kernel
theorem dX12_couplesOf_52 : decode M_X12_couplesOf.2.2.1 52 = .ok (.iload_n 1, 1) := by decide +kernel
theorem dX12_couplesOf_53 : decode M_X12_couplesOf.2.2.1 53 = .ok (.iload 5, 2) := by decide +kernel
theorem dX12_couplesOf_55 : decode M_X12_couplesOf.2.2.1 55 = .ok (.ishr, 1) := by decide +kernel
theorem dX12_couplesOf_56 : decode M_X12_couplesOf.2.2.1 56 = .ok (.iconst 1, 1) := by decide +kernel
theorem dX12_couplesOf_57 : decode M_X12_couplesOf.2.2.1 57 = .ok (.iand, 1) := by decide +kernel
theorem dX12_couplesOf_58 : decode M_X12_couplesOf.2.2.1 58 = .ok (.ifCond .ne 41, 3) := by decide +kernel
theorem dX12_couplesOf_61 : decode M_X12_couplesOf.2.2.1 61 = .ok (.aload_n 0, 1) := by decide +kernel
theorem dX12_couplesOf_62 : decode M_X12_couplesOf.2.2.1 62 = .ok (.getfield 120, 3) := by decide +kernel
theorem dX12_couplesOf_65 : decode M_X12_couplesOf.2.2.1 65 = .ok (.iload 5, 2) := by decide +kernel
theorem dX12_couplesOf_67 : decode M_X12_couplesOf.2.2.1 67 = .ok (.iaload, 1) := by decide +kernel
theorem dX12_couplesOf_68 : decode M_X12_couplesOf.2.2.1 68 = .ok (.aload_n 0, 1) := by decide +kernel
theorem dX12_couplesOf_69 : decode M_X12_couplesOf.2.2.1 69 = .ok (.getfield 120, 3) := by decide +kernel
theorem dX12_couplesOf_72 : decode M_X12_couplesOf.2.2.1 72 = .ok (.iload_n 3, 1) := by decide +kernel
theorem dX12_couplesOf_73 : decode M_X12_couplesOf.2.2.1 73 = .ok (.iaload, 1) := by decide +kernel
theorem dX12_couplesOf_74 : decode M_X12_couplesOf.2.2.1 74 = .ok (.isub, 1) := by decide +kernel
theorem dX12_couplesOf_75 : decode M_X12_couplesOf.2.2.1 75 = .ok (.iload_n 2, 1) := by decide +kernel
theorem dX12_couplesOf_76 : decode M_X12_couplesOf.2.2.1 76 = .ok (.if_icmp .gt 23, 3) := by decide +kernel
theorem dX12_couplesOf_79 : decode M_X12_couplesOf.2.2.1 79 = .ok (.iload 4, 2) := by decide +kernel
theorem dX12_couplesOf_81 : decode M_X12_couplesOf.2.2.1 81 = .ok (.aload_n 0, 1) := by decide +kernel
theorem dX12_couplesOf_82 : decode M_X12_couplesOf.2.2.1 82 = .ok (.iload_n 1, 1) := by decide +kernel
theorem dX12_couplesOf_83 : decode M_X12_couplesOf.2.2.1 83 = .ok (.iconst 1, 1) := by decide +kernel
theorem dX12_couplesOf_84 : decode M_X12_couplesOf.2.2.1 84 = .ok (.iload_n 3, 1) := by decide +kernel
theorem dX12_couplesOf_85 : decode M_X12_couplesOf.2.2.1 85 = .ok (.ishl, 1) := by decide +kernel
theorem dX12_couplesOf_86 : decode M_X12_couplesOf.2.2.1 86 = .ok (.ior, 1) := by decide +kernel
theorem dX12_couplesOf_87 : decode M_X12_couplesOf.2.2.1 87 = .ok (.iconst 1, 1) := by decide +kernel
theorem dX12_couplesOf_88 : decode M_X12_couplesOf.2.2.1 88 = .ok (.iload 5, 2) := by decide +kernel
theorem dX12_couplesOf_90 : decode M_X12_couplesOf.2.2.1 90 = .ok (.ishl, 1) := by decide +kernel
theorem dX12_couplesOf_91 : decode M_X12_couplesOf.2.2.1 91 = .ok (.ior, 1) := by decide +kernel
theorem dX12_couplesOf_92 : decode M_X12_couplesOf.2.2.1 92 = .ok (.iload_n 2, 1) := by decide +kernel
theorem dX12_couplesOf_93 : decode M_X12_couplesOf.2.2.1 93 = .ok (.invokevirtual 385, 3) := by decide +kernel
theorem dX12_couplesOf_96 : decode M_X12_couplesOf.2.2.1 96 = .ok (.iadd, 1) := by decide +kernel
theorem dX12_couplesOf_97 : decode M_X12_couplesOf.2.2.1 97 = .ok (.istore 4, 2) := by decide +kernel
theorem dX12_couplesOf_99 : decode M_X12_couplesOf.2.2.1 99 = .ok (.iinc 5 1, 3) := by decide +kernel
theorem dX12_couplesOf_102 : decode M_X12_couplesOf.2.2.1 102 = .ok (.goto (-59), 3) := by decide +kernel
theorem dX12_couplesOf_105 : decode M_X12_couplesOf.2.2.1 105 = .ok (.iload 4, 2) := by decide +kernel
theorem dX12_couplesOf_107 : decode M_X12_couplesOf.2.2.1 107 = .ok (.ireturn, 1) := by decide +kernel
theorem dX12_parted_0 : decode M_X12_parted.2.2.1 0 = .ok (.iload_n 1, 1) := by decide +kernel
theorem dX12_parted_1 : decode M_X12_parted.2.2.1 1 = .ok (.iconst 0, 1) := by decide +kernel
theorem dX12_parted_2 : decode M_X12_parted.2.2.1 2 = .ok (.sipush 9999, 3) := by decide +kernel
theorem dX12_parted_5 : decode M_X12_parted.2.2.1 5 = .ok (.invokestatic 147, 3) := by decide +kernel
theorem dX12_parted_8 : decode M_X12_parted.2.2.1 8 = .ok (.ifCond .eq 26, 3) := by decide +kernel
theorem dX12_parted_11 : decode M_X12_parted.2.2.1 11 = .ok (.aload_n 0, 1) := by decide +kernel
theorem dX12_parted_12 : decode M_X12_parted.2.2.1 12 = .ok (.getfield 382, 3) := by decide +kernel
theorem dX12_parted_15 : decode M_X12_parted.2.2.1 15 = .ok (.iconst 2, 1) := by decide +kernel
theorem dX12_parted_16 : decode M_X12_parted.2.2.1 16 = .ok (.irem, 1) := by decide +kernel
theorem dX12_parted_17 : decode M_X12_parted.2.2.1 17 = .ok (.iconst 1, 1) := by decide +kernel
theorem dX12_parted_18 : decode M_X12_parted.2.2.1 18 = .ok (.if_icmp .ne 7, 3) := by decide +kernel
theorem dX12_parted_21 : decode M_X12_parted.2.2.1 21 = .ok (.iconst 0, 1) := by decide +kernel
theorem dX12_parted_22 : decode M_X12_parted.2.2.1 22 = .ok (.goto 13, 3) := by decide +kernel
theorem dX12_parted_25 : decode M_X12_parted.2.2.1 25 = .ok (.aload_n 0, 1) := by decide +kernel
theorem dX12_parted_26 : decode M_X12_parted.2.2.1 26 = .ok (.iconst 0, 1) := by decide +kernel
theorem dX12_parted_27 : decode M_X12_parted.2.2.1 27 = .ok (.iload_n 1, 1) := by decide +kernel
theorem dX12_parted_28 : decode M_X12_parted.2.2.1 28 = .ok (.invokevirtual 385, 3) := by decide +kernel
theorem dX12_parted_31 : decode M_X12_parted.2.2.1 31 = .ok (.goto 4, 3) := by decide +kernel
theorem dX12_parted_34 : decode M_X12_parted.2.2.1 34 = .ok (.iconst (-1), 1) := by decide +kernel
theorem dX12_parted_35 : decode M_X12_parted.2.2.1 35 = .ok (.ireturn, 1) := by decide +kernel
theorem dX12_isNear_0 : decode M_X12_isNear.2.2.1 0 = .ok (.iload_n 1, 1) := by decide +kernel
theorem dX12_isNear_1 : decode M_X12_isNear.2.2.1 1 = .ok (.aload_n 0, 1) := by decide +kernel
theorem dX12_isNear_2 : decode M_X12_isNear.2.2.1 2 = .ok (.getfield 89, 3) := by decide +kernel
theorem dX12_isNear_5 : decode M_X12_isNear.2.2.1 5 = .ok (.aload_n 0, 1) := by decide +kernel
theorem dX12_isNear_6 : decode M_X12_isNear.2.2.1 6 = .ok (.getfield 86, 3) := by decide +kernel
theorem dX12_isNear_9 : decode M_X12_isNear.2.2.1 9 = .ok (.isub, 1) := by decide +kernel
theorem dX12_isNear_10 : decode M_X12_isNear.2.2.1 10 = .ok (.iload_n 2, 1) := by decide +kernel
theorem dX12_isNear_11 : decode M_X12_isNear.2.2.1 11 = .ok (.imul, 1) := by decide +kernel
theorem dX12_isNear_12 : decode M_X12_isNear.2.2.1 12 = .ok (.invokestatic 388, 3) := by decide +kernel
theorem dX12_isNear_15 : decode M_X12_isNear.2.2.1 15 = .ok (.iload_n 3, 1) := by decide +kernel
theorem dX12_isNear_16 : decode M_X12_isNear.2.2.1 16 = .ok (.if_icmp .gt 7, 3) := by decide +kernel
theorem dX12_isNear_19 : decode M_X12_isNear.2.2.1 19 = .ok (.iconst 1, 1) := by decide +kernel
theorem dX12_isNear_20 : decode M_X12_isNear.2.2.1 20 = .ok (.goto 4, 3) := by decide +kernel
theorem dX12_isNear_23 : decode M_X12_isNear.2.2.1 23 = .ok (.iconst 0, 1) := by decide +kernel
theorem dX12_isNear_24 : decode M_X12_isNear.2.2.1 24 = .ok (.ireturn, 1) := by decide +kernel
theorem dX12_couples_0 : decode M_X12_couples.2.2.1 0 = .ok (.aload_n 0, 1) := by decide +kernel
theorem dX12_couples_1 : decode M_X12_couples.2.2.1 1 = .ok (.getfield 382, 3) := by decide +kernel
theorem dX12_couples_4 : decode M_X12_couples.2.2.1 4 = .ok (.iconst 4, 1) := by decide +kernel
theorem dX12_couples_5 : decode M_X12_couples.2.2.1 5 = .ok (.if_icmp .ne 34, 3) := by decide +kernel
theorem dX12_couples_8 : decode M_X12_couples.2.2.1 8 = .ok (.iload_n 1, 1) := by decide +kernel
theorem dX12_couples_9 : decode M_X12_couples.2.2.1 9 = .ok (.iconst 0, 1) := by decide +kernel
theorem dX12_couples_10 : decode M_X12_couples.2.2.1 10 = .ok (.bipush 55, 2) := by decide +kernel
theorem dX12_couples_12 : decode M_X12_couples.2.2.1 12 = .ok (.invokestatic 147, 3) := by decide +kernel
theorem dX12_couples_15 : decode M_X12_couples.2.2.1 15 = .ok (.ifCond .eq 24, 3) := by decide +kernel
theorem dX12_couples_18 : decode M_X12_couples.2.2.1 18 = .ok (.iload_n 2, 1) := by decide +kernel
theorem dX12_couples_19 : decode M_X12_couples.2.2.1 19 = .ok (.iconst 0, 1) := by decide +kernel
theorem dX12_couples_20 : decode M_X12_couples.2.2.1 20 = .ok (.bipush 55, 2) := by decide +kernel
theorem dX12_couples_22 : decode M_X12_couples.2.2.1 22 = .ok (.invokestatic 147, 3) := by decide +kernel
theorem dX12_couples_25 : decode M_X12_couples.2.2.1 25 = .ok (.ifCond .eq 14, 3) := by decide +kernel
theorem dX12_couples_28 : decode M_X12_couples.2.2.1 28 = .ok (.iload_n 3, 1) := by decide +kernel
theorem dX12_couples_29 : decode M_X12_couples.2.2.1 29 = .ok (.iconst 0, 1) := by decide +kernel
theorem dX12_couples_30 : decode M_X12_couples.2.2.1 30 = .ok (.sipush 999, 3) := by decide +kernel
theorem dX12_couples_33 : decode M_X12_couples.2.2.1 33 = .ok (.invokestatic 147, 3) := by decide +kernel
theorem dX12_couples_36 : decode M_X12_couples.2.2.1 36 = .ok (.ifCond .ne 5, 3) := by decide +kernel
theorem dX12_couples_39 : decode M_X12_couples.2.2.1 39 = .ok (.iconst (-1), 1) := by decide +kernel
theorem dX12_couples_40 : decode M_X12_couples.2.2.1 40 = .ok (.ireturn, 1) := by decide +kernel
theorem dX12_couples_41 : decode M_X12_couples.2.2.1 41 = .ok (.iconst 0, 1) := by decide +kernel
theorem dX12_couples_42 : decode M_X12_couples.2.2.1 42 = .ok (.istore 4, 2) := by decide +kernel
theorem dX12_couples_44 : decode M_X12_couples.2.2.1 44 = .ok (.iconst 1, 1) := by decide +kernel
theorem dX12_couples_45 : decode M_X12_couples.2.2.1 45 = .ok (.istore 5, 2) := by decide +kernel
theorem dX12_couples_47 : decode M_X12_couples.2.2.1 47 = .ok (.iload 5, 2) := by decide +kernel
theorem dX12_couples_49 : decode M_X12_couples.2.2.1 49 = .ok (.iconst 4, 1) := by decide +kernel
theorem dX12_couples_50 : decode M_X12_couples.2.2.1 50 = .ok (.if_icmp .ge 119, 3) := by decide +kernel
theorem dX12_couples_53 : decode M_X12_couples.2.2.1 53 = .ok (.iload 5, 2) := by decide +kernel
theorem dX12_couples_55 : decode M_X12_couples.2.2.1 55 = .ok (.iconst 1, 1) := by decide +kernel
theorem dX12_couples_56 : decode M_X12_couples.2.2.1 56 = .ok (.if_icmp .ne 7, 3) := by decide +kernel
theorem dX12_couples_59 : decode M_X12_couples.2.2.1 59 = .ok (.iconst 2, 1) := by decide +kernel
theorem dX12_couples_60 : decode M_X12_couples.2.2.1 60 = .ok (.goto 4, 3) := by decide +kernel
theorem dX12_couples_63 : decode M_X12_couples.2.2.1 63 = .ok (.iconst 1, 1) := by decide +kernel
theorem dX12_couples_64 : decode M_X12_couples.2.2.1 64 = .ok (.istore 6, 2) := by decide +kernel
theorem dX12_couples_66 : decode M_X12_couples.2.2.1 66 = .ok (.bipush 6, 2) := by decide +kernel
theorem dX12_couples_68 : decode M_X12_couples.2.2.1 68 = .ok (.iload 5, 2) := by decide +kernel
theorem dX12_couples_70 : decode M_X12_couples.2.2.1 70 = .ok (.isub, 1) := by decide +kernel
theorem dX12_couples_71 : decode M_X12_couples.2.2.1 71 = .ok (.iload 6, 2) := by decide +kernel
theorem dX12_couples_73 : decode M_X12_couples.2.2.1 73 = .ok (.isub, 1) := by decide +kernel
theorem dX12_couples_74 : decode M_X12_couples.2.2.1 74 = .ok (.istore 7, 2) := by decide +kernel
theorem dX12_couples_76 : decode M_X12_couples.2.2.1 76 = .ok (.aload_n 0, 1) := by decide +kernel
theorem dX12_couples_77 : decode M_X12_couples.2.2.1 77 = .ok (.getfield 120, 3) := by decide +kernel
theorem dX12_couples_80 : decode M_X12_couples.2.2.1 80 = .ok (.iload 5, 2) := by decide +kernel
theorem dX12_couples_82 : decode M_X12_couples.2.2.1 82 = .ok (.iaload, 1) := by decide +kernel
theorem dX12_couples_83 : decode M_X12_couples.2.2.1 83 = .ok (.aload_n 0, 1) := by decide +kernel
theorem dX12_couples_84 : decode M_X12_couples.2.2.1 84 = .ok (.getfield 120, 3) := by decide +kernel
theorem dX12_couples_87 : decode M_X12_couples.2.2.1 87 = .ok (.iconst 0, 1) := by decide +kernel
theorem dX12_couples_88 : decode M_X12_couples.2.2.1 88 = .ok (.iaload, 1) := by decide +kernel
theorem dX12_couples_89 : decode M_X12_couples.2.2.1 89 = .ok (.isub, 1) := by decide +kernel
theorem dX12_couples_90 : decode M_X12_couples.2.2.1 90 = .ok (.istore 8, 2) := by decide +kernel
theorem dX12_couples_92 : decode M_X12_couples.2.2.1 92 = .ok (.aload_n 0, 1) := by decide +kernel
theorem dX12_couples_93 : decode M_X12_couples.2.2.1 93 = .ok (.getfield 120, 3) := by decide +kernel
theorem dX12_couples_96 : decode M_X12_couples.2.2.1 96 = .ok (.iload 7, 2) := by decide +kernel
theorem dX12_couples_98 : decode M_X12_couples.2.2.1 98 = .ok (.iaload, 1) := by decide +kernel
theorem dX12_couples_99 : decode M_X12_couples.2.2.1 99 = .ok (.aload_n 0, 1) := by decide +kernel
theorem dX12_couples_100 : decode M_X12_couples.2.2.1 100 = .ok (.getfield 120, 3) := by decide +kernel
theorem dX12_couples_103 : decode M_X12_couples.2.2.1 103 = .ok (.iload 6, 2) := by decide +kernel
theorem dX12_couples_105 : decode M_X12_couples.2.2.1 105 = .ok (.iaload, 1) := by decide +kernel
theorem dX12_couples_106 : decode M_X12_couples.2.2.1 106 = .ok (.isub, 1) := by decide +kernel
theorem dX12_couples_107 : decode M_X12_couples.2.2.1 107 = .ok (.istore 9, 2) := by decide +kernel
theorem dX12_couples_109 : decode M_X12_couples.2.2.1 109 = .ok (.iload 4, 2) := by decide +kernel
theorem dX12_couples_111 : decode M_X12_couples.2.2.1 111 = .ok (.aload_n 0, 1) := by decide +kernel
theorem dX12_couples_112 : decode M_X12_couples.2.2.1 112 = .ok (.iload 8, 2) := by decide +kernel
theorem dX12_couples_114 : decode M_X12_couples.2.2.1 114 = .ok (.iload_n 1, 1) := by decide +kernel
theorem dX12_couples_115 : decode M_X12_couples.2.2.1 115 = .ok (.iload_n 3, 1) := by decide +kernel
theorem dX12_couples_116 : decode M_X12_couples.2.2.1 116 = .ok (.invokevirtual 391, 3) := by decide +kernel
theorem dX12_couples_119 : decode M_X12_couples.2.2.1 119 = .ok (.ifCond .eq 14, 3) := by decide +kernel
theorem dX12_couples_122 : decode M_X12_couples.2.2.1 122 = .ok (.aload_n 0, 1) := by decide +kernel
theorem dX12_couples_123 : decode M_X12_couples.2.2.1 123 = .ok (.iload 9, 2) := by decide +kernel
theorem dX12_couples_125 : decode M_X12_couples.2.2.1 125 = .ok (.iload_n 2, 1) := by decide +kernel
theorem dX12_couples_126 : decode M_X12_couples.2.2.1 126 = .ok (.iload_n 3, 1) := by decide +kernel
theorem dX12_couples_127 : decode M_X12_couples.2.2.1 127 = .ok (.invokevirtual 391, 3) := by decide +kernel
theorem dX12_couples_130 : decode M_X12_couples.2.2.1 130 = .ok (.ifCond .ne 25, 3) := by decide +kernel
theorem dX12_couples_133 : decode M_X12_couples.2.2.1 133 = .ok (.aload_n 0, 1) := by decide +kernel
theorem dX12_couples_134 : decode M_X12_couples.2.2.1 134 = .ok (.iload 8, 2) := by decide +kernel
theorem dX12_couples_136 : decode M_X12_couples.2.2.1 136 = .ok (.iload_n 2, 1) := by decide +kernel
theorem dX12_couples_137 : decode M_X12_couples.2.2.1 137 = .ok (.iload_n 3, 1) := by decide +kernel
theorem dX12_couples_138 : decode M_X12_couples.2.2.1 138 = .ok (.invokevirtual 391, 3) := by decide +kernel
theorem dX12_couples_141 : decode M_X12_couples.2.2.1 141 = .ok (.ifCond .eq 18, 3) := by decide +kernel
theorem dX12_couples_144 : decode M_X12_couples.2.2.1 144 = .ok (.aload_n 0, 1) := by decide +kernel
theorem dX12_couples_145 : decode M_X12_couples.2.2.1 145 = .ok (.iload 9, 2) := by decide +kernel
theorem dX12_couples_147 : decode M_X12_couples.2.2.1 147 = .ok (.iload_n 1, 1) := by decide +kernel
theorem dX12_couples_148 : decode M_X12_couples.2.2.1 148 = .ok (.iload_n 3, 1) := by decide +kernel
theorem dX12_couples_149 : decode M_X12_couples.2.2.1 149 = .ok (.invokevirtual 391, 3) := by decide +kernel
theorem dX12_couples_152 : decode M_X12_couples.2.2.1 152 = .ok (.ifCond .eq 7, 3) := by decide +kernel
theorem dX12_couples_155 : decode M_X12_couples.2.2.1 155 = .ok (.iconst 1, 1) := by decide +kernel
theorem dX12_couples_156 : decode M_X12_couples.2.2.1 156 = .ok (.goto 4, 3) := by decide +kernel
theorem dX12_couples_159 : decode M_X12_couples.2.2.1 159 = .ok (.iconst 0, 1) := by decide +kernel
theorem dX12_couples_160 : decode M_X12_couples.2.2.1 160 = .ok (.iadd, 1) := by decide +kernel
theorem dX12_couples_161 : decode M_X12_couples.2.2.1 161 = .ok (.istore 4, 2) := by decide +kernel
theorem dX12_couples_163 : decode M_X12_couples.2.2.1 163 = .ok (.iinc 5 1, 3) := by decide +kernel
theorem dX12_couples_166 : decode M_X12_couples.2.2.1 166 = .ok (.goto (-119), 3) := by decide +kernel
theorem dX12_couples_169 : decode M_X12_couples.2.2.1 169 = .ok (.iload 4, 2) := by decide +kernel
theorem dX12_couples_171 : decode M_X12_couples.2.2.1 171 = .ok (.ireturn, 1) := by decide +kernel
theorem dX12_isPlace_0 : decode M_X12_isPlace.2.2.1 0 = .ok (.iload_n 0, 1) := by decide +kernel
theorem dX12_isPlace_1 : decode M_X12_isPlace.2.2.1 1 = .ok (.iconst 0, 1) := by decide +kernel
theorem dX12_isPlace_2 : decode M_X12_isPlace.2.2.1 2 = .ok (.sipush 1599, 3) := by decide +kernel
theorem dX12_isPlace_5 : decode M_X12_isPlace.2.2.1 5 = .ok (.invokestatic 147, 3) := by decide +kernel
theorem dX12_isPlace_8 : decode M_X12_isPlace.2.2.1 8 = .ok (.ireturn, 1) := by decide +kernel
theorem dX12_entry_0 : decode M_X12_entry.2.2.1 0 = .ok (.iload_n 1, 1) := by decide +kernel
theorem dX12_entry_1 : decode M_X12_entry.2.2.1 1 = .ok (.iconst 0, 1) := by decide +kernel
theorem dX12_entry_2 : decode M_X12_entry.2.2.1 2 = .ok (.iconst 1, 1) := by decide +kernel
theorem dX12_entry_3 : decode M_X12_entry.2.2.1 3 = .ok (.invokestatic 147, 3) := by decide +kernel
theorem dX12_entry_6 : decode M_X12_entry.2.2.1 6 = .ok (.ifCond .eq 55, 3) := by decide +kernel
theorem dX12_entry_9 : decode M_X12_entry.2.2.1 9 = .ok (.iload_n 2, 1) := by decide +kernel
theorem dX12_entry_10 : decode M_X12_entry.2.2.1 10 = .ok (.iconst 0, 1) := by decide +kernel
theorem dX12_entry_11 : decode M_X12_entry.2.2.1 11 = .ok (.sipush 9999, 3) := by decide +kernel
theorem dX12_entry_14 : decode M_X12_entry.2.2.1 14 = .ok (.invokestatic 147, 3) := by decide +kernel
theorem dX12_entry_17 : decode M_X12_entry.2.2.1 17 = .ok (.ifCond .eq 44, 3) := by decide +kernel
theorem dX12_entry_20 : decode M_X12_entry.2.2.1 20 = .ok (.iload_n 3, 1) := by decide +kernel
theorem dX12_entry_21 : decode M_X12_entry.2.2.1 21 = .ok (.iconst 0, 1) := by decide +kernel
theorem dX12_entry_22 : decode M_X12_entry.2.2.1 22 = .ok (.bipush 23, 2) := by decide +kernel
theorem dX12_entry_24 : decode M_X12_entry.2.2.1 24 = .ok (.invokestatic 147, 3) := by decide +kernel
theorem dX12_entry_27 : decode M_X12_entry.2.2.1 27 = .ok (.ifCond .eq 34, 3) := by decide +kernel
theorem dX12_entry_30 : decode M_X12_entry.2.2.1 30 = .ok (.iload 4, 2) := by decide +kernel
theorem dX12_entry_32 : decode M_X12_entry.2.2.1 32 = .ok (.invokestatic 394, 3) := by decide +kernel
theorem dX12_entry_35 : decode M_X12_entry.2.2.1 35 = .ok (.ifCond .eq 26, 3) := by decide +kernel
theorem dX12_entry_38 : decode M_X12_entry.2.2.1 38 = .ok (.iload 5, 2) := by decide +kernel
theorem dX12_entry_40 : decode M_X12_entry.2.2.1 40 = .ok (.iconst 0, 1) := by decide +kernel
theorem dX12_entry_41 : decode M_X12_entry.2.2.1 41 = .ok (.sipush 999, 3) := by decide +kernel
theorem dX12_entry_44 : decode M_X12_entry.2.2.1 44 = .ok (.invokestatic 147, 3) := by decide +kernel
theorem dX12_entry_47 : decode M_X12_entry.2.2.1 47 = .ok (.ifCond .eq 14, 3) := by decide +kernel
theorem dX12_entry_50 : decode M_X12_entry.2.2.1 50 = .ok (.aload_n 0, 1) := by decide +kernel
theorem dX12_entry_51 : decode M_X12_entry.2.2.1 51 = .ok (.getfield 123, 3) := by decide +kernel
theorem dX12_entry_54 : decode M_X12_entry.2.2.1 54 = .ok (.iload_n 1, 1) := by decide +kernel
theorem dX12_entry_55 : decode M_X12_entry.2.2.1 55 = .ok (.iaload, 1) := by decide +kernel
theorem dX12_entry_56 : decode M_X12_entry.2.2.1 56 = .ok (.bipush 100, 2) := by decide +kernel
theorem dX12_entry_58 : decode M_X12_entry.2.2.1 58 = .ok (.if_icmp .ne 5, 3) := by decide +kernel
theorem dX12_entry_61 : decode M_X12_entry.2.2.1 61 = .ok (.iconst (-1), 1) := by decide +kernel
theorem dX12_entry_62 : decode M_X12_entry.2.2.1 62 = .ok (.ireturn, 1) := by decide +kernel
theorem dX12_entry_63 : decode M_X12_entry.2.2.1 63 = .ok (.bipush 100, 2) := by decide +kernel
theorem dX12_entry_65 : decode M_X12_entry.2.2.1 65 = .ok (.iload_n 1, 1) := by decide +kernel
theorem dX12_entry_66 : decode M_X12_entry.2.2.1 66 = .ok (.imul, 1) := by decide +kernel
theorem dX12_entry_67 : decode M_X12_entry.2.2.1 67 = .ok (.aload_n 0, 1) := by decide +kernel
theorem dX12_entry_68 : decode M_X12_entry.2.2.1 68 = .ok (.getfield 123, 3) := by decide +kernel
theorem dX12_entry_71 : decode M_X12_entry.2.2.1 71 = .ok (.iload_n 1, 1) := by decide +kernel
theorem dX12_entry_72 : decode M_X12_entry.2.2.1 72 = .ok (.iaload, 1) := by decide +kernel
theorem dX12_entry_73 : decode M_X12_entry.2.2.1 73 = .ok (.iadd, 1) := by decide +kernel
theorem dX12_entry_74 : decode M_X12_entry.2.2.1 74 = .ok (.istore 6, 2) := by decide +kernel
theorem dX12_entry_76 : decode M_X12_entry.2.2.1 76 = .ok (.aload_n 0, 1) := by decide +kernel
theorem dX12_entry_77 : decode M_X12_entry.2.2.1 77 = .ok (.getfield 126, 3) := by decide +kernel
theorem dX12_entry_80 : decode M_X12_entry.2.2.1 80 = .ok (.iload 6, 2) := by decide +kernel
theorem dX12_entry_82 : decode M_X12_entry.2.2.1 82 = .ok (.bipush 24, 2) := by decide +kernel
theorem dX12_entry_84 : decode M_X12_entry.2.2.1 84 = .ok (.iload_n 2, 1) := by decide +kernel
theorem dX12_entry_85 : decode M_X12_entry.2.2.1 85 = .ok (.imul, 1) := by decide +kernel
theorem dX12_entry_86 : decode M_X12_entry.2.2.1 86 = .ok (.iload_n 3, 1) := by decide +kernel
theorem dX12_entry_87 : decode M_X12_entry.2.2.1 87 = .ok (.iadd, 1) := by decide +kernel
theorem dX12_entry_88 : decode M_X12_entry.2.2.1 88 = .ok (.iastore, 1) := by decide +kernel
theorem dX12_entry_89 : decode M_X12_entry.2.2.1 89 = .ok (.aload_n 0, 1) := by decide +kernel
theorem dX12_entry_90 : decode M_X12_entry.2.2.1 90 = .ok (.getfield 129, 3) := by decide +kernel
theorem dX12_entry_93 : decode M_X12_entry.2.2.1 93 = .ok (.iload 6, 2) := by decide +kernel
theorem dX12_entry_95 : decode M_X12_entry.2.2.1 95 = .ok (.iload 4, 2) := by decide +kernel
theorem dX12_entry_97 : decode M_X12_entry.2.2.1 97 = .ok (.iastore, 1) := by decide +kernel
theorem dX12_entry_98 : decode M_X12_entry.2.2.1 98 = .ok (.aload_n 0, 1) := by decide +kernel
theorem dX12_entry_99 : decode M_X12_entry.2.2.1 99 = .ok (.getfield 132, 3) := by decide +kernel
theorem dX12_entry_102 : decode M_X12_entry.2.2.1 102 = .ok (.iload 6, 2) := by decide +kernel
theorem dX12_entry_104 : decode M_X12_entry.2.2.1 104 = .ok (.iload 5, 2) := by decide +kernel
theorem dX12_entry_106 : decode M_X12_entry.2.2.1 106 = .ok (.iastore, 1) := by decide +kernel
theorem dX12_entry_107 : decode M_X12_entry.2.2.1 107 = .ok (.aload_n 0, 1) := by decide +kernel
theorem dX12_entry_108 : decode M_X12_entry.2.2.1 108 = .ok (.getfield 123, 3) := by decide +kernel
theorem dX12_entry_111 : decode M_X12_entry.2.2.1 111 = .ok (.iload_n 1, 1) := by decide +kernel
theorem dX12_entry_112 : decode M_X12_entry.2.2.1 112 = .ok (.dup2, 1) := by decide +kernel
theorem dX12_entry_113 : decode M_X12_entry.2.2.1 113 = .ok (.iaload, 1) := by decide +kernel
theorem dX12_entry_114 : decode M_X12_entry.2.2.1 114 = .ok (.iconst 1, 1) := by decide +kernel
theorem dX12_entry_115 : decode M_X12_entry.2.2.1 115 = .ok (.iadd, 1) := by decide +kernel
theorem dX12_entry_116 : decode M_X12_entry.2.2.1 116 = .ok (.iastore, 1) := by decide +kernel
theorem dX12_entry_117 : decode M_X12_entry.2.2.1 117 = .ok (.aload_n 0, 1) := by decide +kernel
theorem dX12_entry_118 : decode M_X12_entry.2.2.1 118 = .ok (.getfield 123, 3) := by decide +kernel
theorem dX12_entry_121 : decode M_X12_entry.2.2.1 121 = .ok (.iload_n 1, 1) := by decide +kernel
theorem dX12_entry_122 : decode M_X12_entry.2.2.1 122 = .ok (.iaload, 1) := by decide +kernel
theorem dX12_entry_123 : decode M_X12_entry.2.2.1 123 = .ok (.iconst 1, 1) := by decide +kernel
theorem dX12_entry_124 : decode M_X12_entry.2.2.1 124 = .ok (.isub, 1) := by decide +kernel
theorem dX12_entry_125 : decode M_X12_entry.2.2.1 125 = .ok (.ireturn, 1) := by decide +kernel
theorem dX12_joined_0 : decode M_X12_joined.2.2.1 0 = .ok (.iload_n 1, 1) := by decide +kernel
theorem dX12_joined_1 : decode M_X12_joined.2.2.1 1 = .ok (.iconst 0, 1) := by decide +kernel
theorem dX12_joined_2 : decode M_X12_joined.2.2.1 2 = .ok (.sipush 999, 3) := by decide +kernel
theorem dX12_joined_5 : decode M_X12_joined.2.2.1 5 = .ok (.invokestatic 147, 3) := by decide +kernel
theorem dX12_joined_8 : decode M_X12_joined.2.2.1 8 = .ok (.ifCond .eq 24, 3) := by decide +kernel
theorem dX12_joined_11 : decode M_X12_joined.2.2.1 11 = .ok (.iload_n 2, 1) := by decide +kernel
theorem dX12_joined_12 : decode M_X12_joined.2.2.1 12 = .ok (.iconst 0, 1) := by decide +kernel
theorem dX12_joined_13 : decode M_X12_joined.2.2.1 13 = .ok (.bipush 55, 2) := by decide +kernel
theorem dX12_joined_15 : decode M_X12_joined.2.2.1 15 = .ok (.invokestatic 147, 3) := by decide +kernel
theorem dX12_joined_18 : decode M_X12_joined.2.2.1 18 = .ok (.ifCond .eq 14, 3) := by decide +kernel
theorem dX12_joined_21 : decode M_X12_joined.2.2.1 21 = .ok (.iload_n 3, 1) := by decide +kernel
theorem dX12_joined_22 : decode M_X12_joined.2.2.1 22 = .ok (.iconst 0, 1) := by decide +kernel
theorem dX12_joined_23 : decode M_X12_joined.2.2.1 23 = .ok (.sipush 999, 3) := by decide +kernel
theorem dX12_joined_26 : decode M_X12_joined.2.2.1 26 = .ok (.invokestatic 147, 3) := by decide +kernel
theorem dX12_joined_29 : decode M_X12_joined.2.2.1 29 = .ok (.ifCond .ne 5, 3) := by decide +kernel
theorem dX12_joined_32 : decode M_X12_joined.2.2.1 32 = .ok (.iconst (-1), 1) := by decide +kernel
theorem dX12_joined_33 : decode M_X12_joined.2.2.1 33 = .ok (.ireturn, 1) := by decide +kernel
theorem dX12_joined_34 : decode M_X12_joined.2.2.1 34 = .ok (.iconst 0, 1) := by decide +kernel
theorem dX12_joined_35 : decode M_X12_joined.2.2.1 35 = .ok (.istore 4, 2) := by decide +kernel
theorem dX12_joined_37 : decode M_X12_joined.2.2.1 37 = .ok (.iload 4, 2) := by decide +kernel
theorem dX12_joined_39 : decode M_X12_joined.2.2.1 39 = .ok (.bipush 100, 2) := by decide +kernel
theorem dX12_joined_41 : decode M_X12_joined.2.2.1 41 = .ok (.if_icmp .ge 17, 3) := by decide +kernel
theorem dX12_joined_44 : decode M_X12_joined.2.2.1 44 = .ok (.aload_n 0, 1) := by decide +kernel
theorem dX12_joined_45 : decode M_X12_joined.2.2.1 45 = .ok (.getfield 144, 3) := by decide +kernel
theorem dX12_joined_48 : decode M_X12_joined.2.2.1 48 = .ok (.iload 4, 2) := by decide +kernel
theorem dX12_joined_50 : decode M_X12_joined.2.2.1 50 = .ok (.iconst 0, 1) := by decide +kernel
theorem dX12_joined_51 : decode M_X12_joined.2.2.1 51 = .ok (.bastore, 1) := by decide +kernel
theorem dX12_joined_52 : decode M_X12_joined.2.2.1 52 = .ok (.iinc 4 1, 3) := by decide +kernel
theorem dX12_joined_55 : decode M_X12_joined.2.2.1 55 = .ok (.goto (-18), 3) := by decide +kernel
theorem dX12_joined_58 : decode M_X12_joined.2.2.1 58 = .ok (.aload_n 0, 1) := by decide +kernel
theorem dX12_joined_59 : decode M_X12_joined.2.2.1 59 = .ok (.getfield 123, 3) := by decide +kernel
theorem dX12_joined_62 : decode M_X12_joined.2.2.1 62 = .ok (.iconst 0, 1) := by decide +kernel
theorem dX12_joined_63 : decode M_X12_joined.2.2.1 63 = .ok (.iaload, 1) := by decide +kernel
theorem dX12_joined_64 : decode M_X12_joined.2.2.1 64 = .ok (.aload_n 0, 1) := by decide +kernel
theorem dX12_joined_65 : decode M_X12_joined.2.2.1 65 = .ok (.getfield 123, 3) := by decide +kernel
theorem dX12_joined_68 : decode M_X12_joined.2.2.1 68 = .ok (.iconst 1, 1) := by decide +kernel
theorem dX12_joined_69 : decode M_X12_joined.2.2.1 69 = .ok (.iaload, 1) := by decide +kernel
theorem dX12_joined_70 : decode M_X12_joined.2.2.1 70 = .ok (.iadd, 1) := by decide +kernel
theorem dX12_joined_71 : decode M_X12_joined.2.2.1 71 = .ok (.istore 4, 2) := by decide +kernel
theorem dX12_joined_73 : decode M_X12_joined.2.2.1 73 = .ok (.iconst 0, 1) := by decide +kernel
theorem dX12_joined_74 : decode M_X12_joined.2.2.1 74 = .ok (.istore 5, 2) := by decide +kernel
theorem dX12_joined_76 : decode M_X12_joined.2.2.1 76 = .ok (.iload 5, 2) := by decide +kernel
theorem dX12_joined_78 : decode M_X12_joined.2.2.1 78 = .ok (.aload_n 0, 1) := by decide +kernel
theorem dX12_joined_79 : decode M_X12_joined.2.2.1 79 = .ok (.getfield 123, 3) := by decide +kernel
theorem dX12_joined_82 : decode M_X12_joined.2.2.1 82 = .ok (.iconst 0, 1) := by decide +kernel
theorem dX12_joined_83 : decode M_X12_joined.2.2.1 83 = .ok (.iaload, 1) := by decide +kernel
theorem dX12_joined_84 : decode M_X12_joined.2.2.1 84 = .ok (.if_icmp .ge 154, 3) := by decide +kernel
theorem dX12_joined_87 : decode M_X12_joined.2.2.1 87 = .ok (.iconst (-1), 1) := by decide +kernel
theorem dX12_joined_88 : decode M_X12_joined.2.2.1 88 = .ok (.istore 6, 2) := by decide +kernel
theorem dX12_joined_90 : decode M_X12_joined.2.2.1 90 = .ok (.iconst 0, 1) := by decide +kernel
theorem dX12_joined_91 : decode M_X12_joined.2.2.1 91 = .ok (.istore 7, 2) := by decide +kernel
theorem dX12_joined_93 : decode M_X12_joined.2.2.1 93 = .ok (.iload 7, 2) := by decide +kernel
theorem dX12_joined_95 : decode M_X12_joined.2.2.1 95 = .ok (.aload_n 0, 1) := by decide +kernel
theorem dX12_joined_96 : decode M_X12_joined.2.2.1 96 = .ok (.getfield 123, 3) := by decide +kernel
theorem dX12_joined_99 : decode M_X12_joined.2.2.1 99 = .ok (.iconst 1, 1) := by decide +kernel
theorem dX12_joined_100 : decode M_X12_joined.2.2.1 100 = .ok (.iaload, 1) := by decide +kernel
theorem dX12_joined_101 : decode M_X12_joined.2.2.1 101 = .ok (.if_icmp .ge 111, 3) := by decide +kernel
theorem dX12_joined_104 : decode M_X12_joined.2.2.1 104 = .ok (.iload 6, 2) := by decide +kernel
theorem dX12_joined_106 : decode M_X12_joined.2.2.1 106 = .ok (.iconst (-1), 1) := by decide +kernel
theorem dX12_joined_107 : decode M_X12_joined.2.2.1 107 = .ok (.if_icmp .ne 105, 3) := by decide +kernel
theorem dX12_joined_110 : decode M_X12_joined.2.2.1 110 = .ok (.bipush 100, 2) := by decide +kernel
theorem dX12_joined_112 : decode M_X12_joined.2.2.1 112 = .ok (.iload 7, 2) := by decide +kernel
theorem dX12_joined_114 : decode M_X12_joined.2.2.1 114 = .ok (.iadd, 1) := by decide +kernel
theorem dX12_joined_115 : decode M_X12_joined.2.2.1 115 = .ok (.istore 8, 2) := by decide +kernel
theorem dX12_joined_117 : decode M_X12_joined.2.2.1 117 = .ok (.aload_n 0, 1) := by decide +kernel
theorem dX12_joined_118 : decode M_X12_joined.2.2.1 118 = .ok (.getfield 126, 3) := by decide +kernel
theorem dX12_joined_121 : decode M_X12_joined.2.2.1 121 = .ok (.iload 5, 2) := by decide +kernel
theorem dX12_joined_123 : decode M_X12_joined.2.2.1 123 = .ok (.iaload, 1) := by decide +kernel
theorem dX12_joined_124 : decode M_X12_joined.2.2.1 124 = .ok (.aload_n 0, 1) := by decide +kernel
theorem dX12_joined_125 : decode M_X12_joined.2.2.1 125 = .ok (.getfield 126, 3) := by decide +kernel
theorem dX12_joined_128 : decode M_X12_joined.2.2.1 128 = .ok (.iload 8, 2) := by decide +kernel
theorem dX12_joined_130 : decode M_X12_joined.2.2.1 130 = .ok (.iaload, 1) := by decide +kernel
theorem dX12_joined_131 : decode M_X12_joined.2.2.1 131 = .ok (.invokestatic 388, 3) := by decide +kernel
theorem dX12_joined_134 : decode M_X12_joined.2.2.1 134 = .ok (.iload_n 1, 1) := by decide +kernel
theorem dX12_joined_135 : decode M_X12_joined.2.2.1 135 = .ok (.if_icmp .gt 49, 3) := by decide +kernel
theorem dX12_joined_138 : decode M_X12_joined.2.2.1 138 = .ok (.aload_n 0, 1) := by decide +kernel
theorem dX12_joined_139 : decode M_X12_joined.2.2.1 139 = .ok (.getfield 129, 3) := by decide +kernel
theorem dX12_joined_142 : decode M_X12_joined.2.2.1 142 = .ok (.iload 5, 2) := by decide +kernel
theorem dX12_joined_144 : decode M_X12_joined.2.2.1 144 = .ok (.iaload, 1) := by decide +kernel
theorem dX12_joined_145 : decode M_X12_joined.2.2.1 145 = .ok (.aload_n 0, 1) := by decide +kernel
theorem dX12_joined_146 : decode M_X12_joined.2.2.1 146 = .ok (.getfield 129, 3) := by decide +kernel
theorem dX12_joined_149 : decode M_X12_joined.2.2.1 149 = .ok (.iload 8, 2) := by decide +kernel
theorem dX12_joined_151 : decode M_X12_joined.2.2.1 151 = .ok (.iaload, 1) := by decide +kernel
theorem dX12_joined_152 : decode M_X12_joined.2.2.1 152 = .ok (.invokestatic 350, 3) := by decide +kernel
theorem dX12_joined_155 : decode M_X12_joined.2.2.1 155 = .ok (.iload_n 2, 1) := by decide +kernel
theorem dX12_joined_156 : decode M_X12_joined.2.2.1 156 = .ok (.if_icmp .gt 28, 3) := by decide +kernel
theorem dX12_joined_159 : decode M_X12_joined.2.2.1 159 = .ok (.aload_n 0, 1) := by decide +kernel
theorem dX12_joined_160 : decode M_X12_joined.2.2.1 160 = .ok (.getfield 132, 3) := by decide +kernel
theorem dX12_joined_163 : decode M_X12_joined.2.2.1 163 = .ok (.iload 5, 2) := by decide +kernel
theorem dX12_joined_165 : decode M_X12_joined.2.2.1 165 = .ok (.iaload, 1) := by decide +kernel
theorem dX12_joined_166 : decode M_X12_joined.2.2.1 166 = .ok (.aload_n 0, 1) := by decide +kernel
theorem dX12_joined_167 : decode M_X12_joined.2.2.1 167 = .ok (.getfield 132, 3) := by decide +kernel
theorem dX12_joined_170 : decode M_X12_joined.2.2.1 170 = .ok (.iload 8, 2) := by decide +kernel
theorem dX12_joined_172 : decode M_X12_joined.2.2.1 172 = .ok (.iaload, 1) := by decide +kernel
theorem dX12_joined_173 : decode M_X12_joined.2.2.1 173 = .ok (.invokestatic 388, 3) := by decide +kernel
theorem dX12_joined_176 : decode M_X12_joined.2.2.1 176 = .ok (.iload_n 3, 1) := by decide +kernel
theorem dX12_joined_177 : decode M_X12_joined.2.2.1 177 = .ok (.if_icmp .gt 7, 3) := by decide +kernel
theorem dX12_joined_180 : decode M_X12_joined.2.2.1 180 = .ok (.iconst 1, 1) := by decide +kernel
theorem dX12_joined_181 : decode M_X12_joined.2.2.1 181 = .ok (.goto 4, 3) := by decide +kernel
theorem dX12_joined_184 : decode M_X12_joined.2.2.1 184 = .ok (.iconst 0, 1) := by decide +kernel
theorem dX12_joined_185 : decode M_X12_joined.2.2.1 185 = .ok (.istore 9, 2) := by decide +kernel
theorem dX12_joined_187 : decode M_X12_joined.2.2.1 187 = .ok (.iload 9, 2) := by decide +kernel
theorem dX12_joined_189 : decode M_X12_joined.2.2.1 189 = .ok (.ifCond .eq 17, 3) := by decide +kernel
theorem dX12_joined_192 : decode M_X12_joined.2.2.1 192 = .ok (.aload_n 0, 1) := by decide +kernel
theorem dX12_joined_193 : decode M_X12_joined.2.2.1 193 = .ok (.getfield 144, 3) := by decide +kernel
theorem dX12_joined_196 : decode M_X12_joined.2.2.1 196 = .ok (.iload 7, 2) := by decide +kernel
theorem dX12_joined_198 : decode M_X12_joined.2.2.1 198 = .ok (.baload, 1) := by decide +kernel
theorem dX12_joined_199 : decode M_X12_joined.2.2.1 199 = .ok (.ifCond .ne 7, 3) := by decide +kernel
theorem dX12_joined_202 : decode M_X12_joined.2.2.1 202 = .ok (.iload 7, 2) := by decide +kernel
theorem dX12_joined_204 : decode M_X12_joined.2.2.1 204 = .ok (.istore 6, 2) := by decide +kernel
theorem dX12_joined_206 : decode M_X12_joined.2.2.1 206 = .ok (.iinc 7 1, 3) := by decide +kernel
theorem dX12_joined_209 : decode M_X12_joined.2.2.1 209 = .ok (.goto (-116), 3) := by decide +kernel
theorem dX12_joined_212 : decode M_X12_joined.2.2.1 212 = .ok (.iload 6, 2) := by decide +kernel
theorem dX12_joined_214 : decode M_X12_joined.2.2.1 214 = .ok (.iconst (-1), 1) := by decide +kernel
theorem dX12_joined_215 : decode M_X12_joined.2.2.1 215 = .ok (.if_icmp .ne 6, 3) := by decide +kernel
theorem dX12_joined_218 : decode M_X12_joined.2.2.1 218 = .ok (.goto 14, 3) := by decide +kernel
theorem dX12_joined_221 : decode M_X12_joined.2.2.1 221 = .ok (.aload_n 0, 1) := by decide +kernel
theorem dX12_joined_222 : decode M_X12_joined.2.2.1 222 = .ok (.getfield 144, 3) := by decide +kernel
theorem dX12_joined_225 : decode M_X12_joined.2.2.1 225 = .ok (.iload 6, 2) := by decide +kernel
theorem dX12_joined_227 : decode M_X12_joined.2.2.1 227 = .ok (.iconst 1, 1) := by decide +kernel
theorem dX12_joined_228 : decode M_X12_joined.2.2.1 228 = .ok (.bastore, 1) := by decide +kernel
theorem dX12_joined_229 : decode M_X12_joined.2.2.1 229 = .ok (.iinc 4 (-1), 3) := by decide +kernel
theorem dX12_joined_232 : decode M_X12_joined.2.2.1 232 = .ok (.iinc 5 1, 3) := by decide +kernel
theorem dX12_joined_235 : decode M_X12_joined.2.2.1 235 = .ok (.goto (-159), 3) := by decide +kernel
theorem dX12_joined_238 : decode M_X12_joined.2.2.1 238 = .ok (.iload 4, 2) := by decide +kernel
theorem dX12_joined_240 : decode M_X12_joined.2.2.1 240 = .ok (.ireturn, 1) := by decide +kernel
theorem dX12_isQuarry_0 : decode M_X12_isQuarry.2.2.1 0 = .ok (.iconst 0, 1) := by decide +kernel
theorem dX12_isQuarry_1 : decode M_X12_isQuarry.2.2.1 1 = .ok (.istore 4, 2) := by decide +kernel
theorem dX12_isQuarry_3 : decode M_X12_isQuarry.2.2.1 3 = .ok (.iconst 0, 1) := by decide +kernel
theorem dX12_isQuarry_4 : decode M_X12_isQuarry.2.2.1 4 = .ok (.istore 5, 2) := by decide +kernel
theorem dX12_isQuarry_6 : decode M_X12_isQuarry.2.2.1 6 = .ok (.iload 5, 2) := by decide +kernel
theorem dX12_isQuarry_8 : decode M_X12_isQuarry.2.2.1 8 = .ok (.aload_n 0, 1) := by decide +kernel
theorem dX12_isQuarry_9 : decode M_X12_isQuarry.2.2.1 9 = .ok (.getfield 123, 3) := by decide +kernel
theorem dX12_isQuarry_12 : decode M_X12_isQuarry.2.2.1 12 = .ok (.iconst 0, 1) := by decide +kernel
theorem dX12_isQuarry_13 : decode M_X12_isQuarry.2.2.1 13 = .ok (.iaload, 1) := by decide +kernel
theorem dX12_isQuarry_14 : decode M_X12_isQuarry.2.2.1 14 = .ok (.if_icmp .ge 70, 3) := by decide +kernel
theorem dX12_isQuarry_17 : decode M_X12_isQuarry.2.2.1 17 = .ok (.aload_n 0, 1) := by decide +kernel
theorem dX12_isQuarry_18 : decode M_X12_isQuarry.2.2.1 18 = .ok (.getfield 129, 3) := by decide +kernel
theorem dX12_isQuarry_21 : decode M_X12_isQuarry.2.2.1 21 = .ok (.iload 5, 2) := by decide +kernel
theorem dX12_isQuarry_23 : decode M_X12_isQuarry.2.2.1 23 = .ok (.iaload, 1) := by decide +kernel
theorem dX12_isQuarry_24 : decode M_X12_isQuarry.2.2.1 24 = .ok (.iload_n 1, 1) := by decide +kernel
theorem dX12_isQuarry_25 : decode M_X12_isQuarry.2.2.1 25 = .ok (.invokestatic 350, 3) := by decide +kernel
theorem dX12_isQuarry_28 : decode M_X12_isQuarry.2.2.1 28 = .ok (.iload_n 2, 1) := by decide +kernel
theorem dX12_isQuarry_29 : decode M_X12_isQuarry.2.2.1 29 = .ok (.if_icmp .le 6, 3) := by decide +kernel
theorem dX12_isQuarry_32 : decode M_X12_isQuarry.2.2.1 32 = .ok (.goto 46, 3) := by decide +kernel
theorem dX12_isQuarry_35 : decode M_X12_isQuarry.2.2.1 35 = .ok (.aload_n 0, 1) := by decide +kernel
theorem dX12_isQuarry_36 : decode M_X12_isQuarry.2.2.1 36 = .ok (.getfield 126, 3) := by decide +kernel
theorem dX12_isQuarry_39 : decode M_X12_isQuarry.2.2.1 39 = .ok (.iload 5, 2) := by decide +kernel
theorem dX12_isQuarry_41 : decode M_X12_isQuarry.2.2.1 41 = .ok (.iaload, 1) := by decide +kernel
theorem dX12_isQuarry_42 : decode M_X12_isQuarry.2.2.1 42 = .ok (.bipush 24, 2) := by decide +kernel
theorem dX12_isQuarry_44 : decode M_X12_isQuarry.2.2.1 44 = .ok (.irem, 1) := by decide +kernel
theorem dX12_isQuarry_45 : decode M_X12_isQuarry.2.2.1 45 = .ok (.bipush 8, 2) := by decide +kernel
theorem dX12_isQuarry_47 : decode M_X12_isQuarry.2.2.1 47 = .ok (.bipush 17, 2) := by decide +kernel
theorem dX12_isQuarry_49 : decode M_X12_isQuarry.2.2.1 49 = .ok (.invokestatic 147, 3) := by decide +kernel
theorem dX12_isQuarry_52 : decode M_X12_isQuarry.2.2.1 52 = .ok (.ifCond .eq 21, 3) := by decide +kernel
theorem dX12_isQuarry_55 : decode M_X12_isQuarry.2.2.1 55 = .ok (.aload_n 0, 1) := by decide +kernel
theorem dX12_isQuarry_56 : decode M_X12_isQuarry.2.2.1 56 = .ok (.getfield 126, 3) := by decide +kernel
theorem dX12_isQuarry_59 : decode M_X12_isQuarry.2.2.1 59 = .ok (.iload 5, 2) := by decide +kernel
theorem dX12_isQuarry_61 : decode M_X12_isQuarry.2.2.1 61 = .ok (.iaload, 1) := by decide +kernel
theorem dX12_isQuarry_62 : decode M_X12_isQuarry.2.2.1 62 = .ok (.bipush 24, 2) := by decide +kernel
theorem dX12_isQuarry_64 : decode M_X12_isQuarry.2.2.1 64 = .ok (.idiv, 1) := by decide +kernel
theorem dX12_isQuarry_65 : decode M_X12_isQuarry.2.2.1 65 = .ok (.bipush 7, 2) := by decide +kernel
theorem dX12_isQuarry_67 : decode M_X12_isQuarry.2.2.1 67 = .ok (.irem, 1) := by decide +kernel
theorem dX12_isQuarry_68 : decode M_X12_isQuarry.2.2.1 68 = .ok (.bipush 6, 2) := by decide +kernel
theorem dX12_isQuarry_70 : decode M_X12_isQuarry.2.2.1 70 = .ok (.if_icmp .ne 5, 3) := by decide +kernel
theorem dX12_isQuarry_73 : decode M_X12_isQuarry.2.2.1 73 = .ok (.iconst 0, 1) := by decide +kernel
theorem dX12_isQuarry_74 : decode M_X12_isQuarry.2.2.1 74 = .ok (.ireturn, 1) := by decide +kernel
theorem dX12_isQuarry_75 : decode M_X12_isQuarry.2.2.1 75 = .ok (.iinc 4 1, 3) := by decide +kernel
theorem dX12_isQuarry_78 : decode M_X12_isQuarry.2.2.1 78 = .ok (.iinc 5 1, 3) := by decide +kernel
theorem dX12_isQuarry_81 : decode M_X12_isQuarry.2.2.1 81 = .ok (.goto (-75), 3) := by decide +kernel
theorem dX12_isQuarry_84 : decode M_X12_isQuarry.2.2.1 84 = .ok (.iload 4, 2) := by decide +kernel
theorem dX12_isQuarry_86 : decode M_X12_isQuarry.2.2.1 86 = .ok (.iload_n 3, 1) := by decide +kernel
theorem dX12_isQuarry_87 : decode M_X12_isQuarry.2.2.1 87 = .ok (.if_icmp .lt 7, 3) := by decide +kernel
theorem dX12_isQuarry_90 : decode M_X12_isQuarry.2.2.1 90 = .ok (.iconst 1, 1) := by decide +kernel
theorem dX12_isQuarry_91 : decode M_X12_isQuarry.2.2.1 91 = .ok (.goto 4, 3) := by decide +kernel
theorem dX12_isQuarry_94 : decode M_X12_isQuarry.2.2.1 94 = .ok (.iconst 0, 1) := by decide +kernel
theorem dX12_isQuarry_95 : decode M_X12_isQuarry.2.2.1 95 = .ok (.ireturn, 1) := by decide +kernel
theorem dX12_quarries_0 : decode M_X12_quarries.2.2.1 0 = .ok (.iload_n 1, 1) := by decide +kernel
theorem dX12_quarries_1 : decode M_X12_quarries.2.2.1 1 = .ok (.iconst 0, 1) := by decide +kernel
theorem dX12_quarries_2 : decode M_X12_quarries.2.2.1 2 = .ok (.bipush 55, 2) := by decide +kernel
theorem dX12_quarries_4 : decode M_X12_quarries.2.2.1 4 = .ok (.invokestatic 147, 3) := by decide +kernel
theorem dX12_quarries_7 : decode M_X12_quarries.2.2.1 7 = .ok (.ifCond .eq 22, 3) := by decide +kernel
theorem dX12_quarries_10 : decode M_X12_quarries.2.2.1 10 = .ok (.iload_n 2, 1) := by decide +kernel
theorem dX12_quarries_11 : decode M_X12_quarries.2.2.1 11 = .ok (.iconst 1, 1) := by decide +kernel
theorem dX12_quarries_12 : decode M_X12_quarries.2.2.1 12 = .ok (.bipush 100, 2) := by decide +kernel
theorem dX12_quarries_14 : decode M_X12_quarries.2.2.1 14 = .ok (.invokestatic 147, 3) := by decide +kernel
theorem dX12_quarries_17 : decode M_X12_quarries.2.2.1 17 = .ok (.ifCond .eq 12, 3) := by decide +kernel
theorem dX12_quarries_20 : decode M_X12_quarries.2.2.1 20 = .ok (.iload_n 3, 1) := by decide +kernel
theorem dX12_quarries_21 : decode M_X12_quarries.2.2.1 21 = .ok (.iconst 0, 1) := by decide +kernel
theorem dX12_quarries_22 : decode M_X12_quarries.2.2.1 22 = .ok (.iconst 1, 1) := by decide +kernel
theorem dX12_quarries_23 : decode M_X12_quarries.2.2.1 23 = .ok (.invokestatic 147, 3) := by decide +kernel
theorem dX12_quarries_26 : decode M_X12_quarries.2.2.1 26 = .ok (.ifCond .ne 5, 3) := by decide +kernel
theorem dX12_quarries_29 : decode M_X12_quarries.2.2.1 29 = .ok (.iconst (-1), 1) := by decide +kernel
theorem dX12_quarries_30 : decode M_X12_quarries.2.2.1 30 = .ok (.ireturn, 1) := by decide +kernel
theorem dX12_quarries_31 : decode M_X12_quarries.2.2.1 31 = .ok (.iconst 0, 1) := by decide +kernel
theorem dX12_quarries_32 : decode M_X12_quarries.2.2.1 32 = .ok (.istore 4, 2) := by decide +kernel
theorem dX12_quarries_34 : decode M_X12_quarries.2.2.1 34 = .ok (.iconst (-1), 1) := by decide +kernel
theorem dX12_quarries_35 : decode M_X12_quarries.2.2.1 35 = .ok (.istore 5, 2) := by decide +kernel
theorem dX12_quarries_37 : decode M_X12_quarries.2.2.1 37 = .ok (.iconst 0, 1) := by decide +kernel
theorem dX12_quarries_38 : decode M_X12_quarries.2.2.1 38 = .ok (.istore 6, 2) := by decide +kernel
theorem dX12_quarries_40 : decode M_X12_quarries.2.2.1 40 = .ok (.iload 6, 2) := by decide +kernel
theorem dX12_quarries_42 : decode M_X12_quarries.2.2.1 42 = .ok (.sipush 1600, 3) := by decide +kernel
theorem dX12_quarries_45 : decode M_X12_quarries.2.2.1 45 = .ok (.if_icmp .ge 40, 3) := by decide +kernel
theorem dX12_quarries_48 : decode M_X12_quarries.2.2.1 48 = .ok (.aload_n 0, 1) := by decide +kernel
theorem dX12_quarries_49 : decode M_X12_quarries.2.2.1 49 = .ok (.iload 6, 2) := by decide +kernel
theorem dX12_quarries_51 : decode M_X12_quarries.2.2.1 51 = .ok (.iload_n 1, 1) := by decide +kernel
theorem dX12_quarries_52 : decode M_X12_quarries.2.2.1 52 = .ok (.iload_n 2, 1) := by decide +kernel
theorem dX12_quarries_53 : decode M_X12_quarries.2.2.1 53 = .ok (.invokevirtual 397, 3) := by decide +kernel
theorem dX12_quarries_56 : decode M_X12_quarries.2.2.1 56 = .ok (.ifCond .ne 6, 3) := by decide +kernel
theorem dX12_quarries_59 : decode M_X12_quarries.2.2.1 59 = .ok (.goto 20, 3) := by decide +kernel
theorem dX12_quarries_62 : decode M_X12_quarries.2.2.1 62 = .ok (.iload 4, 2) := by decide +kernel
theorem dX12_quarries_64 : decode M_X12_quarries.2.2.1 64 = .ok (.ifCond .ne 8, 3) := by decide +kernel
theorem dX12_quarries_67 : decode M_X12_quarries.2.2.1 67 = .ok (.iload 6, 2) := by decide +kernel
theorem dX12_quarries_69 : decode M_X12_quarries.2.2.1 69 = .ok (.goto 5, 3) := by decide +kernel
theorem dX12_quarries_72 : decode M_X12_quarries.2.2.1 72 = .ok (.iload 5, 2) := by decide +kernel
theorem dX12_quarries_74 : decode M_X12_quarries.2.2.1 74 = .ok (.istore 5, 2) := by decide +kernel
theorem dX12_quarries_76 : decode M_X12_quarries.2.2.1 76 = .ok (.iinc 4 1, 3) := by decide +kernel
theorem dX12_quarries_79 : decode M_X12_quarries.2.2.1 79 = .ok (.iinc 6 1, 3) := by decide +kernel
theorem dX12_quarries_82 : decode M_X12_quarries.2.2.1 82 = .ok (.goto (-42), 3) := by decide +kernel
theorem dX12_quarries_85 : decode M_X12_quarries.2.2.1 85 = .ok (.iload_n 3, 1) := by decide +kernel
theorem dX12_quarries_86 : decode M_X12_quarries.2.2.1 86 = .ok (.ifCond .ne 8, 3) := by decide +kernel
theorem dX12_quarries_89 : decode M_X12_quarries.2.2.1 89 = .ok (.iload 4, 2) := by decide +kernel
theorem dX12_quarries_91 : decode M_X12_quarries.2.2.1 91 = .ok (.goto 5, 3) := by decide +kernel
theorem dX12_quarries_94 : decode M_X12_quarries.2.2.1 94 = .ok (.iload 5, 2) := by decide +kernel
theorem dX12_quarries_96 : decode M_X12_quarries.2.2.1 96 = .ok (.ireturn, 1) := by decide +kernel
theorem dX12_felt_0 : decode M_X12_felt.2.2.1 0 = .ok (.iload_n 1, 1) := by decide +kernel
theorem dX12_felt_1 : decode M_X12_felt.2.2.1 1 = .ok (.invokestatic 394, 3) := by decide +kernel
theorem dX12_felt_4 : decode M_X12_felt.2.2.1 4 = .ok (.ifCond .eq 39, 3) := by decide +kernel
theorem dX12_felt_7 : decode M_X12_felt.2.2.1 7 = .ok (.iload_n 2, 1) := by decide +kernel
theorem dX12_felt_8 : decode M_X12_felt.2.2.1 8 = .ok (.iconst 0, 1) := by decide +kernel
theorem dX12_felt_9 : decode M_X12_felt.2.2.1 9 = .ok (.aload_n 0, 1) := by decide +kernel
theorem dX12_felt_10 : decode M_X12_felt.2.2.1 10 = .ok (.getfield 123, 3) := by decide +kernel
theorem dX12_felt_13 : decode M_X12_felt.2.2.1 13 = .ok (.iconst 0, 1) := by decide +kernel
theorem dX12_felt_14 : decode M_X12_felt.2.2.1 14 = .ok (.iaload, 1) := by decide +kernel
theorem dX12_felt_15 : decode M_X12_felt.2.2.1 15 = .ok (.iconst 1, 1) := by decide +kernel
theorem dX12_felt_16 : decode M_X12_felt.2.2.1 16 = .ok (.isub, 1) := by decide +kernel
theorem dX12_felt_17 : decode M_X12_felt.2.2.1 17 = .ok (.invokestatic 147, 3) := by decide +kernel
theorem dX12_felt_20 : decode M_X12_felt.2.2.1 20 = .ok (.ifCond .eq 23, 3) := by decide +kernel
theorem dX12_felt_23 : decode M_X12_felt.2.2.1 23 = .ok (.iload_n 3, 1) := by decide +kernel
theorem dX12_felt_24 : decode M_X12_felt.2.2.1 24 = .ok (.iconst 0, 1) := by decide +kernel
theorem dX12_felt_25 : decode M_X12_felt.2.2.1 25 = .ok (.sipush 999, 3) := by decide +kernel
theorem dX12_felt_28 : decode M_X12_felt.2.2.1 28 = .ok (.invokestatic 147, 3) := by decide +kernel
theorem dX12_felt_31 : decode M_X12_felt.2.2.1 31 = .ok (.ifCond .eq 12, 3) := by decide +kernel
theorem dX12_felt_34 : decode M_X12_felt.2.2.1 34 = .ok (.aload_n 0, 1) := by decide +kernel
theorem dX12_felt_35 : decode M_X12_felt.2.2.1 35 = .ok (.getfield 400, 3) := by decide +kernel
theorem dX12_felt_38 : decode M_X12_felt.2.2.1 38 = .ok (.bipush 100, 2) := by decide +kernel
theorem dX12_felt_40 : decode M_X12_felt.2.2.1 40 = .ok (.if_icmp .ne 5, 3) := by decide +kernel
theorem dX12_felt_43 : decode M_X12_felt.2.2.1 43 = .ok (.iconst (-1), 1) := by decide +kernel
theorem dX12_felt_44 : decode M_X12_felt.2.2.1 44 = .ok (.ireturn, 1) := by decide +kernel
theorem dX12_felt_45 : decode M_X12_felt.2.2.1 45 = .ok (.aload_n 0, 1) := by decide +kernel
theorem dX12_felt_46 : decode M_X12_felt.2.2.1 46 = .ok (.getfield 135, 3) := by decide +kernel
theorem dX12_felt_49 : decode M_X12_felt.2.2.1 49 = .ok (.aload_n 0, 1) := by decide +kernel
theorem dX12_felt_50 : decode M_X12_felt.2.2.1 50 = .ok (.getfield 400, 3) := by decide +kernel
theorem dX12_felt_53 : decode M_X12_felt.2.2.1 53 = .ok (.iload_n 1, 1) := by decide +kernel
theorem dX12_felt_54 : decode M_X12_felt.2.2.1 54 = .ok (.iastore, 1) := by decide +kernel
theorem dX12_felt_55 : decode M_X12_felt.2.2.1 55 = .ok (.aload_n 0, 1) := by decide +kernel
theorem dX12_felt_56 : decode M_X12_felt.2.2.1 56 = .ok (.getfield 138, 3) := by decide +kernel
theorem dX12_felt_59 : decode M_X12_felt.2.2.1 59 = .ok (.aload_n 0, 1) := by decide +kernel
theorem dX12_felt_60 : decode M_X12_felt.2.2.1 60 = .ok (.getfield 400, 3) := by decide +kernel
theorem dX12_felt_63 : decode M_X12_felt.2.2.1 63 = .ok (.iload_n 2, 1) := by decide +kernel
theorem dX12_felt_64 : decode M_X12_felt.2.2.1 64 = .ok (.iastore, 1) := by decide +kernel
theorem dX12_felt_65 : decode M_X12_felt.2.2.1 65 = .ok (.aload_n 0, 1) := by decide +kernel
theorem dX12_felt_66 : decode M_X12_felt.2.2.1 66 = .ok (.getfield 141, 3) := by decide +kernel
theorem dX12_felt_69 : decode M_X12_felt.2.2.1 69 = .ok (.aload_n 0, 1) := by decide +kernel
theorem dX12_felt_70 : decode M_X12_felt.2.2.1 70 = .ok (.getfield 400, 3) := by decide +kernel
theorem dX12_felt_73 : decode M_X12_felt.2.2.1 73 = .ok (.iload_n 3, 1) := by decide +kernel
theorem dX12_felt_74 : decode M_X12_felt.2.2.1 74 = .ok (.iastore, 1) := by decide +kernel
theorem dX12_felt_75 : decode M_X12_felt.2.2.1 75 = .ok (.aload_n 0, 1) := by decide +kernel
theorem dX12_felt_76 : decode M_X12_felt.2.2.1 76 = .ok (.dup, 1) := by decide +kernel
theorem dX12_felt_77 : decode M_X12_felt.2.2.1 77 = .ok (.getfield 400, 3) := by decide +kernel
theorem dX12_felt_80 : decode M_X12_felt.2.2.1 80 = .ok (.iconst 1, 1) := by decide +kernel
theorem dX12_felt_81 : decode M_X12_felt.2.2.1 81 = .ok (.iadd, 1) := by decide +kernel
theorem dX12_felt_82 : decode M_X12_felt.2.2.1 82 = .ok (.putfield 400, 3) := by decide +kernel
theorem dX12_felt_85 : decode M_X12_felt.2.2.1 85 = .ok (.aload_n 0, 1) := by decide +kernel
theorem dX12_felt_86 : decode M_X12_felt.2.2.1 86 = .ok (.getfield 400, 3) := by decide +kernel
theorem dX12_felt_89 : decode M_X12_felt.2.2.1 89 = .ok (.ireturn, 1) := by decide +kernel
theorem dX12_foretold_0 : decode M_X12_foretold.2.2.1 0 = .ok (.aload_n 0, 1) := by decide +kernel
theorem dX12_foretold_1 : decode M_X12_foretold.2.2.1 1 = .ok (.getfield 132, 3) := by decide +kernel
theorem dX12_foretold_4 : decode M_X12_foretold.2.2.1 4 = .ok (.aload_n 0, 1) := by decide +kernel
theorem dX12_foretold_5 : decode M_X12_foretold.2.2.1 5 = .ok (.getfield 138, 3) := by decide +kernel
theorem dX12_foretold_8 : decode M_X12_foretold.2.2.1 8 = .ok (.iload_n 1, 1) := by decide +kernel
theorem dX12_foretold_9 : decode M_X12_foretold.2.2.1 9 = .ok (.iaload, 1) := by decide +kernel
theorem dX12_foretold_10 : decode M_X12_foretold.2.2.1 10 = .ok (.iaload, 1) := by decide +kernel
theorem dX12_foretold_11 : decode M_X12_foretold.2.2.1 11 = .ok (.aload_n 0, 1) := by decide +kernel
theorem dX12_foretold_12 : decode M_X12_foretold.2.2.1 12 = .ok (.getfield 135, 3) := by decide +kernel
theorem dX12_foretold_15 : decode M_X12_foretold.2.2.1 15 = .ok (.iload_n 1, 1) := by decide +kernel
theorem dX12_foretold_16 : decode M_X12_foretold.2.2.1 16 = .ok (.iaload, 1) := by decide +kernel
theorem dX12_foretold_17 : decode M_X12_foretold.2.2.1 17 = .ok (.aload_n 0, 1) := by decide +kernel
theorem dX12_foretold_18 : decode M_X12_foretold.2.2.1 18 = .ok (.getfield 129, 3) := by decide +kernel
theorem dX12_foretold_21 : decode M_X12_foretold.2.2.1 21 = .ok (.aload_n 0, 1) := by decide +kernel
theorem dX12_foretold_22 : decode M_X12_foretold.2.2.1 22 = .ok (.getfield 138, 3) := by decide +kernel
theorem dX12_foretold_25 : decode M_X12_foretold.2.2.1 25 = .ok (.iload_n 1, 1) := by decide +kernel
theorem dX12_foretold_26 : decode M_X12_foretold.2.2.1 26 = .ok (.iaload, 1) := by decide +kernel
theorem dX12_foretold_27 : decode M_X12_foretold.2.2.1 27 = .ok (.iaload, 1) := by decide +kernel
theorem dX12_foretold_28 : decode M_X12_foretold.2.2.1 28 = .ok (.invokestatic 367, 3) := by decide +kernel
theorem dX12_foretold_31 : decode M_X12_foretold.2.2.1 31 = .ok (.isub, 1) := by decide +kernel
theorem dX12_foretold_32 : decode M_X12_foretold.2.2.1 32 = .ok (.istore_n 2, 1) := by decide +kernel
theorem dX12_foretold_33 : decode M_X12_foretold.2.2.1 33 = .ok (.iload_n 2, 1) := by decide +kernel
theorem dX12_foretold_34 : decode M_X12_foretold.2.2.1 34 = .ok (.ifCond .ge 7, 3) := by decide +kernel
theorem dX12_foretold_37 : decode M_X12_foretold.2.2.1 37 = .ok (.iconst 0, 1) := by decide +kernel
theorem dX12_foretold_38 : decode M_X12_foretold.2.2.1 38 = .ok (.goto 4, 3) := by decide +kernel
theorem dX12_foretold_41 : decode M_X12_foretold.2.2.1 41 = .ok (.iload_n 2, 1) := by decide +kernel
theorem dX12_foretold_42 : decode M_X12_foretold.2.2.1 42 = .ok (.ireturn, 1) := by decide +kernel
theorem dX12_shaken_0 : decode M_X12_shaken.2.2.1 0 = .ok (.iload_n 1, 1) := by decide +kernel
theorem dX12_shaken_1 : decode M_X12_shaken.2.2.1 1 = .ok (.bipush 10, 2) := by decide +kernel
theorem dX12_shaken_3 : decode M_X12_shaken.2.2.1 3 = .ok (.bipush 9, 2) := by decide +kernel
theorem dX12_shaken_5 : decode M_X12_shaken.2.2.1 5 = .ok (.aload_n 0, 1) := by decide +kernel
theorem dX12_shaken_6 : decode M_X12_shaken.2.2.1 6 = .ok (.getfield 400, 3) := by decide +kernel
theorem dX12_shaken_9 : decode M_X12_shaken.2.2.1 9 = .ok (.iadd, 1) := by decide +kernel
theorem dX12_shaken_10 : decode M_X12_shaken.2.2.1 10 = .ok (.invokestatic 147, 3) := by decide +kernel
theorem dX12_shaken_13 : decode M_X12_shaken.2.2.1 13 = .ok (.ifCond .eq 12, 3) := by decide +kernel
theorem dX12_shaken_16 : decode M_X12_shaken.2.2.1 16 = .ok (.aload_n 0, 1) := by decide +kernel
theorem dX12_shaken_17 : decode M_X12_shaken.2.2.1 17 = .ok (.iload_n 1, 1) := by decide +kernel
theorem dX12_shaken_18 : decode M_X12_shaken.2.2.1 18 = .ok (.bipush 10, 2) := by decide +kernel
theorem dX12_shaken_20 : decode M_X12_shaken.2.2.1 20 = .ok (.isub, 1) := by decide +kernel
theorem dX12_shaken_21 : decode M_X12_shaken.2.2.1 21 = .ok (.invokevirtual 403, 3) := by decide +kernel
theorem dX12_shaken_24 : decode M_X12_shaken.2.2.1 24 = .ok (.ireturn, 1) := by decide +kernel
theorem dX12_shaken_25 : decode M_X12_shaken.2.2.1 25 = .ok (.iload_n 1, 1) := by decide +kernel
theorem dX12_shaken_26 : decode M_X12_shaken.2.2.1 26 = .ok (.iconst 0, 1) := by decide +kernel
theorem dX12_shaken_27 : decode M_X12_shaken.2.2.1 27 = .ok (.iconst 1, 1) := by decide +kernel
theorem dX12_shaken_28 : decode M_X12_shaken.2.2.1 28 = .ok (.invokestatic 147, 3) := by decide +kernel
theorem dX12_shaken_31 : decode M_X12_shaken.2.2.1 31 = .ok (.ifCond .ne 6, 3) := by decide +kernel
theorem dX12_shaken_34 : decode M_X12_shaken.2.2.1 34 = .ok (.ldc 162, 2) := by decide +kernel
theorem dX12_shaken_36 : decode M_X12_shaken.2.2.1 36 = .ok (.ireturn, 1) := by decide +kernel
theorem dX12_shaken_37 : decode M_X12_shaken.2.2.1 37 = .ok (.iconst 0, 1) := by decide +kernel
theorem dX12_shaken_38 : decode M_X12_shaken.2.2.1 38 = .ok (.istore_n 2, 1) := by decide +kernel
theorem dX12_shaken_39 : decode M_X12_shaken.2.2.1 39 = .ok (.iconst 0, 1) := by decide +kernel
theorem dX12_shaken_40 : decode M_X12_shaken.2.2.1 40 = .ok (.istore_n 3, 1) := by decide +kernel
theorem dX12_shaken_41 : decode M_X12_shaken.2.2.1 41 = .ok (.iload_n 3, 1) := by decide +kernel
theorem dX12_shaken_42 : decode M_X12_shaken.2.2.1 42 = .ok (.aload_n 0, 1) := by decide +kernel
theorem dX12_shaken_43 : decode M_X12_shaken.2.2.1 43 = .ok (.getfield 400, 3) := by decide +kernel
theorem dX12_shaken_46 : decode M_X12_shaken.2.2.1 46 = .ok (.if_icmp .ge 46, 3) := by decide +kernel
theorem dX12_shaken_49 : decode M_X12_shaken.2.2.1 49 = .ok (.iload_n 2, 1) := by decide +kernel
theorem dX12_shaken_50 : decode M_X12_shaken.2.2.1 50 = .ok (.iload_n 1, 1) := by decide +kernel
theorem dX12_shaken_51 : decode M_X12_shaken.2.2.1 51 = .ok (.ifCond .ne 21, 3) := by decide +kernel
theorem dX12_shaken_54 : decode M_X12_shaken.2.2.1 54 = .ok (.aload_n 0, 1) := by decide +kernel
theorem dX12_shaken_55 : decode M_X12_shaken.2.2.1 55 = .ok (.iload_n 3, 1) := by decide +kernel
theorem dX12_shaken_56 : decode M_X12_shaken.2.2.1 56 = .ok (.invokevirtual 403, 3) := by decide +kernel
theorem dX12_shaken_59 : decode M_X12_shaken.2.2.1 59 = .ok (.aload_n 0, 1) := by decide +kernel
theorem dX12_shaken_60 : decode M_X12_shaken.2.2.1 60 = .ok (.getfield 141, 3) := by decide +kernel
theorem dX12_shaken_63 : decode M_X12_shaken.2.2.1 63 = .ok (.iload_n 3, 1) := by decide +kernel
theorem dX12_shaken_64 : decode M_X12_shaken.2.2.1 64 = .ok (.iaload, 1) := by decide +kernel
theorem dX12_shaken_65 : decode M_X12_shaken.2.2.1 65 = .ok (.isub, 1) := by decide +kernel
theorem dX12_shaken_66 : decode M_X12_shaken.2.2.1 66 = .ok (.invokestatic 192, 3) := by decide +kernel
theorem dX12_shaken_69 : decode M_X12_shaken.2.2.1 69 = .ok (.goto 15, 3) := by decide +kernel
theorem dX12_shaken_72 : decode M_X12_shaken.2.2.1 72 = .ok (.aload_n 0, 1) := by decide +kernel
theorem dX12_shaken_73 : decode M_X12_shaken.2.2.1 73 = .ok (.iload_n 3, 1) := by decide +kernel
theorem dX12_shaken_74 : decode M_X12_shaken.2.2.1 74 = .ok (.invokevirtual 403, 3) := by decide +kernel
theorem dX12_shaken_77 : decode M_X12_shaken.2.2.1 77 = .ok (.aload_n 0, 1) := by decide +kernel
theorem dX12_shaken_78 : decode M_X12_shaken.2.2.1 78 = .ok (.getfield 141, 3) := by decide +kernel
theorem dX12_shaken_81 : decode M_X12_shaken.2.2.1 81 = .ok (.iload_n 3, 1) := by decide +kernel
theorem dX12_shaken_82 : decode M_X12_shaken.2.2.1 82 = .ok (.iaload, 1) := by decide +kernel
theorem dX12_shaken_83 : decode M_X12_shaken.2.2.1 83 = .ok (.isub, 1) := by decide +kernel
theorem dX12_shaken_84 : decode M_X12_shaken.2.2.1 84 = .ok (.iadd, 1) := by decide +kernel
theorem dX12_shaken_85 : decode M_X12_shaken.2.2.1 85 = .ok (.istore_n 2, 1) := by decide +kernel
theorem dX12_shaken_86 : decode M_X12_shaken.2.2.1 86 = .ok (.iinc 3 1, 3) := by decide +kernel
theorem dX12_shaken_89 : decode M_X12_shaken.2.2.1 89 = .ok (.goto (-48), 3) := by decide +kernel
theorem dX12_shaken_92 : decode M_X12_shaken.2.2.1 92 = .ok (.iload_n 2, 1) := by decide +kernel
theorem dX12_shaken_93 : decode M_X12_shaken.2.2.1 93 = .ok (.ireturn, 1) := by decide +kernel
theorem dX12_look_0 : decode M_X12_look.2.2.1 0 = .ok (.iload_n 1, 1) := by decide +kernel
theorem dX12_look_1 : decode M_X12_look.2.2.1 1 = .ok (.tableswitch 78 0 5 #[39, 44, 49, 54, 68, 73], 39) := by decide +kernel
theorem dX12_look_40 : decode M_X12_look.2.2.1 40 = .ok (.aload_n 0, 1) := by decide +kernel
theorem dX12_look_41 : decode M_X12_look.2.2.1 41 = .ok (.getfield 151, 3) := by decide +kernel
theorem dX12_look_44 : decode M_X12_look.2.2.1 44 = .ok (.ireturn, 1) := by decide +kernel
theorem dX12_look_45 : decode M_X12_look.2.2.1 45 = .ok (.aload_n 0, 1) := by decide +kernel
theorem dX12_look_46 : decode M_X12_look.2.2.1 46 = .ok (.getfield 336, 3) := by decide +kernel
theorem dX12_look_49 : decode M_X12_look.2.2.1 49 = .ok (.ireturn, 1) := by decide +kernel
theorem dX12_look_50 : decode M_X12_look.2.2.1 50 = .ok (.aload_n 0, 1) := by decide +kernel
theorem dX12_look_51 : decode M_X12_look.2.2.1 51 = .ok (.getfield 326, 3) := by decide +kernel
theorem dX12_look_54 : decode M_X12_look.2.2.1 54 = .ok (.ireturn, 1) := by decide +kernel
theorem dX12_look_55 : decode M_X12_look.2.2.1 55 = .ok (.aload_n 0, 1) := by decide +kernel
theorem dX12_look_56 : decode M_X12_look.2.2.1 56 = .ok (.getfield 123, 3) := by decide +kernel
theorem dX12_look_59 : decode M_X12_look.2.2.1 59 = .ok (.iconst 0, 1) := by decide +kernel
theorem dX12_look_60 : decode M_X12_look.2.2.1 60 = .ok (.iaload, 1) := by decide +kernel
theorem dX12_look_61 : decode M_X12_look.2.2.1 61 = .ok (.aload_n 0, 1) := by decide +kernel
theorem dX12_look_62 : decode M_X12_look.2.2.1 62 = .ok (.getfield 123, 3) := by decide +kernel
theorem dX12_look_65 : decode M_X12_look.2.2.1 65 = .ok (.iconst 1, 1) := by decide +kernel
theorem dX12_look_66 : decode M_X12_look.2.2.1 66 = .ok (.iaload, 1) := by decide +kernel
theorem dX12_look_67 : decode M_X12_look.2.2.1 67 = .ok (.iadd, 1) := by decide +kernel
theorem dX12_look_68 : decode M_X12_look.2.2.1 68 = .ok (.ireturn, 1) := by decide +kernel
theorem dX12_look_69 : decode M_X12_look.2.2.1 69 = .ok (.aload_n 0, 1) := by decide +kernel
theorem dX12_look_70 : decode M_X12_look.2.2.1 70 = .ok (.getfield 382, 3) := by decide +kernel
theorem dX12_look_73 : decode M_X12_look.2.2.1 73 = .ok (.ireturn, 1) := by decide +kernel
theorem dX12_look_74 : decode M_X12_look.2.2.1 74 = .ok (.aload_n 0, 1) := by decide +kernel
theorem dX12_look_75 : decode M_X12_look.2.2.1 75 = .ok (.getfield 400, 3) := by decide +kernel
theorem dX12_look_78 : decode M_X12_look.2.2.1 78 = .ok (.ireturn, 1) := by decide +kernel
theorem dX12_look_79 : decode M_X12_look.2.2.1 79 = .ok (.iconst (-1), 1) := by decide +kernel
theorem dX12_look_80 : decode M_X12_look.2.2.1 80 = .ok (.ireturn, 1) := by decide +kernel
