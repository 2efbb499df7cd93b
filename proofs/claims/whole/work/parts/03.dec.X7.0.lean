/-! decode rows -/
theorem dX7_init_0 : decode cX7_init 0 = .ok (.aload_n 0, 1) := by decide +kernel
theorem dX7_init_1 : decode cX7_init 1 = .ok (.invokespecial 1, 3) := by decide +kernel
theorem dX7_init_4 : decode cX7_init 4 = .ok (.aload_n 0, 1) := by decide +kernel
theorem dX7_init_5 : decode cX7_init 5 = .ok (.iconst 1, 1) := by decide +kernel
theorem dX7_init_6 : decode cX7_init 6 = .ok (.putfield 7, 3) := by decide +kernel
theorem dX7_init_9 : decode cX7_init 9 = .ok (.aload_n 0, 1) := by decide +kernel
theorem dX7_init_10 : decode cX7_init 10 = .ok (.iconst (-1), 1) := by decide +kernel
theorem dX7_init_11 : decode cX7_init 11 = .ok (.putfield 13, 3) := by decide +kernel
theorem dX7_init_14 : decode cX7_init 14 = .ok (.aload_n 0, 1) := by decide +kernel
theorem dX7_init_15 : decode cX7_init 15 = .ok (.bipush 8, 2) := by decide +kernel
theorem dX7_init_17 : decode cX7_init 17 = .ok (.newarray .int, 2) := by decide +kernel
theorem dX7_init_19 : decode cX7_init 19 = .ok (.putfield 16, 3) := by decide +kernel
theorem dX7_init_22 : decode cX7_init 22 = .ok (.aload_n 0, 1) := by decide +kernel
theorem dX7_init_23 : decode cX7_init 23 = .ok (.bipush 6, 2) := by decide +kernel
theorem dX7_init_25 : decode cX7_init 25 = .ok (.newarray .int, 2) := by decide +kernel
theorem dX7_init_27 : decode cX7_init 27 = .ok (.putfield 20, 3) := by decide +kernel
theorem dX7_init_30 : decode cX7_init 30 = .ok (.aload_n 0, 1) := by decide +kernel
theorem dX7_init_31 : decode cX7_init 31 = .ok (.bipush 6, 2) := by decide +kernel
theorem dX7_init_33 : decode cX7_init 33 = .ok (.newarray .int, 2) := by decide +kernel
theorem dX7_init_35 : decode cX7_init 35 = .ok (.putfield 23, 3) := by decide +kernel
theorem dX7_init_38 : decode cX7_init 38 = .ok (.aload_n 0, 1) := by decide +kernel
theorem dX7_init_39 : decode cX7_init 39 = .ok (.bipush 6, 2) := by decide +kernel
theorem dX7_init_41 : decode cX7_init 41 = .ok (.newarray .int, 2) := by decide +kernel
theorem dX7_init_43 : decode cX7_init 43 = .ok (.putfield 26, 3) := by decide +kernel
theorem dX7_init_46 : decode cX7_init 46 = .ok (.aload_n 0, 1) := by decide +kernel
theorem dX7_init_47 : decode cX7_init 47 = .ok (.bipush 6, 2) := by decide +kernel
theorem dX7_init_49 : decode cX7_init 49 = .ok (.newarray .int, 2) := by decide +kernel
theorem dX7_init_51 : decode cX7_init 51 = .ok (.putfield 29, 3) := by decide +kernel
theorem dX7_init_54 : decode cX7_init 54 = .ok (.aload_n 0, 1) := by decide +kernel
theorem dX7_init_55 : decode cX7_init 55 = .ok (.bipush 6, 2) := by decide +kernel
theorem dX7_init_57 : decode cX7_init 57 = .ok (.newarray .int, 2) := by decide +kernel
theorem dX7_init_59 : decode cX7_init 59 = .ok (.putfield 32, 3) := by decide +kernel
theorem dX7_init_62 : decode cX7_init 62 = .ok (.aload_n 0, 1) := by decide +kernel
theorem dX7_init_63 : decode cX7_init 63 = .ok (.bipush 6, 2) := by decide +kernel
theorem dX7_init_65 : decode cX7_init 65 = .ok (.newarray .int, 2) := by decide +kernel
theorem dX7_init_67 : decode cX7_init 67 = .ok (.putfield 35, 3) := by decide +kernel
theorem dX7_init_70 : decode cX7_init 70 = .ok (.aload_n 0, 1) := by decide +kernel
theorem dX7_init_71 : decode cX7_init 71 = .ok (.bipush 6, 2) := by decide +kernel
theorem dX7_init_73 : decode cX7_init 73 = .ok (.newarray .int, 2) := by decide +kernel
theorem dX7_init_75 : decode cX7_init 75 = .ok (.putfield 38, 3) := by decide +kernel
theorem dX7_init_78 : decode cX7_init 78 = .ok (.aload_n 0, 1) := by decide +kernel
theorem dX7_init_79 : decode cX7_init 79 = .ok (.bipush 6, 2) := by decide +kernel
theorem dX7_init_81 : decode cX7_init 81 = .ok (.newarray .int, 2) := by decide +kernel
theorem dX7_init_83 : decode cX7_init 83 = .ok (.putfield 41, 3) := by decide +kernel
theorem dX7_init_86 : decode cX7_init 86 = .ok (.aload_n 0, 1) := by decide +kernel
theorem dX7_init_87 : decode cX7_init 87 = .ok (.bipush 6, 2) := by decide +kernel
theorem dX7_init_89 : decode cX7_init 89 = .ok (.newarray .int, 2) := by decide +kernel
theorem dX7_init_91 : decode cX7_init 91 = .ok (.putfield 44, 3) := by decide +kernel
theorem dX7_init_94 : decode cX7_init 94 = .ok (.aload_n 0, 1) := by decide +kernel
theorem dX7_init_95 : decode cX7_init 95 = .ok (.bipush 6, 2) := by decide +kernel
theorem dX7_init_97 : decode cX7_init 97 = .ok (.newarray .int, 2) := by decide +kernel
theorem dX7_init_99 : decode cX7_init 99 = .ok (.putfield 47, 3) := by decide +kernel
theorem dX7_init_102 : decode cX7_init 102 = .ok (.aload_n 0, 1) := by decide +kernel
theorem dX7_init_103 : decode cX7_init 103 = .ok (.bipush 6, 2) := by decide +kernel
theorem dX7_init_105 : decode cX7_init 105 = .ok (.newarray .int, 2) := by decide +kernel
theorem dX7_init_107 : decode cX7_init 107 = .ok (.putfield 50, 3) := by decide +kernel
theorem dX7_init_110 : decode cX7_init 110 = .ok (.aload_n 0, 1) := by decide +kernel
theorem dX7_init_111 : decode cX7_init 111 = .ok (.bipush 6, 2) := by decide +kernel
theorem dX7_init_113 : decode cX7_init 113 = .ok (.newarray .int, 2) := by decide +kernel
theorem dX7_init_115 : decode cX7_init 115 = .ok (.putfield 53, 3) := by decide +kernel
theorem dX7_init_118 : decode cX7_init 118 = .ok (.aload_n 0, 1) := by decide +kernel
theorem dX7_init_119 : decode cX7_init 119 = .ok (.bipush 8, 2) := by decide +kernel
theorem dX7_init_121 : decode cX7_init 121 = .ok (.newarray .int, 2) := by decide +kernel
theorem dX7_init_123 : decode cX7_init 123 = .ok (.putfield 56, 3) := by decide +kernel
theorem dX7_init_126 : decode cX7_init 126 = .ok (.aload_n 0, 1) := by decide +kernel
theorem dX7_init_127 : decode cX7_init 127 = .ok (.bipush 8, 2) := by decide +kernel
theorem dX7_init_129 : decode cX7_init 129 = .ok (.newarray .int, 2) := by decide +kernel
theorem dX7_init_131 : decode cX7_init 131 = .ok (.putfield 59, 3) := by decide +kernel
theorem dX7_init_134 : decode cX7_init 134 = .ok (.aload_n 0, 1) := by decide +kernel
theorem dX7_init_135 : decode cX7_init 135 = .ok (.bipush 8, 2) := by decide +kernel
theorem dX7_init_137 : decode cX7_init 137 = .ok (.newarray .int, 2) := by decide +kernel
theorem dX7_init_139 : decode cX7_init 139 = .ok (.putfield 62, 3) := by decide +kernel
theorem dX7_init_142 : decode cX7_init 142 = .ok (.aload_n 0, 1) := by decide +kernel
theorem dX7_init_143 : decode cX7_init 143 = .ok (.bipush 8, 2) := by decide +kernel
theorem dX7_init_145 : decode cX7_init 145 = .ok (.newarray .int, 2) := by decide +kernel
theorem dX7_init_147 : decode cX7_init 147 = .ok (.putfield 65, 3) := by decide +kernel
theorem dX7_init_150 : decode cX7_init 150 = .ok (.aload_n 0, 1) := by decide +kernel
theorem dX7_init_151 : decode cX7_init 151 = .ok (.sipush 1280, 3) := by decide +kernel
theorem dX7_init_154 : decode cX7_init 154 = .ok (.newarray .long, 2) := by decide +kernel
theorem dX7_init_156 : decode cX7_init 156 = .ok (.putfield 68, 3) := by decide +kernel
theorem dX7_init_159 : decode cX7_init 159 = .ok (.aload_n 0, 1) := by decide +kernel
theorem dX7_init_160 : decode cX7_init 160 = .ok (.sipush 160, 3) := by decide +kernel
theorem dX7_init_163 : decode cX7_init 163 = .ok (.newarray .long, 2) := by decide +kernel
theorem dX7_init_165 : decode cX7_init 165 = .ok (.putfield 72, 3) := by decide +kernel
theorem dX7_init_168 : decode cX7_init 168 = .ok (.aload_n 0, 1) := by decide +kernel
theorem dX7_init_169 : decode cX7_init 169 = .ok (.bipush 43, 2) := by decide +kernel
theorem dX7_init_171 : decode cX7_init 171 = .ok (.newarray .int, 2) := by decide +kernel
theorem dX7_init_173 : decode cX7_init 173 = .ok (.dup, 1) := by decide +kernel
theorem dX7_init_174 : decode cX7_init 174 = .ok (.iconst 0, 1) := by decide +kernel
theorem dX7_init_175 : decode cX7_init 175 = .ok (.bipush 99, 2) := by decide +kernel
theorem dX7_init_177 : decode cX7_init 177 = .ok (.iastore, 1) := by decide +kernel
theorem dX7_init_178 : decode cX7_init 178 = .ok (.dup, 1) := by decide +kernel
theorem dX7_init_179 : decode cX7_init 179 = .ok (.iconst 1, 1) := by decide +kernel
theorem dX7_init_180 : decode cX7_init 180 = .ok (.bipush 105, 2) := by decide +kernel
theorem dX7_init_182 : decode cX7_init 182 = .ok (.iastore, 1) := by decide +kernel
theorem dX7_init_183 : decode cX7_init 183 = .ok (.dup, 1) := by decide +kernel
theorem dX7_init_184 : decode cX7_init 184 = .ok (.iconst 2, 1) := by decide +kernel
theorem dX7_init_185 : decode cX7_init 185 = .ok (.bipush 116, 2) := by decide +kernel
theorem dX7_init_187 : decode cX7_init 187 = .ok (.iastore, 1) := by decide +kernel
theorem dX7_init_188 : decode cX7_init 188 = .ok (.dup, 1) := by decide +kernel
theorem dX7_init_189 : decode cX7_init 189 = .ok (.iconst 3, 1) := by decide +kernel
theorem dX7_init_190 : decode cX7_init 190 = .ok (.bipush 105, 2) := by decide +kernel
theorem dX7_init_192 : decode cX7_init 192 = .ok (.iastore, 1) := by decide +kernel
theorem dX7_init_193 : decode cX7_init 193 = .ok (.dup, 1) := by decide +kernel
theorem dX7_init_194 : decode cX7_init 194 = .ok (.iconst 4, 1) := by decide +kernel
theorem dX7_init_195 : decode cX7_init 195 = .ok (.bipush 122, 2) := by decide +kernel
theorem dX7_init_197 : decode cX7_init 197 = .ok (.iastore, 1) := by decide +kernel
theorem dX7_init_198 : decode cX7_init 198 = .ok (.dup, 1) := by decide +kernel
theorem dX7_init_199 : decode cX7_init 199 = .ok (.iconst 5, 1) := by decide +kernel
theorem dX7_init_200 : decode cX7_init 200 = .ok (.bipush 101, 2) := by decide +kernel
theorem dX7_init_202 : decode cX7_init 202 = .ok (.iastore, 1) := by decide +kernel
theorem dX7_init_203 : decode cX7_init 203 = .ok (.dup, 1) := by decide +kernel
theorem dX7_init_204 : decode cX7_init 204 = .ok (.bipush 6, 2) := by decide +kernel
theorem dX7_init_206 : decode cX7_init 206 = .ok (.bipush 110, 2) := by decide +kernel
theorem dX7_init_208 : decode cX7_init 208 = .ok (.iastore, 1) := by decide +kernel
theorem dX7_init_209 : decode cX7_init 209 = .ok (.dup, 1) := by decide +kernel
theorem dX7_init_210 : decode cX7_init 210 = .ok (.bipush 7, 2) := by decide +kernel
theorem dX7_init_212 : decode cX7_init 212 = .ok (.bipush 32, 2) := by decide +kernel
theorem dX7_init_214 : decode cX7_init 214 = .ok (.iastore, 1) := by decide +kernel
theorem dX7_init_215 : decode cX7_init 215 = .ok (.dup, 1) := by decide +kernel
theorem dX7_init_216 : decode cX7_init 216 = .ok (.bipush 8, 2) := by decide +kernel
theorem dX7_init_218 : decode cX7_init 218 = .ok (.iconst 0, 1) := by decide +kernel
theorem dX7_init_219 : decode cX7_init 219 = .ok (.iastore, 1) := by decide +kernel
theorem dX7_init_220 : decode cX7_init 220 = .ok (.dup, 1) := by decide +kernel
theorem dX7_init_221 : decode cX7_init 221 = .ok (.bipush 9, 2) := by decide +kernel
theorem dX7_init_223 : decode cX7_init 223 = .ok (.bipush 98, 2) := by decide +kernel
theorem dX7_init_225 : decode cX7_init 225 = .ok (.iastore, 1) := by decide +kernel
theorem dX7_init_226 : decode cX7_init 226 = .ok (.dup, 1) := by decide +kernel
theorem dX7_init_227 : decode cX7_init 227 = .ok (.bipush 10, 2) := by decide +kernel
theorem dX7_init_229 : decode cX7_init 229 = .ok (.bipush 101, 2) := by decide +kernel
theorem dX7_init_231 : decode cX7_init 231 = .ok (.iastore, 1) := by decide +kernel
theorem dX7_init_232 : decode cX7_init 232 = .ok (.dup, 1) := by decide +kernel
theorem dX7_init_233 : decode cX7_init 233 = .ok (.bipush 11, 2) := by decide +kernel
theorem dX7_init_235 : decode cX7_init 235 = .ok (.bipush 103, 2) := by decide +kernel
theorem dX7_init_237 : decode cX7_init 237 = .ok (.iastore, 1) := by decide +kernel
theorem dX7_init_238 : decode cX7_init 238 = .ok (.dup, 1) := by decide +kernel
theorem dX7_init_239 : decode cX7_init 239 = .ok (.bipush 12, 2) := by decide +kernel
theorem dX7_init_241 : decode cX7_init 241 = .ok (.bipush 103, 2) := by decide +kernel
theorem dX7_init_243 : decode cX7_init 243 = .ok (.iastore, 1) := by decide +kernel
theorem dX7_init_244 : decode cX7_init 244 = .ok (.dup, 1) := by decide +kernel
theorem dX7_init_245 : decode cX7_init 245 = .ok (.bipush 13, 2) := by decide +kernel
theorem dX7_init_247 : decode cX7_init 247 = .ok (.bipush 97, 2) := by decide +kernel
theorem dX7_init_249 : decode cX7_init 249 = .ok (.iastore, 1) := by decide +kernel
theorem dX7_init_250 : decode cX7_init 250 = .ok (.dup, 1) := by decide +kernel
theorem dX7_init_251 : decode cX7_init 251 = .ok (.bipush 14, 2) := by decide +kernel
theorem dX7_init_253 : decode cX7_init 253 = .ok (.bipush 114, 2) := by decide +kernel
theorem dX7_init_255 : decode cX7_init 255 = .ok (.iastore, 1) := by decide +kernel
theorem dX7_init_256 : decode cX7_init 256 = .ok (.dup, 1) := by decide +kernel
theorem dX7_init_257 : decode cX7_init 257 = .ok (.bipush 15, 2) := by decide +kernel
theorem dX7_init_259 : decode cX7_init 259 = .ok (.bipush 32, 2) := by decide +kernel
theorem dX7_init_261 : decode cX7_init 261 = .ok (.iastore, 1) := by decide +kernel
theorem dX7_init_262 : decode cX7_init 262 = .ok (.dup, 1) := by decide +kernel
theorem dX7_init_263 : decode cX7_init 263 = .ok (.bipush 16, 2) := by decide +kernel
theorem dX7_init_265 : decode cX7_init 265 = .ok (.iconst 0, 1) := by decide +kernel
theorem dX7_init_266 : decode cX7_init 266 = .ok (.iastore, 1) := by decide +kernel
theorem dX7_init_267 : decode cX7_init 267 = .ok (.dup, 1) := by decide +kernel
theorem dX7_init_268 : decode cX7_init 268 = .ok (.bipush 17, 2) := by decide +kernel
theorem dX7_init_270 : decode cX7_init 270 = .ok (.bipush 119, 2) := by decide +kernel
theorem dX7_init_272 : decode cX7_init 272 = .ok (.iastore, 1) := by decide +kernel
theorem dX7_init_273 : decode cX7_init 273 = .ok (.dup, 1) := by decide +kernel
theorem dX7_init_274 : decode cX7_init 274 = .ok (.bipush 18, 2) := by decide +kernel
theorem dX7_init_276 : decode cX7_init 276 = .ok (.bipush 101, 2) := by decide +kernel
theorem dX7_init_278 : decode cX7_init 278 = .ok (.iastore, 1) := by decide +kernel
theorem dX7_init_279 : decode cX7_init 279 = .ok (.dup, 1) := by decide +kernel
theorem dX7_init_280 : decode cX7_init 280 = .ok (.bipush 19, 2) := by decide +kernel
theorem dX7_init_282 : decode cX7_init 282 = .ok (.bipush 97, 2) := by decide +kernel
theorem dX7_init_284 : decode cX7_init 284 = .ok (.iastore, 1) := by decide +kernel
theorem dX7_init_285 : decode cX7_init 285 = .ok (.dup, 1) := by decide +kernel
theorem dX7_init_286 : decode cX7_init 286 = .ok (.bipush 20, 2) := by decide +kernel
theorem dX7_init_288 : decode cX7_init 288 = .ok (.bipush 114, 2) := by decide +kernel
theorem dX7_init_290 : decode cX7_init 290 = .ok (.iastore, 1) := by decide +kernel
theorem dX7_init_291 : decode cX7_init 291 = .ok (.dup, 1) := by decide +kernel
theorem dX7_init_292 : decode cX7_init 292 = .ok (.bipush 21, 2) := by decide +kernel
theorem dX7_init_294 : decode cX7_init 294 = .ok (.bipush 32, 2) := by decide +kernel
theorem dX7_init_296 : decode cX7_init 296 = .ok (.iastore, 1) := by decide +kernel
theorem dX7_init_297 : decode cX7_init 297 = .ok (.dup, 1) := by decide +kernel
theorem dX7_init_298 : decode cX7_init 298 = .ok (.bipush 22, 2) := by decide +kernel
theorem dX7_init_300 : decode cX7_init 300 = .ok (.iconst 0, 1) := by decide +kernel
theorem dX7_init_301 : decode cX7_init 301 = .ok (.iastore, 1) := by decide +kernel
theorem dX7_init_302 : decode cX7_init 302 = .ok (.dup, 1) := by decide +kernel
theorem dX7_init_303 : decode cX7_init 303 = .ok (.bipush 23, 2) := by decide +kernel
theorem dX7_init_305 : decode cX7_init 305 = .ok (.bipush 104, 2) := by decide +kernel
theorem dX7_init_307 : decode cX7_init 307 = .ok (.iastore, 1) := by decide +kernel
theorem dX7_init_308 : decode cX7_init 308 = .ok (.dup, 1) := by decide +kernel
theorem dX7_init_309 : decode cX7_init 309 = .ok (.bipush 24, 2) := by decide +kernel
theorem dX7_init_311 : decode cX7_init 311 = .ok (.bipush 105, 2) := by decide +kernel
theorem dX7_init_313 : decode cX7_init 313 = .ok (.iastore, 1) := by decide +kernel
theorem dX7_init_314 : decode cX7_init 314 = .ok (.dup, 1) := by decide +kernel
theorem dX7_init_315 : decode cX7_init 315 = .ok (.bipush 25, 2) := by decide +kernel
theorem dX7_init_317 : decode cX7_init 317 = .ok (.bipush 100, 2) := by decide +kernel
theorem dX7_init_319 : decode cX7_init 319 = .ok (.iastore, 1) := by decide +kernel
theorem dX7_init_320 : decode cX7_init 320 = .ok (.dup, 1) := by decide +kernel
theorem dX7_init_321 : decode cX7_init 321 = .ok (.bipush 26, 2) := by decide +kernel
theorem dX7_init_323 : decode cX7_init 323 = .ok (.bipush 101, 2) := by decide +kernel
theorem dX7_init_325 : decode cX7_init 325 = .ok (.iastore, 1) := by decide +kernel
theorem dX7_init_326 : decode cX7_init 326 = .ok (.dup, 1) := by decide +kernel
theorem dX7_init_327 : decode cX7_init 327 = .ok (.bipush 27, 2) := by decide +kernel
theorem dX7_init_329 : decode cX7_init 329 = .ok (.bipush 115, 2) := by decide +kernel
theorem dX7_init_331 : decode cX7_init 331 = .ok (.iastore, 1) := by decide +kernel
theorem dX7_init_332 : decode cX7_init 332 = .ok (.dup, 1) := by decide +kernel
theorem dX7_init_333 : decode cX7_init 333 = .ok (.bipush 28, 2) := by decide +kernel
theorem dX7_init_335 : decode cX7_init 335 = .ok (.bipush 32, 2) := by decide +kernel
theorem dX7_init_337 : decode cX7_init 337 = .ok (.iastore, 1) := by decide +kernel
theorem dX7_init_338 : decode cX7_init 338 = .ok (.dup, 1) := by decide +kernel
theorem dX7_init_339 : decode cX7_init 339 = .ok (.bipush 29, 2) := by decide +kernel
theorem dX7_init_341 : decode cX7_init 341 = .ok (.iconst 0, 1) := by decide +kernel
theorem dX7_init_342 : decode cX7_init 342 = .ok (.iastore, 1) := by decide +kernel
theorem dX7_init_343 : decode cX7_init 343 = .ok (.dup, 1) := by decide +kernel
theorem dX7_init_344 : decode cX7_init 344 = .ok (.bipush 30, 2) := by decide +kernel
theorem dX7_init_346 : decode cX7_init 346 = .ok (.bipush 99, 2) := by decide +kernel
theorem dX7_init_348 : decode cX7_init 348 = .ok (.iastore, 1) := by decide +kernel
theorem dX7_init_349 : decode cX7_init 349 = .ok (.dup, 1) := by decide +kernel
theorem dX7_init_350 : decode cX7_init 350 = .ok (.bipush 31, 2) := by decide +kernel
theorem dX7_init_352 : decode cX7_init 352 = .ok (.bipush 111, 2) := by decide +kernel
theorem dX7_init_354 : decode cX7_init 354 = .ok (.iastore, 1) := by decide +kernel
theorem dX7_init_355 : decode cX7_init 355 = .ok (.dup, 1) := by decide +kernel
theorem dX7_init_356 : decode cX7_init 356 = .ok (.bipush 32, 2) := by decide +kernel
theorem dX7_init_358 : decode cX7_init 358 = .ok (.bipush 109, 2) := by decide +kernel
theorem dX7_init_360 : decode cX7_init 360 = .ok (.iastore, 1) := by decide +kernel
theorem dX7_init_361 : decode cX7_init 361 = .ok (.dup, 1) := by decide +kernel
theorem dX7_init_362 : decode cX7_init 362 = .ok (.bipush 33, 2) := by decide +kernel
theorem dX7_init_364 : decode cX7_init 364 = .ok (.bipush 101, 2) := by decide +kernel
theorem dX7_init_366 : decode cX7_init 366 = .ok (.iastore, 1) := by decide +kernel
theorem dX7_init_367 : decode cX7_init 367 = .ok (.dup, 1) := by decide +kernel
theorem dX7_init_368 : decode cX7_init 368 = .ok (.bipush 34, 2) := by decide +kernel
theorem dX7_init_370 : decode cX7_init 370 = .ok (.bipush 115, 2) := by decide +kernel
theorem dX7_init_372 : decode cX7_init 372 = .ok (.iastore, 1) := by decide +kernel
theorem dX7_init_373 : decode cX7_init 373 = .ok (.dup, 1) := by decide +kernel
theorem dX7_init_374 : decode cX7_init 374 = .ok (.bipush 35, 2) := by decide +kernel
theorem dX7_init_376 : decode cX7_init 376 = .ok (.bipush 32, 2) := by decide +kernel
theorem dX7_init_378 : decode cX7_init 378 = .ok (.iastore, 1) := by decide +kernel
theorem dX7_init_379 : decode cX7_init 379 = .ok (.dup, 1) := by decide +kernel
theorem dX7_init_380 : decode cX7_init 380 = .ok (.bipush 36, 2) := by decide +kernel
theorem dX7_init_382 : decode cX7_init 382 = .ok (.iconst 0, 1) := by decide +kernel
theorem dX7_init_383 : decode cX7_init 383 = .ok (.iastore, 1) := by decide +kernel
theorem dX7_init_384 : decode cX7_init 384 = .ok (.dup, 1) := by decide +kernel
theorem dX7_init_385 : decode cX7_init 385 = .ok (.bipush 37, 2) := by decide +kernel
theorem dX7_init_387 : decode cX7_init 387 = .ok (.bipush 112, 2) := by decide +kernel
theorem dX7_init_389 : decode cX7_init 389 = .ok (.iastore, 1) := by decide +kernel
theorem dX7_init_390 : decode cX7_init 390 = .ok (.dup, 1) := by decide +kernel
theorem dX7_init_391 : decode cX7_init 391 = .ok (.bipush 38, 2) := by decide +kernel
theorem dX7_init_393 : decode cX7_init 393 = .ok (.bipush 111, 2) := by decide +kernel
theorem dX7_init_395 : decode cX7_init 395 = .ok (.iastore, 1) := by decide +kernel
theorem dX7_init_396 : decode cX7_init 396 = .ok (.dup, 1) := by decide +kernel
theorem dX7_init_397 : decode cX7_init 397 = .ok (.bipush 39, 2) := by decide +kernel
theorem dX7_init_399 : decode cX7_init 399 = .ok (.bipush 115, 2) := by decide +kernel
theorem dX7_init_401 : decode cX7_init 401 = .ok (.iastore, 1) := by decide +kernel
theorem dX7_init_402 : decode cX7_init 402 = .ok (.dup, 1) := by decide +kernel
theorem dX7_init_403 : decode cX7_init 403 = .ok (.bipush 40, 2) := by decide +kernel
theorem dX7_init_405 : decode cX7_init 405 = .ok (.bipush 116, 2) := by decide +kernel
theorem dX7_init_407 : decode cX7_init 407 = .ok (.iastore, 1) := by decide +kernel
theorem dX7_init_408 : decode cX7_init 408 = .ok (.dup, 1) := by decide +kernel
theorem dX7_init_409 : decode cX7_init 409 = .ok (.bipush 41, 2) := by decide +kernel
theorem dX7_init_411 : decode cX7_init 411 = .ok (.bipush 32, 2) := by decide +kernel
theorem dX7_init_413 : decode cX7_init 413 = .ok (.iastore, 1) := by decide +kernel
theorem dX7_init_414 : decode cX7_init 414 = .ok (.dup, 1) := by decide +kernel
theorem dX7_init_415 : decode cX7_init 415 = .ok (.bipush 42, 2) := by decide +kernel
theorem dX7_init_417 : decode cX7_init 417 = .ok (.iconst 0, 1) := by decide +kernel
theorem dX7_init_418 : decode cX7_init 418 = .ok (.iastore, 1) := by decide +kernel
theorem dX7_init_419 : decode cX7_init 419 = .ok (.putfield 75, 3) := by decide +kernel
theorem dX7_init_422 : decode cX7_init 422 = .ok (.aload_n 0, 1) := by decide +kernel
theorem dX7_init_423 : decode cX7_init 423 = .ok (.bipush 6, 2) := by decide +kernel
theorem dX7_init_425 : decode cX7_init 425 = .ok (.newarray .int, 2) := by decide +kernel
theorem dX7_init_427 : decode cX7_init 427 = .ok (.dup, 1) := by decide +kernel
theorem dX7_init_428 : decode cX7_init 428 = .ok (.iconst 0, 1) := by decide +kernel
theorem dX7_init_429 : decode cX7_init 429 = .ok (.iconst 4, 1) := by decide +kernel
theorem dX7_init_430 : decode cX7_init 430 = .ok (.iastore, 1) := by decide +kernel
theorem dX7_init_431 : decode cX7_init 431 = .ok (.dup, 1) := by decide +kernel
theorem dX7_init_432 : decode cX7_init 432 = .ok (.iconst 1, 1) := by decide +kernel
theorem dX7_init_433 : decode cX7_init 433 = .ok (.iconst 2, 1) := by decide +kernel
theorem dX7_init_434 : decode cX7_init 434 = .ok (.iastore, 1) := by decide +kernel
theorem dX7_init_435 : decode cX7_init 435 = .ok (.dup, 1) := by decide +kernel
theorem dX7_init_436 : decode cX7_init 436 = .ok (.iconst 2, 1) := by decide +kernel
theorem dX7_init_437 : decode cX7_init 437 = .ok (.iconst 2, 1) := by decide +kernel
theorem dX7_init_438 : decode cX7_init 438 = .ok (.iastore, 1) := by decide +kernel
theorem dX7_init_439 : decode cX7_init 439 = .ok (.dup, 1) := by decide +kernel
theorem dX7_init_440 : decode cX7_init 440 = .ok (.iconst 3, 1) := by decide +kernel
theorem dX7_init_441 : decode cX7_init 441 = .ok (.iconst 1, 1) := by decide +kernel
theorem dX7_init_442 : decode cX7_init 442 = .ok (.iastore, 1) := by decide +kernel
theorem dX7_init_443 : decode cX7_init 443 = .ok (.dup, 1) := by decide +kernel
theorem dX7_init_444 : decode cX7_init 444 = .ok (.iconst 4, 1) := by decide +kernel
theorem dX7_init_445 : decode cX7_init 445 = .ok (.iconst 1, 1) := by decide +kernel
theorem dX7_init_446 : decode cX7_init 446 = .ok (.iastore, 1) := by decide +kernel
theorem dX7_init_447 : decode cX7_init 447 = .ok (.dup, 1) := by decide +kernel
theorem dX7_init_448 : decode cX7_init 448 = .ok (.iconst 5, 1) := by decide +kernel
theorem dX7_init_449 : decode cX7_init 449 = .ok (.iconst 1, 1) := by decide +kernel
theorem dX7_init_450 : decode cX7_init 450 = .ok (.iastore, 1) := by decide +kernel
theorem dX7_init_451 : decode cX7_init 451 = .ok (.putfield 78, 3) := by decide +kernel
theorem dX7_init_454 : decode cX7_init 454 = .ok (.aload_n 0, 1) := by decide +kernel
theorem dX7_init_455 : decode cX7_init 455 = .ok (.iconst 4, 1) := by decide +kernel
theorem dX7_init_456 : decode cX7_init 456 = .ok (.newarray .int, 2) := by decide +kernel
theorem dX7_init_458 : decode cX7_init 458 = .ok (.dup, 1) := by decide +kernel
theorem dX7_init_459 : decode cX7_init 459 = .ok (.iconst 0, 1) := by decide +kernel
theorem dX7_init_460 : decode cX7_init 460 = .ok (.bipush 6, 2) := by decide +kernel
theorem dX7_init_462 : decode cX7_init 462 = .ok (.iastore, 1) := by decide +kernel
theorem dX7_init_463 : decode cX7_init 463 = .ok (.dup, 1) := by decide +kernel
theorem dX7_init_464 : decode cX7_init 464 = .ok (.iconst 1, 1) := by decide +kernel
theorem dX7_init_465 : decode cX7_init 465 = .ok (.bipush 9, 2) := by decide +kernel
theorem dX7_init_467 : decode cX7_init 467 = .ok (.iastore, 1) := by decide +kernel
theorem dX7_init_468 : decode cX7_init 468 = .ok (.dup, 1) := by decide +kernel
theorem dX7_init_469 : decode cX7_init 469 = .ok (.iconst 2, 1) := by decide +kernel
theorem dX7_init_470 : decode cX7_init 470 = .ok (.bipush 99, 2) := by decide +kernel
theorem dX7_init_472 : decode cX7_init 472 = .ok (.iastore, 1) := by decide +kernel
theorem dX7_init_473 : decode cX7_init 473 = .ok (.dup, 1) := by decide +kernel
theorem dX7_init_474 : decode cX7_init 474 = .ok (.iconst 3, 1) := by decide +kernel
theorem dX7_init_475 : decode cX7_init 475 = .ok (.bipush 20, 2) := by decide +kernel
theorem dX7_init_477 : decode cX7_init 477 = .ok (.iastore, 1) := by decide +kernel
theorem dX7_init_478 : decode cX7_init 478 = .ok (.putfield 81, 3) := by decide +kernel
theorem dX7_init_481 : decode cX7_init 481 = .ok (.aload_n 0, 1) := by decide +kernel
theorem dX7_init_482 : decode cX7_init 482 = .ok (.iconst 4, 1) := by decide +kernel
theorem dX7_init_483 : decode cX7_init 483 = .ok (.newarray .int, 2) := by decide +kernel
theorem dX7_init_485 : decode cX7_init 485 = .ok (.putfield 84, 3) := by decide +kernel
theorem dX7_init_488 : decode cX7_init 488 = .ok (.aload_n 0, 1) := by decide +kernel
theorem dX7_init_489 : decode cX7_init 489 = .ok (.bipush 80, 2) := by decide +kernel
theorem dX7_init_491 : decode cX7_init 491 = .ok (.newarray .int, 2) := by decide +kernel
theorem dX7_init_493 : decode cX7_init 493 = .ok (.putfield 87, 3) := by decide +kernel
theorem dX7_init_496 : decode cX7_init 496 = .ok (.aload_n 0, 1) := by decide +kernel
theorem dX7_init_497 : decode cX7_init 497 = .ok (.bipush 80, 2) := by decide +kernel
theorem dX7_init_499 : decode cX7_init 499 = .ok (.newarray .int, 2) := by decide +kernel
theorem dX7_init_501 : decode cX7_init 501 = .ok (.putfield 90, 3) := by decide +kernel
theorem dX7_init_504 : decode cX7_init 504 = .ok (.aload_n 0, 1) := by decide +kernel
theorem dX7_init_505 : decode cX7_init 505 = .ok (.bipush 80, 2) := by decide +kernel
theorem dX7_init_507 : decode cX7_init 507 = .ok (.newarray .int, 2) := by decide +kernel
theorem dX7_init_509 : decode cX7_init 509 = .ok (.putfield 93, 3) := by decide +kernel
theorem dX7_init_512 : decode cX7_init 512 = .ok (.aload_n 0, 1) := by decide +kernel
theorem dX7_init_513 : decode cX7_init 513 = .ok (.bipush 6, 2) := by decide +kernel
theorem dX7_init_515 : decode cX7_init 515 = .ok (.newarray .int, 2) := by decide +kernel
theorem dX7_init_517 : decode cX7_init 517 = .ok (.putfield 96, 3) := by decide +kernel
theorem dX7_init_520 : decode cX7_init 520 = .ok (.aload_n 0, 1) := by decide +kernel
theorem dX7_init_521 : decode cX7_init 521 = .ok (.bipush 6, 2) := by decide +kernel
theorem dX7_init_523 : decode cX7_init 523 = .ok (.newarray .int, 2) := by decide +kernel
theorem dX7_init_525 : decode cX7_init 525 = .ok (.putfield 99, 3) := by decide +kernel
theorem dX7_init_528 : decode cX7_init 528 = .ok (.aload_n 0, 1) := by decide +kernel
theorem dX7_init_529 : decode cX7_init 529 = .ok (.bipush 6, 2) := by decide +kernel
theorem dX7_init_531 : decode cX7_init 531 = .ok (.newarray .int, 2) := by decide +kernel
theorem dX7_init_533 : decode cX7_init 533 = .ok (.putfield 102, 3) := by decide +kernel
theorem dX7_init_536 : decode cX7_init 536 = .ok (.aload_n 0, 1) := by decide +kernel
theorem dX7_init_537 : decode cX7_init 537 = .ok (.bipush 6, 2) := by decide +kernel
theorem dX7_init_539 : decode cX7_init 539 = .ok (.newarray .int, 2) := by decide +kernel
theorem dX7_init_541 : decode cX7_init 541 = .ok (.putfield 105, 3) := by decide +kernel
theorem dX7_init_544 : decode cX7_init 544 = .ok (.aload_n 0, 1) := by decide +kernel
theorem dX7_init_545 : decode cX7_init 545 = .ok (.bipush 6, 2) := by decide +kernel
theorem dX7_init_547 : decode cX7_init 547 = .ok (.newarray .int, 2) := by decide +kernel
theorem dX7_init_549 : decode cX7_init 549 = .ok (.putfield 108, 3) := by decide +kernel
theorem dX7_init_552 : decode cX7_init 552 = .ok (.aload_n 0, 1) := by decide +kernel
theorem dX7_init_553 : decode cX7_init 553 = .ok (.bipush 6, 2) := by decide +kernel
theorem dX7_init_555 : decode cX7_init 555 = .ok (.newarray .int, 2) := by decide +kernel
theorem dX7_init_557 : decode cX7_init 557 = .ok (.putfield 111, 3) := by decide +kernel
theorem dX7_init_560 : decode cX7_init 560 = .ok (.aload_n 0, 1) := by decide +kernel
theorem dX7_init_561 : decode cX7_init 561 = .ok (.bipush 6, 2) := by decide +kernel
theorem dX7_init_563 : decode cX7_init 563 = .ok (.newarray .int, 2) := by decide +kernel
theorem dX7_init_565 : decode cX7_init 565 = .ok (.putfield 114, 3) := by decide +kernel
theorem dX7_init_568 : decode cX7_init 568 = .ok (.aload_n 0, 1) := by decide +kernel
theorem dX7_init_569 : decode cX7_init 569 = .ok (.bipush 6, 2) := by decide +kernel
theorem dX7_init_571 : decode cX7_init 571 = .ok (.newarray .int, 2) := by decide +kernel
theorem dX7_init_573 : decode cX7_init 573 = .ok (.putfield 117, 3) := by decide +kernel
theorem dX7_init_576 : decode cX7_init 576 = .ok (.aload_n 0, 1) := by decide +kernel
theorem dX7_init_577 : decode cX7_init 577 = .ok (.bipush 6, 2) := by decide +kernel
theorem dX7_init_579 : decode cX7_init 579 = .ok (.newarray .int, 2) := by decide +kernel
theorem dX7_init_581 : decode cX7_init 581 = .ok (.putfield 120, 3) := by decide +kernel
theorem dX7_init_584 : decode cX7_init 584 = .ok (.aload_n 0, 1) := by decide +kernel
theorem dX7_init_585 : decode cX7_init 585 = .ok (.bipush 6, 2) := by decide +kernel
theorem dX7_init_587 : decode cX7_init 587 = .ok (.newarray .int, 2) := by decide +kernel
theorem dX7_init_589 : decode cX7_init 589 = .ok (.putfield 123, 3) := by decide +kernel
theorem dX7_init_592 : decode cX7_init 592 = .ok (.aload_n 0, 1) := by decide +kernel
theorem dX7_init_593 : decode cX7_init 593 = .ok (.bipush 20, 2) := by decide +kernel
theorem dX7_init_595 : decode cX7_init 595 = .ok (.newarray .int, 2) := by decide +kernel
theorem dX7_init_597 : decode cX7_init 597 = .ok (.putfield 126, 3) := by decide +kernel
theorem dX7_init_600 : decode cX7_init 600 = .ok (.return_, 1) := by decide +kernel
theorem dX7_no_0 : decode cX7_no 0 = .ok (.aload_n 0, 1) := by decide +kernel
theorem dX7_no_1 : decode cX7_no 1 = .ok (.getfield 16, 3) := by decide +kernel
theorem dX7_no_4 : decode cX7_no 4 = .ok (.iload_n 1, 1) := by decide +kernel
theorem dX7_no_5 : decode cX7_no 5 = .ok (.ineg, 1) := by decide +kernel
theorem dX7_no_6 : decode cX7_no 6 = .ok (.dup2, 1) := by decide +kernel
theorem dX7_no_7 : decode cX7_no 7 = .ok (.iaload, 1) := by decide +kernel
theorem dX7_no_8 : decode cX7_no 8 = .ok (.iconst 1, 1) := by decide +kernel
theorem dX7_no_9 : decode cX7_no 9 = .ok (.iadd, 1) := by decide +kernel
theorem dX7_no_10 : decode cX7_no 10 = .ok (.iastore, 1) := by decide +kernel
theorem dX7_no_11 : decode cX7_no 11 = .ok (.iload_n 1, 1) := by decide +kernel
theorem dX7_no_12 : decode cX7_no 12 = .ok (.ireturn, 1) := by decide +kernel
theorem dX7_noTen_0 : decode cX7_noTen 0 = .ok (.aload_n 0, 1) := by decide +kernel
theorem dX7_noTen_1 : decode cX7_noTen 1 = .ok (.getfield 16, 3) := by decide +kernel
theorem dX7_noTen_4 : decode cX7_noTen 4 = .ok (.iload_n 1, 1) := by decide +kernel
theorem dX7_noTen_5 : decode cX7_noTen 5 = .ok (.ineg, 1) := by decide +kernel
theorem dX7_noTen_6 : decode cX7_noTen 6 = .ok (.dup2, 1) := by decide +kernel
theorem dX7_noTen_7 : decode cX7_noTen 7 = .ok (.iaload, 1) := by decide +kernel
theorem dX7_noTen_8 : decode cX7_noTen 8 = .ok (.iconst 1, 1) := by decide +kernel
theorem dX7_noTen_9 : decode cX7_noTen 9 = .ok (.iadd, 1) := by decide +kernel
theorem dX7_noTen_10 : decode cX7_noTen 10 = .ok (.iastore, 1) := by decide +kernel
theorem dX7_noTen_11 : decode cX7_noTen 11 = .ok (.iload_n 1, 1) := by decide +kernel
theorem dX7_noTen_12 : decode cX7_noTen 12 = .ok (.bipush 10, 2) := by decide +kernel
theorem dX7_noTen_14 : decode cX7_noTen 14 = .ok (.isub, 1) := by decide +kernel
theorem dX7_noTen_15 : decode cX7_noTen 15 = .ok (.ireturn, 1) := by decide +kernel
theorem dX7_isShelf_0 : decode cX7_isShelf 0 = .ok (.iload_n 1, 1) := by decide +kernel
theorem dX7_isShelf_1 : decode cX7_isShelf 1 = .ok (.ifCond .lt 13, 3) := by decide +kernel
theorem dX7_isShelf_4 : decode cX7_isShelf 4 = .ok (.iload_n 1, 1) := by decide +kernel
theorem dX7_isShelf_5 : decode cX7_isShelf 5 = .ok (.bipush 8, 2) := by decide +kernel
theorem dX7_isShelf_7 : decode cX7_isShelf 7 = .ok (.if_icmp .ge 7, 3) := by decide +kernel
theorem dX7_isShelf_10 : decode cX7_isShelf 10 = .ok (.iconst 1, 1) := by decide +kernel
theorem dX7_isShelf_11 : decode cX7_isShelf 11 = .ok (.goto 4, 3) := by decide +kernel
theorem dX7_isShelf_14 : decode cX7_isShelf 14 = .ok (.iconst 0, 1) := by decide +kernel
theorem dX7_isShelf_15 : decode cX7_isShelf 15 = .ok (.ireturn, 1) := by decide +kernel
theorem dX7_isCitizen_0 : decode cX7_isCitizen 0 = .ok (.iload_n 1, 1) := by decide +kernel
theorem dX7_isCitizen_1 : decode cX7_isCitizen 1 = .ok (.ifCond .lt 15, 3) := by decide +kernel
theorem dX7_isCitizen_4 : decode cX7_isCitizen 4 = .ok (.iload_n 1, 1) := by decide +kernel
theorem dX7_isCitizen_5 : decode cX7_isCitizen 5 = .ok (.aload_n 0, 1) := by decide +kernel
theorem dX7_isCitizen_6 : decode cX7_isCitizen 6 = .ok (.getfield 129, 3) := by decide +kernel
theorem dX7_isCitizen_9 : decode cX7_isCitizen 9 = .ok (.if_icmp .ge 7, 3) := by decide +kernel
theorem dX7_isCitizen_12 : decode cX7_isCitizen 12 = .ok (.iconst 1, 1) := by decide +kernel
theorem dX7_isCitizen_13 : decode cX7_isCitizen 13 = .ok (.goto 4, 3) := by decide +kernel
theorem dX7_isCitizen_16 : decode cX7_isCitizen 16 = .ok (.iconst 0, 1) := by decide +kernel
theorem dX7_isCitizen_17 : decode cX7_isCitizen 17 = .ok (.ireturn, 1) := by decide +kernel
theorem dX7_isBeggar_0 : decode cX7_isBeggar 0 = .ok (.iload_n 1, 1) := by decide +kernel
theorem dX7_isBeggar_1 : decode cX7_isBeggar 1 = .ok (.ifCond .lt 15, 3) := by decide +kernel
theorem dX7_isBeggar_4 : decode cX7_isBeggar 4 = .ok (.iload_n 1, 1) := by decide +kernel
theorem dX7_isBeggar_5 : decode cX7_isBeggar 5 = .ok (.aload_n 0, 1) := by decide +kernel
theorem dX7_isBeggar_6 : decode cX7_isBeggar 6 = .ok (.getfield 132, 3) := by decide +kernel
theorem dX7_isBeggar_9 : decode cX7_isBeggar 9 = .ok (.if_icmp .ge 7, 3) := by decide +kernel
theorem dX7_isBeggar_12 : decode cX7_isBeggar 12 = .ok (.iconst 1, 1) := by decide +kernel
theorem dX7_isBeggar_13 : decode cX7_isBeggar 13 = .ok (.goto 4, 3) := by decide +kernel
theorem dX7_isBeggar_16 : decode cX7_isBeggar 16 = .ok (.iconst 0, 1) := by decide +kernel
theorem dX7_isBeggar_17 : decode cX7_isBeggar 17 = .ok (.ireturn, 1) := by decide +kernel
theorem dX7_isFrom_0 : decode cX7_isFrom 0 = .ok (.iload_n 1, 1) := by decide +kernel
theorem dX7_isFrom_1 : decode cX7_isFrom 1 = .ok (.iload_n 2, 1) := by decide +kernel
theorem dX7_isFrom_2 : decode cX7_isFrom 2 = .ok (.if_icmp .lt 12, 3) := by decide +kernel
theorem dX7_isFrom_5 : decode cX7_isFrom 5 = .ok (.iload_n 1, 1) := by decide +kernel
theorem dX7_isFrom_6 : decode cX7_isFrom 6 = .ok (.iload_n 3, 1) := by decide +kernel
theorem dX7_isFrom_7 : decode cX7_isFrom 7 = .ok (.if_icmp .gt 7, 3) := by decide +kernel
theorem dX7_isFrom_10 : decode cX7_isFrom 10 = .ok (.iconst 1, 1) := by decide +kernel
theorem dX7_isFrom_11 : decode cX7_isFrom 11 = .ok (.goto 4, 3) := by decide +kernel
theorem dX7_isFrom_14 : decode cX7_isFrom 14 = .ok (.iconst 0, 1) := by decide +kernel
theorem dX7_isFrom_15 : decode cX7_isFrom 15 = .ok (.ireturn, 1) := by decide +kernel
theorem dX7_row_0 : decode cX7_row 0 = .ok (.aload_n 0, 1) := by decide +kernel
theorem dX7_row_1 : decode cX7_row 1 = .ok (.iload_n 1, 1) := by decide +kernel
theorem dX7_row_2 : decode cX7_row 2 = .ok (.invokevirtual 135, 3) := by decide +kernel
theorem dX7_row_5 : decode cX7_row 5 = .ok (.ifCond .ne 9, 3) := by decide +kernel
theorem dX7_row_8 : decode cX7_row 8 = .ok (.aload_n 0, 1) := by decide +kernel
theorem dX7_row_9 : decode cX7_row 9 = .ok (.iconst (-1), 1) := by decide +kernel
theorem dX7_row_10 : decode cX7_row 10 = .ok (.invokevirtual 139, 3) := by decide +kernel
theorem dX7_row_13 : decode cX7_row 13 = .ok (.ireturn, 1) := by decide +kernel
theorem dX7_row_14 : decode cX7_row 14 = .ok (.iload_n 3, 1) := by decide +kernel
theorem dX7_row_15 : decode cX7_row 15 = .ok (.ifCond .ge 10, 3) := by decide +kernel
theorem dX7_row_18 : decode cX7_row 18 = .ok (.aload_n 0, 1) := by decide +kernel
theorem dX7_row_19 : decode cX7_row 19 = .ok (.bipush (-4), 2) := by decide +kernel
theorem dX7_row_21 : decode cX7_row 21 = .ok (.invokevirtual 139, 3) := by decide +kernel
theorem dX7_row_24 : decode cX7_row 24 = .ok (.ireturn, 1) := by decide +kernel
theorem dX7_row_25 : decode cX7_row 25 = .ok (.iload_n 2, 1) := by decide +kernel
theorem dX7_row_26 : decode cX7_row 26 = .ok (.ifCond .lt 8, 3) := by decide +kernel
theorem dX7_row_29 : decode cX7_row 29 = .ok (.iload_n 2, 1) := by decide +kernel
theorem dX7_row_30 : decode cX7_row 30 = .ok (.iconst 3, 1) := by decide +kernel
theorem dX7_row_31 : decode cX7_row 31 = .ok (.if_icmp .le 10, 3) := by decide +kernel
theorem dX7_row_34 : decode cX7_row 34 = .ok (.aload_n 0, 1) := by decide +kernel
theorem dX7_row_35 : decode cX7_row 35 = .ok (.bipush (-6), 2) := by decide +kernel
theorem dX7_row_37 : decode cX7_row 37 = .ok (.invokevirtual 139, 3) := by decide +kernel
theorem dX7_row_40 : decode cX7_row 40 = .ok (.ireturn, 1) := by decide +kernel
theorem dX7_row_41 : decode cX7_row 41 = .ok (.iload_n 3, 1) := by decide +kernel
theorem dX7_row_42 : decode cX7_row 42 = .ok (.sipush 160, 3) := by decide +kernel
theorem dX7_row_45 : decode cX7_row 45 = .ok (.if_icmp .le 10, 3) := by decide +kernel
theorem dX7_row_48 : decode cX7_row 48 = .ok (.aload_n 0, 1) := by decide +kernel
theorem dX7_row_49 : decode cX7_row 49 = .ok (.bipush (-7), 2) := by decide +kernel
theorem dX7_row_51 : decode cX7_row 51 = .ok (.invokevirtual 139, 3) := by decide +kernel
theorem dX7_row_54 : decode cX7_row 54 = .ok (.ireturn, 1) := by decide +kernel
theorem dX7_row_55 : decode cX7_row 55 = .ok (.aload_n 0, 1) := by decide +kernel
theorem dX7_row_56 : decode cX7_row 56 = .ok (.getfield 56, 3) := by decide +kernel
theorem dX7_row_59 : decode cX7_row 59 = .ok (.iload_n 1, 1) := by decide +kernel
theorem dX7_row_60 : decode cX7_row 60 = .ok (.iconst 1, 1) := by decide +kernel
theorem dX7_row_61 : decode cX7_row 61 = .ok (.iastore, 1) := by decide +kernel
theorem dX7_row_62 : decode cX7_row 62 = .ok (.aload_n 0, 1) := by decide +kernel
theorem dX7_row_63 : decode cX7_row 63 = .ok (.getfield 59, 3) := by decide +kernel
theorem dX7_row_66 : decode cX7_row 66 = .ok (.iload_n 1, 1) := by decide +kernel
theorem dX7_row_67 : decode cX7_row 67 = .ok (.iload_n 2, 1) := by decide +kernel
theorem dX7_row_68 : decode cX7_row 68 = .ok (.iastore, 1) := by decide +kernel
theorem dX7_row_69 : decode cX7_row 69 = .ok (.aload_n 0, 1) := by decide +kernel
theorem dX7_row_70 : decode cX7_row 70 = .ok (.getfield 62, 3) := by decide +kernel
theorem dX7_row_73 : decode cX7_row 73 = .ok (.iload_n 1, 1) := by decide +kernel
theorem dX7_row_74 : decode cX7_row 74 = .ok (.iload_n 3, 1) := by decide +kernel
theorem dX7_row_75 : decode cX7_row 75 = .ok (.iastore, 1) := by decide +kernel
theorem dX7_row_76 : decode cX7_row 76 = .ok (.iconst 0, 1) := by decide +kernel
theorem dX7_row_77 : decode cX7_row 77 = .ok (.istore 4, 2) := by decide +kernel
theorem dX7_row_79 : decode cX7_row 79 = .ok (.iload 4, 2) := by decide +kernel
theorem dX7_row_81 : decode cX7_row 81 = .ok (.sipush 160, 3) := by decide +kernel
theorem dX7_row_84 : decode cX7_row 84 = .ok (.if_icmp .ge 23, 3) := by decide +kernel
theorem dX7_row_87 : decode cX7_row 87 = .ok (.aload_n 0, 1) := by decide +kernel
theorem dX7_row_88 : decode cX7_row 88 = .ok (.getfield 68, 3) := by decide +kernel
theorem dX7_row_91 : decode cX7_row 91 = .ok (.sipush 160, 3) := by decide +kernel
theorem dX7_row_94 : decode cX7_row 94 = .ok (.iload_n 1, 1) := by decide +kernel
theorem dX7_row_95 : decode cX7_row 95 = .ok (.imul, 1) := by decide +kernel
theorem dX7_row_96 : decode cX7_row 96 = .ok (.iload 4, 2) := by decide +kernel
theorem dX7_row_98 : decode cX7_row 98 = .ok (.iadd, 1) := by decide +kernel
theorem dX7_row_99 : decode cX7_row 99 = .ok (.lconst 0, 1) := by decide +kernel
theorem dX7_row_100 : decode cX7_row 100 = .ok (.lastore, 1) := by decide +kernel
theorem dX7_row_101 : decode cX7_row 101 = .ok (.iinc 4 1, 3) := by decide +kernel
theorem dX7_row_104 : decode cX7_row 104 = .ok (.goto (-25), 3) := by decide +kernel
theorem dX7_row_107 : decode cX7_row 107 = .ok (.iconst 1, 1) := by decide +kernel
theorem dX7_row_108 : decode cX7_row 108 = .ok (.ireturn, 1) := by decide +kernel
theorem dX7_set_0 : decode cX7_set 0 = .ok (.aload_n 0, 1) := by decide +kernel
theorem dX7_set_1 : decode cX7_set 1 = .ok (.iload_n 1, 1) := by decide +kernel
theorem dX7_set_2 : decode cX7_set 2 = .ok (.invokevirtual 135, 3) := by decide +kernel
theorem dX7_set_5 : decode cX7_set 5 = .ok (.ifCond .ne 9, 3) := by decide +kernel
theorem dX7_set_8 : decode cX7_set 8 = .ok (.aload_n 0, 1) := by decide +kernel
theorem dX7_set_9 : decode cX7_set 9 = .ok (.iconst (-1), 1) := by decide +kernel
theorem dX7_set_10 : decode cX7_set 10 = .ok (.invokevirtual 139, 3) := by decide +kernel
theorem dX7_set_13 : decode cX7_set 13 = .ok (.ireturn, 1) := by decide +kernel
theorem dX7_set_14 : decode cX7_set 14 = .ok (.aload_n 0, 1) := by decide +kernel
theorem dX7_set_15 : decode cX7_set 15 = .ok (.getfield 56, 3) := by decide +kernel
theorem dX7_set_18 : decode cX7_set 18 = .ok (.iload_n 1, 1) := by decide +kernel
theorem dX7_set_19 : decode cX7_set 19 = .ok (.iaload, 1) := by decide +kernel
theorem dX7_set_20 : decode cX7_set 20 = .ok (.iconst 2, 1) := by decide +kernel
theorem dX7_set_21 : decode cX7_set 21 = .ok (.if_icmp .ne 10, 3) := by decide +kernel
theorem dX7_set_24 : decode cX7_set 24 = .ok (.aload_n 0, 1) := by decide +kernel
theorem dX7_set_25 : decode cX7_set 25 = .ok (.bipush (-2), 2) := by decide +kernel
theorem dX7_set_27 : decode cX7_set 27 = .ok (.invokevirtual 139, 3) := by decide +kernel
theorem dX7_set_30 : decode cX7_set 30 = .ok (.ireturn, 1) := by decide +kernel
theorem dX7_set_31 : decode cX7_set 31 = .ok (.aload_n 0, 1) := by decide +kernel
theorem dX7_set_32 : decode cX7_set 32 = .ok (.getfield 56, 3) := by decide +kernel
theorem dX7_set_35 : decode cX7_set 35 = .ok (.iload_n 1, 1) := by decide +kernel
theorem dX7_set_36 : decode cX7_set 36 = .ok (.iaload, 1) := by decide +kernel
theorem dX7_set_37 : decode cX7_set 37 = .ok (.ifCond .ne 10, 3) := by decide +kernel
theorem dX7_set_40 : decode cX7_set 40 = .ok (.aload_n 0, 1) := by decide +kernel
theorem dX7_set_41 : decode cX7_set 41 = .ok (.bipush (-3), 2) := by decide +kernel
theorem dX7_set_43 : decode cX7_set 43 = .ok (.invokevirtual 139, 3) := by decide +kernel
theorem dX7_set_46 : decode cX7_set 46 = .ok (.ireturn, 1) := by decide +kernel
theorem dX7_set_47 : decode cX7_set 47 = .ok (.iload_n 2, 1) := by decide +kernel
theorem dX7_set_48 : decode cX7_set 48 = .ok (.ifCond .lt 13, 3) := by decide +kernel
theorem dX7_set_51 : decode cX7_set 51 = .ok (.iload_n 2, 1) := by decide +kernel
theorem dX7_set_52 : decode cX7_set 52 = .ok (.aload_n 0, 1) := by decide +kernel
theorem dX7_set_53 : decode cX7_set 53 = .ok (.getfield 62, 3) := by decide +kernel
theorem dX7_set_56 : decode cX7_set 56 = .ok (.iload_n 1, 1) := by decide +kernel
theorem dX7_set_57 : decode cX7_set 57 = .ok (.iaload, 1) := by decide +kernel
theorem dX7_set_58 : decode cX7_set 58 = .ok (.if_icmp .lt 10, 3) := by decide +kernel
theorem dX7_set_61 : decode cX7_set 61 = .ok (.aload_n 0, 1) := by decide +kernel
theorem dX7_set_62 : decode cX7_set 62 = .ok (.bipush (-5), 2) := by decide +kernel
theorem dX7_set_64 : decode cX7_set 64 = .ok (.invokevirtual 139, 3) := by decide +kernel
theorem dX7_set_67 : decode cX7_set 67 = .ok (.ireturn, 1) := by decide +kernel
theorem dX7_set_68 : decode cX7_set 68 = .ok (.aload_n 0, 1) := by decide +kernel
theorem dX7_set_69 : decode cX7_set 69 = .ok (.getfield 68, 3) := by decide +kernel
theorem dX7_set_72 : decode cX7_set 72 = .ok (.sipush 160, 3) := by decide +kernel
theorem dX7_set_75 : decode cX7_set 75 = .ok (.iload_n 1, 1) := by decide +kernel
theorem dX7_set_76 : decode cX7_set 76 = .ok (.imul, 1) := by decide +kernel
theorem dX7_set_77 : decode cX7_set 77 = .ok (.iload_n 2, 1) := by decide +kernel
theorem dX7_set_78 : decode cX7_set 78 = .ok (.iadd, 1) := by decide +kernel
theorem dX7_set_79 : decode cX7_set 79 = .ok (.aload_n 0, 1) := by decide +kernel
theorem dX7_set_80 : decode cX7_set 80 = .ok (.getfield 59, 3) := by decide +kernel
theorem dX7_set_83 : decode cX7_set 83 = .ok (.iload_n 1, 1) := by decide +kernel
theorem dX7_set_84 : decode cX7_set 84 = .ok (.iaload, 1) := by decide +kernel
theorem dX7_set_85 : decode cX7_set 85 = .ok (.ifCond .ne 10, 3) := by decide +kernel
theorem dX7_set_88 : decode cX7_set 88 = .ok (.lload_n 3, 1) := by decide +kernel
theorem dX7_set_89 : decode cX7_set 89 = .ok (.l2i, 1) := by decide +kernel
theorem dX7_set_90 : decode cX7_set 90 = .ok (.i2b, 1) := by decide +kernel
theorem dX7_set_91 : decode cX7_set 91 = .ok (.i2l, 1) := by decide +kernel
theorem dX7_set_92 : decode cX7_set 92 = .ok (.goto 37, 3) := by decide +kernel
theorem dX7_set_95 : decode cX7_set 95 = .ok (.aload_n 0, 1) := by decide +kernel
theorem dX7_set_96 : decode cX7_set 96 = .ok (.getfield 59, 3) := by decide +kernel
theorem dX7_set_99 : decode cX7_set 99 = .ok (.iload_n 1, 1) := by decide +kernel
theorem dX7_set_100 : decode cX7_set 100 = .ok (.iaload, 1) := by decide +kernel
theorem dX7_set_101 : decode cX7_set 101 = .ok (.iconst 1, 1) := by decide +kernel
theorem dX7_set_102 : decode cX7_set 102 = .ok (.if_icmp .ne 10, 3) := by decide +kernel
theorem dX7_set_105 : decode cX7_set 105 = .ok (.lload_n 3, 1) := by decide +kernel
theorem dX7_set_106 : decode cX7_set 106 = .ok (.l2i, 1) := by decide +kernel
theorem dX7_set_107 : decode cX7_set 107 = .ok (.i2s, 1) := by decide +kernel
theorem dX7_set_108 : decode cX7_set 108 = .ok (.i2l, 1) := by decide +kernel
theorem dX7_set_109 : decode cX7_set 109 = .ok (.goto 20, 3) := by decide +kernel
theorem dX7_set_112 : decode cX7_set 112 = .ok (.aload_n 0, 1) := by decide +kernel
theorem dX7_set_113 : decode cX7_set 113 = .ok (.getfield 59, 3) := by decide +kernel
theorem dX7_set_116 : decode cX7_set 116 = .ok (.iload_n 1, 1) := by decide +kernel
theorem dX7_set_117 : decode cX7_set 117 = .ok (.iaload, 1) := by decide +kernel
theorem dX7_set_118 : decode cX7_set 118 = .ok (.iconst 2, 1) := by decide +kernel
theorem dX7_set_119 : decode cX7_set 119 = .ok (.if_icmp .ne 9, 3) := by decide +kernel
theorem dX7_set_122 : decode cX7_set 122 = .ok (.lload_n 3, 1) := by decide +kernel
theorem dX7_set_123 : decode cX7_set 123 = .ok (.l2i, 1) := by decide +kernel
theorem dX7_set_124 : decode cX7_set 124 = .ok (.i2l, 1) := by decide +kernel
theorem dX7_set_125 : decode cX7_set 125 = .ok (.goto 4, 3) := by decide +kernel
theorem dX7_set_128 : decode cX7_set 128 = .ok (.lload_n 3, 1) := by decide +kernel
theorem dX7_set_129 : decode cX7_set 129 = .ok (.lastore, 1) := by decide +kernel
theorem dX7_set_130 : decode cX7_set 130 = .ok (.iconst 1, 1) := by decide +kernel
theorem dX7_set_131 : decode cX7_set 131 = .ok (.ireturn, 1) := by decide +kernel
theorem dX7_copy_0 : decode cX7_copy 0 = .ok (.aload_n 0, 1) := by decide +kernel
theorem dX7_copy_1 : decode cX7_copy 1 = .ok (.iload_n 1, 1) := by decide +kernel
theorem dX7_copy_2 : decode cX7_copy 2 = .ok (.invokevirtual 135, 3) := by decide +kernel
theorem dX7_copy_5 : decode cX7_copy 5 = .ok (.ifCond .eq 11, 3) := by decide +kernel
theorem dX7_copy_8 : decode cX7_copy 8 = .ok (.aload_n 0, 1) := by decide +kernel
theorem dX7_copy_9 : decode cX7_copy 9 = .ok (.iload_n 2, 1) := by decide +kernel
theorem dX7_copy_10 : decode cX7_copy 10 = .ok (.invokevirtual 135, 3) := by decide +kernel
theorem dX7_copy_13 : decode cX7_copy 13 = .ok (.ifCond .ne 9, 3) := by decide +kernel
theorem dX7_copy_16 : decode cX7_copy 16 = .ok (.aload_n 0, 1) := by decide +kernel
theorem dX7_copy_17 : decode cX7_copy 17 = .ok (.iconst (-1), 1) := by decide +kernel
theorem dX7_copy_18 : decode cX7_copy 18 = .ok (.invokevirtual 139, 3) := by decide +kernel
theorem dX7_copy_21 : decode cX7_copy 21 = .ok (.ireturn, 1) := by decide +kernel
theorem dX7_copy_22 : decode cX7_copy 22 = .ok (.aload_n 0, 1) := by decide +kernel
theorem dX7_copy_23 : decode cX7_copy 23 = .ok (.getfield 56, 3) := by decide +kernel
theorem dX7_copy_26 : decode cX7_copy 26 = .ok (.iload_n 1, 1) := by decide +kernel
theorem dX7_copy_27 : decode cX7_copy 27 = .ok (.iaload, 1) := by decide +kernel
theorem dX7_copy_28 : decode cX7_copy 28 = .ok (.iconst 2, 1) := by decide +kernel
theorem dX7_copy_29 : decode cX7_copy 29 = .ok (.if_icmp .eq 48, 3) := by decide +kernel
theorem dX7_copy_32 : decode cX7_copy 32 = .ok (.aload_n 0, 1) := by decide +kernel
theorem dX7_copy_33 : decode cX7_copy 33 = .ok (.getfield 56, 3) := by decide +kernel
theorem dX7_copy_36 : decode cX7_copy 36 = .ok (.iload_n 2, 1) := by decide +kernel
theorem dX7_copy_37 : decode cX7_copy 37 = .ok (.iaload, 1) := by decide +kernel
theorem dX7_copy_38 : decode cX7_copy 38 = .ok (.iconst 2, 1) := by decide +kernel
theorem dX7_copy_39 : decode cX7_copy 39 = .ok (.if_icmp .eq 38, 3) := by decide +kernel
theorem dX7_copy_42 : decode cX7_copy 42 = .ok (.aload_n 0, 1) := by decide +kernel
theorem dX7_copy_43 : decode cX7_copy 43 = .ok (.getfield 56, 3) := by decide +kernel
theorem dX7_copy_46 : decode cX7_copy 46 = .ok (.iload_n 1, 1) := by decide +kernel
theorem dX7_copy_47 : decode cX7_copy 47 = .ok (.iaload, 1) := by decide +kernel
theorem dX7_copy_48 : decode cX7_copy 48 = .ok (.iconst 1, 1) := by decide +kernel
theorem dX7_copy_49 : decode cX7_copy 49 = .ok (.if_icmp .ne 35, 3) := by decide +kernel
theorem dX7_copy_52 : decode cX7_copy 52 = .ok (.aload_n 0, 1) := by decide +kernel
theorem dX7_copy_53 : decode cX7_copy 53 = .ok (.getfield 56, 3) := by decide +kernel
theorem dX7_copy_56 : decode cX7_copy 56 = .ok (.iload_n 2, 1) := by decide +kernel
theorem dX7_copy_57 : decode cX7_copy 57 = .ok (.iaload, 1) := by decide +kernel
theorem dX7_copy_58 : decode cX7_copy 58 = .ok (.iconst 1, 1) := by decide +kernel
theorem dX7_copy_59 : decode cX7_copy 59 = .ok (.if_icmp .ne 25, 3) := by decide +kernel
theorem dX7_copy_62 : decode cX7_copy 62 = .ok (.aload_n 0, 1) := by decide +kernel
theorem dX7_copy_63 : decode cX7_copy 63 = .ok (.getfield 59, 3) := by decide +kernel
theorem dX7_copy_66 : decode cX7_copy 66 = .ok (.iload_n 1, 1) := by decide +kernel
theorem dX7_copy_67 : decode cX7_copy 67 = .ok (.iaload, 1) := by decide +kernel
theorem dX7_copy_68 : decode cX7_copy 68 = .ok (.aload_n 0, 1) := by decide +kernel
theorem dX7_copy_69 : decode cX7_copy 69 = .ok (.getfield 59, 3) := by decide +kernel
theorem dX7_copy_72 : decode cX7_copy 72 = .ok (.iload_n 2, 1) := by decide +kernel
theorem dX7_copy_73 : decode cX7_copy 73 = .ok (.iaload, 1) := by decide +kernel
theorem dX7_copy_74 : decode cX7_copy 74 = .ok (.if_icmp .eq 10, 3) := by decide +kernel
theorem dX7_copy_77 : decode cX7_copy 77 = .ok (.aload_n 0, 1) := by decide +kernel
theorem dX7_copy_78 : decode cX7_copy 78 = .ok (.bipush (-2), 2) := by decide +kernel
theorem dX7_copy_80 : decode cX7_copy 80 = .ok (.invokevirtual 139, 3) := by decide +kernel
theorem dX7_copy_83 : decode cX7_copy 83 = .ok (.ireturn, 1) := by decide +kernel
theorem dX7_copy_84 : decode cX7_copy 84 = .ok (.aload_n 0, 1) := by decide +kernel
theorem dX7_copy_85 : decode cX7_copy 85 = .ok (.getfield 56, 3) := by decide +kernel
theorem dX7_copy_88 : decode cX7_copy 88 = .ok (.iload_n 1, 1) := by decide +kernel
theorem dX7_copy_89 : decode cX7_copy 89 = .ok (.iaload, 1) := by decide +kernel
theorem dX7_copy_90 : decode cX7_copy 90 = .ok (.ifCond .eq 12, 3) := by decide +kernel
theorem dX7_copy_93 : decode cX7_copy 93 = .ok (.aload_n 0, 1) := by decide +kernel
theorem dX7_copy_94 : decode cX7_copy 94 = .ok (.getfield 56, 3) := by decide +kernel
theorem dX7_copy_97 : decode cX7_copy 97 = .ok (.iload_n 2, 1) := by decide +kernel
theorem dX7_copy_98 : decode cX7_copy 98 = .ok (.iaload, 1) := by decide +kernel
theorem dX7_copy_99 : decode cX7_copy 99 = .ok (.ifCond .ne 10, 3) := by decide +kernel
theorem dX7_copy_102 : decode cX7_copy 102 = .ok (.aload_n 0, 1) := by decide +kernel
theorem dX7_copy_103 : decode cX7_copy 103 = .ok (.bipush (-3), 2) := by decide +kernel
theorem dX7_copy_105 : decode cX7_copy 105 = .ok (.invokevirtual 139, 3) := by decide +kernel
theorem dX7_copy_108 : decode cX7_copy 108 = .ok (.ireturn, 1) := by decide +kernel
theorem dX7_copy_109 : decode cX7_copy 109 = .ok (.iload 5, 2) := by decide +kernel
theorem dX7_copy_111 : decode cX7_copy 111 = .ok (.ifCond .ge 10, 3) := by decide +kernel
theorem dX7_copy_114 : decode cX7_copy 114 = .ok (.aload_n 0, 1) := by decide +kernel
theorem dX7_copy_115 : decode cX7_copy 115 = .ok (.bipush (-4), 2) := by decide +kernel
theorem dX7_copy_117 : decode cX7_copy 117 = .ok (.invokevirtual 139, 3) := by decide +kernel
theorem dX7_copy_120 : decode cX7_copy 120 = .ok (.ireturn, 1) := by decide +kernel
theorem dX7_copy_121 : decode cX7_copy 121 = .ok (.iload_n 3, 1) := by decide +kernel
theorem dX7_copy_122 : decode cX7_copy 122 = .ok (.ifCond .lt 35, 3) := by decide +kernel
theorem dX7_copy_125 : decode cX7_copy 125 = .ok (.iload 4, 2) := by decide +kernel
theorem dX7_copy_127 : decode cX7_copy 127 = .ok (.ifCond .lt 30, 3) := by decide +kernel
theorem dX7_copy_130 : decode cX7_copy 130 = .ok (.iload_n 3, 1) := by decide +kernel
theorem dX7_copy_131 : decode cX7_copy 131 = .ok (.aload_n 0, 1) := by decide +kernel
theorem dX7_copy_132 : decode cX7_copy 132 = .ok (.getfield 62, 3) := by decide +kernel
theorem dX7_copy_135 : decode cX7_copy 135 = .ok (.iload_n 1, 1) := by decide +kernel
theorem dX7_copy_136 : decode cX7_copy 136 = .ok (.iaload, 1) := by decide +kernel
theorem dX7_copy_137 : decode cX7_copy 137 = .ok (.iload 5, 2) := by decide +kernel
theorem dX7_copy_139 : decode cX7_copy 139 = .ok (.isub, 1) := by decide +kernel
theorem dX7_copy_140 : decode cX7_copy 140 = .ok (.if_icmp .gt 17, 3) := by decide +kernel
theorem dX7_copy_143 : decode cX7_copy 143 = .ok (.iload 4, 2) := by decide +kernel
theorem dX7_copy_145 : decode cX7_copy 145 = .ok (.aload_n 0, 1) := by decide +kernel
theorem dX7_copy_146 : decode cX7_copy 146 = .ok (.getfield 62, 3) := by decide +kernel
theorem dX7_copy_149 : decode cX7_copy 149 = .ok (.iload_n 2, 1) := by decide +kernel
theorem dX7_copy_150 : decode cX7_copy 150 = .ok (.iaload, 1) := by decide +kernel
theorem dX7_copy_151 : decode cX7_copy 151 = .ok (.iload 5, 2) := by decide +kernel
theorem dX7_copy_153 : decode cX7_copy 153 = .ok (.isub, 1) := by decide +kernel
theorem dX7_copy_154 : decode cX7_copy 154 = .ok (.if_icmp .le 10, 3) := by decide +kernel
theorem dX7_copy_157 : decode cX7_copy 157 = .ok (.aload_n 0, 1) := by decide +kernel
theorem dX7_copy_158 : decode cX7_copy 158 = .ok (.bipush (-5), 2) := by decide +kernel
theorem dX7_copy_160 : decode cX7_copy 160 = .ok (.invokevirtual 139, 3) := by decide +kernel
theorem dX7_copy_163 : decode cX7_copy 163 = .ok (.ireturn, 1) := by decide +kernel
theorem dX7_copy_164 : decode cX7_copy 164 = .ok (.iconst 0, 1) := by decide +kernel
theorem dX7_copy_165 : decode cX7_copy 165 = .ok (.istore 6, 2) := by decide +kernel
theorem dX7_copy_167 : decode cX7_copy 167 = .ok (.iload 6, 2) := by decide +kernel
theorem dX7_copy_169 : decode cX7_copy 169 = .ok (.iload 5, 2) := by decide +kernel
theorem dX7_copy_171 : decode cX7_copy 171 = .ok (.if_icmp .ge 31, 3) := by decide +kernel
theorem dX7_copy_174 : decode cX7_copy 174 = .ok (.aload_n 0, 1) := by decide +kernel
theorem dX7_copy_175 : decode cX7_copy 175 = .ok (.getfield 72, 3) := by decide +kernel
theorem dX7_copy_178 : decode cX7_copy 178 = .ok (.iload 6, 2) := by decide +kernel
theorem dX7_copy_180 : decode cX7_copy 180 = .ok (.aload_n 0, 1) := by decide +kernel
theorem dX7_copy_181 : decode cX7_copy 181 = .ok (.getfield 68, 3) := by decide +kernel
theorem dX7_copy_184 : decode cX7_copy 184 = .ok (.sipush 160, 3) := by decide +kernel
theorem dX7_copy_187 : decode cX7_copy 187 = .ok (.iload_n 1, 1) := by decide +kernel
theorem dX7_copy_188 : decode cX7_copy 188 = .ok (.imul, 1) := by decide +kernel
theorem dX7_copy_189 : decode cX7_copy 189 = .ok (.iload_n 3, 1) := by decide +kernel
theorem dX7_copy_190 : decode cX7_copy 190 = .ok (.iadd, 1) := by decide +kernel
theorem dX7_copy_191 : decode cX7_copy 191 = .ok (.iload 6, 2) := by decide +kernel
theorem dX7_copy_193 : decode cX7_copy 193 = .ok (.iadd, 1) := by decide +kernel
theorem dX7_copy_194 : decode cX7_copy 194 = .ok (.laload, 1) := by decide +kernel
theorem dX7_copy_195 : decode cX7_copy 195 = .ok (.lastore, 1) := by decide +kernel
theorem dX7_copy_196 : decode cX7_copy 196 = .ok (.iinc 6 1, 3) := by decide +kernel
theorem dX7_copy_199 : decode cX7_copy 199 = .ok (.goto (-32), 3) := by decide +kernel
theorem dX7_copy_202 : decode cX7_copy 202 = .ok (.iconst 0, 1) := by decide +kernel
theorem dX7_copy_203 : decode cX7_copy 203 = .ok (.istore 6, 2) := by decide +kernel
theorem dX7_copy_205 : decode cX7_copy 205 = .ok (.iload 6, 2) := by decide +kernel
theorem dX7_copy_207 : decode cX7_copy 207 = .ok (.iload 5, 2) := by decide +kernel
theorem dX7_copy_209 : decode cX7_copy 209 = .ok (.if_icmp .ge 32, 3) := by decide +kernel
theorem dX7_copy_212 : decode cX7_copy 212 = .ok (.aload_n 0, 1) := by decide +kernel
theorem dX7_copy_213 : decode cX7_copy 213 = .ok (.getfield 68, 3) := by decide +kernel
theorem dX7_copy_216 : decode cX7_copy 216 = .ok (.sipush 160, 3) := by decide +kernel
theorem dX7_copy_219 : decode cX7_copy 219 = .ok (.iload_n 2, 1) := by decide +kernel
theorem dX7_copy_220 : decode cX7_copy 220 = .ok (.imul, 1) := by decide +kernel
theorem dX7_copy_221 : decode cX7_copy 221 = .ok (.iload 4, 2) := by decide +kernel
theorem dX7_copy_223 : decode cX7_copy 223 = .ok (.iadd, 1) := by decide +kernel
theorem dX7_copy_224 : decode cX7_copy 224 = .ok (.iload 6, 2) := by decide +kernel
theorem dX7_copy_226 : decode cX7_copy 226 = .ok (.iadd, 1) := by decide +kernel
theorem dX7_copy_227 : decode cX7_copy 227 = .ok (.aload_n 0, 1) := by decide +kernel
theorem dX7_copy_228 : decode cX7_copy 228 = .ok (.getfield 72, 3) := by decide +kernel
theorem dX7_copy_231 : decode cX7_copy 231 = .ok (.iload 6, 2) := by decide +kernel
theorem dX7_copy_233 : decode cX7_copy 233 = .ok (.laload, 1) := by decide +kernel
theorem dX7_copy_234 : decode cX7_copy 234 = .ok (.lastore, 1) := by decide +kernel
theorem dX7_copy_235 : decode cX7_copy 235 = .ok (.iinc 6 1, 3) := by decide +kernel
theorem dX7_copy_238 : decode cX7_copy 238 = .ok (.goto (-33), 3) := by decide +kernel
theorem dX7_copy_241 : decode cX7_copy 241 = .ok (.iconst 1, 1) := by decide +kernel
theorem dX7_copy_242 : decode cX7_copy 242 = .ok (.ireturn, 1) := by decide +kernel
theorem dX7_element_0 : decode cX7_element 0 = .ok (.aload_n 0, 1) := by decide +kernel
theorem dX7_element_1 : decode cX7_element 1 = .ok (.iload_n 1, 1) := by decide +kernel
theorem dX7_element_2 : decode cX7_element 2 = .ok (.invokevirtual 135, 3) := by decide +kernel
theorem dX7_element_5 : decode cX7_element 5 = .ok (.ifCond .eq 42, 3) := by decide +kernel
theorem dX7_element_8 : decode cX7_element 8 = .ok (.aload_n 0, 1) := by decide +kernel
theorem dX7_element_9 : decode cX7_element 9 = .ok (.getfield 56, 3) := by decide +kernel
theorem dX7_element_12 : decode cX7_element 12 = .ok (.iload_n 1, 1) := by decide +kernel
theorem dX7_element_13 : decode cX7_element 13 = .ok (.iaload, 1) := by decide +kernel
theorem dX7_element_14 : decode cX7_element 14 = .ok (.iconst 1, 1) := by decide +kernel
theorem dX7_element_15 : decode cX7_element 15 = .ok (.if_icmp .ne 32, 3) := by decide +kernel
theorem dX7_element_18 : decode cX7_element 18 = .ok (.iload_n 2, 1) := by decide +kernel
theorem dX7_element_19 : decode cX7_element 19 = .ok (.ifCond .lt 28, 3) := by decide +kernel
theorem dX7_element_22 : decode cX7_element 22 = .ok (.iload_n 2, 1) := by decide +kernel
theorem dX7_element_23 : decode cX7_element 23 = .ok (.aload_n 0, 1) := by decide +kernel
theorem dX7_element_24 : decode cX7_element 24 = .ok (.getfield 62, 3) := by decide +kernel
theorem dX7_element_27 : decode cX7_element 27 = .ok (.iload_n 1, 1) := by decide +kernel
theorem dX7_element_28 : decode cX7_element 28 = .ok (.iaload, 1) := by decide +kernel
theorem dX7_element_29 : decode cX7_element 29 = .ok (.if_icmp .ge 18, 3) := by decide +kernel
theorem dX7_element_32 : decode cX7_element 32 = .ok (.aload_n 0, 1) := by decide +kernel
theorem dX7_element_33 : decode cX7_element 33 = .ok (.getfield 68, 3) := by decide +kernel
theorem dX7_element_36 : decode cX7_element 36 = .ok (.sipush 160, 3) := by decide +kernel
theorem dX7_element_39 : decode cX7_element 39 = .ok (.iload_n 1, 1) := by decide +kernel
theorem dX7_element_40 : decode cX7_element 40 = .ok (.imul, 1) := by decide +kernel
theorem dX7_element_41 : decode cX7_element 41 = .ok (.iload_n 2, 1) := by decide +kernel
theorem dX7_element_42 : decode cX7_element 42 = .ok (.iadd, 1) := by decide +kernel
theorem dX7_element_43 : decode cX7_element 43 = .ok (.laload, 1) := by decide +kernel
theorem dX7_element_44 : decode cX7_element 44 = .ok (.goto 4, 3) := by decide +kernel
theorem dX7_element_47 : decode cX7_element 47 = .ok (.lconst 0, 1) := by decide +kernel
theorem dX7_element_48 : decode cX7_element 48 = .ok (.lreturn, 1) := by decide +kernel
theorem dX7_show_0 : decode cX7_show 0 = .ok (.aload_n 0, 1) := by decide +kernel
theorem dX7_show_1 : decode cX7_show 1 = .ok (.iload_n 1, 1) := by decide +kernel
theorem dX7_show_2 : decode cX7_show 2 = .ok (.invokevirtual 135, 3) := by decide +kernel
theorem dX7_show_5 : decode cX7_show 5 = .ok (.ifCond .eq 16, 3) := by decide +kernel
theorem dX7_show_8 : decode cX7_show 8 = .ok (.iload_n 2, 1) := by decide +kernel
theorem dX7_show_9 : decode cX7_show 9 = .ok (.iconst (-1), 1) := by decide +kernel
theorem dX7_show_10 : decode cX7_show 10 = .ok (.if_icmp .eq 17, 3) := by decide +kernel
theorem dX7_show_13 : decode cX7_show 13 = .ok (.aload_n 0, 1) := by decide +kernel
theorem dX7_show_14 : decode cX7_show 14 = .ok (.iload_n 2, 1) := by decide +kernel
theorem dX7_show_15 : decode cX7_show 15 = .ok (.invokevirtual 143, 3) := by decide +kernel
theorem dX7_show_18 : decode cX7_show 18 = .ok (.ifCond .ne 9, 3) := by decide +kernel
theorem dX7_show_21 : decode cX7_show 21 = .ok (.aload_n 0, 1) := by decide +kernel
theorem dX7_show_22 : decode cX7_show 22 = .ok (.iconst (-1), 1) := by decide +kernel
theorem dX7_show_23 : decode cX7_show 23 = .ok (.invokevirtual 139, 3) := by decide +kernel
theorem dX7_show_26 : decode cX7_show 26 = .ok (.ireturn, 1) := by decide +kernel
theorem dX7_show_27 : decode cX7_show 27 = .ok (.aload_n 0, 1) := by decide +kernel
theorem dX7_show_28 : decode cX7_show 28 = .ok (.getfield 56, 3) := by decide +kernel
theorem dX7_show_31 : decode cX7_show 31 = .ok (.iload_n 1, 1) := by decide +kernel
theorem dX7_show_32 : decode cX7_show 32 = .ok (.iload_n 2, 1) := by decide +kernel
theorem dX7_show_33 : decode cX7_show 33 = .ok (.iconst (-1), 1) := by decide +kernel
theorem dX7_show_34 : decode cX7_show 34 = .ok (.if_icmp .ne 7, 3) := by decide +kernel
theorem dX7_show_37 : decode cX7_show 37 = .ok (.iconst 0, 1) := by decide +kernel
theorem dX7_show_38 : decode cX7_show 38 = .ok (.goto 4, 3) := by decide +kernel
theorem dX7_show_41 : decode cX7_show 41 = .ok (.iconst 2, 1) := by decide +kernel
theorem dX7_show_42 : decode cX7_show 42 = .ok (.iastore, 1) := by decide +kernel
theorem dX7_show_43 : decode cX7_show 43 = .ok (.aload_n 0, 1) := by decide +kernel
theorem dX7_show_44 : decode cX7_show 44 = .ok (.getfield 65, 3) := by decide +kernel
theorem dX7_show_47 : decode cX7_show 47 = .ok (.iload_n 1, 1) := by decide +kernel
theorem dX7_show_48 : decode cX7_show 48 = .ok (.iload_n 2, 1) := by decide +kernel
theorem dX7_show_49 : decode cX7_show 49 = .ok (.iastore, 1) := by decide +kernel
theorem dX7_show_50 : decode cX7_show 50 = .ok (.iload_n 2, 1) := by decide +kernel
theorem dX7_show_51 : decode cX7_show 51 = .ok (.iconst (-1), 1) := by decide +kernel
theorem dX7_show_52 : decode cX7_show 52 = .ok (.if_icmp .ne 7, 3) := by decide +kernel
theorem dX7_show_55 : decode cX7_show 55 = .ok (.iconst 0, 1) := by decide +kernel
theorem dX7_show_56 : decode cX7_show 56 = .ok (.goto 4, 3) := by decide +kernel
theorem dX7_show_59 : decode cX7_show 59 = .ok (.iconst 1, 1) := by decide +kernel
theorem dX7_show_60 : decode cX7_show 60 = .ok (.ireturn, 1) := by decide +kernel
theorem dX7_holds_0 : decode cX7_holds 0 = .ok (.aload_n 0, 1) := by decide +kernel
theorem dX7_holds_1 : decode cX7_holds 1 = .ok (.iload_n 1, 1) := by decide +kernel
theorem dX7_holds_2 : decode cX7_holds 2 = .ok (.invokevirtual 135, 3) := by decide +kernel
theorem dX7_holds_5 : decode cX7_holds 5 = .ok (.ifCond .eq 12, 3) := by decide +kernel
theorem dX7_holds_8 : decode cX7_holds 8 = .ok (.aload_n 0, 1) := by decide +kernel
theorem dX7_holds_9 : decode cX7_holds 9 = .ok (.getfield 56, 3) := by decide +kernel
theorem dX7_holds_12 : decode cX7_holds 12 = .ok (.iload_n 1, 1) := by decide +kernel
theorem dX7_holds_13 : decode cX7_holds 13 = .ok (.iaload, 1) := by decide +kernel
theorem dX7_holds_14 : decode cX7_holds 14 = .ok (.ifCond .ne 5, 3) := by decide +kernel
theorem dX7_holds_17 : decode cX7_holds 17 = .ok (.iconst (-1), 1) := by decide +kernel
theorem dX7_holds_18 : decode cX7_holds 18 = .ok (.ireturn, 1) := by decide +kernel
theorem dX7_holds_19 : decode cX7_holds 19 = .ok (.aload_n 0, 1) := by decide +kernel
theorem dX7_holds_20 : decode cX7_holds 20 = .ok (.getfield 56, 3) := by decide +kernel
theorem dX7_holds_23 : decode cX7_holds 23 = .ok (.iload_n 1, 1) := by decide +kernel
theorem dX7_holds_24 : decode cX7_holds 24 = .ok (.iaload, 1) := by decide +kernel
theorem dX7_holds_25 : decode cX7_holds 25 = .ok (.iconst 1, 1) := by decide +kernel
theorem dX7_holds_26 : decode cX7_holds 26 = .ok (.if_icmp .ne 15, 3) := by decide +kernel
theorem dX7_holds_29 : decode cX7_holds 29 = .ok (.bipush 100, 2) := by decide +kernel
theorem dX7_holds_31 : decode cX7_holds 31 = .ok (.aload_n 0, 1) := by decide +kernel
theorem dX7_holds_32 : decode cX7_holds 32 = .ok (.getfield 59, 3) := by decide +kernel
theorem dX7_holds_35 : decode cX7_holds 35 = .ok (.iload_n 1, 1) := by decide +kernel
theorem dX7_holds_36 : decode cX7_holds 36 = .ok (.iaload, 1) := by decide +kernel
theorem dX7_holds_37 : decode cX7_holds 37 = .ok (.iadd, 1) := by decide +kernel
theorem dX7_holds_38 : decode cX7_holds 38 = .ok (.goto 9, 3) := by decide +kernel
theorem dX7_holds_41 : decode cX7_holds 41 = .ok (.aload_n 0, 1) := by decide +kernel
theorem dX7_holds_42 : decode cX7_holds 42 = .ok (.getfield 65, 3) := by decide +kernel
theorem dX7_holds_45 : decode cX7_holds 45 = .ok (.iload_n 1, 1) := by decide +kernel
theorem dX7_holds_46 : decode cX7_holds 46 = .ok (.iaload, 1) := by decide +kernel
theorem dX7_holds_47 : decode cX7_holds 47 = .ok (.ireturn, 1) := by decide +kernel
theorem dX7_says_0 : decode cX7_says 0 = .ok (.aload_n 0, 1) := by decide +kernel
theorem dX7_says_1 : decode cX7_says 1 = .ok (.iload_n 1, 1) := by decide +kernel
theorem dX7_says_2 : decode cX7_says 2 = .ok (.invokevirtual 135, 3) := by decide +kernel
theorem dX7_says_5 : decode cX7_says 5 = .ok (.ifCond .eq 13, 3) := by decide +kernel
theorem dX7_says_8 : decode cX7_says 8 = .ok (.iload_n 2, 1) := by decide +kernel
theorem dX7_says_9 : decode cX7_says 9 = .ok (.ifCond .lt 9, 3) := by decide +kernel
theorem dX7_says_12 : decode cX7_says 12 = .ok (.iload_n 2, 1) := by decide +kernel
theorem dX7_says_13 : decode cX7_says 13 = .ok (.bipush 6, 2) := by decide +kernel
theorem dX7_says_15 : decode cX7_says 15 = .ok (.if_icmp .le 9, 3) := by decide +kernel
theorem dX7_says_18 : decode cX7_says 18 = .ok (.aload_n 0, 1) := by decide +kernel
theorem dX7_says_19 : decode cX7_says 19 = .ok (.iconst (-1), 1) := by decide +kernel
theorem dX7_says_20 : decode cX7_says 20 = .ok (.invokevirtual 139, 3) := by decide +kernel
theorem dX7_says_23 : decode cX7_says 23 = .ok (.ireturn, 1) := by decide +kernel
theorem dX7_says_24 : decode cX7_says 24 = .ok (.aload_n 0, 1) := by decide +kernel
theorem dX7_says_25 : decode cX7_says 25 = .ok (.getfield 56, 3) := by decide +kernel
theorem dX7_says_28 : decode cX7_says 28 = .ok (.iload_n 1, 1) := by decide +kernel
theorem dX7_says_29 : decode cX7_says 29 = .ok (.iaload, 1) := by decide +kernel
theorem dX7_says_30 : decode cX7_says 30 = .ok (.iconst 1, 1) := by decide +kernel
theorem dX7_says_31 : decode cX7_says 31 = .ok (.if_icmp .ne 10, 3) := by decide +kernel
theorem dX7_says_34 : decode cX7_says 34 = .ok (.aload_n 0, 1) := by decide +kernel
theorem dX7_says_35 : decode cX7_says 35 = .ok (.bipush (-2), 2) := by decide +kernel
theorem dX7_says_37 : decode cX7_says 37 = .ok (.invokevirtual 139, 3) := by decide +kernel
theorem dX7_says_40 : decode cX7_says 40 = .ok (.ireturn, 1) := by decide +kernel
theorem dX7_says_41 : decode cX7_says 41 = .ok (.aload_n 0, 1) := by decide +kernel
theorem dX7_says_42 : decode cX7_says 42 = .ok (.getfield 56, 3) := by decide +kernel
theorem dX7_says_45 : decode cX7_says 45 = .ok (.iload_n 1, 1) := by decide +kernel
theorem dX7_says_46 : decode cX7_says 46 = .ok (.iaload, 1) := by decide +kernel
theorem dX7_says_47 : decode cX7_says 47 = .ok (.ifCond .ne 10, 3) := by decide +kernel
theorem dX7_says_50 : decode cX7_says 50 = .ok (.aload_n 0, 1) := by decide +kernel
theorem dX7_says_51 : decode cX7_says 51 = .ok (.bipush (-3), 2) := by decide +kernel
theorem dX7_says_53 : decode cX7_says 53 = .ok (.invokevirtual 139, 3) := by decide +kernel
theorem dX7_says_56 : decode cX7_says 56 = .ok (.ireturn, 1) := by decide +kernel
theorem dX7_says_57 : decode cX7_says 57 = .ok (.aload_n 0, 1) := by decide +kernel
theorem dX7_says_58 : decode cX7_says 58 = .ok (.getfield 65, 3) := by decide +kernel
theorem dX7_says_61 : decode cX7_says 61 = .ok (.iload_n 1, 1) := by decide +kernel
theorem dX7_says_62 : decode cX7_says 62 = .ok (.iaload, 1) := by decide +kernel
theorem dX7_says_63 : decode cX7_says 63 = .ok (.istore_n 3, 1) := by decide +kernel
theorem dX7_says_64 : decode cX7_says 64 = .ok (.aload_n 0, 1) := by decide +kernel
theorem dX7_says_65 : decode cX7_says 65 = .ok (.getfield 20, 3) := by decide +kernel
theorem dX7_says_68 : decode cX7_says 68 = .ok (.iload_n 3, 1) := by decide +kernel
theorem dX7_says_69 : decode cX7_says 69 = .ok (.iaload, 1) := by decide +kernel
theorem dX7_says_70 : decode cX7_says 70 = .ok (.istore 4, 2) := by decide +kernel
theorem dX7_says_72 : decode cX7_says 72 = .ok (.iload_n 2, 1) := by decide +kernel
theorem dX7_says_73 : decode cX7_says 73 = .ok (.iconst 2, 1) := by decide +kernel
theorem dX7_says_74 : decode cX7_says 74 = .ok (.if_icmp .ne 16, 3) := by decide +kernel
theorem dX7_says_77 : decode cX7_says 77 = .ok (.iload 4, 2) := by decide +kernel
theorem dX7_says_79 : decode cX7_says 79 = .ok (.iconst 3, 1) := by decide +kernel
theorem dX7_says_80 : decode cX7_says 80 = .ok (.if_icmp .eq 33, 3) := by decide +kernel
theorem dX7_says_83 : decode cX7_says 83 = .ok (.iload 4, 2) := by decide +kernel
theorem dX7_says_85 : decode cX7_says 85 = .ok (.bipush 6, 2) := by decide +kernel
theorem dX7_says_87 : decode cX7_says 87 = .ok (.if_icmp .eq 26, 3) := by decide +kernel
theorem dX7_says_90 : decode cX7_says 90 = .ok (.iload_n 2, 1) := by decide +kernel
theorem dX7_says_91 : decode cX7_says 91 = .ok (.iconst 3, 1) := by decide +kernel
theorem dX7_says_92 : decode cX7_says 92 = .ok (.if_icmp .ne 10, 3) := by decide +kernel
theorem dX7_says_95 : decode cX7_says 95 = .ok (.iload 4, 2) := by decide +kernel
theorem dX7_says_97 : decode cX7_says 97 = .ok (.bipush 6, 2) := by decide +kernel
theorem dX7_says_99 : decode cX7_says 99 = .ok (.if_icmp .eq 14, 3) := by decide +kernel
theorem dX7_says_102 : decode cX7_says 102 = .ok (.iload_n 2, 1) := by decide +kernel
theorem dX7_says_103 : decode cX7_says 103 = .ok (.iconst 4, 1) := by decide +kernel
theorem dX7_says_104 : decode cX7_says 104 = .ok (.if_icmp .ne 13, 3) := by decide +kernel
theorem dX7_says_107 : decode cX7_says 107 = .ok (.iload 4, 2) := by decide +kernel
theorem dX7_says_109 : decode cX7_says 109 = .ok (.iconst 5, 1) := by decide +kernel
theorem dX7_says_110 : decode cX7_says 110 = .ok (.if_icmp .ne 7, 3) := by decide +kernel
theorem dX7_says_113 : decode cX7_says 113 = .ok (.iconst 1, 1) := by decide +kernel
theorem dX7_says_114 : decode cX7_says 114 = .ok (.goto 4, 3) := by decide +kernel
theorem dX7_says_117 : decode cX7_says 117 = .ok (.iconst 0, 1) := by decide +kernel
theorem dX7_says_118 : decode cX7_says 118 = .ok (.istore 5, 2) := by decide +kernel
theorem dX7_says_120 : decode cX7_says 120 = .ok (.iload_n 2, 1) := by decide +kernel
theorem dX7_says_121 : decode cX7_says 121 = .ok (.ifCond .eq 21, 3) := by decide +kernel
theorem dX7_says_124 : decode cX7_says 124 = .ok (.iload_n 2, 1) := by decide +kernel
theorem dX7_says_125 : decode cX7_says 125 = .ok (.iload 4, 2) := by decide +kernel
theorem dX7_says_127 : decode cX7_says 127 = .ok (.if_icmp .eq 15, 3) := by decide +kernel
theorem dX7_says_130 : decode cX7_says 130 = .ok (.iload 5, 2) := by decide +kernel
theorem dX7_says_132 : decode cX7_says 132 = .ok (.ifCond .ne 10, 3) := by decide +kernel
theorem dX7_says_135 : decode cX7_says 135 = .ok (.aload_n 0, 1) := by decide +kernel
theorem dX7_says_136 : decode cX7_says 136 = .ok (.bipush (-2), 2) := by decide +kernel
theorem dX7_says_138 : decode cX7_says 138 = .ok (.invokevirtual 139, 3) := by decide +kernel
theorem dX7_says_141 : decode cX7_says 141 = .ok (.ireturn, 1) := by decide +kernel
theorem dX7_says_142 : decode cX7_says 142 = .ok (.iload_n 2, 1) := by decide +kernel
theorem dX7_says_143 : decode cX7_says 143 = .ok (.tableswitch 57 0 5 #[37, 43, 57, 57, 50, 50], 37) := by decide +kernel
theorem dX7_says_180 : decode cX7_says 180 = .ok (.aload_n 0, 1) := by decide +kernel
theorem dX7_says_181 : decode cX7_says 181 = .ok (.iload_n 3, 1) := by decide +kernel
theorem dX7_says_182 : decode cX7_says 182 = .ok (.invokevirtual 146, 3) := by decide +kernel
theorem dX7_says_185 : decode cX7_says 185 = .ok (.ireturn, 1) := by decide +kernel
theorem dX7_says_186 : decode cX7_says 186 = .ok (.aload_n 0, 1) := by decide +kernel
theorem dX7_says_187 : decode cX7_says 187 = .ok (.getfield 32, 3) := by decide +kernel
theorem dX7_says_190 : decode cX7_says 190 = .ok (.iload_n 3, 1) := by decide +kernel
theorem dX7_says_191 : decode cX7_says 191 = .ok (.iaload, 1) := by decide +kernel
theorem dX7_says_192 : decode cX7_says 192 = .ok (.ireturn, 1) := by decide +kernel
theorem dX7_says_193 : decode cX7_says 193 = .ok (.aload_n 0, 1) := by decide +kernel
theorem dX7_says_194 : decode cX7_says 194 = .ok (.getfield 35, 3) := by decide +kernel
theorem dX7_says_197 : decode cX7_says 197 = .ok (.iload_n 3, 1) := by decide +kernel
theorem dX7_says_198 : decode cX7_says 198 = .ok (.iaload, 1) := by decide +kernel
theorem dX7_says_199 : decode cX7_says 199 = .ok (.ireturn, 1) := by decide +kernel
theorem dX7_says_200 : decode cX7_says 200 = .ok (.aload_n 0, 1) := by decide +kernel
theorem dX7_says_201 : decode cX7_says 201 = .ok (.getfield 23, 3) := by decide +kernel
theorem dX7_says_204 : decode cX7_says 204 = .ok (.iload_n 3, 1) := by decide +kernel
theorem dX7_says_205 : decode cX7_says 205 = .ok (.iaload, 1) := by decide +kernel
theorem dX7_says_206 : decode cX7_says 206 = .ok (.ireturn, 1) := by decide +kernel
theorem dX7_wanted_0 : decode cX7_wanted 0 = .ok (.aload_n 0, 1) := by decide +kernel
theorem dX7_wanted_1 : decode cX7_wanted 1 = .ok (.iload_n 1, 1) := by decide +kernel
theorem dX7_wanted_2 : decode cX7_wanted 2 = .ok (.invokevirtual 135, 3) := by decide +kernel
theorem dX7_wanted_5 : decode cX7_wanted 5 = .ok (.ifCond .ne 7, 3) := by decide +kernel
theorem dX7_wanted_8 : decode cX7_wanted 8 = .ok (.iconst (-1), 1) := by decide +kernel
theorem dX7_wanted_9 : decode cX7_wanted 9 = .ok (.goto 33, 3) := by decide +kernel
theorem dX7_wanted_12 : decode cX7_wanted 12 = .ok (.aload_n 0, 1) := by decide +kernel
theorem dX7_wanted_13 : decode cX7_wanted 13 = .ok (.getfield 56, 3) := by decide +kernel
theorem dX7_wanted_16 : decode cX7_wanted 16 = .ok (.iload_n 1, 1) := by decide +kernel
theorem dX7_wanted_17 : decode cX7_wanted 17 = .ok (.iaload, 1) := by decide +kernel
theorem dX7_wanted_18 : decode cX7_wanted 18 = .ok (.iconst 2, 1) := by decide +kernel
theorem dX7_wanted_19 : decode cX7_wanted 19 = .ok (.if_icmp .ne 8, 3) := by decide +kernel
theorem dX7_wanted_22 : decode cX7_wanted 22 = .ok (.bipush (-2), 2) := by decide +kernel
theorem dX7_wanted_24 : decode cX7_wanted 24 = .ok (.goto 18, 3) := by decide +kernel
theorem dX7_wanted_27 : decode cX7_wanted 27 = .ok (.aload_n 0, 1) := by decide +kernel
theorem dX7_wanted_28 : decode cX7_wanted 28 = .ok (.getfield 56, 3) := by decide +kernel
theorem dX7_wanted_31 : decode cX7_wanted 31 = .ok (.iload_n 1, 1) := by decide +kernel
theorem dX7_wanted_32 : decode cX7_wanted 32 = .ok (.iaload, 1) := by decide +kernel
theorem dX7_wanted_33 : decode cX7_wanted 33 = .ok (.ifCond .ne 8, 3) := by decide +kernel
theorem dX7_wanted_36 : decode cX7_wanted 36 = .ok (.bipush (-3), 2) := by decide +kernel
theorem dX7_wanted_38 : decode cX7_wanted 38 = .ok (.goto 4, 3) := by decide +kernel
theorem dX7_wanted_41 : decode cX7_wanted 41 = .ok (.iconst 0, 1) := by decide +kernel
theorem dX7_wanted_42 : decode cX7_wanted 42 = .ok (.ireturn, 1) := by decide +kernel
theorem dX7_intAt_0 : decode cX7_intAt 0 = .ok (.aload_n 0, 1) := by decide +kernel
theorem dX7_intAt_1 : decode cX7_intAt 1 = .ok (.getfield 68, 3) := by decide +kernel
theorem dX7_intAt_4 : decode cX7_intAt 4 = .ok (.sipush 160, 3) := by decide +kernel
theorem dX7_intAt_7 : decode cX7_intAt 7 = .ok (.iload_n 1, 1) := by decide +kernel
theorem dX7_intAt_8 : decode cX7_intAt 8 = .ok (.imul, 1) := by decide +kernel
theorem dX7_intAt_9 : decode cX7_intAt 9 = .ok (.iload_n 2, 1) := by decide +kernel
theorem dX7_intAt_10 : decode cX7_intAt 10 = .ok (.iadd, 1) := by decide +kernel
theorem dX7_intAt_11 : decode cX7_intAt 11 = .ok (.laload, 1) := by decide +kernel
theorem dX7_intAt_12 : decode cX7_intAt 12 = .ok (.l2i, 1) := by decide +kernel
theorem dX7_intAt_13 : decode cX7_intAt 13 = .ok (.ireturn, 1) := by decide +kernel
theorem dX7_addsCitizen_0 : decode cX7_addsCitizen 0 = .ok (.aload_n 0, 1) := by decide +kernel
theorem dX7_addsCitizen_1 : decode cX7_addsCitizen 1 = .ok (.getfield 20, 3) := by decide +kernel
theorem dX7_addsCitizen_4 : decode cX7_addsCitizen 4 = .ok (.aload_n 0, 1) := by decide +kernel
theorem dX7_addsCitizen_5 : decode cX7_addsCitizen 5 = .ok (.getfield 129, 3) := by decide +kernel
theorem dX7_addsCitizen_8 : decode cX7_addsCitizen 8 = .ok (.iload_n 1, 1) := by decide +kernel
theorem dX7_addsCitizen_9 : decode cX7_addsCitizen 9 = .ok (.iastore, 1) := by decide +kernel
theorem dX7_addsCitizen_10 : decode cX7_addsCitizen 10 = .ok (.aload_n 0, 1) := by decide +kernel
theorem dX7_addsCitizen_11 : decode cX7_addsCitizen 11 = .ok (.getfield 23, 3) := by decide +kernel
theorem dX7_addsCitizen_14 : decode cX7_addsCitizen 14 = .ok (.aload_n 0, 1) := by decide +kernel
theorem dX7_addsCitizen_15 : decode cX7_addsCitizen 15 = .ok (.getfield 129, 3) := by decide +kernel
theorem dX7_addsCitizen_18 : decode cX7_addsCitizen 18 = .ok (.iload_n 2, 1) := by decide +kernel
theorem dX7_addsCitizen_19 : decode cX7_addsCitizen 19 = .ok (.iastore, 1) := by decide +kernel
theorem dX7_addsCitizen_20 : decode cX7_addsCitizen 20 = .ok (.aload_n 0, 1) := by decide +kernel
theorem dX7_addsCitizen_21 : decode cX7_addsCitizen 21 = .ok (.getfield 26, 3) := by decide +kernel
theorem dX7_addsCitizen_24 : decode cX7_addsCitizen 24 = .ok (.aload_n 0, 1) := by decide +kernel
theorem dX7_addsCitizen_25 : decode cX7_addsCitizen 25 = .ok (.getfield 129, 3) := by decide +kernel
theorem dX7_addsCitizen_28 : decode cX7_addsCitizen 28 = .ok (.iload_n 3, 1) := by decide +kernel
theorem dX7_addsCitizen_29 : decode cX7_addsCitizen 29 = .ok (.iastore, 1) := by decide +kernel
theorem dX7_addsCitizen_30 : decode cX7_addsCitizen 30 = .ok (.aload_n 0, 1) := by decide +kernel
theorem dX7_addsCitizen_31 : decode cX7_addsCitizen 31 = .ok (.getfield 29, 3) := by decide +kernel
theorem dX7_addsCitizen_34 : decode cX7_addsCitizen 34 = .ok (.aload_n 0, 1) := by decide +kernel
theorem dX7_addsCitizen_35 : decode cX7_addsCitizen 35 = .ok (.getfield 129, 3) := by decide +kernel
theorem dX7_addsCitizen_38 : decode cX7_addsCitizen 38 = .ok (.iload 4, 2) := by decide +kernel
theorem dX7_addsCitizen_40 : decode cX7_addsCitizen 40 = .ok (.iastore, 1) := by decide +kernel
theorem dX7_addsCitizen_41 : decode cX7_addsCitizen 41 = .ok (.aload_n 0, 1) := by decide +kernel
theorem dX7_addsCitizen_42 : decode cX7_addsCitizen 42 = .ok (.getfield 32, 3) := by decide +kernel
theorem dX7_addsCitizen_45 : decode cX7_addsCitizen 45 = .ok (.aload_n 0, 1) := by decide +kernel
theorem dX7_addsCitizen_46 : decode cX7_addsCitizen 46 = .ok (.getfield 129, 3) := by decide +kernel
theorem dX7_addsCitizen_49 : decode cX7_addsCitizen 49 = .ok (.iconst 0, 1) := by decide +kernel
theorem dX7_addsCitizen_50 : decode cX7_addsCitizen 50 = .ok (.iastore, 1) := by decide +kernel
theorem dX7_addsCitizen_51 : decode cX7_addsCitizen 51 = .ok (.aload_n 0, 1) := by decide +kernel
theorem dX7_addsCitizen_52 : decode cX7_addsCitizen 52 = .ok (.getfield 35, 3) := by decide +kernel
theorem dX7_addsCitizen_55 : decode cX7_addsCitizen 55 = .ok (.aload_n 0, 1) := by decide +kernel
theorem dX7_addsCitizen_56 : decode cX7_addsCitizen 56 = .ok (.getfield 129, 3) := by decide +kernel
theorem dX7_addsCitizen_59 : decode cX7_addsCitizen 59 = .ok (.iconst 0, 1) := by decide +kernel
theorem dX7_addsCitizen_60 : decode cX7_addsCitizen 60 = .ok (.iastore, 1) := by decide +kernel
theorem dX7_addsCitizen_61 : decode cX7_addsCitizen 61 = .ok (.aload_n 0, 1) := by decide +kernel
theorem dX7_addsCitizen_62 : decode cX7_addsCitizen 62 = .ok (.getfield 38, 3) := by decide +kernel
theorem dX7_addsCitizen_65 : decode cX7_addsCitizen 65 = .ok (.aload_n 0, 1) := by decide +kernel
theorem dX7_addsCitizen_66 : decode cX7_addsCitizen 66 = .ok (.getfield 129, 3) := by decide +kernel
theorem dX7_addsCitizen_69 : decode cX7_addsCitizen 69 = .ok (.iconst 0, 1) := by decide +kernel
theorem dX7_addsCitizen_70 : decode cX7_addsCitizen 70 = .ok (.iastore, 1) := by decide +kernel
theorem dX7_addsCitizen_71 : decode cX7_addsCitizen 71 = .ok (.aload_n 0, 1) := by decide +kernel
theorem dX7_addsCitizen_72 : decode cX7_addsCitizen 72 = .ok (.dup, 1) := by decide +kernel
theorem dX7_addsCitizen_73 : decode cX7_addsCitizen 73 = .ok (.getfield 129, 3) := by decide +kernel
theorem dX7_addsCitizen_76 : decode cX7_addsCitizen 76 = .ok (.dup_x1, 1) := by decide +kernel
theorem dX7_addsCitizen_77 : decode cX7_addsCitizen 77 = .ok (.iconst 1, 1) := by decide +kernel
theorem dX7_addsCitizen_78 : decode cX7_addsCitizen 78 = .ok (.iadd, 1) := by decide +kernel
theorem dX7_addsCitizen_79 : decode cX7_addsCitizen 79 = .ok (.putfield 129, 3) := by decide +kernel
theorem dX7_addsCitizen_82 : decode cX7_addsCitizen 82 = .ok (.ireturn, 1) := by decide +kernel
theorem dX7_addsBeggar_0 : decode cX7_addsBeggar 0 = .ok (.aload_n 0, 1) := by decide +kernel
theorem dX7_addsBeggar_1 : decode cX7_addsBeggar 1 = .ok (.getfield 41, 3) := by decide +kernel
theorem dX7_addsBeggar_4 : decode cX7_addsBeggar 4 = .ok (.aload_n 0, 1) := by decide +kernel
theorem dX7_addsBeggar_5 : decode cX7_addsBeggar 5 = .ok (.getfield 132, 3) := by decide +kernel
theorem dX7_addsBeggar_8 : decode cX7_addsBeggar 8 = .ok (.iload_n 1, 1) := by decide +kernel
theorem dX7_addsBeggar_9 : decode cX7_addsBeggar 9 = .ok (.iastore, 1) := by decide +kernel
theorem dX7_addsBeggar_10 : decode cX7_addsBeggar 10 = .ok (.aload_n 0, 1) := by decide +kernel
theorem dX7_addsBeggar_11 : decode cX7_addsBeggar 11 = .ok (.getfield 44, 3) := by decide +kernel
theorem dX7_addsBeggar_14 : decode cX7_addsBeggar 14 = .ok (.aload_n 0, 1) := by decide +kernel
theorem dX7_addsBeggar_15 : decode cX7_addsBeggar 15 = .ok (.getfield 132, 3) := by decide +kernel
theorem dX7_addsBeggar_18 : decode cX7_addsBeggar 18 = .ok (.iload_n 2, 1) := by decide +kernel
theorem dX7_addsBeggar_19 : decode cX7_addsBeggar 19 = .ok (.iastore, 1) := by decide +kernel
theorem dX7_addsBeggar_20 : decode cX7_addsBeggar 20 = .ok (.aload_n 0, 1) := by decide +kernel
theorem dX7_addsBeggar_21 : decode cX7_addsBeggar 21 = .ok (.getfield 47, 3) := by decide +kernel
theorem dX7_addsBeggar_24 : decode cX7_addsBeggar 24 = .ok (.aload_n 0, 1) := by decide +kernel
theorem dX7_addsBeggar_25 : decode cX7_addsBeggar 25 = .ok (.getfield 132, 3) := by decide +kernel
theorem dX7_addsBeggar_28 : decode cX7_addsBeggar 28 = .ok (.iconst (-1), 1) := by decide +kernel
theorem dX7_addsBeggar_29 : decode cX7_addsBeggar 29 = .ok (.iastore, 1) := by decide +kernel
theorem dX7_addsBeggar_30 : decode cX7_addsBeggar 30 = .ok (.aload_n 0, 1) := by decide +kernel
theorem dX7_addsBeggar_31 : decode cX7_addsBeggar 31 = .ok (.getfield 50, 3) := by decide +kernel
theorem dX7_addsBeggar_34 : decode cX7_addsBeggar 34 = .ok (.aload_n 0, 1) := by decide +kernel
theorem dX7_addsBeggar_35 : decode cX7_addsBeggar 35 = .ok (.getfield 132, 3) := by decide +kernel
theorem dX7_addsBeggar_38 : decode cX7_addsBeggar 38 = .ok (.iconst 0, 1) := by decide +kernel
theorem dX7_addsBeggar_39 : decode cX7_addsBeggar 39 = .ok (.iastore, 1) := by decide +kernel
theorem dX7_addsBeggar_40 : decode cX7_addsBeggar 40 = .ok (.aload_n 0, 1) := by decide +kernel
theorem dX7_addsBeggar_41 : decode cX7_addsBeggar 41 = .ok (.getfield 53, 3) := by decide +kernel
theorem dX7_addsBeggar_44 : decode cX7_addsBeggar 44 = .ok (.aload_n 0, 1) := by decide +kernel
theorem dX7_addsBeggar_45 : decode cX7_addsBeggar 45 = .ok (.getfield 132, 3) := by decide +kernel
theorem dX7_addsBeggar_48 : decode cX7_addsBeggar 48 = .ok (.iconst 0, 1) := by decide +kernel
theorem dX7_addsBeggar_49 : decode cX7_addsBeggar 49 = .ok (.iastore, 1) := by decide +kernel
theorem dX7_addsBeggar_50 : decode cX7_addsBeggar 50 = .ok (.aload_n 0, 1) := by decide +kernel
theorem dX7_addsBeggar_51 : decode cX7_addsBeggar 51 = .ok (.dup, 1) := by decide +kernel
theorem dX7_addsBeggar_52 : decode cX7_addsBeggar 52 = .ok (.getfield 132, 3) := by decide +kernel
theorem dX7_addsBeggar_55 : decode cX7_addsBeggar 55 = .ok (.dup_x1, 1) := by decide +kernel
theorem dX7_addsBeggar_56 : decode cX7_addsBeggar 56 = .ok (.iconst 1, 1) := by decide +kernel
theorem dX7_addsBeggar_57 : decode cX7_addsBeggar 57 = .ok (.iadd, 1) := by decide +kernel
theorem dX7_addsBeggar_58 : decode cX7_addsBeggar 58 = .ok (.putfield 132, 3) := by decide +kernel
theorem dX7_addsBeggar_61 : decode cX7_addsBeggar 61 = .ok (.ireturn, 1) := by decide +kernel
theorem dX7_citizen_0 : decode cX7_citizen 0 = .ok (.iload_n 1, 1) := by decide +kernel
theorem dX7_citizen_1 : decode cX7_citizen 1 = .ok (.ifCond .lt 9, 3) := by decide +kernel
theorem dX7_citizen_4 : decode cX7_citizen 4 = .ok (.iload_n 1, 1) := by decide +kernel
theorem dX7_citizen_5 : decode cX7_citizen 5 = .ok (.bipush 6, 2) := by decide +kernel
theorem dX7_citizen_7 : decode cX7_citizen 7 = .ok (.if_icmp .le 9, 3) := by decide +kernel
theorem dX7_citizen_10 : decode cX7_citizen 10 = .ok (.aload_n 0, 1) := by decide +kernel
theorem dX7_citizen_11 : decode cX7_citizen 11 = .ok (.iconst (-1), 1) := by decide +kernel
theorem dX7_citizen_12 : decode cX7_citizen 12 = .ok (.invokevirtual 139, 3) := by decide +kernel
theorem dX7_citizen_15 : decode cX7_citizen 15 = .ok (.ireturn, 1) := by decide +kernel
theorem dX7_citizen_16 : decode cX7_citizen 16 = .ok (.aload_n 0, 1) := by decide +kernel
theorem dX7_citizen_17 : decode cX7_citizen 17 = .ok (.iload_n 2, 1) := by decide +kernel
theorem dX7_citizen_18 : decode cX7_citizen 18 = .ok (.iconst 0, 1) := by decide +kernel
theorem dX7_citizen_19 : decode cX7_citizen 19 = .ok (.bipush 9, 2) := by decide +kernel
theorem dX7_citizen_21 : decode cX7_citizen 21 = .ok (.invokevirtual 149, 3) := by decide +kernel
theorem dX7_citizen_24 : decode cX7_citizen 24 = .ok (.ifCond .eq 26, 3) := by decide +kernel
theorem dX7_citizen_27 : decode cX7_citizen 27 = .ok (.aload_n 0, 1) := by decide +kernel
theorem dX7_citizen_28 : decode cX7_citizen 28 = .ok (.iload_n 3, 1) := by decide +kernel
theorem dX7_citizen_29 : decode cX7_citizen 29 = .ok (.iconst 0, 1) := by decide +kernel
theorem dX7_citizen_30 : decode cX7_citizen 30 = .ok (.bipush 99, 2) := by decide +kernel
theorem dX7_citizen_32 : decode cX7_citizen 32 = .ok (.invokevirtual 149, 3) := by decide +kernel
theorem dX7_citizen_35 : decode cX7_citizen 35 = .ok (.ifCond .eq 15, 3) := by decide +kernel
theorem dX7_citizen_38 : decode cX7_citizen 38 = .ok (.aload_n 0, 1) := by decide +kernel
theorem dX7_citizen_39 : decode cX7_citizen 39 = .ok (.iload 4, 2) := by decide +kernel
theorem dX7_citizen_41 : decode cX7_citizen 41 = .ok (.iconst 0, 1) := by decide +kernel
theorem dX7_citizen_42 : decode cX7_citizen 42 = .ok (.bipush 20, 2) := by decide +kernel
theorem dX7_citizen_44 : decode cX7_citizen 44 = .ok (.invokevirtual 149, 3) := by decide +kernel
theorem dX7_citizen_47 : decode cX7_citizen 47 = .ok (.ifCond .ne 10, 3) := by decide +kernel
theorem dX7_citizen_50 : decode cX7_citizen 50 = .ok (.aload_n 0, 1) := by decide +kernel
theorem dX7_citizen_51 : decode cX7_citizen 51 = .ok (.bipush (-6), 2) := by decide +kernel
theorem dX7_citizen_53 : decode cX7_citizen 53 = .ok (.invokevirtual 139, 3) := by decide +kernel
theorem dX7_citizen_56 : decode cX7_citizen 56 = .ok (.ireturn, 1) := by decide +kernel
theorem dX7_citizen_57 : decode cX7_citizen 57 = .ok (.aload_n 0, 1) := by decide +kernel
theorem dX7_citizen_58 : decode cX7_citizen 58 = .ok (.getfield 129, 3) := by decide +kernel
theorem dX7_citizen_61 : decode cX7_citizen 61 = .ok (.bipush 6, 2) := by decide +kernel
theorem dX7_citizen_63 : decode cX7_citizen 63 = .ok (.if_icmp .ne 12, 3) := by decide +kernel
theorem dX7_citizen_66 : decode cX7_citizen 66 = .ok (.aload_n 0, 1) := by decide +kernel
theorem dX7_citizen_67 : decode cX7_citizen 67 = .ok (.bipush (-7), 2) := by decide +kernel
theorem dX7_citizen_69 : decode cX7_citizen 69 = .ok (.invokevirtual 139, 3) := by decide +kernel
theorem dX7_citizen_72 : decode cX7_citizen 72 = .ok (.goto 12, 3) := by decide +kernel
theorem dX7_citizen_75 : decode cX7_citizen 75 = .ok (.aload_n 0, 1) := by decide +kernel
theorem dX7_citizen_76 : decode cX7_citizen 76 = .ok (.iload_n 1, 1) := by decide +kernel
theorem dX7_citizen_77 : decode cX7_citizen 77 = .ok (.iload_n 2, 1) := by decide +kernel
theorem dX7_citizen_78 : decode cX7_citizen 78 = .ok (.iload_n 3, 1) := by decide +kernel
theorem dX7_citizen_79 : decode cX7_citizen 79 = .ok (.iload 4, 2) := by decide +kernel
theorem dX7_citizen_81 : decode cX7_citizen 81 = .ok (.invokevirtual 153, 3) := by decide +kernel
theorem dX7_citizen_84 : decode cX7_citizen 84 = .ok (.ireturn, 1) := by decide +kernel
theorem dX7_beggar_0 : decode cX7_beggar 0 = .ok (.aload_n 0, 1) := by decide +kernel
theorem dX7_beggar_1 : decode cX7_beggar 1 = .ok (.iload_n 1, 1) := by decide +kernel
theorem dX7_beggar_2 : decode cX7_beggar 2 = .ok (.iconst 1, 1) := by decide +kernel
theorem dX7_beggar_3 : decode cX7_beggar 3 = .ok (.bipush 9, 2) := by decide +kernel
theorem dX7_beggar_5 : decode cX7_beggar 5 = .ok (.invokevirtual 149, 3) := by decide +kernel
theorem dX7_beggar_8 : decode cX7_beggar 8 = .ok (.ifCond .eq 13, 3) := by decide +kernel
theorem dX7_beggar_11 : decode cX7_beggar 11 = .ok (.aload_n 0, 1) := by decide +kernel
theorem dX7_beggar_12 : decode cX7_beggar 12 = .ok (.iload_n 2, 1) := by decide +kernel
theorem dX7_beggar_13 : decode cX7_beggar 13 = .ok (.iconst 0, 1) := by decide +kernel
theorem dX7_beggar_14 : decode cX7_beggar 14 = .ok (.iconst 4, 1) := by decide +kernel
theorem dX7_beggar_15 : decode cX7_beggar 15 = .ok (.invokevirtual 149, 3) := by decide +kernel
theorem dX7_beggar_18 : decode cX7_beggar 18 = .ok (.ifCond .ne 10, 3) := by decide +kernel
theorem dX7_beggar_21 : decode cX7_beggar 21 = .ok (.aload_n 0, 1) := by decide +kernel
theorem dX7_beggar_22 : decode cX7_beggar 22 = .ok (.bipush (-6), 2) := by decide +kernel
theorem dX7_beggar_24 : decode cX7_beggar 24 = .ok (.invokevirtual 139, 3) := by decide +kernel
theorem dX7_beggar_27 : decode cX7_beggar 27 = .ok (.ireturn, 1) := by decide +kernel
theorem dX7_beggar_28 : decode cX7_beggar 28 = .ok (.aload_n 0, 1) := by decide +kernel
theorem dX7_beggar_29 : decode cX7_beggar 29 = .ok (.getfield 132, 3) := by decide +kernel
theorem dX7_beggar_32 : decode cX7_beggar 32 = .ok (.bipush 6, 2) := by decide +kernel
theorem dX7_beggar_34 : decode cX7_beggar 34 = .ok (.if_icmp .ne 12, 3) := by decide +kernel
theorem dX7_beggar_37 : decode cX7_beggar 37 = .ok (.aload_n 0, 1) := by decide +kernel
theorem dX7_beggar_38 : decode cX7_beggar 38 = .ok (.bipush (-7), 2) := by decide +kernel
theorem dX7_beggar_40 : decode cX7_beggar 40 = .ok (.invokevirtual 139, 3) := by decide +kernel
theorem dX7_beggar_43 : decode cX7_beggar 43 = .ok (.goto 9, 3) := by decide +kernel
theorem dX7_beggar_46 : decode cX7_beggar 46 = .ok (.aload_n 0, 1) := by decide +kernel
theorem dX7_beggar_47 : decode cX7_beggar 47 = .ok (.iload_n 1, 1) := by decide +kernel
