abbrev cc_La : ByteArray := code
theorem dd_La_0 : decode cc_La 0 = .ok (.new 7, 3) := by decide +kernel
theorem dd_La_3 : decode cc_La 3 = .ok (.dup, 1) := by decide +kernel
theorem dd_La_4 : decode cc_La 4 = .ok (.invokespecial 9, 3) := by decide +kernel
theorem dd_La_7 : decode cc_La 7 = .ok (.astore_n 1, 1) := by decide +kernel
theorem dd_La_8 : decode cc_La 8 = .ok (.new 10, 3) := by decide +kernel
theorem dd_La_11 : decode cc_La 11 = .ok (.dup, 1) := by decide +kernel
theorem dd_La_12 : decode cc_La 12 = .ok (.invokespecial 12, 3) := by decide +kernel
theorem dd_La_15 : decode cc_La 15 = .ok (.astore_n 2, 1) := by decide +kernel
theorem dd_La_16 : decode cc_La 16 = .ok (.iconst 0, 1) := by decide +kernel
theorem dd_La_17 : decode cc_La 17 = .ok (.istore_n 3, 1) := by decide +kernel
theorem dd_La_18 : decode cc_La 18 = .ok (.iload_n 3, 1) := by decide +kernel
theorem dd_La_19 : decode cc_La 19 = .ok (.aload_n 0, 1) := by decide +kernel
theorem dd_La_20 : decode cc_La 20 = .ok (.arraylength, 1) := by decide +kernel
theorem dd_La_21 : decode cc_La 21 = .ok (.bipush 6, 2) := by decide +kernel
theorem dd_La_23 : decode cc_La 23 = .ok (.isub, 1) := by decide +kernel
theorem dd_La_24 : decode cc_La 24 = .ok (.if_icmp .gt 805, 3) := by decide +kernel
theorem dd_La_27 : decode cc_La 27 = .ok (.aload_n 0, 1) := by decide +kernel
theorem dd_La_28 : decode cc_La 28 = .ok (.iload_n 3, 1) := by decide +kernel
theorem dd_La_29 : decode cc_La 29 = .ok (.iaload, 1) := by decide +kernel
theorem dd_La_30 : decode cc_La 30 = .ok (.bipush 31, 2) := by decide +kernel
theorem dd_La_32 : decode cc_La 32 = .ok (.iand, 1) := by decide +kernel
theorem dd_La_33 : decode cc_La 33 = .ok (.tableswitch 790 0 18 #[91, 124, 167, 210, 273, 316, 349, 382, 415, 448, 492, 516, 549, 582, 625, 658, 681, 704, 767], 91) := by decide +kernel
theorem dd_La_124 : decode cc_La 124 = .ok (.aload_n 1, 1) := by decide +kernel
theorem dd_La_125 : decode cc_La 125 = .ok (.aload_n 0, 1) := by decide +kernel
theorem dd_La_126 : decode cc_La 126 = .ok (.iload_n 3, 1) := by decide +kernel
theorem dd_La_127 : decode cc_La 127 = .ok (.iconst 1, 1) := by decide +kernel
theorem dd_La_128 : decode cc_La 128 = .ok (.iadd, 1) := by decide +kernel
theorem dd_La_129 : decode cc_La 129 = .ok (.iaload, 1) := by decide +kernel
theorem dd_La_130 : decode cc_La 130 = .ok (.aload_n 0, 1) := by decide +kernel
theorem dd_La_131 : decode cc_La 131 = .ok (.iload_n 3, 1) := by decide +kernel
theorem dd_La_132 : decode cc_La 132 = .ok (.iconst 2, 1) := by decide +kernel
theorem dd_La_133 : decode cc_La 133 = .ok (.iadd, 1) := by decide +kernel
theorem dd_La_134 : decode cc_La 134 = .ok (.iaload, 1) := by decide +kernel
theorem dd_La_135 : decode cc_La 135 = .ok (.invokevirtual 13, 3) := by decide +kernel
theorem dd_La_138 : decode cc_La 138 = .ok (.aload_n 2, 1) := by decide +kernel
theorem dd_La_139 : decode cc_La 139 = .ok (.aload_n 0, 1) := by decide +kernel
theorem dd_La_140 : decode cc_La 140 = .ok (.iload_n 3, 1) := by decide +kernel
theorem dd_La_141 : decode cc_La 141 = .ok (.iconst 1, 1) := by decide +kernel
theorem dd_La_142 : decode cc_La 142 = .ok (.iadd, 1) := by decide +kernel
theorem dd_La_143 : decode cc_La 143 = .ok (.iaload, 1) := by decide +kernel
theorem dd_La_144 : decode cc_La 144 = .ok (.aload_n 0, 1) := by decide +kernel
theorem dd_La_145 : decode cc_La 145 = .ok (.iload_n 3, 1) := by decide +kernel
theorem dd_La_146 : decode cc_La 146 = .ok (.iconst 2, 1) := by decide +kernel
theorem dd_La_147 : decode cc_La 147 = .ok (.iadd, 1) := by decide +kernel
theorem dd_La_148 : decode cc_La 148 = .ok (.iaload, 1) := by decide +kernel
theorem dd_La_149 : decode cc_La 149 = .ok (.invokevirtual 17, 3) := by decide +kernel
theorem dd_La_152 : decode cc_La 152 = .ok (.if_icmp .eq 671, 3) := by decide +kernel
theorem dd_La_155 : decode cc_La 155 = .ok (.iconst 0, 1) := by decide +kernel
theorem dd_La_156 : decode cc_La 156 = .ok (.ireturn, 1) := by decide +kernel
theorem dd_La_157 : decode cc_La 157 = .ok (.aload_n 1, 1) := by decide +kernel
theorem dd_La_158 : decode cc_La 158 = .ok (.aload_n 0, 1) := by decide +kernel
theorem dd_La_159 : decode cc_La 159 = .ok (.iload_n 3, 1) := by decide +kernel
theorem dd_La_160 : decode cc_La 160 = .ok (.iconst 1, 1) := by decide +kernel
theorem dd_La_161 : decode cc_La 161 = .ok (.iadd, 1) := by decide +kernel
theorem dd_La_162 : decode cc_La 162 = .ok (.iaload, 1) := by decide +kernel
theorem dd_La_163 : decode cc_La 163 = .ok (.aload_n 0, 1) := by decide +kernel
theorem dd_La_164 : decode cc_La 164 = .ok (.iload_n 3, 1) := by decide +kernel
theorem dd_La_165 : decode cc_La 165 = .ok (.iconst 2, 1) := by decide +kernel
theorem dd_La_166 : decode cc_La 166 = .ok (.iadd, 1) := by decide +kernel
theorem dd_La_167 : decode cc_La 167 = .ok (.iaload, 1) := by decide +kernel
theorem dd_La_168 : decode cc_La 168 = .ok (.aload_n 0, 1) := by decide +kernel
theorem dd_La_169 : decode cc_La 169 = .ok (.iload_n 3, 1) := by decide +kernel
theorem dd_La_170 : decode cc_La 170 = .ok (.iconst 3, 1) := by decide +kernel
theorem dd_La_171 : decode cc_La 171 = .ok (.iadd, 1) := by decide +kernel
theorem dd_La_172 : decode cc_La 172 = .ok (.iaload, 1) := by decide +kernel
theorem dd_La_173 : decode cc_La 173 = .ok (.invokevirtual 18, 3) := by decide +kernel
theorem dd_La_176 : decode cc_La 176 = .ok (.aload_n 2, 1) := by decide +kernel
theorem dd_La_177 : decode cc_La 177 = .ok (.aload_n 0, 1) := by decide +kernel
theorem dd_La_178 : decode cc_La 178 = .ok (.iload_n 3, 1) := by decide +kernel
theorem dd_La_179 : decode cc_La 179 = .ok (.iconst 1, 1) := by decide +kernel
theorem dd_La_180 : decode cc_La 180 = .ok (.iadd, 1) := by decide +kernel
theorem dd_La_181 : decode cc_La 181 = .ok (.iaload, 1) := by decide +kernel
theorem dd_La_182 : decode cc_La 182 = .ok (.aload_n 0, 1) := by decide +kernel
theorem dd_La_183 : decode cc_La 183 = .ok (.iload_n 3, 1) := by decide +kernel
theorem dd_La_184 : decode cc_La 184 = .ok (.iconst 2, 1) := by decide +kernel
theorem dd_La_185 : decode cc_La 185 = .ok (.iadd, 1) := by decide +kernel
theorem dd_La_186 : decode cc_La 186 = .ok (.iaload, 1) := by decide +kernel
theorem dd_La_187 : decode cc_La 187 = .ok (.aload_n 0, 1) := by decide +kernel
theorem dd_La_188 : decode cc_La 188 = .ok (.iload_n 3, 1) := by decide +kernel
theorem dd_La_189 : decode cc_La 189 = .ok (.iconst 3, 1) := by decide +kernel
theorem dd_La_190 : decode cc_La 190 = .ok (.iadd, 1) := by decide +kernel
theorem dd_La_191 : decode cc_La 191 = .ok (.iaload, 1) := by decide +kernel
theorem dd_La_192 : decode cc_La 192 = .ok (.invokevirtual 22, 3) := by decide +kernel
theorem dd_La_195 : decode cc_La 195 = .ok (.if_icmp .eq 628, 3) := by decide +kernel
theorem dd_La_198 : decode cc_La 198 = .ok (.iconst 0, 1) := by decide +kernel
theorem dd_La_199 : decode cc_La 199 = .ok (.ireturn, 1) := by decide +kernel
theorem dd_La_200 : decode cc_La 200 = .ok (.aload_n 1, 1) := by decide +kernel
theorem dd_La_201 : decode cc_La 201 = .ok (.aload_n 0, 1) := by decide +kernel
theorem dd_La_202 : decode cc_La 202 = .ok (.iload_n 3, 1) := by decide +kernel
theorem dd_La_203 : decode cc_La 203 = .ok (.iconst 1, 1) := by decide +kernel
theorem dd_La_204 : decode cc_La 204 = .ok (.iadd, 1) := by decide +kernel
theorem dd_La_205 : decode cc_La 205 = .ok (.iaload, 1) := by decide +kernel
theorem dd_La_206 : decode cc_La 206 = .ok (.aload_n 0, 1) := by decide +kernel
theorem dd_La_207 : decode cc_La 207 = .ok (.iload_n 3, 1) := by decide +kernel
theorem dd_La_208 : decode cc_La 208 = .ok (.iconst 2, 1) := by decide +kernel
theorem dd_La_209 : decode cc_La 209 = .ok (.iadd, 1) := by decide +kernel
theorem dd_La_210 : decode cc_La 210 = .ok (.iaload, 1) := by decide +kernel
theorem dd_La_211 : decode cc_La 211 = .ok (.aload_n 0, 1) := by decide +kernel
theorem dd_La_212 : decode cc_La 212 = .ok (.iload_n 3, 1) := by decide +kernel
theorem dd_La_213 : decode cc_La 213 = .ok (.iconst 3, 1) := by decide +kernel
theorem dd_La_214 : decode cc_La 214 = .ok (.iadd, 1) := by decide +kernel
theorem dd_La_215 : decode cc_La 215 = .ok (.iaload, 1) := by decide +kernel
theorem dd_La_216 : decode cc_La 216 = .ok (.invokevirtual 23, 3) := by decide +kernel
theorem dd_La_219 : decode cc_La 219 = .ok (.aload_n 2, 1) := by decide +kernel
theorem dd_La_220 : decode cc_La 220 = .ok (.aload_n 0, 1) := by decide +kernel
theorem dd_La_221 : decode cc_La 221 = .ok (.iload_n 3, 1) := by decide +kernel
theorem dd_La_222 : decode cc_La 222 = .ok (.iconst 1, 1) := by decide +kernel
theorem dd_La_223 : decode cc_La 223 = .ok (.iadd, 1) := by decide +kernel
theorem dd_La_224 : decode cc_La 224 = .ok (.iaload, 1) := by decide +kernel
theorem dd_La_225 : decode cc_La 225 = .ok (.aload_n 0, 1) := by decide +kernel
theorem dd_La_226 : decode cc_La 226 = .ok (.iload_n 3, 1) := by decide +kernel
theorem dd_La_227 : decode cc_La 227 = .ok (.iconst 2, 1) := by decide +kernel
theorem dd_La_228 : decode cc_La 228 = .ok (.iadd, 1) := by decide +kernel
theorem dd_La_229 : decode cc_La 229 = .ok (.iaload, 1) := by decide +kernel
theorem dd_La_230 : decode cc_La 230 = .ok (.aload_n 0, 1) := by decide +kernel
theorem dd_La_231 : decode cc_La 231 = .ok (.iload_n 3, 1) := by decide +kernel
theorem dd_La_232 : decode cc_La 232 = .ok (.iconst 3, 1) := by decide +kernel
theorem dd_La_233 : decode cc_La 233 = .ok (.iadd, 1) := by decide +kernel
theorem dd_La_234 : decode cc_La 234 = .ok (.iaload, 1) := by decide +kernel
theorem dd_La_235 : decode cc_La 235 = .ok (.invokevirtual 26, 3) := by decide +kernel
theorem dd_La_238 : decode cc_La 238 = .ok (.if_icmp .eq 585, 3) := by decide +kernel
theorem dd_La_241 : decode cc_La 241 = .ok (.iconst 0, 1) := by decide +kernel
theorem dd_La_242 : decode cc_La 242 = .ok (.ireturn, 1) := by decide +kernel
theorem dd_La_243 : decode cc_La 243 = .ok (.aload_n 1, 1) := by decide +kernel
theorem dd_La_244 : decode cc_La 244 = .ok (.aload_n 0, 1) := by decide +kernel
theorem dd_La_245 : decode cc_La 245 = .ok (.iload_n 3, 1) := by decide +kernel
theorem dd_La_246 : decode cc_La 246 = .ok (.iconst 1, 1) := by decide +kernel
theorem dd_La_247 : decode cc_La 247 = .ok (.iadd, 1) := by decide +kernel
theorem dd_La_248 : decode cc_La 248 = .ok (.iaload, 1) := by decide +kernel
theorem dd_La_249 : decode cc_La 249 = .ok (.aload_n 0, 1) := by decide +kernel
theorem dd_La_250 : decode cc_La 250 = .ok (.iload_n 3, 1) := by decide +kernel
theorem dd_La_251 : decode cc_La 251 = .ok (.iconst 2, 1) := by decide +kernel
theorem dd_La_252 : decode cc_La 252 = .ok (.iadd, 1) := by decide +kernel
theorem dd_La_253 : decode cc_La 253 = .ok (.iaload, 1) := by decide +kernel
theorem dd_La_254 : decode cc_La 254 = .ok (.aload_n 0, 1) := by decide +kernel
theorem dd_La_255 : decode cc_La 255 = .ok (.iload_n 3, 1) := by decide +kernel
theorem dd_La_256 : decode cc_La 256 = .ok (.iconst 3, 1) := by decide +kernel
theorem dd_La_257 : decode cc_La 257 = .ok (.iadd, 1) := by decide +kernel
theorem dd_La_258 : decode cc_La 258 = .ok (.iaload, 1) := by decide +kernel
theorem dd_La_259 : decode cc_La 259 = .ok (.aload_n 0, 1) := by decide +kernel
theorem dd_La_260 : decode cc_La 260 = .ok (.iload_n 3, 1) := by decide +kernel
theorem dd_La_261 : decode cc_La 261 = .ok (.iconst 4, 1) := by decide +kernel
theorem dd_La_262 : decode cc_La 262 = .ok (.iadd, 1) := by decide +kernel
theorem dd_La_263 : decode cc_La 263 = .ok (.iaload, 1) := by decide +kernel
theorem dd_La_264 : decode cc_La 264 = .ok (.aload_n 0, 1) := by decide +kernel
theorem dd_La_265 : decode cc_La 265 = .ok (.iload_n 3, 1) := by decide +kernel
theorem dd_La_266 : decode cc_La 266 = .ok (.iconst 5, 1) := by decide +kernel
theorem dd_La_267 : decode cc_La 267 = .ok (.iadd, 1) := by decide +kernel
theorem dd_La_268 : decode cc_La 268 = .ok (.iaload, 1) := by decide +kernel
theorem dd_La_269 : decode cc_La 269 = .ok (.invokevirtual 27, 3) := by decide +kernel
theorem dd_La_272 : decode cc_La 272 = .ok (.aload_n 2, 1) := by decide +kernel
theorem dd_La_273 : decode cc_La 273 = .ok (.aload_n 0, 1) := by decide +kernel
theorem dd_La_274 : decode cc_La 274 = .ok (.iload_n 3, 1) := by decide +kernel
theorem dd_La_275 : decode cc_La 275 = .ok (.iconst 1, 1) := by decide +kernel
theorem dd_La_276 : decode cc_La 276 = .ok (.iadd, 1) := by decide +kernel
theorem dd_La_277 : decode cc_La 277 = .ok (.iaload, 1) := by decide +kernel
theorem dd_La_278 : decode cc_La 278 = .ok (.aload_n 0, 1) := by decide +kernel
theorem dd_La_279 : decode cc_La 279 = .ok (.iload_n 3, 1) := by decide +kernel
theorem dd_La_280 : decode cc_La 280 = .ok (.iconst 2, 1) := by decide +kernel
theorem dd_La_281 : decode cc_La 281 = .ok (.iadd, 1) := by decide +kernel
theorem dd_La_282 : decode cc_La 282 = .ok (.iaload, 1) := by decide +kernel
theorem dd_La_283 : decode cc_La 283 = .ok (.aload_n 0, 1) := by decide +kernel
theorem dd_La_284 : decode cc_La 284 = .ok (.iload_n 3, 1) := by decide +kernel
theorem dd_La_285 : decode cc_La 285 = .ok (.iconst 3, 1) := by decide +kernel
theorem dd_La_286 : decode cc_La 286 = .ok (.iadd, 1) := by decide +kernel
theorem dd_La_287 : decode cc_La 287 = .ok (.iaload, 1) := by decide +kernel
theorem dd_La_288 : decode cc_La 288 = .ok (.aload_n 0, 1) := by decide +kernel
theorem dd_La_289 : decode cc_La 289 = .ok (.iload_n 3, 1) := by decide +kernel
theorem dd_La_290 : decode cc_La 290 = .ok (.iconst 4, 1) := by decide +kernel
theorem dd_La_291 : decode cc_La 291 = .ok (.iadd, 1) := by decide +kernel
theorem dd_La_292 : decode cc_La 292 = .ok (.iaload, 1) := by decide +kernel
theorem dd_La_293 : decode cc_La 293 = .ok (.aload_n 0, 1) := by decide +kernel
theorem dd_La_294 : decode cc_La 294 = .ok (.iload_n 3, 1) := by decide +kernel
theorem dd_La_295 : decode cc_La 295 = .ok (.iconst 5, 1) := by decide +kernel
theorem dd_La_296 : decode cc_La 296 = .ok (.iadd, 1) := by decide +kernel
theorem dd_La_297 : decode cc_La 297 = .ok (.iaload, 1) := by decide +kernel
theorem dd_La_298 : decode cc_La 298 = .ok (.invokevirtual 31, 3) := by decide +kernel
theorem dd_La_301 : decode cc_La 301 = .ok (.if_icmp .eq 522, 3) := by decide +kernel
theorem dd_La_304 : decode cc_La 304 = .ok (.iconst 0, 1) := by decide +kernel
theorem dd_La_305 : decode cc_La 305 = .ok (.ireturn, 1) := by decide +kernel
theorem dd_La_306 : decode cc_La 306 = .ok (.aload_n 1, 1) := by decide +kernel
theorem dd_La_307 : decode cc_La 307 = .ok (.aload_n 0, 1) := by decide +kernel
theorem dd_La_308 : decode cc_La 308 = .ok (.iload_n 3, 1) := by decide +kernel
theorem dd_La_309 : decode cc_La 309 = .ok (.iconst 1, 1) := by decide +kernel
theorem dd_La_310 : decode cc_La 310 = .ok (.iadd, 1) := by decide +kernel
theorem dd_La_311 : decode cc_La 311 = .ok (.iaload, 1) := by decide +kernel
theorem dd_La_312 : decode cc_La 312 = .ok (.aload_n 0, 1) := by decide +kernel
theorem dd_La_313 : decode cc_La 313 = .ok (.iload_n 3, 1) := by decide +kernel
theorem dd_La_314 : decode cc_La 314 = .ok (.iconst 2, 1) := by decide +kernel
theorem dd_La_315 : decode cc_La 315 = .ok (.iadd, 1) := by decide +kernel
theorem dd_La_316 : decode cc_La 316 = .ok (.iaload, 1) := by decide +kernel
theorem dd_La_317 : decode cc_La 317 = .ok (.aload_n 0, 1) := by decide +kernel
theorem dd_La_318 : decode cc_La 318 = .ok (.iload_n 3, 1) := by decide +kernel
theorem dd_La_319 : decode cc_La 319 = .ok (.iconst 3, 1) := by decide +kernel
theorem dd_La_320 : decode cc_La 320 = .ok (.iadd, 1) := by decide +kernel
theorem dd_La_321 : decode cc_La 321 = .ok (.iaload, 1) := by decide +kernel
theorem dd_La_322 : decode cc_La 322 = .ok (.invokevirtual 32, 3) := by decide +kernel
theorem dd_La_325 : decode cc_La 325 = .ok (.aload_n 2, 1) := by decide +kernel
theorem dd_La_326 : decode cc_La 326 = .ok (.aload_n 0, 1) := by decide +kernel
theorem dd_La_327 : decode cc_La 327 = .ok (.iload_n 3, 1) := by decide +kernel
theorem dd_La_328 : decode cc_La 328 = .ok (.iconst 1, 1) := by decide +kernel
theorem dd_La_329 : decode cc_La 329 = .ok (.iadd, 1) := by decide +kernel
theorem dd_La_330 : decode cc_La 330 = .ok (.iaload, 1) := by decide +kernel
theorem dd_La_331 : decode cc_La 331 = .ok (.aload_n 0, 1) := by decide +kernel
theorem dd_La_332 : decode cc_La 332 = .ok (.iload_n 3, 1) := by decide +kernel
theorem dd_La_333 : decode cc_La 333 = .ok (.iconst 2, 1) := by decide +kernel
theorem dd_La_334 : decode cc_La 334 = .ok (.iadd, 1) := by decide +kernel
theorem dd_La_335 : decode cc_La 335 = .ok (.iaload, 1) := by decide +kernel
theorem dd_La_336 : decode cc_La 336 = .ok (.aload_n 0, 1) := by decide +kernel
theorem dd_La_337 : decode cc_La 337 = .ok (.iload_n 3, 1) := by decide +kernel
theorem dd_La_338 : decode cc_La 338 = .ok (.iconst 3, 1) := by decide +kernel
theorem dd_La_339 : decode cc_La 339 = .ok (.iadd, 1) := by decide +kernel
theorem dd_La_340 : decode cc_La 340 = .ok (.iaload, 1) := by decide +kernel
theorem dd_La_341 : decode cc_La 341 = .ok (.invokevirtual 36, 3) := by decide +kernel
theorem dd_La_344 : decode cc_La 344 = .ok (.if_icmp .eq 479, 3) := by decide +kernel
theorem dd_La_347 : decode cc_La 347 = .ok (.iconst 0, 1) := by decide +kernel
theorem dd_La_348 : decode cc_La 348 = .ok (.ireturn, 1) := by decide +kernel
theorem dd_La_349 : decode cc_La 349 = .ok (.aload_n 1, 1) := by decide +kernel
theorem dd_La_350 : decode cc_La 350 = .ok (.aload_n 0, 1) := by decide +kernel
theorem dd_La_351 : decode cc_La 351 = .ok (.iload_n 3, 1) := by decide +kernel
theorem dd_La_352 : decode cc_La 352 = .ok (.iconst 1, 1) := by decide +kernel
theorem dd_La_353 : decode cc_La 353 = .ok (.iadd, 1) := by decide +kernel
theorem dd_La_354 : decode cc_La 354 = .ok (.iaload, 1) := by decide +kernel
theorem dd_La_355 : decode cc_La 355 = .ok (.aload_n 0, 1) := by decide +kernel
theorem dd_La_356 : decode cc_La 356 = .ok (.iload_n 3, 1) := by decide +kernel
theorem dd_La_357 : decode cc_La 357 = .ok (.iconst 2, 1) := by decide +kernel
theorem dd_La_358 : decode cc_La 358 = .ok (.iadd, 1) := by decide +kernel
theorem dd_La_359 : decode cc_La 359 = .ok (.iaload, 1) := by decide +kernel
theorem dd_La_360 : decode cc_La 360 = .ok (.invokevirtual 37, 3) := by decide +kernel
theorem dd_La_363 : decode cc_La 363 = .ok (.aload_n 2, 1) := by decide +kernel
theorem dd_La_364 : decode cc_La 364 = .ok (.aload_n 0, 1) := by decide +kernel
theorem dd_La_365 : decode cc_La 365 = .ok (.iload_n 3, 1) := by decide +kernel
theorem dd_La_366 : decode cc_La 366 = .ok (.iconst 1, 1) := by decide +kernel
theorem dd_La_367 : decode cc_La 367 = .ok (.iadd, 1) := by decide +kernel
theorem dd_La_368 : decode cc_La 368 = .ok (.iaload, 1) := by decide +kernel
theorem dd_La_369 : decode cc_La 369 = .ok (.aload_n 0, 1) := by decide +kernel
theorem dd_La_370 : decode cc_La 370 = .ok (.iload_n 3, 1) := by decide +kernel
theorem dd_La_371 : decode cc_La 371 = .ok (.iconst 2, 1) := by decide +kernel
theorem dd_La_372 : decode cc_La 372 = .ok (.iadd, 1) := by decide +kernel
theorem dd_La_373 : decode cc_La 373 = .ok (.iaload, 1) := by decide +kernel
theorem dd_La_374 : decode cc_La 374 = .ok (.invokevirtual 41, 3) := by decide +kernel
theorem dd_La_377 : decode cc_La 377 = .ok (.if_icmp .eq 446, 3) := by decide +kernel
theorem dd_La_380 : decode cc_La 380 = .ok (.iconst 0, 1) := by decide +kernel
theorem dd_La_381 : decode cc_La 381 = .ok (.ireturn, 1) := by decide +kernel
theorem dd_La_382 : decode cc_La 382 = .ok (.aload_n 1, 1) := by decide +kernel
theorem dd_La_383 : decode cc_La 383 = .ok (.aload_n 0, 1) := by decide +kernel
theorem dd_La_384 : decode cc_La 384 = .ok (.iload_n 3, 1) := by decide +kernel
theorem dd_La_385 : decode cc_La 385 = .ok (.iconst 1, 1) := by decide +kernel
theorem dd_La_386 : decode cc_La 386 = .ok (.iadd, 1) := by decide +kernel
theorem dd_La_387 : decode cc_La 387 = .ok (.iaload, 1) := by decide +kernel
theorem dd_La_388 : decode cc_La 388 = .ok (.aload_n 0, 1) := by decide +kernel
theorem dd_La_389 : decode cc_La 389 = .ok (.iload_n 3, 1) := by decide +kernel
theorem dd_La_390 : decode cc_La 390 = .ok (.iconst 2, 1) := by decide +kernel
theorem dd_La_391 : decode cc_La 391 = .ok (.iadd, 1) := by decide +kernel
theorem dd_La_392 : decode cc_La 392 = .ok (.iaload, 1) := by decide +kernel
theorem dd_La_393 : decode cc_La 393 = .ok (.invokevirtual 42, 3) := by decide +kernel
theorem dd_La_396 : decode cc_La 396 = .ok (.aload_n 2, 1) := by decide +kernel
theorem dd_La_397 : decode cc_La 397 = .ok (.aload_n 0, 1) := by decide +kernel
theorem dd_La_398 : decode cc_La 398 = .ok (.iload_n 3, 1) := by decide +kernel
theorem dd_La_399 : decode cc_La 399 = .ok (.iconst 1, 1) := by decide +kernel
theorem dd_La_400 : decode cc_La 400 = .ok (.iadd, 1) := by decide +kernel
theorem dd_La_401 : decode cc_La 401 = .ok (.iaload, 1) := by decide +kernel
theorem dd_La_402 : decode cc_La 402 = .ok (.aload_n 0, 1) := by decide +kernel
theorem dd_La_403 : decode cc_La 403 = .ok (.iload_n 3, 1) := by decide +kernel
theorem dd_La_404 : decode cc_La 404 = .ok (.iconst 2, 1) := by decide +kernel
theorem dd_La_405 : decode cc_La 405 = .ok (.iadd, 1) := by decide +kernel
theorem dd_La_406 : decode cc_La 406 = .ok (.iaload, 1) := by decide +kernel
theorem dd_La_407 : decode cc_La 407 = .ok (.invokevirtual 45, 3) := by decide +kernel
theorem dd_La_410 : decode cc_La 410 = .ok (.if_icmp .eq 413, 3) := by decide +kernel
theorem dd_La_413 : decode cc_La 413 = .ok (.iconst 0, 1) := by decide +kernel
theorem dd_La_414 : decode cc_La 414 = .ok (.ireturn, 1) := by decide +kernel
theorem dd_La_415 : decode cc_La 415 = .ok (.aload_n 1, 1) := by decide +kernel
theorem dd_La_416 : decode cc_La 416 = .ok (.aload_n 0, 1) := by decide +kernel
theorem dd_La_417 : decode cc_La 417 = .ok (.iload_n 3, 1) := by decide +kernel
theorem dd_La_418 : decode cc_La 418 = .ok (.iconst 1, 1) := by decide +kernel
theorem dd_La_419 : decode cc_La 419 = .ok (.iadd, 1) := by decide +kernel
theorem dd_La_420 : decode cc_La 420 = .ok (.iaload, 1) := by decide +kernel
theorem dd_La_421 : decode cc_La 421 = .ok (.aload_n 0, 1) := by decide +kernel
theorem dd_La_422 : decode cc_La 422 = .ok (.iload_n 3, 1) := by decide +kernel
theorem dd_La_423 : decode cc_La 423 = .ok (.iconst 2, 1) := by decide +kernel
theorem dd_La_424 : decode cc_La 424 = .ok (.iadd, 1) := by decide +kernel
theorem dd_La_425 : decode cc_La 425 = .ok (.iaload, 1) := by decide +kernel
theorem dd_La_426 : decode cc_La 426 = .ok (.invokevirtual 46, 3) := by decide +kernel
theorem dd_La_429 : decode cc_La 429 = .ok (.aload_n 2, 1) := by decide +kernel
theorem dd_La_430 : decode cc_La 430 = .ok (.aload_n 0, 1) := by decide +kernel
theorem dd_La_431 : decode cc_La 431 = .ok (.iload_n 3, 1) := by decide +kernel
theorem dd_La_432 : decode cc_La 432 = .ok (.iconst 1, 1) := by decide +kernel
theorem dd_La_433 : decode cc_La 433 = .ok (.iadd, 1) := by decide +kernel
theorem dd_La_434 : decode cc_La 434 = .ok (.iaload, 1) := by decide +kernel
theorem dd_La_435 : decode cc_La 435 = .ok (.aload_n 0, 1) := by decide +kernel
theorem dd_La_436 : decode cc_La 436 = .ok (.iload_n 3, 1) := by decide +kernel
theorem dd_La_437 : decode cc_La 437 = .ok (.iconst 2, 1) := by decide +kernel
theorem dd_La_438 : decode cc_La 438 = .ok (.iadd, 1) := by decide +kernel
theorem dd_La_439 : decode cc_La 439 = .ok (.iaload, 1) := by decide +kernel
theorem dd_La_440 : decode cc_La 440 = .ok (.invokevirtual 49, 3) := by decide +kernel
theorem dd_La_443 : decode cc_La 443 = .ok (.if_icmp .eq 380, 3) := by decide +kernel
theorem dd_La_446 : decode cc_La 446 = .ok (.iconst 0, 1) := by decide +kernel
theorem dd_La_447 : decode cc_La 447 = .ok (.ireturn, 1) := by decide +kernel
theorem dd_La_448 : decode cc_La 448 = .ok (.aload_n 1, 1) := by decide +kernel
theorem dd_La_449 : decode cc_La 449 = .ok (.aload_n 0, 1) := by decide +kernel
theorem dd_La_450 : decode cc_La 450 = .ok (.iload_n 3, 1) := by decide +kernel
theorem dd_La_451 : decode cc_La 451 = .ok (.iconst 1, 1) := by decide +kernel
theorem dd_La_452 : decode cc_La 452 = .ok (.iadd, 1) := by decide +kernel
theorem dd_La_453 : decode cc_La 453 = .ok (.iaload, 1) := by decide +kernel
theorem dd_La_454 : decode cc_La 454 = .ok (.aload_n 0, 1) := by decide +kernel
theorem dd_La_455 : decode cc_La 455 = .ok (.iload_n 3, 1) := by decide +kernel
theorem dd_La_456 : decode cc_La 456 = .ok (.iconst 2, 1) := by decide +kernel
theorem dd_La_457 : decode cc_La 457 = .ok (.iadd, 1) := by decide +kernel
theorem dd_La_458 : decode cc_La 458 = .ok (.iaload, 1) := by decide +kernel
theorem dd_La_459 : decode cc_La 459 = .ok (.invokevirtual 50, 3) := by decide +kernel
theorem dd_La_462 : decode cc_La 462 = .ok (.aload_n 2, 1) := by decide +kernel
theorem dd_La_463 : decode cc_La 463 = .ok (.aload_n 0, 1) := by decide +kernel
theorem dd_La_464 : decode cc_La 464 = .ok (.iload_n 3, 1) := by decide +kernel
theorem dd_La_465 : decode cc_La 465 = .ok (.iconst 1, 1) := by decide +kernel
theorem dd_La_466 : decode cc_La 466 = .ok (.iadd, 1) := by decide +kernel
theorem dd_La_467 : decode cc_La 467 = .ok (.iaload, 1) := by decide +kernel
theorem dd_La_468 : decode cc_La 468 = .ok (.aload_n 0, 1) := by decide +kernel
theorem dd_La_469 : decode cc_La 469 = .ok (.iload_n 3, 1) := by decide +kernel
theorem dd_La_470 : decode cc_La 470 = .ok (.iconst 2, 1) := by decide +kernel
theorem dd_La_471 : decode cc_La 471 = .ok (.iadd, 1) := by decide +kernel
theorem dd_La_472 : decode cc_La 472 = .ok (.iaload, 1) := by decide +kernel
theorem dd_La_473 : decode cc_La 473 = .ok (.invokevirtual 53, 3) := by decide +kernel
theorem dd_La_476 : decode cc_La 476 = .ok (.if_icmp .eq 347, 3) := by decide +kernel
theorem dd_La_479 : decode cc_La 479 = .ok (.iconst 0, 1) := by decide +kernel
theorem dd_La_480 : decode cc_La 480 = .ok (.ireturn, 1) := by decide +kernel
theorem dd_La_481 : decode cc_La 481 = .ok (.aload_n 1, 1) := by decide +kernel
theorem dd_La_482 : decode cc_La 482 = .ok (.aload_n 0, 1) := by decide +kernel
theorem dd_La_483 : decode cc_La 483 = .ok (.iload_n 3, 1) := by decide +kernel
theorem dd_La_484 : decode cc_La 484 = .ok (.iconst 1, 1) := by decide +kernel
theorem dd_La_485 : decode cc_La 485 = .ok (.iadd, 1) := by decide +kernel
theorem dd_La_486 : decode cc_La 486 = .ok (.iaload, 1) := by decide +kernel
theorem dd_La_487 : decode cc_La 487 = .ok (.aload_n 0, 1) := by decide +kernel
theorem dd_La_488 : decode cc_La 488 = .ok (.iload_n 3, 1) := by decide +kernel
theorem dd_La_489 : decode cc_La 489 = .ok (.iconst 2, 1) := by decide +kernel
theorem dd_La_490 : decode cc_La 490 = .ok (.iadd, 1) := by decide +kernel
theorem dd_La_491 : decode cc_La 491 = .ok (.iaload, 1) := by decide +kernel
theorem dd_La_492 : decode cc_La 492 = .ok (.aload_n 0, 1) := by decide +kernel
theorem dd_La_493 : decode cc_La 493 = .ok (.iload_n 3, 1) := by decide +kernel
theorem dd_La_494 : decode cc_La 494 = .ok (.iconst 3, 1) := by decide +kernel
theorem dd_La_495 : decode cc_La 495 = .ok (.iadd, 1) := by decide +kernel
theorem dd_La_496 : decode cc_La 496 = .ok (.iaload, 1) := by decide +kernel
theorem dd_La_497 : decode cc_La 497 = .ok (.invokevirtual 54, 3) := by decide +kernel
theorem dd_La_500 : decode cc_La 500 = .ok (.aload_n 2, 1) := by decide +kernel
theorem dd_La_501 : decode cc_La 501 = .ok (.aload_n 0, 1) := by decide +kernel
theorem dd_La_502 : decode cc_La 502 = .ok (.iload_n 3, 1) := by decide +kernel
theorem dd_La_503 : decode cc_La 503 = .ok (.iconst 1, 1) := by decide +kernel
theorem dd_La_504 : decode cc_La 504 = .ok (.iadd, 1) := by decide +kernel
theorem dd_La_505 : decode cc_La 505 = .ok (.iaload, 1) := by decide +kernel
theorem dd_La_506 : decode cc_La 506 = .ok (.aload_n 0, 1) := by decide +kernel
theorem dd_La_507 : decode cc_La 507 = .ok (.iload_n 3, 1) := by decide +kernel
theorem dd_La_508 : decode cc_La 508 = .ok (.iconst 2, 1) := by decide +kernel
theorem dd_La_509 : decode cc_La 509 = .ok (.iadd, 1) := by decide +kernel
theorem dd_La_510 : decode cc_La 510 = .ok (.iaload, 1) := by decide +kernel
theorem dd_La_511 : decode cc_La 511 = .ok (.aload_n 0, 1) := by decide +kernel
theorem dd_La_512 : decode cc_La 512 = .ok (.iload_n 3, 1) := by decide +kernel
theorem dd_La_513 : decode cc_La 513 = .ok (.iconst 3, 1) := by decide +kernel
theorem dd_La_514 : decode cc_La 514 = .ok (.iadd, 1) := by decide +kernel
theorem dd_La_515 : decode cc_La 515 = .ok (.iaload, 1) := by decide +kernel
theorem dd_La_516 : decode cc_La 516 = .ok (.invokevirtual 58, 3) := by decide +kernel
theorem dd_La_519 : decode cc_La 519 = .ok (.lcmp, 1) := by decide +kernel
theorem dd_La_520 : decode cc_La 520 = .ok (.ifCond .eq 303, 3) := by decide +kernel
theorem dd_La_523 : decode cc_La 523 = .ok (.iconst 0, 1) := by decide +kernel
theorem dd_La_524 : decode cc_La 524 = .ok (.ireturn, 1) := by decide +kernel
theorem dd_La_525 : decode cc_La 525 = .ok (.aload_n 1, 1) := by decide +kernel
theorem dd_La_526 : decode cc_La 526 = .ok (.aload_n 0, 1) := by decide +kernel
theorem dd_La_527 : decode cc_La 527 = .ok (.iload_n 3, 1) := by decide +kernel
theorem dd_La_528 : decode cc_La 528 = .ok (.iconst 1, 1) := by decide +kernel
theorem dd_La_529 : decode cc_La 529 = .ok (.iadd, 1) := by decide +kernel
theorem dd_La_530 : decode cc_La 530 = .ok (.iaload, 1) := by decide +kernel
theorem dd_La_531 : decode cc_La 531 = .ok (.invokevirtual 59, 3) := by decide +kernel
theorem dd_La_534 : decode cc_La 534 = .ok (.aload_n 2, 1) := by decide +kernel
theorem dd_La_535 : decode cc_La 535 = .ok (.aload_n 0, 1) := by decide +kernel
theorem dd_La_536 : decode cc_La 536 = .ok (.iload_n 3, 1) := by decide +kernel
theorem dd_La_537 : decode cc_La 537 = .ok (.iconst 1, 1) := by decide +kernel
theorem dd_La_538 : decode cc_La 538 = .ok (.iadd, 1) := by decide +kernel
theorem dd_La_539 : decode cc_La 539 = .ok (.iaload, 1) := by decide +kernel
theorem dd_La_540 : decode cc_La 540 = .ok (.invokevirtual 63, 3) := by decide +kernel
theorem dd_La_543 : decode cc_La 543 = .ok (.lcmp, 1) := by decide +kernel
theorem dd_La_544 : decode cc_La 544 = .ok (.ifCond .eq 279, 3) := by decide +kernel
theorem dd_La_547 : decode cc_La 547 = .ok (.iconst 0, 1) := by decide +kernel
theorem dd_La_548 : decode cc_La 548 = .ok (.ireturn, 1) := by decide +kernel
theorem dd_La_549 : decode cc_La 549 = .ok (.aload_n 1, 1) := by decide +kernel
theorem dd_La_550 : decode cc_La 550 = .ok (.aload_n 0, 1) := by decide +kernel
theorem dd_La_551 : decode cc_La 551 = .ok (.iload_n 3, 1) := by decide +kernel
theorem dd_La_552 : decode cc_La 552 = .ok (.iconst 1, 1) := by decide +kernel
theorem dd_La_553 : decode cc_La 553 = .ok (.iadd, 1) := by decide +kernel
theorem dd_La_554 : decode cc_La 554 = .ok (.iaload, 1) := by decide +kernel
theorem dd_La_555 : decode cc_La 555 = .ok (.aload_n 0, 1) := by decide +kernel
theorem dd_La_556 : decode cc_La 556 = .ok (.iload_n 3, 1) := by decide +kernel
theorem dd_La_557 : decode cc_La 557 = .ok (.iconst 2, 1) := by decide +kernel
theorem dd_La_558 : decode cc_La 558 = .ok (.iadd, 1) := by decide +kernel
theorem dd_La_559 : decode cc_La 559 = .ok (.iaload, 1) := by decide +kernel
theorem dd_La_560 : decode cc_La 560 = .ok (.invokevirtual 64, 3) := by decide +kernel
theorem dd_La_563 : decode cc_La 563 = .ok (.aload_n 2, 1) := by decide +kernel
theorem dd_La_564 : decode cc_La 564 = .ok (.aload_n 0, 1) := by decide +kernel
theorem dd_La_565 : decode cc_La 565 = .ok (.iload_n 3, 1) := by decide +kernel
theorem dd_La_566 : decode cc_La 566 = .ok (.iconst 1, 1) := by decide +kernel
theorem dd_La_567 : decode cc_La 567 = .ok (.iadd, 1) := by decide +kernel
theorem dd_La_568 : decode cc_La 568 = .ok (.iaload, 1) := by decide +kernel
theorem dd_La_569 : decode cc_La 569 = .ok (.aload_n 0, 1) := by decide +kernel
theorem dd_La_570 : decode cc_La 570 = .ok (.iload_n 3, 1) := by decide +kernel
theorem dd_La_571 : decode cc_La 571 = .ok (.iconst 2, 1) := by decide +kernel
theorem dd_La_572 : decode cc_La 572 = .ok (.iadd, 1) := by decide +kernel
theorem dd_La_573 : decode cc_La 573 = .ok (.iaload, 1) := by decide +kernel
theorem dd_La_574 : decode cc_La 574 = .ok (.invokevirtual 67, 3) := by decide +kernel
theorem dd_La_577 : decode cc_La 577 = .ok (.if_icmp .eq 246, 3) := by decide +kernel
theorem dd_La_580 : decode cc_La 580 = .ok (.iconst 0, 1) := by decide +kernel
theorem dd_La_581 : decode cc_La 581 = .ok (.ireturn, 1) := by decide +kernel
theorem dd_La_582 : decode cc_La 582 = .ok (.aload_n 1, 1) := by decide +kernel
theorem dd_La_583 : decode cc_La 583 = .ok (.aload_n 0, 1) := by decide +kernel
theorem dd_La_584 : decode cc_La 584 = .ok (.iload_n 3, 1) := by decide +kernel
theorem dd_La_585 : decode cc_La 585 = .ok (.iconst 1, 1) := by decide +kernel
theorem dd_La_586 : decode cc_La 586 = .ok (.iadd, 1) := by decide +kernel
theorem dd_La_587 : decode cc_La 587 = .ok (.iaload, 1) := by decide +kernel
theorem dd_La_588 : decode cc_La 588 = .ok (.aload_n 0, 1) := by decide +kernel
theorem dd_La_589 : decode cc_La 589 = .ok (.iload_n 3, 1) := by decide +kernel
theorem dd_La_590 : decode cc_La 590 = .ok (.iconst 2, 1) := by decide +kernel
theorem dd_La_591 : decode cc_La 591 = .ok (.iadd, 1) := by decide +kernel
theorem dd_La_592 : decode cc_La 592 = .ok (.iaload, 1) := by decide +kernel
theorem dd_La_593 : decode cc_La 593 = .ok (.invokevirtual 68, 3) := by decide +kernel
theorem dd_La_596 : decode cc_La 596 = .ok (.aload_n 2, 1) := by decide +kernel
theorem dd_La_597 : decode cc_La 597 = .ok (.aload_n 0, 1) := by decide +kernel
theorem dd_La_598 : decode cc_La 598 = .ok (.iload_n 3, 1) := by decide +kernel
theorem dd_La_599 : decode cc_La 599 = .ok (.iconst 1, 1) := by decide +kernel
theorem dd_La_600 : decode cc_La 600 = .ok (.iadd, 1) := by decide +kernel
theorem dd_La_601 : decode cc_La 601 = .ok (.iaload, 1) := by decide +kernel
theorem dd_La_602 : decode cc_La 602 = .ok (.aload_n 0, 1) := by decide +kernel
theorem dd_La_603 : decode cc_La 603 = .ok (.iload_n 3, 1) := by decide +kernel
theorem dd_La_604 : decode cc_La 604 = .ok (.iconst 2, 1) := by decide +kernel
theorem dd_La_605 : decode cc_La 605 = .ok (.iadd, 1) := by decide +kernel
theorem dd_La_606 : decode cc_La 606 = .ok (.iaload, 1) := by decide +kernel
theorem dd_La_607 : decode cc_La 607 = .ok (.invokevirtual 71, 3) := by decide +kernel
theorem dd_La_610 : decode cc_La 610 = .ok (.if_icmp .eq 213, 3) := by decide +kernel
theorem dd_La_613 : decode cc_La 613 = .ok (.iconst 0, 1) := by decide +kernel
theorem dd_La_614 : decode cc_La 614 = .ok (.ireturn, 1) := by decide +kernel
theorem dd_La_615 : decode cc_La 615 = .ok (.aload_n 1, 1) := by decide +kernel
theorem dd_La_616 : decode cc_La 616 = .ok (.aload_n 0, 1) := by decide +kernel
theorem dd_La_617 : decode cc_La 617 = .ok (.iload_n 3, 1) := by decide +kernel
theorem dd_La_618 : decode cc_La 618 = .ok (.iconst 1, 1) := by decide +kernel
theorem dd_La_619 : decode cc_La 619 = .ok (.iadd, 1) := by decide +kernel
theorem dd_La_620 : decode cc_La 620 = .ok (.iaload, 1) := by decide +kernel
theorem dd_La_621 : decode cc_La 621 = .ok (.aload_n 0, 1) := by decide +kernel
theorem dd_La_622 : decode cc_La 622 = .ok (.iload_n 3, 1) := by decide +kernel
theorem dd_La_623 : decode cc_La 623 = .ok (.iconst 2, 1) := by decide +kernel
theorem dd_La_624 : decode cc_La 624 = .ok (.iadd, 1) := by decide +kernel
theorem dd_La_625 : decode cc_La 625 = .ok (.iaload, 1) := by decide +kernel
theorem dd_La_626 : decode cc_La 626 = .ok (.aload_n 0, 1) := by decide +kernel
theorem dd_La_627 : decode cc_La 627 = .ok (.iload_n 3, 1) := by decide +kernel
theorem dd_La_628 : decode cc_La 628 = .ok (.iconst 3, 1) := by decide +kernel
theorem dd_La_629 : decode cc_La 629 = .ok (.iadd, 1) := by decide +kernel
theorem dd_La_630 : decode cc_La 630 = .ok (.iaload, 1) := by decide +kernel
theorem dd_La_631 : decode cc_La 631 = .ok (.invokevirtual 72, 3) := by decide +kernel
theorem dd_La_634 : decode cc_La 634 = .ok (.aload_n 2, 1) := by decide +kernel
theorem dd_La_635 : decode cc_La 635 = .ok (.aload_n 0, 1) := by decide +kernel
theorem dd_La_636 : decode cc_La 636 = .ok (.iload_n 3, 1) := by decide +kernel
theorem dd_La_637 : decode cc_La 637 = .ok (.iconst 1, 1) := by decide +kernel
theorem dd_La_638 : decode cc_La 638 = .ok (.iadd, 1) := by decide +kernel
theorem dd_La_639 : decode cc_La 639 = .ok (.iaload, 1) := by decide +kernel
theorem dd_La_640 : decode cc_La 640 = .ok (.aload_n 0, 1) := by decide +kernel
theorem dd_La_641 : decode cc_La 641 = .ok (.iload_n 3, 1) := by decide +kernel
theorem dd_La_642 : decode cc_La 642 = .ok (.iconst 2, 1) := by decide +kernel
theorem dd_La_643 : decode cc_La 643 = .ok (.iadd, 1) := by decide +kernel
theorem dd_La_644 : decode cc_La 644 = .ok (.iaload, 1) := by decide +kernel
theorem dd_La_645 : decode cc_La 645 = .ok (.aload_n 0, 1) := by decide +kernel
theorem dd_La_646 : decode cc_La 646 = .ok (.iload_n 3, 1) := by decide +kernel
theorem dd_La_647 : decode cc_La 647 = .ok (.iconst 3, 1) := by decide +kernel
theorem dd_La_648 : decode cc_La 648 = .ok (.iadd, 1) := by decide +kernel
theorem dd_La_649 : decode cc_La 649 = .ok (.iaload, 1) := by decide +kernel
theorem dd_La_650 : decode cc_La 650 = .ok (.invokevirtual 75, 3) := by decide +kernel
theorem dd_La_653 : decode cc_La 653 = .ok (.if_icmp .eq 170, 3) := by decide +kernel
theorem dd_La_656 : decode cc_La 656 = .ok (.iconst 0, 1) := by decide +kernel
theorem dd_La_657 : decode cc_La 657 = .ok (.ireturn, 1) := by decide +kernel
theorem dd_La_658 : decode cc_La 658 = .ok (.aload_n 1, 1) := by decide +kernel
theorem dd_La_659 : decode cc_La 659 = .ok (.aload_n 0, 1) := by decide +kernel
theorem dd_La_660 : decode cc_La 660 = .ok (.iload_n 3, 1) := by decide +kernel
theorem dd_La_661 : decode cc_La 661 = .ok (.iconst 1, 1) := by decide +kernel
theorem dd_La_662 : decode cc_La 662 = .ok (.iadd, 1) := by decide +kernel
theorem dd_La_663 : decode cc_La 663 = .ok (.iaload, 1) := by decide +kernel
theorem dd_La_664 : decode cc_La 664 = .ok (.aload_n 0, 1) := by decide +kernel
theorem dd_La_665 : decode cc_La 665 = .ok (.iload_n 3, 1) := by decide +kernel
theorem dd_La_666 : decode cc_La 666 = .ok (.iconst 2, 1) := by decide +kernel
theorem dd_La_667 : decode cc_La 667 = .ok (.iadd, 1) := by decide +kernel
theorem dd_La_668 : decode cc_La 668 = .ok (.iaload, 1) := by decide +kernel
theorem dd_La_669 : decode cc_La 669 = .ok (.invokevirtual 76, 3) := by decide +kernel
theorem dd_La_672 : decode cc_La 672 = .ok (.aload_n 2, 1) := by decide +kernel
theorem dd_La_673 : decode cc_La 673 = .ok (.aload_n 0, 1) := by decide +kernel
theorem dd_La_674 : decode cc_La 674 = .ok (.iload_n 3, 1) := by decide +kernel
theorem dd_La_675 : decode cc_La 675 = .ok (.iconst 1, 1) := by decide +kernel
theorem dd_La_676 : decode cc_La 676 = .ok (.iadd, 1) := by decide +kernel
theorem dd_La_677 : decode cc_La 677 = .ok (.iaload, 1) := by decide +kernel
theorem dd_La_678 : decode cc_La 678 = .ok (.aload_n 0, 1) := by decide +kernel
theorem dd_La_679 : decode cc_La 679 = .ok (.iload_n 3, 1) := by decide +kernel
theorem dd_La_680 : decode cc_La 680 = .ok (.iconst 2, 1) := by decide +kernel
theorem dd_La_681 : decode cc_La 681 = .ok (.iadd, 1) := by decide +kernel
theorem dd_La_682 : decode cc_La 682 = .ok (.iaload, 1) := by decide +kernel
theorem dd_La_683 : decode cc_La 683 = .ok (.invokevirtual 79, 3) := by decide +kernel
theorem dd_La_686 : decode cc_La 686 = .ok (.if_icmp .eq 137, 3) := by decide +kernel
theorem dd_La_689 : decode cc_La 689 = .ok (.iconst 0, 1) := by decide +kernel
theorem dd_La_690 : decode cc_La 690 = .ok (.ireturn, 1) := by decide +kernel
theorem dd_La_691 : decode cc_La 691 = .ok (.aload_n 1, 1) := by decide +kernel
theorem dd_La_692 : decode cc_La 692 = .ok (.aload_n 0, 1) := by decide +kernel
theorem dd_La_693 : decode cc_La 693 = .ok (.iload_n 3, 1) := by decide +kernel
theorem dd_La_694 : decode cc_La 694 = .ok (.iconst 1, 1) := by decide +kernel
theorem dd_La_695 : decode cc_La 695 = .ok (.iadd, 1) := by decide +kernel
theorem dd_La_696 : decode cc_La 696 = .ok (.iaload, 1) := by decide +kernel
theorem dd_La_697 : decode cc_La 697 = .ok (.invokevirtual 80, 3) := by decide +kernel
theorem dd_La_700 : decode cc_La 700 = .ok (.aload_n 2, 1) := by decide +kernel
theorem dd_La_701 : decode cc_La 701 = .ok (.aload_n 0, 1) := by decide +kernel
theorem dd_La_702 : decode cc_La 702 = .ok (.iload_n 3, 1) := by decide +kernel
theorem dd_La_703 : decode cc_La 703 = .ok (.iconst 1, 1) := by decide +kernel
theorem dd_La_704 : decode cc_La 704 = .ok (.iadd, 1) := by decide +kernel
theorem dd_La_705 : decode cc_La 705 = .ok (.iaload, 1) := by decide +kernel
theorem dd_La_706 : decode cc_La 706 = .ok (.invokevirtual 84, 3) := by decide +kernel
theorem dd_La_709 : decode cc_La 709 = .ok (.if_icmp .eq 114, 3) := by decide +kernel
theorem dd_La_712 : decode cc_La 712 = .ok (.iconst 0, 1) := by decide +kernel
theorem dd_La_713 : decode cc_La 713 = .ok (.ireturn, 1) := by decide +kernel
theorem dd_La_714 : decode cc_La 714 = .ok (.aload_n 1, 1) := by decide +kernel
theorem dd_La_715 : decode cc_La 715 = .ok (.aload_n 0, 1) := by decide +kernel
theorem dd_La_716 : decode cc_La 716 = .ok (.iload_n 3, 1) := by decide +kernel
theorem dd_La_717 : decode cc_La 717 = .ok (.iconst 1, 1) := by decide +kernel
theorem dd_La_718 : decode cc_La 718 = .ok (.iadd, 1) := by decide +kernel
theorem dd_La_719 : decode cc_La 719 = .ok (.iaload, 1) := by decide +kernel
theorem dd_La_720 : decode cc_La 720 = .ok (.invokevirtual 85, 3) := by decide +kernel
theorem dd_La_723 : decode cc_La 723 = .ok (.aload_n 2, 1) := by decide +kernel
theorem dd_La_724 : decode cc_La 724 = .ok (.aload_n 0, 1) := by decide +kernel
theorem dd_La_725 : decode cc_La 725 = .ok (.iload_n 3, 1) := by decide +kernel
theorem dd_La_726 : decode cc_La 726 = .ok (.iconst 1, 1) := by decide +kernel
theorem dd_La_727 : decode cc_La 727 = .ok (.iadd, 1) := by decide +kernel
theorem dd_La_728 : decode cc_La 728 = .ok (.iaload, 1) := by decide +kernel
theorem dd_La_729 : decode cc_La 729 = .ok (.invokevirtual 88, 3) := by decide +kernel
theorem dd_La_732 : decode cc_La 732 = .ok (.if_icmp .eq 91, 3) := by decide +kernel
theorem dd_La_735 : decode cc_La 735 = .ok (.iconst 0, 1) := by decide +kernel
theorem dd_La_736 : decode cc_La 736 = .ok (.ireturn, 1) := by decide +kernel
theorem dd_La_737 : decode cc_La 737 = .ok (.aload_n 1, 1) := by decide +kernel
theorem dd_La_738 : decode cc_La 738 = .ok (.aload_n 0, 1) := by decide +kernel
theorem dd_La_739 : decode cc_La 739 = .ok (.iload_n 3, 1) := by decide +kernel
theorem dd_La_740 : decode cc_La 740 = .ok (.iconst 1, 1) := by decide +kernel
theorem dd_La_741 : decode cc_La 741 = .ok (.iadd, 1) := by decide +kernel
theorem dd_La_742 : decode cc_La 742 = .ok (.iaload, 1) := by decide +kernel
theorem dd_La_743 : decode cc_La 743 = .ok (.i2l, 1) := by decide +kernel
theorem dd_La_744 : decode cc_La 744 = .ok (.bipush 32, 2) := by decide +kernel
theorem dd_La_746 : decode cc_La 746 = .ok (.lshl, 1) := by decide +kernel
theorem dd_La_747 : decode cc_La 747 = .ok (.aload_n 0, 1) := by decide +kernel
theorem dd_La_748 : decode cc_La 748 = .ok (.iload_n 3, 1) := by decide +kernel
theorem dd_La_749 : decode cc_La 749 = .ok (.iconst 2, 1) := by decide +kernel
theorem dd_La_750 : decode cc_La 750 = .ok (.iadd, 1) := by decide +kernel
theorem dd_La_751 : decode cc_La 751 = .ok (.iaload, 1) := by decide +kernel
theorem dd_La_752 : decode cc_La 752 = .ok (.i2l, 1) := by decide +kernel
theorem dd_La_753 : decode cc_La 753 = .ok (.ldc2_w 89, 3) := by decide +kernel
theorem dd_La_756 : decode cc_La 756 = .ok (.land, 1) := by decide +kernel
theorem dd_La_757 : decode cc_La 757 = .ok (.lor, 1) := by decide +kernel
theorem dd_La_758 : decode cc_La 758 = .ok (.aload_n 0, 1) := by decide +kernel
theorem dd_La_759 : decode cc_La 759 = .ok (.iload_n 3, 1) := by decide +kernel
theorem dd_La_760 : decode cc_La 760 = .ok (.iconst 3, 1) := by decide +kernel
theorem dd_La_761 : decode cc_La 761 = .ok (.iadd, 1) := by decide +kernel
theorem dd_La_762 : decode cc_La 762 = .ok (.iaload, 1) := by decide +kernel
theorem dd_La_763 : decode cc_La 763 = .ok (.invokevirtual 91, 3) := by decide +kernel
theorem dd_La_766 : decode cc_La 766 = .ok (.aload_n 2, 1) := by decide +kernel
theorem dd_La_767 : decode cc_La 767 = .ok (.aload_n 0, 1) := by decide +kernel
theorem dd_La_768 : decode cc_La 768 = .ok (.iload_n 3, 1) := by decide +kernel
theorem dd_La_769 : decode cc_La 769 = .ok (.iconst 1, 1) := by decide +kernel
theorem dd_La_770 : decode cc_La 770 = .ok (.iadd, 1) := by decide +kernel
theorem dd_La_771 : decode cc_La 771 = .ok (.iaload, 1) := by decide +kernel
theorem dd_La_772 : decode cc_La 772 = .ok (.i2l, 1) := by decide +kernel
theorem dd_La_773 : decode cc_La 773 = .ok (.bipush 32, 2) := by decide +kernel
theorem dd_La_775 : decode cc_La 775 = .ok (.lshl, 1) := by decide +kernel
theorem dd_La_776 : decode cc_La 776 = .ok (.aload_n 0, 1) := by decide +kernel
theorem dd_La_777 : decode cc_La 777 = .ok (.iload_n 3, 1) := by decide +kernel
theorem dd_La_778 : decode cc_La 778 = .ok (.iconst 2, 1) := by decide +kernel
theorem dd_La_779 : decode cc_La 779 = .ok (.iadd, 1) := by decide +kernel
theorem dd_La_780 : decode cc_La 780 = .ok (.iaload, 1) := by decide +kernel
theorem dd_La_781 : decode cc_La 781 = .ok (.i2l, 1) := by decide +kernel
theorem dd_La_782 : decode cc_La 782 = .ok (.ldc2_w 89, 3) := by decide +kernel
theorem dd_La_785 : decode cc_La 785 = .ok (.land, 1) := by decide +kernel
theorem dd_La_786 : decode cc_La 786 = .ok (.lor, 1) := by decide +kernel
theorem dd_La_787 : decode cc_La 787 = .ok (.aload_n 0, 1) := by decide +kernel
theorem dd_La_788 : decode cc_La 788 = .ok (.iload_n 3, 1) := by decide +kernel
theorem dd_La_789 : decode cc_La 789 = .ok (.iconst 3, 1) := by decide +kernel
theorem dd_La_790 : decode cc_La 790 = .ok (.iadd, 1) := by decide +kernel
theorem dd_La_791 : decode cc_La 791 = .ok (.iaload, 1) := by decide +kernel
theorem dd_La_792 : decode cc_La 792 = .ok (.invokevirtual 95, 3) := by decide +kernel
theorem dd_La_795 : decode cc_La 795 = .ok (.if_icmp .eq 28, 3) := by decide +kernel
theorem dd_La_798 : decode cc_La 798 = .ok (.iconst 0, 1) := by decide +kernel
theorem dd_La_799 : decode cc_La 799 = .ok (.ireturn, 1) := by decide +kernel
theorem dd_La_800 : decode cc_La 800 = .ok (.aload_n 1, 1) := by decide +kernel
theorem dd_La_801 : decode cc_La 801 = .ok (.aload_n 0, 1) := by decide +kernel
theorem dd_La_802 : decode cc_La 802 = .ok (.iload_n 3, 1) := by decide +kernel
theorem dd_La_803 : decode cc_La 803 = .ok (.iconst 1, 1) := by decide +kernel
theorem dd_La_804 : decode cc_La 804 = .ok (.iadd, 1) := by decide +kernel
theorem dd_La_805 : decode cc_La 805 = .ok (.iaload, 1) := by decide +kernel
theorem dd_La_806 : decode cc_La 806 = .ok (.invokevirtual 96, 3) := by decide +kernel
theorem dd_La_809 : decode cc_La 809 = .ok (.aload_n 2, 1) := by decide +kernel
theorem dd_La_810 : decode cc_La 810 = .ok (.aload_n 0, 1) := by decide +kernel
theorem dd_La_811 : decode cc_La 811 = .ok (.iload_n 3, 1) := by decide +kernel
theorem dd_La_812 : decode cc_La 812 = .ok (.iconst 1, 1) := by decide +kernel
theorem dd_La_813 : decode cc_La 813 = .ok (.iadd, 1) := by decide +kernel
theorem dd_La_814 : decode cc_La 814 = .ok (.iaload, 1) := by decide +kernel
theorem dd_La_815 : decode cc_La 815 = .ok (.invokevirtual 99, 3) := by decide +kernel
theorem dd_La_818 : decode cc_La 818 = .ok (.if_icmp .eq 5, 3) := by decide +kernel
theorem dd_La_821 : decode cc_La 821 = .ok (.iconst 0, 1) := by decide +kernel
theorem dd_La_822 : decode cc_La 822 = .ok (.ireturn, 1) := by decide +kernel
theorem dd_La_823 : decode cc_La 823 = .ok (.iinc 3 6, 3) := by decide +kernel
theorem dd_La_826 : decode cc_La 826 = .ok (.goto (-808), 3) := by decide +kernel
theorem dd_La_829 : decode cc_La 829 = .ok (.iconst 1, 1) := by decide +kernel
theorem dd_La_830 : decode cc_La 830 = .ok (.ireturn, 1) := by decide +kernel
/-! BOTH SIDES IN ONE WORLD -/
theorem mo_h_ge {dA : Nat → ClassId} {ad : Nat → Nat} {h h2 : Nat → va_E} {F : mo_F} {L : mo_L} {S : Nat → Int32} {k : Nat} (hk : 43 ≤ k) : mo_h dA ad h F L S k = mo_h dA ad h2 F L S k := by
  unfold mo_h
  have h1 : ¬ k < 43 := by omega
  rw [if_neg h1, if_neg h1]
def gl_k (dA : Nat → ClassId) (ad : Nat → Nat) (r : Nat → va_E) (F : mo_F) (L : mo_L) (S : Nat → Int32) : Prop := ∀ k, 43 ≤ k → k < 65 → r k = mo_h dA ad r F L S k
theorem gl_to {dA : Nat → ClassId} {ad : Nat → Nat} {mm : Nat → gm_V} {r r2 : Nat → va_E} {F : mo_F} {L : mo_L} {S : Nat → Int32} (h2 : ∀ k, 43 ≤ k → r2 k = r k) (hk : gl_k dA ad r F L S) : gx_w ad (gm_h dA ad mm r2) = gx_w ad (mo_h dA ad (gm_h dA ad mm r2) F L S) := gx_w_eq fun k hk65 => by
  rcases Nat.lt_or_ge k 43 with h | h
  · rw [mo_h_lo h]
  · rw [gm_out (Or.inr (by omega)), h2 k h, hk k h hk65]
    exact mo_h_ge h
theorem gl_from {dA : Nat → ClassId} {ad : Nat → Nat} {mm : Nat → gm_V} {r : Nat → va_E} {F : mo_F} {L : mo_L} {S : Nat → Int32} : gx_w ad (mo_h dA ad (gm_h dA ad mm r) F L S) = gx_w ad (gm_h dA ad mm (mo_h dA ad r F L S)) := gx_w_eq fun k hk65 => by
  rcases Nat.lt_or_ge k 43 with h | h
  · rw [mo_h_lo h]
    by_cases hk : 2 ≤ k ∧ k < 22
    · unfold gm_h
      rw [if_pos hk, if_pos hk]
    · rw [gm_out (by omega), gm_out (by omega), mo_h_lo h]
  · rw [gm_out (Or.inr (by omega))]
    exact mo_h_ge h
theorem gl_kk {dA : Nat → ClassId} {ad : Nat → Nat} {r : Nat → va_E} {F : mo_F} {L : mo_L} {S : Nat → Int32} : gl_k dA ad (mo_h dA ad r F L S) F L S := fun k h _ => mo_h_ge h
theorem cs_lo {dA : Nat → ClassId} {ad : Nat → Nat} {mm : Nat → gm_V} {r r2 : Nat → va_E} {σ : sg} (e : ∀ k, k < 43 → r2 k = r k) (h : cs dA ad mm r σ) : cs dA ad mm r2 σ := by
  obtain ⟨π, f, h1, h2, h3, h4, h5, h6⟩ := cs_get h
  exact cs_put h1 ((e 0 (by decide)).trans h2) ((e 1 (by decide)).trans h3) h4 h5 (cs_R_0 (fun k a b => e k (by omega)) h6)
theorem h0_ad {dA : Nat → ClassId} {ad z : Nat → Nat} : ∀ k, k < 43 → h0 dA (fun k => if k < 43 then ad k else z k) k = h0 dA ad k := by
  intro k hk
  have hc : k = 0 ∨ k = 1 ∨ k = 2 ∨ k = 3 ∨ k = 4 ∨ k = 5 ∨ k = 6 ∨ k = 7 ∨ k = 8 ∨ k = 9 ∨ k = 10 ∨ k = 11 ∨ k = 12 ∨ k = 13 ∨ k = 14 ∨ k = 15 ∨ k = 16 ∨ k = 17 ∨ k = 18 ∨ k = 19 ∨ k = 20 ∨ k = 21 ∨ k = 22 ∨ k = 23 ∨ k = 24 ∨ k = 25 ∨ k = 26 ∨ k = 27 ∨ k = 28 ∨ k = 29 ∨ k = 30 ∨ k = 31 ∨ k = 32 ∨ k = 33 ∨ k = 34 ∨ k = 35 ∨ k = 36 ∨ k = 37 ∨ k = 38 ∨ k = 39 ∨ k = 40 ∨ k = 41 ∨ k = 42 := by omega
  rcases hc with rfl | rfl | rfl | rfl | rfl | rfl | rfl | rfl | rfl | rfl | rfl | rfl | rfl | rfl | rfl | rfl | rfl | rfl | rfl | rfl | rfl | rfl | rfl | rfl | rfl | rfl | rfl | rfl | rfl | rfl | rfl | rfl | rfl | rfl | rfl | rfl | rfl | rfl | rfl | rfl | rfl | rfl | rfl <;> rfl
theorem gl_gt {i L : Nat} (hi : i ≤ 3072) (hL : L ≤ 3072) : nI L - nI 6 < nI i ↔ L < i + 6 := by
  rw [Int32.lt_iff_toInt_lt, pk_sub_toInt (by omega) (by decide), nI_toInt (by omega)]
  omega
section GL
variable {K : gx_K} {D : va_G} {dA : Nat → ClassId} {y : MethodName} {cc : ByteArray} {nL : Nat} {ret : Option FieldType} {d k n pc : Nat} {lv : List (Nat × Value)} {st : List Value} {ws : va_W} {Z : State → Prop}
theorem gl_sld (C : gx_C K D dA y cc nL ret d) {b L : Nat} {xs : Nat → Int32} (hX : va_X b L xs (gx_s K) (gx_s K).heap) (hbl : b < (gx_s K).heap.size) (hbA : ¬ gx_A K b) {j : Nat} (hj : j < L) (hL : L < 2 ^ 31) (hd : decode cc pc = .ok (.iaload, 1)) (kk : gx_G K D nL k n (pc + 1) lv (.int (xs j) :: st) ws Z) : gx_G K D nL k n pc lv (.int (nI j) :: .ref b :: st) ws Z := by
  obtain ⟨p, l, e, R, s, m, args, below, meth, c, A⟩ := K
  obtain ⟨hx, hb, hr, hlk, hml, hown, hnm, hts, hN, hK, hA, hR1, hR2⟩ := C
  intro H locs ls hP hD hS hl
  refine va_sld hx hb hX hbl hbA hS (vp_in_nI hj hL) hd ?_
  rw [nI_clamp (by omega)]
  exact kk H locs ls hP hD hS hl
theorem gl_slen (C : gx_C K D dA y cc nL ret d) {b L : Nat} {xs : Nat → Int32} (hX : va_X b L xs (gx_s K) (gx_s K).heap) (hbl : b < (gx_s K).heap.size) (hbA : ¬ gx_A K b) (hd : decode cc pc = .ok (.arraylength, 1)) (kk : gx_G K D nL k n (pc + 1) lv (.int (nI L) :: st) ws Z) : gx_G K D nL k n pc lv (.ref b :: st) ws Z := by
  obtain ⟨p, l, e, R, s, m, args, below, meth, c, A⟩ := K
  obtain ⟨hx, hb, hr, hlk, hml, hown, hnm, hts, hN, hK, hA, hR1, hR2⟩ := C
  intro H locs ls hP hD hS hl
  exact va_slen hx hb hX hbl hbA hS hd (kk H locs ls hP hD hS hl)
end GL
set_option maxRecDepth 100000 in
set_option maxHeartbeats 4000000 in
theorem gl_loop {K : gx_K} {D : va_G} {dA : Nat → ClassId} {y : MethodName} {ret : Option FieldType} (C : gx_C K D dA y cc_La 4 ret 7) (hy : y.cls = "WeighedMachinesLaw") {b L0 : Nat} {xs : Nat → Int32} {Z : State → Prop} (hL : L0 ≤ 3072) (hXs : va_X b L0 xs (gx_s K) (gx_s K).heap) (hbl : b < (gx_s K).heap.size) (hbA : ¬ gx_A K b) (hroom : 65 + 0 ≤ (gx_R K).cells ∧ 9157 + 0 ≤ (gx_R K).slots) (ad : Nat → Nat) (fin : ∀ lv ws, gx_G K D 4 65 9157 829 lv [] ws Z) : ∀ (m i : Nat) (σ : sg) (mm : Nat → gm_V) (r : Nat → va_E) (F : mo_F) (L : mo_L) (S : Nat → Int32), L0 ≤ i + m → i ≤ 3072 → cs dA ad mm r σ → rs F L S σ → sg_ok σ → gl_k dA ad r F L S → gx_G K D 4 65 9157 18 [(3, .int (nI i)), (2, .ref (ad 43)), (1, .ref (ad 0)), (0, .ref b)] [] (gx_w ad (gm_h dA ad mm r)) Z := by
  obtain ⟨ycls, yname, ydesc⟩ := y
  obtain rfl : ycls = _ := hy
  have loop : ∀ m i σ mm r F L S, L0 ≤ i + m → i ≤ 3072 → cs dA ad mm r σ → rs F L S σ → sg_ok σ → gl_k dA ad r F L S → gx_G K D 4 65 9157 18 [(3, .int (nI i)), (2, .ref (ad 43)), (1, .ref (ad 0)), (0, .ref b)] [] (gx_w ad (gm_h dA ad mm r)) Z := by
    intro m
    induction m with
    | zero =>
      intro i σ mm r F L S him hi hc hrs hσ hlk
      refine gx_iload_n C 0 dd_La_18 (kk := ?_)
      refine gx_aload_n C 3 dd_La_19 (kk := ?_)
      refine gl_slen C hXs hbl hbA dd_La_20 ?_
      refine gx_bipush (v := nI 6) C dd_La_21 (kk := ?_)
      refine gx_isub C dd_La_23 (kk := ?_)
      refine gx_icmp_gt C 829 dd_La_24 (fun h24 => ?_) (fun h24 => absurd ((gl_gt hi hL).mpr (by omega)) h24)
      exact fin _ _
    | succ m ih =>
      intro i σ mm r F L S him hi hc hrs hσ hlk
      by_cases hend : L0 < i + 6
      · refine gx_iload_n C 0 dd_La_18 (kk := ?_)
        refine gx_aload_n C 3 dd_La_19 (kk := ?_)
        refine gl_slen C hXs hbl hbA dd_La_20 ?_
        refine gx_bipush (v := nI 6) C dd_La_21 (kk := ?_)
        refine gx_isub C dd_La_23 (kk := ?_)
        refine gx_icmp_gt C 829 dd_La_24 (fun h24 => ?_) (fun h24 => absurd ((gl_gt hi hL).mpr (by omega)) h24)
        exact fin _ _
      · refine gx_iload_n C 0 dd_La_18 (kk := ?_)
        refine gx_aload_n C 3 dd_La_19 (kk := ?_)
        refine gl_slen C hXs hbl hbA dd_La_20 ?_
        refine gx_bipush (v := nI 6) C dd_La_21 (kk := ?_)
        refine gx_isub C dd_La_23 (kk := ?_)
        refine gx_icmp_gt C 829 dd_La_24 (fun h24 => absurd ((gl_gt hi hL).mp h24) (by omega)) (fun h24 => ?_)
        refine gx_aload_n C 3 dd_La_27 (kk := ?_)
        refine gx_iload_n C 0 dd_La_28 (kk := ?_)
        refine gl_sld C hXs hbl hbA (by omega) (by omega) dd_La_29 ?_
        refine gx_bipush (v := nI 31) C dd_La_30 (kk := ?_)
        refine gx_iand C dd_La_32 (kk := ?_)
        obtain ⟨t, ht, he⟩ := pk_andE (xs i) (m := nI 31) 5 (by decide)
        refine gx_topi _ he ?_
        have ht : t < 32 := ht
        obtain ⟨π, f, hπ, hc0, -⟩ := cs_get hc
        have next : ∀ σ2 mm2 r2 F2 L2 S2, cs dA ad mm2 r2 σ2 → rs F2 L2 S2 σ2 → sg_ok σ2 → gl_k dA ad r2 F2 L2 S2 → gx_G K D 4 65 9157 823 [(3, .int (nI i)), (2, .ref (ad 43)), (1, .ref (ad 0)), (0, .ref b)] [] (gx_w ad (gm_h dA ad mm2 r2)) Z := by
          intro σ2 mm2 r2 F2 L2 S2 hc hrs hσ hlk
          refine gx_iinc C 0 (nI (i + 6)) _ dd_La_823 (nI_add i 6) (kk := ?_)
          refine gx_goto C 18 dd_La_826 (kk := ?_)
          exact ih (i + 6) σ2 mm2 r2 F2 L2 S2 (by omega) (by omega) hc hrs hσ hlk
        rcases (show t = 0 ∨ t = 1 ∨ t = 2 ∨ t = 3 ∨ t = 4 ∨ t = 5 ∨ t = 6 ∨ t = 7 ∨ t = 8 ∨ t = 9 ∨ t = 10 ∨ t = 11 ∨ t = 12 ∨ t = 13 ∨ t = 14 ∨ t = 15 ∨ t = 16 ∨ t = 17 ∨ t = 18 ∨ 19 ≤ t by omega) with rfl | rfl | rfl | rfl | rfl | rfl | rfl | rfl | rfl | rfl | rfl | rfl | rfl | rfl | rfl | rfl | rfl | rfl | rfl | ht2
        · refine gx_tableIn C 124 dd_La_33 (off := 91) (by decide) (by decide) (by decide) (by decide) ?_
          refine gx_aload_n C 2 dd_La_124 (kk := ?_)
          refine gx_aload_n C 3 dd_La_125 (kk := ?_)
          refine gx_iload_n C 0 dd_La_126 (kk := ?_)
          refine gx_iconst (v := nI 1) C dd_La_127 (kk := ?_)
          refine gx_iadd C dd_La_128 (kk := ?_)
          refine gx_topi _ (nI_add _ _) ?_
          refine gl_sld C hXs hbl hbA (by omega) (by omega) dd_La_129 ?_
          refine gx_aload_n C 3 dd_La_130 (kk := ?_)
          refine gx_iload_n C 0 dd_La_131 (kk := ?_)
          refine gx_iconst (v := nI 2) C dd_La_132 (kk := ?_)
          refine gx_iadd C dd_La_133 (kk := ?_)
          refine gx_topi _ (nI_add _ _) ?_
          refine gl_sld C hXs hbl hbA (by omega) (by omega) dd_La_134 ?_
          refine gx_callV C (ct_WM_fresh (gx_l K) D dA ad mm r hc hσ (xs (i + 1)) (xs (i + 2))) me_WM_fresh ml_La_13 mn_WM_fresh _ (gx_w_at (by decide) (gm_r hc0)) rfl dd_La_135 (hf := hroom) (kk := fun v w hq => ?_)
          obtain ⟨mm2, r2, rfl, hc2, hr2, rfl⟩ := hq
          refine gx_wld (gl_to hr2 hlk) ?_
          refine gx_aload_n C 1 dd_La_138 (kk := ?_)
          refine gx_aload_n C 3 dd_La_139 (kk := ?_)
          refine gx_iload_n C 0 dd_La_140 (kk := ?_)
          refine gx_iconst (v := nI 1) C dd_La_141 (kk := ?_)
          refine gx_iadd C dd_La_142 (kk := ?_)
          refine gx_topi _ (nI_add _ _) ?_
          refine gl_sld C hXs hbl hbA (by omega) (by omega) dd_La_143 ?_
          refine gx_aload_n C 3 dd_La_144 (kk := ?_)
          refine gx_iload_n C 0 dd_La_145 (kk := ?_)
          refine gx_iconst (v := nI 2) C dd_La_146 (kk := ?_)
          refine gx_iadd C dd_La_147 (kk := ?_)
          refine gx_topi _ (nI_add _ _) ?_
          refine gl_sld C hXs hbl hbA (by omega) (by omega) dd_La_148 ?_
          refine gx_callV C (ct_Mo_fresh (gx_l K) D dA ad (gm_h dA ad mm2 r2) F L S hrs hσ (xs (i + 1)) (xs (i + 2))) me_Mo_fresh ml_La_17 mn_Mo_fresh _ (gx_w_at (by decide) mo_h_43) rfl dd_La_149 (hf := hroom) (kk := fun v w hq => ?_)
          obtain ⟨F2, L2, S2, rfl, hrs2, rfl⟩ := hq
          refine gx_icmp_eq C 823 dd_La_152 (fun h152 => ?_) (fun h152 => absurd rfl h152)
          refine gx_wld gl_from ?_
          exact next _ mm2 _ F2 L2 S2 (cs_lo (fun k hk => mo_h_lo hk) hc2) hrs2 (ok_fresh hσ (xs (i + 1)) (xs (i + 2))) gl_kk
        · refine gx_tableIn C 157 dd_La_33 (off := 124) (by decide) (by decide) (by decide) (by decide) ?_
          refine gx_aload_n C 2 dd_La_157 (kk := ?_)
          refine gx_aload_n C 3 dd_La_158 (kk := ?_)
          refine gx_iload_n C 0 dd_La_159 (kk := ?_)
          refine gx_iconst (v := nI 1) C dd_La_160 (kk := ?_)
          refine gx_iadd C dd_La_161 (kk := ?_)
          refine gx_topi _ (nI_add _ _) ?_
          refine gl_sld C hXs hbl hbA (by omega) (by omega) dd_La_162 ?_
          refine gx_aload_n C 3 dd_La_163 (kk := ?_)
          refine gx_iload_n C 0 dd_La_164 (kk := ?_)
          refine gx_iconst (v := nI 2) C dd_La_165 (kk := ?_)
          refine gx_iadd C dd_La_166 (kk := ?_)
          refine gx_topi _ (nI_add _ _) ?_
          refine gl_sld C hXs hbl hbA (by omega) (by omega) dd_La_167 ?_
          refine gx_aload_n C 3 dd_La_168 (kk := ?_)
          refine gx_iload_n C 0 dd_La_169 (kk := ?_)
          refine gx_iconst (v := nI 3) C dd_La_170 (kk := ?_)
          refine gx_iadd C dd_La_171 (kk := ?_)
          refine gx_topi _ (nI_add _ _) ?_
          refine gl_sld C hXs hbl hbA (by omega) (by omega) dd_La_172 ?_
          refine gx_callV C (ct_WM_start (gx_l K) D dA ad mm r hc hσ (xs (i + 1)) (xs (i + 2)) (xs (i + 3))) me_WM_start ml_La_18 mn_WM_start _ (gx_w_at (by decide) (gm_r hc0)) rfl dd_La_173 (hf := hroom) (kk := fun v w hq => ?_)
          obtain ⟨mm2, r2, rfl, hc2, hr2, rfl⟩ := hq
          refine gx_wld (gl_to hr2 hlk) ?_
          refine gx_aload_n C 1 dd_La_176 (kk := ?_)
          refine gx_aload_n C 3 dd_La_177 (kk := ?_)
          refine gx_iload_n C 0 dd_La_178 (kk := ?_)
          refine gx_iconst (v := nI 1) C dd_La_179 (kk := ?_)
          refine gx_iadd C dd_La_180 (kk := ?_)
          refine gx_topi _ (nI_add _ _) ?_
          refine gl_sld C hXs hbl hbA (by omega) (by omega) dd_La_181 ?_
          refine gx_aload_n C 3 dd_La_182 (kk := ?_)
          refine gx_iload_n C 0 dd_La_183 (kk := ?_)
          refine gx_iconst (v := nI 2) C dd_La_184 (kk := ?_)
          refine gx_iadd C dd_La_185 (kk := ?_)
          refine gx_topi _ (nI_add _ _) ?_
          refine gl_sld C hXs hbl hbA (by omega) (by omega) dd_La_186 ?_
          refine gx_aload_n C 3 dd_La_187 (kk := ?_)
          refine gx_iload_n C 0 dd_La_188 (kk := ?_)
          refine gx_iconst (v := nI 3) C dd_La_189 (kk := ?_)
          refine gx_iadd C dd_La_190 (kk := ?_)
          refine gx_topi _ (nI_add _ _) ?_
          refine gl_sld C hXs hbl hbA (by omega) (by omega) dd_La_191 ?_
          refine gx_callV C (ct_Mo_start (gx_l K) D dA ad (gm_h dA ad mm2 r2) F L S hrs hσ (xs (i + 1)) (xs (i + 2)) (xs (i + 3))) me_Mo_start ml_La_22 mn_Mo_start _ (gx_w_at (by decide) mo_h_43) rfl dd_La_192 (hf := hroom) (kk := fun v w hq => ?_)
          obtain ⟨F2, L2, S2, rfl, hrs2, rfl⟩ := hq
          refine gx_icmp_eq C 823 dd_La_195 (fun h195 => ?_) (fun h195 => absurd rfl h195)
          refine gx_wld gl_from ?_
          exact next _ mm2 _ F2 L2 S2 (cs_lo (fun k hk => mo_h_lo hk) hc2) hrs2 (ok_start hσ (xs (i + 1)) (xs (i + 2)) (xs (i + 3))) gl_kk
        · refine gx_tableIn C 200 dd_La_33 (off := 167) (by decide) (by decide) (by decide) (by decide) ?_
          refine gx_aload_n C 2 dd_La_200 (kk := ?_)
          refine gx_aload_n C 3 dd_La_201 (kk := ?_)
          refine gx_iload_n C 0 dd_La_202 (kk := ?_)
          refine gx_iconst (v := nI 1) C dd_La_203 (kk := ?_)
          refine gx_iadd C dd_La_204 (kk := ?_)
          refine gx_topi _ (nI_add _ _) ?_
          refine gl_sld C hXs hbl hbA (by omega) (by omega) dd_La_205 ?_
          refine gx_aload_n C 3 dd_La_206 (kk := ?_)
          refine gx_iload_n C 0 dd_La_207 (kk := ?_)
          refine gx_iconst (v := nI 2) C dd_La_208 (kk := ?_)
          refine gx_iadd C dd_La_209 (kk := ?_)
          refine gx_topi _ (nI_add _ _) ?_
          refine gl_sld C hXs hbl hbA (by omega) (by omega) dd_La_210 ?_
          refine gx_aload_n C 3 dd_La_211 (kk := ?_)
          refine gx_iload_n C 0 dd_La_212 (kk := ?_)
          refine gx_iconst (v := nI 3) C dd_La_213 (kk := ?_)
          refine gx_iadd C dd_La_214 (kk := ?_)
          refine gx_topi _ (nI_add _ _) ?_
          refine gl_sld C hXs hbl hbA (by omega) (by omega) dd_La_215 ?_
          refine gx_callV C (ct_WM_end (gx_l K) D dA ad mm r hc hσ (xs (i + 1)) (xs (i + 2)) (xs (i + 3))) me_WM_end ml_La_23 mn_WM_end _ (gx_w_at (by decide) (gm_r hc0)) rfl dd_La_216 (hf := hroom) (kk := fun v w hq => ?_)
          obtain ⟨mm2, r2, rfl, hc2, hr2, rfl⟩ := hq
          refine gx_wld (gl_to hr2 hlk) ?_
          refine gx_aload_n C 1 dd_La_219 (kk := ?_)
          refine gx_aload_n C 3 dd_La_220 (kk := ?_)
          refine gx_iload_n C 0 dd_La_221 (kk := ?_)
          refine gx_iconst (v := nI 1) C dd_La_222 (kk := ?_)
          refine gx_iadd C dd_La_223 (kk := ?_)
          refine gx_topi _ (nI_add _ _) ?_
          refine gl_sld C hXs hbl hbA (by omega) (by omega) dd_La_224 ?_
          refine gx_aload_n C 3 dd_La_225 (kk := ?_)
          refine gx_iload_n C 0 dd_La_226 (kk := ?_)
          refine gx_iconst (v := nI 2) C dd_La_227 (kk := ?_)
          refine gx_iadd C dd_La_228 (kk := ?_)
          refine gx_topi _ (nI_add _ _) ?_
          refine gl_sld C hXs hbl hbA (by omega) (by omega) dd_La_229 ?_
          refine gx_aload_n C 3 dd_La_230 (kk := ?_)
          refine gx_iload_n C 0 dd_La_231 (kk := ?_)
          refine gx_iconst (v := nI 3) C dd_La_232 (kk := ?_)
          refine gx_iadd C dd_La_233 (kk := ?_)
          refine gx_topi _ (nI_add _ _) ?_
          refine gl_sld C hXs hbl hbA (by omega) (by omega) dd_La_234 ?_
          refine gx_callV C (ct_Mo_end (gx_l K) D dA ad (gm_h dA ad mm2 r2) F L S hrs hσ (xs (i + 1)) (xs (i + 2)) (xs (i + 3))) me_Mo_end ml_La_26 mn_Mo_end _ (gx_w_at (by decide) mo_h_43) rfl dd_La_235 (hf := hroom) (kk := fun v w hq => ?_)
          obtain ⟨F2, L2, S2, rfl, hrs2, rfl⟩ := hq
          refine gx_icmp_eq C 823 dd_La_238 (fun h238 => ?_) (fun h238 => absurd rfl h238)
          refine gx_wld gl_from ?_
          exact next _ mm2 _ F2 L2 S2 (cs_lo (fun k hk => mo_h_lo hk) hc2) hrs2 (ok_end hσ (xs (i + 1)) (xs (i + 2)) (xs (i + 3))) gl_kk
        · refine gx_tableIn C 243 dd_La_33 (off := 210) (by decide) (by decide) (by decide) (by decide) ?_
          refine gx_aload_n C 2 dd_La_243 (kk := ?_)
          refine gx_aload_n C 3 dd_La_244 (kk := ?_)
          refine gx_iload_n C 0 dd_La_245 (kk := ?_)
          refine gx_iconst (v := nI 1) C dd_La_246 (kk := ?_)
          refine gx_iadd C dd_La_247 (kk := ?_)
          refine gx_topi _ (nI_add _ _) ?_
          refine gl_sld C hXs hbl hbA (by omega) (by omega) dd_La_248 ?_
          refine gx_aload_n C 3 dd_La_249 (kk := ?_)
          refine gx_iload_n C 0 dd_La_250 (kk := ?_)
          refine gx_iconst (v := nI 2) C dd_La_251 (kk := ?_)
          refine gx_iadd C dd_La_252 (kk := ?_)
          refine gx_topi _ (nI_add _ _) ?_
          refine gl_sld C hXs hbl hbA (by omega) (by omega) dd_La_253 ?_
          refine gx_aload_n C 3 dd_La_254 (kk := ?_)
          refine gx_iload_n C 0 dd_La_255 (kk := ?_)
          refine gx_iconst (v := nI 3) C dd_La_256 (kk := ?_)
          refine gx_iadd C dd_La_257 (kk := ?_)
          refine gx_topi _ (nI_add _ _) ?_
          refine gl_sld C hXs hbl hbA (by omega) (by omega) dd_La_258 ?_
          refine gx_aload_n C 3 dd_La_259 (kk := ?_)
          refine gx_iload_n C 0 dd_La_260 (kk := ?_)
          refine gx_iconst (v := nI 4) C dd_La_261 (kk := ?_)
          refine gx_iadd C dd_La_262 (kk := ?_)
          refine gx_topi _ (nI_add _ _) ?_
          refine gl_sld C hXs hbl hbA (by omega) (by omega) dd_La_263 ?_
          refine gx_aload_n C 3 dd_La_264 (kk := ?_)
          refine gx_iload_n C 0 dd_La_265 (kk := ?_)
          refine gx_iconst (v := nI 5) C dd_La_266 (kk := ?_)
          refine gx_iadd C dd_La_267 (kk := ?_)
          refine gx_topi _ (nI_add _ _) ?_
          refine gl_sld C hXs hbl hbA (by omega) (by omega) dd_La_268 ?_
          refine gx_callV C (ct_WM_arc (gx_l K) D dA ad mm r hc hσ (xs (i + 1)) (xs (i + 2)) (xs (i + 3)) (xs (i + 4)) (xs (i + 5))) me_WM_arc ml_La_27 mn_WM_arc _ (gx_w_at (by decide) (gm_r hc0)) rfl dd_La_269 (hf := hroom) (kk := fun v w hq => ?_)
          obtain ⟨mm2, r2, rfl, hc2, hr2, rfl⟩ := hq
          refine gx_wld (gl_to hr2 hlk) ?_
          refine gx_aload_n C 1 dd_La_272 (kk := ?_)
          refine gx_aload_n C 3 dd_La_273 (kk := ?_)
          refine gx_iload_n C 0 dd_La_274 (kk := ?_)
          refine gx_iconst (v := nI 1) C dd_La_275 (kk := ?_)
          refine gx_iadd C dd_La_276 (kk := ?_)
          refine gx_topi _ (nI_add _ _) ?_
          refine gl_sld C hXs hbl hbA (by omega) (by omega) dd_La_277 ?_
          refine gx_aload_n C 3 dd_La_278 (kk := ?_)
          refine gx_iload_n C 0 dd_La_279 (kk := ?_)
          refine gx_iconst (v := nI 2) C dd_La_280 (kk := ?_)
          refine gx_iadd C dd_La_281 (kk := ?_)
          refine gx_topi _ (nI_add _ _) ?_
          refine gl_sld C hXs hbl hbA (by omega) (by omega) dd_La_282 ?_
          refine gx_aload_n C 3 dd_La_283 (kk := ?_)
          refine gx_iload_n C 0 dd_La_284 (kk := ?_)
          refine gx_iconst (v := nI 3) C dd_La_285 (kk := ?_)
          refine gx_iadd C dd_La_286 (kk := ?_)
          refine gx_topi _ (nI_add _ _) ?_
          refine gl_sld C hXs hbl hbA (by omega) (by omega) dd_La_287 ?_
          refine gx_aload_n C 3 dd_La_288 (kk := ?_)
          refine gx_iload_n C 0 dd_La_289 (kk := ?_)
          refine gx_iconst (v := nI 4) C dd_La_290 (kk := ?_)
          refine gx_iadd C dd_La_291 (kk := ?_)
          refine gx_topi _ (nI_add _ _) ?_
          refine gl_sld C hXs hbl hbA (by omega) (by omega) dd_La_292 ?_
          refine gx_aload_n C 3 dd_La_293 (kk := ?_)
          refine gx_iload_n C 0 dd_La_294 (kk := ?_)
          refine gx_iconst (v := nI 5) C dd_La_295 (kk := ?_)
          refine gx_iadd C dd_La_296 (kk := ?_)
          refine gx_topi _ (nI_add _ _) ?_
          refine gl_sld C hXs hbl hbA (by omega) (by omega) dd_La_297 ?_
          refine gx_callV C (ct_Mo_arc (gx_l K) D dA ad (gm_h dA ad mm2 r2) F L S hrs hσ (xs (i + 1)) (xs (i + 2)) (xs (i + 3)) (xs (i + 4)) (xs (i + 5))) me_Mo_arc ml_La_31 mn_Mo_arc _ (gx_w_at (by decide) mo_h_43) rfl dd_La_298 (hf := hroom) (kk := fun v w hq => ?_)
          obtain ⟨F2, L2, S2, rfl, hrs2, rfl⟩ := hq
          refine gx_icmp_eq C 823 dd_La_301 (fun h301 => ?_) (fun h301 => absurd rfl h301)
          refine gx_wld gl_from ?_
          exact next _ mm2 _ F2 L2 S2 (cs_lo (fun k hk => mo_h_lo hk) hc2) hrs2 (ok_arc hσ (xs (i + 1)) (xs (i + 2)) (xs (i + 3)) (xs (i + 4)) (xs (i + 5))) gl_kk
        · refine gx_tableIn C 306 dd_La_33 (off := 273) (by decide) (by decide) (by decide) (by decide) ?_
          refine gx_aload_n C 2 dd_La_306 (kk := ?_)
          refine gx_aload_n C 3 dd_La_307 (kk := ?_)
          refine gx_iload_n C 0 dd_La_308 (kk := ?_)
          refine gx_iconst (v := nI 1) C dd_La_309 (kk := ?_)
          refine gx_iadd C dd_La_310 (kk := ?_)
          refine gx_topi _ (nI_add _ _) ?_
          refine gl_sld C hXs hbl hbA (by omega) (by omega) dd_La_311 ?_
          refine gx_aload_n C 3 dd_La_312 (kk := ?_)
          refine gx_iload_n C 0 dd_La_313 (kk := ?_)
          refine gx_iconst (v := nI 2) C dd_La_314 (kk := ?_)
          refine gx_iadd C dd_La_315 (kk := ?_)
          refine gx_topi _ (nI_add _ _) ?_
          refine gl_sld C hXs hbl hbA (by omega) (by omega) dd_La_316 ?_
          refine gx_aload_n C 3 dd_La_317 (kk := ?_)
          refine gx_iload_n C 0 dd_La_318 (kk := ?_)
          refine gx_iconst (v := nI 3) C dd_La_319 (kk := ?_)
          refine gx_iadd C dd_La_320 (kk := ?_)
          refine gx_topi _ (nI_add _ _) ?_
          refine gl_sld C hXs hbl hbA (by omega) (by omega) dd_La_321 ?_
          refine gx_callV C (ct_WM_compose (gx_l K) D dA ad mm r hc hσ (xs (i + 1)) (xs (i + 2)) (xs (i + 3))) me_WM_compose ml_La_32 mn_WM_compose _ (gx_w_at (by decide) (gm_r hc0)) rfl dd_La_322 (hf := hroom) (kk := fun v w hq => ?_)
          obtain ⟨mm2, r2, rfl, hc2, hr2, rfl⟩ := hq
          refine gx_wld (gl_to hr2 hlk) ?_
          refine gx_aload_n C 1 dd_La_325 (kk := ?_)
          refine gx_aload_n C 3 dd_La_326 (kk := ?_)
          refine gx_iload_n C 0 dd_La_327 (kk := ?_)
          refine gx_iconst (v := nI 1) C dd_La_328 (kk := ?_)
          refine gx_iadd C dd_La_329 (kk := ?_)
          refine gx_topi _ (nI_add _ _) ?_
          refine gl_sld C hXs hbl hbA (by omega) (by omega) dd_La_330 ?_
          refine gx_aload_n C 3 dd_La_331 (kk := ?_)
          refine gx_iload_n C 0 dd_La_332 (kk := ?_)
          refine gx_iconst (v := nI 2) C dd_La_333 (kk := ?_)
          refine gx_iadd C dd_La_334 (kk := ?_)
          refine gx_topi _ (nI_add _ _) ?_
          refine gl_sld C hXs hbl hbA (by omega) (by omega) dd_La_335 ?_
          refine gx_aload_n C 3 dd_La_336 (kk := ?_)
          refine gx_iload_n C 0 dd_La_337 (kk := ?_)
          refine gx_iconst (v := nI 3) C dd_La_338 (kk := ?_)
          refine gx_iadd C dd_La_339 (kk := ?_)
          refine gx_topi _ (nI_add _ _) ?_
          refine gl_sld C hXs hbl hbA (by omega) (by omega) dd_La_340 ?_
          refine gx_callV C (ct_Mo_compose (gx_l K) D dA ad (gm_h dA ad mm2 r2) F L S hrs hσ (xs (i + 1)) (xs (i + 2)) (xs (i + 3))) me_Mo_compose ml_La_36 mn_Mo_compose _ (gx_w_at (by decide) mo_h_43) rfl dd_La_341 (hf := hroom) (kk := fun v w hq => ?_)
          obtain ⟨F2, L2, S2, rfl, hrs2, rfl⟩ := hq
          refine gx_icmp_eq C 823 dd_La_344 (fun h344 => ?_) (fun h344 => absurd rfl h344)
          refine gx_wld gl_from ?_
          exact next _ mm2 _ F2 L2 S2 (cs_lo (fun k hk => mo_h_lo hk) hc2) hrs2 (ok_compose hσ (xs (i + 1)) (xs (i + 2)) (xs (i + 3))) gl_kk
        · refine gx_tableIn C 349 dd_La_33 (off := 316) (by decide) (by decide) (by decide) (by decide) ?_
          refine gx_aload_n C 2 dd_La_349 (kk := ?_)
          refine gx_aload_n C 3 dd_La_350 (kk := ?_)
          refine gx_iload_n C 0 dd_La_351 (kk := ?_)
          refine gx_iconst (v := nI 1) C dd_La_352 (kk := ?_)
          refine gx_iadd C dd_La_353 (kk := ?_)
          refine gx_topi _ (nI_add _ _) ?_
          refine gl_sld C hXs hbl hbA (by omega) (by omega) dd_La_354 ?_
          refine gx_aload_n C 3 dd_La_355 (kk := ?_)
          refine gx_iload_n C 0 dd_La_356 (kk := ?_)
          refine gx_iconst (v := nI 2) C dd_La_357 (kk := ?_)
          refine gx_iadd C dd_La_358 (kk := ?_)
          refine gx_topi _ (nI_add _ _) ?_
          refine gl_sld C hXs hbl hbA (by omega) (by omega) dd_La_359 ?_
          refine gx_callV C (ct_WM_bare (gx_l K) D dA ad mm r hc hσ (xs (i + 1)) (xs (i + 2))) me_WM_bare ml_La_37 mn_WM_bare _ (gx_w_at (by decide) (gm_r hc0)) rfl dd_La_360 (hf := hroom) (kk := fun v w hq => ?_)
          obtain ⟨mm2, r2, rfl, hc2, hr2, rfl⟩ := hq
          refine gx_wld (gl_to hr2 hlk) ?_
          refine gx_aload_n C 1 dd_La_363 (kk := ?_)
          refine gx_aload_n C 3 dd_La_364 (kk := ?_)
          refine gx_iload_n C 0 dd_La_365 (kk := ?_)
          refine gx_iconst (v := nI 1) C dd_La_366 (kk := ?_)
          refine gx_iadd C dd_La_367 (kk := ?_)
          refine gx_topi _ (nI_add _ _) ?_
          refine gl_sld C hXs hbl hbA (by omega) (by omega) dd_La_368 ?_
          refine gx_aload_n C 3 dd_La_369 (kk := ?_)
          refine gx_iload_n C 0 dd_La_370 (kk := ?_)
          refine gx_iconst (v := nI 2) C dd_La_371 (kk := ?_)
          refine gx_iadd C dd_La_372 (kk := ?_)
          refine gx_topi _ (nI_add _ _) ?_
          refine gl_sld C hXs hbl hbA (by omega) (by omega) dd_La_373 ?_
          refine gx_callV C (ct_Mo_bare (gx_l K) D dA ad (gm_h dA ad mm2 r2) F L S hrs hσ (xs (i + 1)) (xs (i + 2))) me_Mo_bare ml_La_41 mn_Mo_bare _ (gx_w_at (by decide) mo_h_43) rfl dd_La_374 (hf := hroom) (kk := fun v w hq => ?_)
          obtain ⟨F2, L2, S2, rfl, hrs2, rfl⟩ := hq
          refine gx_icmp_eq C 823 dd_La_377 (fun h377 => ?_) (fun h377 => absurd rfl h377)
          refine gx_wld gl_from ?_
          exact next _ mm2 _ F2 L2 S2 (cs_lo (fun k hk => mo_h_lo hk) hc2) hrs2 (ok_bare hσ (xs (i + 1)) (xs (i + 2))) gl_kk
        · refine gx_tableIn C 382 dd_La_33 (off := 349) (by decide) (by decide) (by decide) (by decide) ?_
          refine gx_aload_n C 2 dd_La_382 (kk := ?_)
          refine gx_aload_n C 3 dd_La_383 (kk := ?_)
          refine gx_iload_n C 0 dd_La_384 (kk := ?_)
          refine gx_iconst (v := nI 1) C dd_La_385 (kk := ?_)
          refine gx_iadd C dd_La_386 (kk := ?_)
          refine gx_topi _ (nI_add _ _) ?_
          refine gl_sld C hXs hbl hbA (by omega) (by omega) dd_La_387 ?_
          refine gx_aload_n C 3 dd_La_388 (kk := ?_)
          refine gx_iload_n C 0 dd_La_389 (kk := ?_)
          refine gx_iconst (v := nI 2) C dd_La_390 (kk := ?_)
          refine gx_iadd C dd_La_391 (kk := ?_)
          refine gx_topi _ (nI_add _ _) ?_
          refine gl_sld C hXs hbl hbA (by omega) (by omega) dd_La_392 ?_
          refine gx_callV C (ct_WM_determine (gx_l K) D dA ad mm r hc hσ (xs (i + 1)) (xs (i + 2))) me_WM_determine ml_La_42 mn_WM_determine _ (gx_w_at (by decide) (gm_r hc0)) rfl dd_La_393 (hf := hroom) (kk := fun v w hq => ?_)
          obtain ⟨mm2, r2, rfl, hc2, hr2, rfl⟩ := hq
          refine gx_wld (gl_to hr2 hlk) ?_
          refine gx_aload_n C 1 dd_La_396 (kk := ?_)
          refine gx_aload_n C 3 dd_La_397 (kk := ?_)
          refine gx_iload_n C 0 dd_La_398 (kk := ?_)
          refine gx_iconst (v := nI 1) C dd_La_399 (kk := ?_)
          refine gx_iadd C dd_La_400 (kk := ?_)
          refine gx_topi _ (nI_add _ _) ?_
          refine gl_sld C hXs hbl hbA (by omega) (by omega) dd_La_401 ?_
          refine gx_aload_n C 3 dd_La_402 (kk := ?_)
          refine gx_iload_n C 0 dd_La_403 (kk := ?_)
          refine gx_iconst (v := nI 2) C dd_La_404 (kk := ?_)
          refine gx_iadd C dd_La_405 (kk := ?_)
          refine gx_topi _ (nI_add _ _) ?_
          refine gl_sld C hXs hbl hbA (by omega) (by omega) dd_La_406 ?_
          refine gx_callV C (ct_Mo_determine (gx_l K) D dA ad (gm_h dA ad mm2 r2) F L S hrs hσ (xs (i + 1)) (xs (i + 2))) me_Mo_determine ml_La_45 mn_Mo_determine _ (gx_w_at (by decide) mo_h_43) rfl dd_La_407 (hf := hroom) (kk := fun v w hq => ?_)
          obtain ⟨F2, L2, S2, rfl, hrs2, rfl⟩ := hq
          refine gx_icmp_eq C 823 dd_La_410 (fun h410 => ?_) (fun h410 => absurd rfl h410)
          refine gx_wld gl_from ?_
          exact next _ mm2 _ F2 L2 S2 (cs_lo (fun k hk => mo_h_lo hk) hc2) hrs2 (ok_determine hσ (xs (i + 1)) (xs (i + 2))) gl_kk
        · refine gx_tableIn C 415 dd_La_33 (off := 382) (by decide) (by decide) (by decide) (by decide) ?_
          refine gx_aload_n C 2 dd_La_415 (kk := ?_)
          refine gx_aload_n C 3 dd_La_416 (kk := ?_)
          refine gx_iload_n C 0 dd_La_417 (kk := ?_)
          refine gx_iconst (v := nI 1) C dd_La_418 (kk := ?_)
          refine gx_iadd C dd_La_419 (kk := ?_)
          refine gx_topi _ (nI_add _ _) ?_
          refine gl_sld C hXs hbl hbA (by omega) (by omega) dd_La_420 ?_
          refine gx_aload_n C 3 dd_La_421 (kk := ?_)
          refine gx_iload_n C 0 dd_La_422 (kk := ?_)
          refine gx_iconst (v := nI 2) C dd_La_423 (kk := ?_)
          refine gx_iadd C dd_La_424 (kk := ?_)
          refine gx_topi _ (nI_add _ _) ?_
          refine gl_sld C hXs hbl hbA (by omega) (by omega) dd_La_425 ?_
          refine gx_callV C (ct_WM_push (gx_l K) D dA ad mm r hc hσ (xs (i + 1)) (xs (i + 2))) me_WM_push ml_La_46 mn_WM_push _ (gx_w_at (by decide) (gm_r hc0)) rfl dd_La_426 (hf := hroom) (kk := fun v w hq => ?_)
          obtain ⟨mm2, r2, rfl, hc2, hr2, rfl⟩ := hq
          refine gx_wld (gl_to hr2 hlk) ?_
          refine gx_aload_n C 1 dd_La_429 (kk := ?_)
          refine gx_aload_n C 3 dd_La_430 (kk := ?_)
          refine gx_iload_n C 0 dd_La_431 (kk := ?_)
          refine gx_iconst (v := nI 1) C dd_La_432 (kk := ?_)
          refine gx_iadd C dd_La_433 (kk := ?_)
          refine gx_topi _ (nI_add _ _) ?_
          refine gl_sld C hXs hbl hbA (by omega) (by omega) dd_La_434 ?_
          refine gx_aload_n C 3 dd_La_435 (kk := ?_)
          refine gx_iload_n C 0 dd_La_436 (kk := ?_)
          refine gx_iconst (v := nI 2) C dd_La_437 (kk := ?_)
          refine gx_iadd C dd_La_438 (kk := ?_)
          refine gx_topi _ (nI_add _ _) ?_
          refine gl_sld C hXs hbl hbA (by omega) (by omega) dd_La_439 ?_
          refine gx_callV C (ct_Mo_push (gx_l K) D dA ad (gm_h dA ad mm2 r2) F L S hrs hσ (xs (i + 1)) (xs (i + 2))) me_Mo_push ml_La_49 mn_Mo_push _ (gx_w_at (by decide) mo_h_43) rfl dd_La_440 (hf := hroom) (kk := fun v w hq => ?_)
          obtain ⟨F2, L2, S2, rfl, hrs2, rfl⟩ := hq
          refine gx_icmp_eq C 823 dd_La_443 (fun h443 => ?_) (fun h443 => absurd rfl h443)
          refine gx_wld gl_from ?_
          exact next _ mm2 _ F2 L2 S2 (cs_lo (fun k hk => mo_h_lo hk) hc2) hrs2 (ok_push hσ (xs (i + 1)) (xs (i + 2))) gl_kk
        · refine gx_tableIn C 448 dd_La_33 (off := 415) (by decide) (by decide) (by decide) (by decide) ?_
          refine gx_aload_n C 2 dd_La_448 (kk := ?_)
          refine gx_aload_n C 3 dd_La_449 (kk := ?_)
          refine gx_iload_n C 0 dd_La_450 (kk := ?_)
          refine gx_iconst (v := nI 1) C dd_La_451 (kk := ?_)
          refine gx_iadd C dd_La_452 (kk := ?_)
          refine gx_topi _ (nI_add _ _) ?_
          refine gl_sld C hXs hbl hbA (by omega) (by omega) dd_La_453 ?_
          refine gx_aload_n C 3 dd_La_454 (kk := ?_)
          refine gx_iload_n C 0 dd_La_455 (kk := ?_)
          refine gx_iconst (v := nI 2) C dd_La_456 (kk := ?_)
          refine gx_iadd C dd_La_457 (kk := ?_)
          refine gx_topi _ (nI_add _ _) ?_
          refine gl_sld C hXs hbl hbA (by omega) (by omega) dd_La_458 ?_
          refine gx_callV C (ct_WM_trim (gx_l K) D dA ad mm r hc hσ (xs (i + 1)) (xs (i + 2))) me_WM_trim ml_La_50 mn_WM_trim _ (gx_w_at (by decide) (gm_r hc0)) rfl dd_La_459 (hf := hroom) (kk := fun v w hq => ?_)
          obtain ⟨mm2, r2, rfl, hc2, hr2, rfl⟩ := hq
          refine gx_wld (gl_to hr2 hlk) ?_
          refine gx_aload_n C 1 dd_La_462 (kk := ?_)
          refine gx_aload_n C 3 dd_La_463 (kk := ?_)
          refine gx_iload_n C 0 dd_La_464 (kk := ?_)
          refine gx_iconst (v := nI 1) C dd_La_465 (kk := ?_)
          refine gx_iadd C dd_La_466 (kk := ?_)
          refine gx_topi _ (nI_add _ _) ?_
          refine gl_sld C hXs hbl hbA (by omega) (by omega) dd_La_467 ?_
          refine gx_aload_n C 3 dd_La_468 (kk := ?_)
          refine gx_iload_n C 0 dd_La_469 (kk := ?_)
          refine gx_iconst (v := nI 2) C dd_La_470 (kk := ?_)
          refine gx_iadd C dd_La_471 (kk := ?_)
          refine gx_topi _ (nI_add _ _) ?_
          refine gl_sld C hXs hbl hbA (by omega) (by omega) dd_La_472 ?_
          refine gx_callV C (ct_Mo_trim (gx_l K) D dA ad (gm_h dA ad mm2 r2) F L S hrs hσ (xs (i + 1)) (xs (i + 2))) me_Mo_trim ml_La_53 mn_Mo_trim _ (gx_w_at (by decide) mo_h_43) rfl dd_La_473 (hf := hroom) (kk := fun v w hq => ?_)
          obtain ⟨F2, L2, S2, rfl, hrs2, rfl⟩ := hq
          refine gx_icmp_eq C 823 dd_La_476 (fun h476 => ?_) (fun h476 => absurd rfl h476)
          refine gx_wld gl_from ?_
          exact next _ mm2 _ F2 L2 S2 (cs_lo (fun k hk => mo_h_lo hk) hc2) hrs2 (ok_trim hσ (xs (i + 1)) (xs (i + 2))) gl_kk
        · refine gx_tableIn C 481 dd_La_33 (off := 448) (by decide) (by decide) (by decide) (by decide) ?_
          refine gx_aload_n C 2 dd_La_481 (kk := ?_)
          refine gx_aload_n C 3 dd_La_482 (kk := ?_)
          refine gx_iload_n C 0 dd_La_483 (kk := ?_)
          refine gx_iconst (v := nI 1) C dd_La_484 (kk := ?_)
          refine gx_iadd C dd_La_485 (kk := ?_)
          refine gx_topi _ (nI_add _ _) ?_
          refine gl_sld C hXs hbl hbA (by omega) (by omega) dd_La_486 ?_
          refine gx_aload_n C 3 dd_La_487 (kk := ?_)
          refine gx_iload_n C 0 dd_La_488 (kk := ?_)
          refine gx_iconst (v := nI 2) C dd_La_489 (kk := ?_)
          refine gx_iadd C dd_La_490 (kk := ?_)
          refine gx_topi _ (nI_add _ _) ?_
          refine gl_sld C hXs hbl hbA (by omega) (by omega) dd_La_491 ?_
          refine gx_aload_n C 3 dd_La_492 (kk := ?_)
          refine gx_iload_n C 0 dd_La_493 (kk := ?_)
          refine gx_iconst (v := nI 3) C dd_La_494 (kk := ?_)
          refine gx_iadd C dd_La_495 (kk := ?_)
          refine gx_topi _ (nI_add _ _) ?_
          refine gl_sld C hXs hbl hbA (by omega) (by omega) dd_La_496 ?_
          refine gx_callV C (ct_WM_weigh (gx_l K) D dA ad mm r hc hσ (xs (i + 1)) (xs (i + 2)) (xs (i + 3))) me_WM_weigh ml_La_54 mn_WM_weigh _ (gx_w_at (by decide) (gm_r hc0)) rfl dd_La_497 (hf := hroom) (kk := fun v w hq => ?_)
          obtain ⟨mm2, r2, rfl, hc2, hr2, rfl⟩ := hq
          refine gx_wld (gl_to hr2 hlk) ?_
          refine gx_aload_n C 1 dd_La_500 (kk := ?_)
          refine gx_aload_n C 3 dd_La_501 (kk := ?_)
          refine gx_iload_n C 0 dd_La_502 (kk := ?_)
          refine gx_iconst (v := nI 1) C dd_La_503 (kk := ?_)
          refine gx_iadd C dd_La_504 (kk := ?_)
          refine gx_topi _ (nI_add _ _) ?_
          refine gl_sld C hXs hbl hbA (by omega) (by omega) dd_La_505 ?_
          refine gx_aload_n C 3 dd_La_506 (kk := ?_)
          refine gx_iload_n C 0 dd_La_507 (kk := ?_)
          refine gx_iconst (v := nI 2) C dd_La_508 (kk := ?_)
          refine gx_iadd C dd_La_509 (kk := ?_)
          refine gx_topi _ (nI_add _ _) ?_
          refine gl_sld C hXs hbl hbA (by omega) (by omega) dd_La_510 ?_
          refine gx_aload_n C 3 dd_La_511 (kk := ?_)
          refine gx_iload_n C 0 dd_La_512 (kk := ?_)
          refine gx_iconst (v := nI 3) C dd_La_513 (kk := ?_)
          refine gx_iadd C dd_La_514 (kk := ?_)
          refine gx_topi _ (nI_add _ _) ?_
          refine gl_sld C hXs hbl hbA (by omega) (by omega) dd_La_515 ?_
          refine gx_callV C (ct_Mo_weigh (gx_l K) D dA ad (gm_h dA ad mm2 r2) F L S hrs hσ (xs (i + 1)) (xs (i + 2)) (xs (i + 3))) me_Mo_weigh ml_La_58 mn_Mo_weigh _ (gx_w_at (by decide) mo_h_43) rfl dd_La_516 (hf := hroom) (kk := fun v w hq => ?_)
          obtain ⟨F2, L2, S2, rfl, hrs2, rfl⟩ := hq
          refine gx_lcmp C dd_La_519 (kk := ?_)
          refine gx_if_eq C 823 dd_La_520 (fun h520 => ?_) (fun h520 => absurd (lc_eq.mpr rfl) h520)
          refine gx_wld gl_from ?_
          exact next _ mm2 _ F2 L2 S2 (cs_lo (fun k hk => mo_h_lo hk) hc2) hrs2 (ok_weigh hσ (xs (i + 1)) (xs (i + 2)) (xs (i + 3))) gl_kk
        · refine gx_tableIn C 525 dd_La_33 (off := 492) (by decide) (by decide) (by decide) (by decide) ?_
          refine gx_aload_n C 2 dd_La_525 (kk := ?_)
          refine gx_aload_n C 3 dd_La_526 (kk := ?_)
          refine gx_iload_n C 0 dd_La_527 (kk := ?_)
          refine gx_iconst (v := nI 1) C dd_La_528 (kk := ?_)
          refine gx_iadd C dd_La_529 (kk := ?_)
          refine gx_topi _ (nI_add _ _) ?_
          refine gl_sld C hXs hbl hbA (by omega) (by omega) dd_La_530 ?_
          refine gx_callV C (ct_WM_best (gx_l K) D dA ad mm r hc hσ (xs (i + 1))) me_WM_best ml_La_59 mn_WM_best _ (gx_w_at (by decide) (gm_r hc0)) rfl dd_La_531 (hf := hroom) (kk := fun v w hq => ?_)
          obtain ⟨mm2, r2, rfl, hc2, hr2, rfl⟩ := hq
          refine gx_wld (gl_to hr2 hlk) ?_
          refine gx_aload_n C 1 dd_La_534 (kk := ?_)
          refine gx_aload_n C 3 dd_La_535 (kk := ?_)
          refine gx_iload_n C 0 dd_La_536 (kk := ?_)
          refine gx_iconst (v := nI 1) C dd_La_537 (kk := ?_)
          refine gx_iadd C dd_La_538 (kk := ?_)
          refine gx_topi _ (nI_add _ _) ?_
          refine gl_sld C hXs hbl hbA (by omega) (by omega) dd_La_539 ?_
          refine gx_callV C (ct_Mo_best (gx_l K) D dA ad (gm_h dA ad mm2 r2) F L S hrs hσ (xs (i + 1))) me_Mo_best ml_La_63 mn_Mo_best _ (gx_w_at (by decide) mo_h_43) rfl dd_La_540 (hf := hroom) (kk := fun v w hq => ?_)
          obtain ⟨F2, L2, S2, rfl, hrs2, rfl⟩ := hq
          refine gx_lcmp C dd_La_543 (kk := ?_)
          refine gx_if_eq C 823 dd_La_544 (fun h544 => ?_) (fun h544 => absurd (lc_eq.mpr rfl) h544)
          refine gx_wld gl_from ?_
          exact next _ mm2 _ F2 L2 S2 (cs_lo (fun k hk => mo_h_lo hk) hc2) hrs2 (ok_best hσ (xs (i + 1))) gl_kk
        · refine gx_tableIn C 549 dd_La_33 (off := 516) (by decide) (by decide) (by decide) (by decide) ?_
          refine gx_aload_n C 2 dd_La_549 (kk := ?_)
          refine gx_aload_n C 3 dd_La_550 (kk := ?_)
          refine gx_iload_n C 0 dd_La_551 (kk := ?_)
          refine gx_iconst (v := nI 1) C dd_La_552 (kk := ?_)
          refine gx_iadd C dd_La_553 (kk := ?_)
          refine gx_topi _ (nI_add _ _) ?_
          refine gl_sld C hXs hbl hbA (by omega) (by omega) dd_La_554 ?_
          refine gx_aload_n C 3 dd_La_555 (kk := ?_)
          refine gx_iload_n C 0 dd_La_556 (kk := ?_)
          refine gx_iconst (v := nI 2) C dd_La_557 (kk := ?_)
          refine gx_iadd C dd_La_558 (kk := ?_)
          refine gx_topi _ (nI_add _ _) ?_
          refine gl_sld C hXs hbl hbA (by omega) (by omega) dd_La_559 ?_
          refine gx_callV C (ct_WM_step (gx_l K) D dA ad mm r hc hσ (xs (i + 1)) (xs (i + 2))) me_WM_step ml_La_64 mn_WM_step _ (gx_w_at (by decide) (gm_r hc0)) rfl dd_La_560 (hf := hroom) (kk := fun v w hq => ?_)
          obtain ⟨mm2, r2, rfl, hc2, hr2, rfl⟩ := hq
          refine gx_wld (gl_to hr2 hlk) ?_
          refine gx_aload_n C 1 dd_La_563 (kk := ?_)
          refine gx_aload_n C 3 dd_La_564 (kk := ?_)
          refine gx_iload_n C 0 dd_La_565 (kk := ?_)
          refine gx_iconst (v := nI 1) C dd_La_566 (kk := ?_)
          refine gx_iadd C dd_La_567 (kk := ?_)
          refine gx_topi _ (nI_add _ _) ?_
          refine gl_sld C hXs hbl hbA (by omega) (by omega) dd_La_568 ?_
          refine gx_aload_n C 3 dd_La_569 (kk := ?_)
          refine gx_iload_n C 0 dd_La_570 (kk := ?_)
          refine gx_iconst (v := nI 2) C dd_La_571 (kk := ?_)
          refine gx_iadd C dd_La_572 (kk := ?_)
          refine gx_topi _ (nI_add _ _) ?_
          refine gl_sld C hXs hbl hbA (by omega) (by omega) dd_La_573 ?_
          refine gx_callV C (ct_Mo_step (gx_l K) D dA ad (gm_h dA ad mm2 r2) F L S hrs hσ (xs (i + 1)) (xs (i + 2))) me_Mo_step ml_La_67 mn_Mo_step _ (gx_w_at (by decide) mo_h_43) rfl dd_La_574 (hf := hroom) (kk := fun v w hq => ?_)
          obtain ⟨F2, L2, S2, rfl, hrs2, rfl⟩ := hq
          refine gx_icmp_eq C 823 dd_La_577 (fun h577 => ?_) (fun h577 => absurd rfl h577)
          refine gx_wld gl_from ?_
          exact next _ mm2 _ F2 L2 S2 (cs_lo (fun k hk => mo_h_lo hk) hc2) hrs2 (ok_step hσ (xs (i + 1)) (xs (i + 2))) gl_kk
        · refine gx_tableIn C 582 dd_La_33 (off := 549) (by decide) (by decide) (by decide) (by decide) ?_
          refine gx_aload_n C 2 dd_La_582 (kk := ?_)
          refine gx_aload_n C 3 dd_La_583 (kk := ?_)
          refine gx_iload_n C 0 dd_La_584 (kk := ?_)
          refine gx_iconst (v := nI 1) C dd_La_585 (kk := ?_)
          refine gx_iadd C dd_La_586 (kk := ?_)
          refine gx_topi _ (nI_add _ _) ?_
          refine gl_sld C hXs hbl hbA (by omega) (by omega) dd_La_587 ?_
          refine gx_aload_n C 3 dd_La_588 (kk := ?_)
          refine gx_iload_n C 0 dd_La_589 (kk := ?_)
          refine gx_iconst (v := nI 2) C dd_La_590 (kk := ?_)
          refine gx_iadd C dd_La_591 (kk := ?_)
          refine gx_topi _ (nI_add _ _) ?_
          refine gl_sld C hXs hbl hbA (by omega) (by omega) dd_La_592 ?_
          refine gx_callV C (ct_WM_count (gx_l K) D dA ad mm r hc hσ (xs (i + 1)) (xs (i + 2))) me_WM_count ml_La_68 mn_WM_count _ (gx_w_at (by decide) (gm_r hc0)) rfl dd_La_593 (hf := hroom) (kk := fun v w hq => ?_)
          obtain ⟨mm2, r2, rfl, hc2, hr2, rfl⟩ := hq
          refine gx_wld (gl_to hr2 hlk) ?_
          refine gx_aload_n C 1 dd_La_596 (kk := ?_)
          refine gx_aload_n C 3 dd_La_597 (kk := ?_)
          refine gx_iload_n C 0 dd_La_598 (kk := ?_)
          refine gx_iconst (v := nI 1) C dd_La_599 (kk := ?_)
          refine gx_iadd C dd_La_600 (kk := ?_)
          refine gx_topi _ (nI_add _ _) ?_
          refine gl_sld C hXs hbl hbA (by omega) (by omega) dd_La_601 ?_
          refine gx_aload_n C 3 dd_La_602 (kk := ?_)
          refine gx_iload_n C 0 dd_La_603 (kk := ?_)
          refine gx_iconst (v := nI 2) C dd_La_604 (kk := ?_)
          refine gx_iadd C dd_La_605 (kk := ?_)
          refine gx_topi _ (nI_add _ _) ?_
          refine gl_sld C hXs hbl hbA (by omega) (by omega) dd_La_606 ?_
          refine gx_callV C (ct_Mo_count (gx_l K) D dA ad (gm_h dA ad mm2 r2) F L S hrs hσ (xs (i + 1)) (xs (i + 2))) me_Mo_count ml_La_71 mn_Mo_count _ (gx_w_at (by decide) mo_h_43) rfl dd_La_607 (hf := hroom) (kk := fun v w hq => ?_)
          obtain ⟨F2, L2, S2, rfl, hrs2, rfl⟩ := hq
          refine gx_icmp_eq C 823 dd_La_610 (fun h610 => ?_) (fun h610 => absurd rfl h610)
          refine gx_wld gl_from ?_
          exact next _ mm2 _ F2 L2 S2 (cs_lo (fun k hk => mo_h_lo hk) hc2) hrs2 (ok_count hσ (xs (i + 1)) (xs (i + 2))) gl_kk
        · refine gx_tableIn C 615 dd_La_33 (off := 582) (by decide) (by decide) (by decide) (by decide) ?_
          refine gx_aload_n C 2 dd_La_615 (kk := ?_)
          refine gx_aload_n C 3 dd_La_616 (kk := ?_)
          refine gx_iload_n C 0 dd_La_617 (kk := ?_)
          refine gx_iconst (v := nI 1) C dd_La_618 (kk := ?_)
          refine gx_iadd C dd_La_619 (kk := ?_)
          refine gx_topi _ (nI_add _ _) ?_
          refine gl_sld C hXs hbl hbA (by omega) (by omega) dd_La_620 ?_
          refine gx_aload_n C 3 dd_La_621 (kk := ?_)
          refine gx_iload_n C 0 dd_La_622 (kk := ?_)
          refine gx_iconst (v := nI 2) C dd_La_623 (kk := ?_)
          refine gx_iadd C dd_La_624 (kk := ?_)
          refine gx_topi _ (nI_add _ _) ?_
          refine gl_sld C hXs hbl hbA (by omega) (by omega) dd_La_625 ?_
          refine gx_aload_n C 3 dd_La_626 (kk := ?_)
          refine gx_iload_n C 0 dd_La_627 (kk := ?_)
          refine gx_iconst (v := nI 3) C dd_La_628 (kk := ?_)
          refine gx_iadd C dd_La_629 (kk := ?_)
          refine gx_topi _ (nI_add _ _) ?_
          refine gl_sld C hXs hbl hbA (by omega) (by omega) dd_La_630 ?_
          refine gx_callV C (ct_WM_part (gx_l K) D dA ad mm r hc hσ (xs (i + 1)) (xs (i + 2)) (xs (i + 3))) me_WM_part ml_La_72 mn_WM_part _ (gx_w_at (by decide) (gm_r hc0)) rfl dd_La_631 (hf := hroom) (kk := fun v w hq => ?_)
          obtain ⟨mm2, r2, rfl, hc2, hr2, rfl⟩ := hq
          refine gx_wld (gl_to hr2 hlk) ?_
          refine gx_aload_n C 1 dd_La_634 (kk := ?_)
          refine gx_aload_n C 3 dd_La_635 (kk := ?_)
          refine gx_iload_n C 0 dd_La_636 (kk := ?_)
          refine gx_iconst (v := nI 1) C dd_La_637 (kk := ?_)
          refine gx_iadd C dd_La_638 (kk := ?_)
          refine gx_topi _ (nI_add _ _) ?_
          refine gl_sld C hXs hbl hbA (by omega) (by omega) dd_La_639 ?_
          refine gx_aload_n C 3 dd_La_640 (kk := ?_)
          refine gx_iload_n C 0 dd_La_641 (kk := ?_)
          refine gx_iconst (v := nI 2) C dd_La_642 (kk := ?_)
          refine gx_iadd C dd_La_643 (kk := ?_)
          refine gx_topi _ (nI_add _ _) ?_
          refine gl_sld C hXs hbl hbA (by omega) (by omega) dd_La_644 ?_
          refine gx_aload_n C 3 dd_La_645 (kk := ?_)
          refine gx_iload_n C 0 dd_La_646 (kk := ?_)
          refine gx_iconst (v := nI 3) C dd_La_647 (kk := ?_)
          refine gx_iadd C dd_La_648 (kk := ?_)
          refine gx_topi _ (nI_add _ _) ?_
          refine gl_sld C hXs hbl hbA (by omega) (by omega) dd_La_649 ?_
          refine gx_callV C (ct_Mo_part (gx_l K) D dA ad (gm_h dA ad mm2 r2) F L S hrs hσ (xs (i + 1)) (xs (i + 2)) (xs (i + 3))) me_Mo_part ml_La_75 mn_Mo_part _ (gx_w_at (by decide) mo_h_43) rfl dd_La_650 (hf := hroom) (kk := fun v w hq => ?_)
          obtain ⟨F2, L2, S2, rfl, hrs2, rfl⟩ := hq
          refine gx_icmp_eq C 823 dd_La_653 (fun h653 => ?_) (fun h653 => absurd rfl h653)
          refine gx_wld gl_from ?_
          exact next _ mm2 _ F2 L2 S2 (cs_lo (fun k hk => mo_h_lo hk) hc2) hrs2 (ok_part hσ (xs (i + 1)) (xs (i + 2)) (xs (i + 3))) gl_kk
        · refine gx_tableIn C 658 dd_La_33 (off := 625) (by decide) (by decide) (by decide) (by decide) ?_
          refine gx_aload_n C 2 dd_La_658 (kk := ?_)
          refine gx_aload_n C 3 dd_La_659 (kk := ?_)
          refine gx_iload_n C 0 dd_La_660 (kk := ?_)
          refine gx_iconst (v := nI 1) C dd_La_661 (kk := ?_)
          refine gx_iadd C dd_La_662 (kk := ?_)
          refine gx_topi _ (nI_add _ _) ?_
          refine gl_sld C hXs hbl hbA (by omega) (by omega) dd_La_663 ?_
          refine gx_aload_n C 3 dd_La_664 (kk := ?_)
          refine gx_iload_n C 0 dd_La_665 (kk := ?_)
          refine gx_iconst (v := nI 2) C dd_La_666 (kk := ?_)
          refine gx_iadd C dd_La_667 (kk := ?_)
          refine gx_topi _ (nI_add _ _) ?_
          refine gl_sld C hXs hbl hbA (by omega) (by omega) dd_La_668 ?_
          refine gx_callV C (ct_WM_endOf (gx_l K) D dA ad mm r hc hσ (xs (i + 1)) (xs (i + 2))) me_WM_endOf ml_La_76 mn_WM_endOf _ (gx_w_at (by decide) (gm_r hc0)) rfl dd_La_669 (hf := hroom) (kk := fun v w hq => ?_)
          obtain ⟨mm2, r2, rfl, hc2, hr2, rfl⟩ := hq
          refine gx_wld (gl_to hr2 hlk) ?_
          refine gx_aload_n C 1 dd_La_672 (kk := ?_)
          refine gx_aload_n C 3 dd_La_673 (kk := ?_)
          refine gx_iload_n C 0 dd_La_674 (kk := ?_)
          refine gx_iconst (v := nI 1) C dd_La_675 (kk := ?_)
          refine gx_iadd C dd_La_676 (kk := ?_)
          refine gx_topi _ (nI_add _ _) ?_
          refine gl_sld C hXs hbl hbA (by omega) (by omega) dd_La_677 ?_
          refine gx_aload_n C 3 dd_La_678 (kk := ?_)
          refine gx_iload_n C 0 dd_La_679 (kk := ?_)
          refine gx_iconst (v := nI 2) C dd_La_680 (kk := ?_)
          refine gx_iadd C dd_La_681 (kk := ?_)
          refine gx_topi _ (nI_add _ _) ?_
          refine gl_sld C hXs hbl hbA (by omega) (by omega) dd_La_682 ?_
          refine gx_callV C (ct_Mo_endOf (gx_l K) D dA ad (gm_h dA ad mm2 r2) F L S hrs hσ (xs (i + 1)) (xs (i + 2))) me_Mo_endOf ml_La_79 mn_Mo_endOf _ (gx_w_at (by decide) mo_h_43) rfl dd_La_683 (hf := hroom) (kk := fun v w hq => ?_)
          obtain ⟨F2, L2, S2, rfl, hrs2, rfl⟩ := hq
          refine gx_icmp_eq C 823 dd_La_686 (fun h686 => ?_) (fun h686 => absurd rfl h686)
          refine gx_wld gl_from ?_
          exact next _ mm2 _ F2 L2 S2 (cs_lo (fun k hk => mo_h_lo hk) hc2) hrs2 (ok_endOf hσ (xs (i + 1)) (xs (i + 2))) gl_kk
        · refine gx_tableIn C 691 dd_La_33 (off := 658) (by decide) (by decide) (by decide) (by decide) ?_
          refine gx_aload_n C 2 dd_La_691 (kk := ?_)
          refine gx_aload_n C 3 dd_La_692 (kk := ?_)
          refine gx_iload_n C 0 dd_La_693 (kk := ?_)
          refine gx_iconst (v := nI 1) C dd_La_694 (kk := ?_)
          refine gx_iadd C dd_La_695 (kk := ?_)
          refine gx_topi _ (nI_add _ _) ?_
          refine gl_sld C hXs hbl hbA (by omega) (by omega) dd_La_696 ?_
          refine gx_callV C (ct_WM_print (gx_l K) D dA ad mm r hc hσ (xs (i + 1))) me_WM_print ml_La_80 mn_WM_print _ (gx_w_at (by decide) (gm_r hc0)) rfl dd_La_697 (hf := hroom) (kk := fun v w hq => ?_)
          obtain ⟨mm2, r2, rfl, hc2, hr2, rfl⟩ := hq
          refine gx_wld (gl_to hr2 hlk) ?_
          refine gx_aload_n C 1 dd_La_700 (kk := ?_)
          refine gx_aload_n C 3 dd_La_701 (kk := ?_)
          refine gx_iload_n C 0 dd_La_702 (kk := ?_)
          refine gx_iconst (v := nI 1) C dd_La_703 (kk := ?_)
          refine gx_iadd C dd_La_704 (kk := ?_)
          refine gx_topi _ (nI_add _ _) ?_
          refine gl_sld C hXs hbl hbA (by omega) (by omega) dd_La_705 ?_
          refine gx_callV C (ct_Mo_print (gx_l K) D dA ad (gm_h dA ad mm2 r2) F L S hrs hσ (xs (i + 1))) me_Mo_print ml_La_84 mn_Mo_print _ (gx_w_at (by decide) mo_h_43) rfl dd_La_706 (hf := hroom) (kk := fun v w hq => ?_)
          obtain ⟨F2, L2, S2, rfl, hrs2, rfl⟩ := hq
          refine gx_icmp_eq C 823 dd_La_709 (fun h709 => ?_) (fun h709 => absurd rfl h709)
          refine gx_wld gl_from ?_
          exact next _ mm2 _ F2 L2 S2 (cs_lo (fun k hk => mo_h_lo hk) hc2) hrs2 (ok_print hσ (xs (i + 1))) gl_kk
        · refine gx_tableIn C 714 dd_La_33 (off := 681) (by decide) (by decide) (by decide) (by decide) ?_
          refine gx_aload_n C 2 dd_La_714 (kk := ?_)
          refine gx_aload_n C 3 dd_La_715 (kk := ?_)
          refine gx_iload_n C 0 dd_La_716 (kk := ?_)
          refine gx_iconst (v := nI 1) C dd_La_717 (kk := ?_)
          refine gx_iadd C dd_La_718 (kk := ?_)
          refine gx_topi _ (nI_add _ _) ?_
          refine gl_sld C hXs hbl hbA (by omega) (by omega) dd_La_719 ?_
          refine gx_callV C (ct_WM_parse (gx_l K) D dA ad mm r hc hσ (xs (i + 1))) me_WM_parse ml_La_85 mn_WM_parse _ (gx_w_at (by decide) (gm_r hc0)) rfl dd_La_720 (hf := hroom) (kk := fun v w hq => ?_)
          obtain ⟨mm2, r2, rfl, hc2, hr2, rfl⟩ := hq
          refine gx_wld (gl_to hr2 hlk) ?_
          refine gx_aload_n C 1 dd_La_723 (kk := ?_)
          refine gx_aload_n C 3 dd_La_724 (kk := ?_)
          refine gx_iload_n C 0 dd_La_725 (kk := ?_)
          refine gx_iconst (v := nI 1) C dd_La_726 (kk := ?_)
          refine gx_iadd C dd_La_727 (kk := ?_)
          refine gx_topi _ (nI_add _ _) ?_
          refine gl_sld C hXs hbl hbA (by omega) (by omega) dd_La_728 ?_
          refine gx_callV C (ct_Mo_parse (gx_l K) D dA ad (gm_h dA ad mm2 r2) F L S hrs hσ (xs (i + 1))) me_Mo_parse ml_La_88 mn_Mo_parse _ (gx_w_at (by decide) mo_h_43) rfl dd_La_729 (hf := hroom) (kk := fun v w hq => ?_)
          obtain ⟨F2, L2, S2, rfl, hrs2, rfl⟩ := hq
          refine gx_icmp_eq C 823 dd_La_732 (fun h732 => ?_) (fun h732 => absurd rfl h732)
          refine gx_wld gl_from ?_
          exact next _ mm2 _ F2 L2 S2 (cs_lo (fun k hk => mo_h_lo hk) hc2) hrs2 (ok_parse hσ (xs (i + 1))) gl_kk
        · refine gx_tableIn C 737 dd_La_33 (off := 704) (by decide) (by decide) (by decide) (by decide) ?_
          refine gx_aload_n C 2 dd_La_737 (kk := ?_)
          refine gx_aload_n C 3 dd_La_738 (kk := ?_)
          refine gx_iload_n C 0 dd_La_739 (kk := ?_)
          refine gx_iconst (v := nI 1) C dd_La_740 (kk := ?_)
          refine gx_iadd C dd_La_741 (kk := ?_)
          refine gx_topi _ (nI_add _ _) ?_
          refine gl_sld C hXs hbl hbA (by omega) (by omega) dd_La_742 ?_
          refine gx_i2l C dd_La_743 (kk := ?_)
          refine gx_bipush (v := nI 32) C dd_La_744 (kk := ?_)
          refine gx_lshl C dd_La_746 (kk := ?_)
          refine gx_aload_n C 3 dd_La_747 (kk := ?_)
          refine gx_iload_n C 0 dd_La_748 (kk := ?_)
          refine gx_iconst (v := nI 2) C dd_La_749 (kk := ?_)
          refine gx_iadd C dd_La_750 (kk := ?_)
          refine gx_topi _ (nI_add _ _) ?_
          refine gl_sld C hXs hbl hbA (by omega) (by omega) dd_La_751 ?_
          refine gx_i2l C dd_La_752 (kk := ?_)
          refine gx_ldc2 C dd_La_753 kc_La_89 (kk := ?_)
          refine gx_land C dd_La_756 (kk := ?_)
          refine gx_lor C dd_La_757 (kk := ?_)
          refine gx_aload_n C 3 dd_La_758 (kk := ?_)
          refine gx_iload_n C 0 dd_La_759 (kk := ?_)
          refine gx_iconst (v := nI 3) C dd_La_760 (kk := ?_)
          refine gx_iadd C dd_La_761 (kk := ?_)
          refine gx_topi _ (nI_add _ _) ?_
          refine gl_sld C hXs hbl hbA (by omega) (by omega) dd_La_762 ?_
          refine gx_callV C (ct_WM_feed (gx_l K) D dA ad mm r hc hσ _ (xs (i + 3))) me_WM_feed ml_La_91 mn_WM_feed _ (gx_w_at (by decide) (gm_r hc0)) rfl dd_La_763 (hf := hroom) (kk := fun v w hq => ?_)
          obtain ⟨mm2, r2, rfl, hc2, hr2, rfl⟩ := hq
          refine gx_wld (gl_to hr2 hlk) ?_
          refine gx_aload_n C 1 dd_La_766 (kk := ?_)
          refine gx_aload_n C 3 dd_La_767 (kk := ?_)
          refine gx_iload_n C 0 dd_La_768 (kk := ?_)
          refine gx_iconst (v := nI 1) C dd_La_769 (kk := ?_)
          refine gx_iadd C dd_La_770 (kk := ?_)
          refine gx_topi _ (nI_add _ _) ?_
          refine gl_sld C hXs hbl hbA (by omega) (by omega) dd_La_771 ?_
          refine gx_i2l C dd_La_772 (kk := ?_)
          refine gx_bipush (v := nI 32) C dd_La_773 (kk := ?_)
          refine gx_lshl C dd_La_775 (kk := ?_)
          refine gx_aload_n C 3 dd_La_776 (kk := ?_)
          refine gx_iload_n C 0 dd_La_777 (kk := ?_)
          refine gx_iconst (v := nI 2) C dd_La_778 (kk := ?_)
          refine gx_iadd C dd_La_779 (kk := ?_)
          refine gx_topi _ (nI_add _ _) ?_
          refine gl_sld C hXs hbl hbA (by omega) (by omega) dd_La_780 ?_
          refine gx_i2l C dd_La_781 (kk := ?_)
          refine gx_ldc2 C dd_La_782 kc_La_89 (kk := ?_)
          refine gx_land C dd_La_785 (kk := ?_)
          refine gx_lor C dd_La_786 (kk := ?_)
          refine gx_aload_n C 3 dd_La_787 (kk := ?_)
          refine gx_iload_n C 0 dd_La_788 (kk := ?_)
          refine gx_iconst (v := nI 3) C dd_La_789 (kk := ?_)
          refine gx_iadd C dd_La_790 (kk := ?_)
          refine gx_topi _ (nI_add _ _) ?_
          refine gl_sld C hXs hbl hbA (by omega) (by omega) dd_La_791 ?_
          refine gx_callV C (ct_Mo_feed (gx_l K) D dA ad (gm_h dA ad mm2 r2) F L S hrs hσ _ (xs (i + 3))) me_Mo_feed ml_La_95 mn_Mo_feed _ (gx_w_at (by decide) mo_h_43) rfl dd_La_792 (hf := hroom) (kk := fun v w hq => ?_)
          obtain ⟨F2, L2, S2, rfl, hrs2, rfl⟩ := hq
          refine gx_icmp_eq C 823 dd_La_795 (fun h795 => ?_) (fun h795 => absurd rfl h795)
          refine gx_wld gl_from ?_
          exact next _ mm2 _ F2 L2 S2 (cs_lo (fun k hk => mo_h_lo hk) hc2) hrs2 (ok_feed hσ _ _) gl_kk
        · refine gx_tableIn C 800 dd_La_33 (off := 767) (by decide) (by decide) (by decide) (by decide) ?_
          refine gx_aload_n C 2 dd_La_800 (kk := ?_)
          refine gx_aload_n C 3 dd_La_801 (kk := ?_)
          refine gx_iload_n C 0 dd_La_802 (kk := ?_)
          refine gx_iconst (v := nI 1) C dd_La_803 (kk := ?_)
          refine gx_iadd C dd_La_804 (kk := ?_)
          refine gx_topi _ (nI_add _ _) ?_
          refine gl_sld C hXs hbl hbA (by omega) (by omega) dd_La_805 ?_
          refine gx_callV C (ct_WM_letter (gx_l K) D dA ad mm r hc hσ (xs (i + 1))) me_WM_letter ml_La_96 mn_WM_letter _ (gx_w_at (by decide) (gm_r hc0)) rfl dd_La_806 (hf := hroom) (kk := fun v w hq => ?_)
          obtain ⟨mm2, r2, rfl, hc2, hr2, rfl⟩ := hq
          refine gx_wld (gl_to hr2 hlk) ?_
          refine gx_aload_n C 1 dd_La_809 (kk := ?_)
          refine gx_aload_n C 3 dd_La_810 (kk := ?_)
          refine gx_iload_n C 0 dd_La_811 (kk := ?_)
          refine gx_iconst (v := nI 1) C dd_La_812 (kk := ?_)
          refine gx_iadd C dd_La_813 (kk := ?_)
          refine gx_topi _ (nI_add _ _) ?_
          refine gl_sld C hXs hbl hbA (by omega) (by omega) dd_La_814 ?_
          refine gx_callV C (ct_Mo_letter (gx_l K) D dA ad (gm_h dA ad mm2 r2) F L S hrs hσ (xs (i + 1))) me_Mo_letter ml_La_99 mn_Mo_letter _ (gx_w_at (by decide) mo_h_43) rfl dd_La_815 (hf := hroom) (kk := fun v w hq => ?_)
          obtain ⟨F2, L2, S2, rfl, hrs2, rfl⟩ := hq
          refine gx_icmp_eq C 823 dd_La_818 (fun h818 => ?_) (fun h818 => absurd rfl h818)
          refine gx_wld gl_from ?_
          exact next _ mm2 _ F2 L2 S2 (cs_lo (fun k hk => mo_h_lo hk) hc2) hrs2 (ok_letter hσ (xs (i + 1))) gl_kk
        · refine gx_tableOut C 823 dd_La_33 (Or.inr (by rw [nI_toInt (by omega)]; omega)) (by decide) ?_
          exact next σ mm r F L S hc hrs hσ hlk
  exact loop
theorem gl_D {s : State} {args : Array Value} (hts : ∀ w ∈ gx_F, w.before args s = true) : ∃ D : va_G, ∀ (c : Nat) (q : vw_C), vw_Cl[c]? = some q → u_Kn s q.1 q.2.1 q.2.2 (D.1 c) (D.2 c) := by
  have h : ∀ c : Nat, ∃ x : ClassId × (Nat → Nat), ∀ q : vw_C, vw_Cl[c]? = some q → u_Kn s q.1 q.2.1 q.2.2 x.1 x.2 := by
    intro c
    rcases Nat.lt_or_ge c 12 with hc | hc
    · have hcc : c = 0 ∨ c = 1 ∨ c = 2 ∨ c = 3 ∨ c = 4 ∨ c = 5 ∨ c = 6 ∨ c = 7 ∨ c = 8 ∨ c = 9 ∨ c = 10 ∨ c = 11 := by omega
      rcases hcc with rfl | rfl | rfl | rfl | rfl | rfl | rfl | rfl | rfl | rfl | rfl | rfl
      · obtain ⟨a, b, hab⟩ := u_known hts ly_Ba (hts _ in_Ba)
        exact ⟨(a, b), fun q hq => by cases hq; exact hab⟩
      · obtain ⟨a, b, hab⟩ := u_known hts ly_BP (hts _ in_BP)
        exact ⟨(a, b), fun q hq => by cases hq; exact hab⟩
      · obtain ⟨a, b, hab⟩ := u_known hts ly_Co (hts _ in_Co)
        exact ⟨(a, b), fun q hq => by cases hq; exact hab⟩
      · obtain ⟨a, b, hab⟩ := u_known hts ly_De (hts _ in_De)
        exact ⟨(a, b), fun q hq => by cases hq; exact hab⟩
      · obtain ⟨a, b, hab⟩ := u_known hts ly_Ma (hts _ in_Ma)
        exact ⟨(a, b), fun q hq => by cases hq; exact hab⟩
      · obtain ⟨a, b, hab⟩ := u_known hts ly_On (hts _ in_On)
        exact ⟨(a, b), fun q hq => by cases hq; exact hab⟩
      · obtain ⟨a, b, hab⟩ := u_known hts ly_Pa (hts _ in_Pa)
        exact ⟨(a, b), fun q hq => by cases hq; exact hab⟩
      · obtain ⟨a, b, hab⟩ := u_known hts ly_Ro (hts _ in_Ro)
        exact ⟨(a, b), fun q hq => by cases hq; exact hab⟩
      · obtain ⟨a, b, hab⟩ := u_known hts ly_Te (hts _ in_Te)
        exact ⟨(a, b), fun q hq => by cases hq; exact hab⟩
      · obtain ⟨a, b, hab⟩ := u_known hts ly_We (hts _ in_We)
        exact ⟨(a, b), fun q hq => by cases hq; exact hab⟩
      · obtain ⟨a, b, hab⟩ := u_known hts ly_WM (hts _ in_WM)
        exact ⟨(a, b), fun q hq => by cases hq; exact hab⟩
      · obtain ⟨a, b, hab⟩ := u_known hts ly_Mo (hts _ in_Mo)
        exact ⟨(a, b), fun q hq => by cases hq; exact hab⟩
    · exact ⟨(0, fun _ => 0), fun q hq => absurd (List.getElem?_eq_some_iff.mp hq).1 (by show ¬ c < 12; omega)⟩
  have h2 := fun c => Classical.choose_spec (h c)
  exact ⟨((fun c => (Classical.choose (h c)).1), (fun c => (Classical.choose (h c)).2)), fun c q hq => h2 c q hq⟩
theorem gl_A {s : State} {args : Array Value} (hts : ∀ w ∈ gx_F, w.before args s = true) (hao : (Cond.arrayOver (.object "WeighedMachines$Machine")).before args s = true) : ∃ dA : Nat → ClassId, ∀ (k : Nat) (q : ClassId × FieldType), (gx_T dA)[k]? = some q → ArrOfT s q.1 q.2 ∧ va_RA s q.1 q.2 := by
  obtain ⟨c0, k0, p0, a1, a2, a3⟩ := Cond.arrayClass_spec (hts _ ac_i)
  obtain ⟨c1, k1, p1, b1, b2, b3⟩ := Cond.arrayClass_spec (hts _ ac_l)
  obtain ⟨c2, k2, p2, d1, d2, d3⟩ := Cond.arrayClass_spec (hts _ ac_c)
  obtain ⟨c3, k3, p3, e1, e2, e3⟩ := Cond.arrayClass_spec (hts _ ac_z)
  obtain ⟨comp, c4, k4, f4, -, f2, f3, f1⟩ := Cond.arrayOver_spec hao
  refine ⟨fun k => match k with | 0 => c0 | 1 => c1 | 2 => c2 | 3 => c3 | _ => c4, fun k q hq => ?_⟩
  have hk : k < 5 := (List.getElem?_eq_some_iff.mp hq).1
  rcases (show k = 0 ∨ k = 1 ∨ k = 2 ∨ k = 3 ∨ k = 4 by omega) with rfl | rfl | rfl | rfl | rfl
  · cases hq
    exact ⟨fun n z => ⟨fun k h => (by cases h), k0, a2, p0, a3⟩, a1⟩
  · cases hq
    exact ⟨fun n z => ⟨fun k h => (by cases h), k1, b2, p1, b3⟩, b1⟩
  · cases hq
    exact ⟨fun n z => ⟨fun k h => (by cases h), k2, d2, p2, d3⟩, d1⟩
  · cases hq
    exact ⟨fun n z => ⟨fun k h => (by cases h), k3, e2, p3, e3⟩, e1⟩
  · cases hq
    exact ⟨fun n z => ⟨fun k h => (by cases h), k4, f2, comp, f3⟩, k4, comp, f2, f3, f4, f1⟩
