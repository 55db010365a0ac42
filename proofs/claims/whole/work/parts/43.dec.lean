theorem d_Law_law_0 : decode code 0 = .ok (.new 7, 3) := by decide +kernel
theorem d_Law_law_3 : decode code 3 = .ok (.dup, 1) := by decide +kernel
theorem d_Law_law_4 : decode code 4 = .ok (.aload_n 0, 1) := by decide +kernel
theorem d_Law_law_5 : decode code 5 = .ok (.iconst 0, 1) := by decide +kernel
theorem d_Law_law_6 : decode code 6 = .ok (.invokestatic 9, 3) := by decide +kernel
theorem d_Law_law_9 : decode code 9 = .ok (.invokespecial 15, 3) := by decide +kernel
theorem d_Law_law_12 : decode code 12 = .ok (.astore_n 1, 1) := by decide +kernel
theorem d_Law_law_13 : decode code 13 = .ok (.new 18, 3) := by decide +kernel
theorem d_Law_law_16 : decode code 16 = .ok (.dup, 1) := by decide +kernel
theorem d_Law_law_17 : decode code 17 = .ok (.aload_n 0, 1) := by decide +kernel
theorem d_Law_law_18 : decode code 18 = .ok (.iconst 0, 1) := by decide +kernel
theorem d_Law_law_19 : decode code 19 = .ok (.invokestatic 9, 3) := by decide +kernel
theorem d_Law_law_22 : decode code 22 = .ok (.invokespecial 20, 3) := by decide +kernel
theorem d_Law_law_25 : decode code 25 = .ok (.astore_n 2, 1) := by decide +kernel
theorem d_Law_law_26 : decode code 26 = .ok (.iconst 1, 1) := by decide +kernel
theorem d_Law_law_27 : decode code 27 = .ok (.istore_n 3, 1) := by decide +kernel
theorem d_Law_law_28 : decode code 28 = .ok (.iload_n 3, 1) := by decide +kernel
theorem d_Law_law_29 : decode code 29 = .ok (.aload_n 0, 1) := by decide +kernel
theorem d_Law_law_30 : decode code 30 = .ok (.arraylength, 1) := by decide +kernel
theorem d_Law_law_31 : decode code 31 = .ok (.bipush 6, 2) := by decide +kernel
theorem d_Law_law_33 : decode code 33 = .ok (.isub, 1) := by decide +kernel
theorem d_Law_law_34 : decode code 34 = .ok (.if_icmp .gt 636, 3) := by decide +kernel
theorem d_Law_law_37 : decode code 37 = .ok (.aload_n 0, 1) := by decide +kernel
theorem d_Law_law_38 : decode code 38 = .ok (.iload_n 3, 1) := by decide +kernel
theorem d_Law_law_39 : decode code 39 = .ok (.iaload, 1) := by decide +kernel
theorem d_Law_law_40 : decode code 40 = .ok (.bipush 15, 2) := by decide +kernel
theorem d_Law_law_42 : decode code 42 = .ok (.iand, 1) := by decide +kernel
theorem d_Law_law_43 : decode code 43 = .ok (.tableswitch 621 0 15 #[77, 140, 163, 174, 217, 250, 293, 362, 431, 480, 493, 526, 559, 572, 585, 598], 77) := by decide +kernel
theorem d_Law_law_120 : decode code 120 = .ok (.aload_n 1, 1) := by decide +kernel
theorem d_Law_law_121 : decode code 121 = .ok (.aload_n 0, 1) := by decide +kernel
theorem d_Law_law_122 : decode code 122 = .ok (.iload_n 3, 1) := by decide +kernel
theorem d_Law_law_123 : decode code 123 = .ok (.iconst 1, 1) := by decide +kernel
theorem d_Law_law_124 : decode code 124 = .ok (.iadd, 1) := by decide +kernel
theorem d_Law_law_125 : decode code 125 = .ok (.iaload, 1) := by decide +kernel
theorem d_Law_law_126 : decode code 126 = .ok (.aload_n 0, 1) := by decide +kernel
theorem d_Law_law_127 : decode code 127 = .ok (.iload_n 3, 1) := by decide +kernel
theorem d_Law_law_128 : decode code 128 = .ok (.iconst 2, 1) := by decide +kernel
theorem d_Law_law_129 : decode code 129 = .ok (.iadd, 1) := by decide +kernel
theorem d_Law_law_130 : decode code 130 = .ok (.iaload, 1) := by decide +kernel
theorem d_Law_law_131 : decode code 131 = .ok (.aload_n 0, 1) := by decide +kernel
theorem d_Law_law_132 : decode code 132 = .ok (.iload_n 3, 1) := by decide +kernel
theorem d_Law_law_133 : decode code 133 = .ok (.iconst 3, 1) := by decide +kernel
theorem d_Law_law_134 : decode code 134 = .ok (.iadd, 1) := by decide +kernel
theorem d_Law_law_135 : decode code 135 = .ok (.iaload, 1) := by decide +kernel
theorem d_Law_law_136 : decode code 136 = .ok (.aload_n 0, 1) := by decide +kernel
theorem d_Law_law_137 : decode code 137 = .ok (.iload_n 3, 1) := by decide +kernel
theorem d_Law_law_138 : decode code 138 = .ok (.iconst 4, 1) := by decide +kernel
theorem d_Law_law_139 : decode code 139 = .ok (.iadd, 1) := by decide +kernel
theorem d_Law_law_140 : decode code 140 = .ok (.iaload, 1) := by decide +kernel
theorem d_Law_law_141 : decode code 141 = .ok (.aload_n 0, 1) := by decide +kernel
theorem d_Law_law_142 : decode code 142 = .ok (.iload_n 3, 1) := by decide +kernel
theorem d_Law_law_143 : decode code 143 = .ok (.iconst 5, 1) := by decide +kernel
theorem d_Law_law_144 : decode code 144 = .ok (.iadd, 1) := by decide +kernel
theorem d_Law_law_145 : decode code 145 = .ok (.iaload, 1) := by decide +kernel
theorem d_Law_law_146 : decode code 146 = .ok (.invokevirtual 21, 3) := by decide +kernel
theorem d_Law_law_149 : decode code 149 = .ok (.aload_n 2, 1) := by decide +kernel
theorem d_Law_law_150 : decode code 150 = .ok (.aload_n 0, 1) := by decide +kernel
theorem d_Law_law_151 : decode code 151 = .ok (.iload_n 3, 1) := by decide +kernel
theorem d_Law_law_152 : decode code 152 = .ok (.iconst 1, 1) := by decide +kernel
theorem d_Law_law_153 : decode code 153 = .ok (.iadd, 1) := by decide +kernel
theorem d_Law_law_154 : decode code 154 = .ok (.iaload, 1) := by decide +kernel
theorem d_Law_law_155 : decode code 155 = .ok (.aload_n 0, 1) := by decide +kernel
theorem d_Law_law_156 : decode code 156 = .ok (.iload_n 3, 1) := by decide +kernel
theorem d_Law_law_157 : decode code 157 = .ok (.iconst 2, 1) := by decide +kernel
theorem d_Law_law_158 : decode code 158 = .ok (.iadd, 1) := by decide +kernel
theorem d_Law_law_159 : decode code 159 = .ok (.iaload, 1) := by decide +kernel
theorem d_Law_law_160 : decode code 160 = .ok (.aload_n 0, 1) := by decide +kernel
theorem d_Law_law_161 : decode code 161 = .ok (.iload_n 3, 1) := by decide +kernel
theorem d_Law_law_162 : decode code 162 = .ok (.iconst 3, 1) := by decide +kernel
theorem d_Law_law_163 : decode code 163 = .ok (.iadd, 1) := by decide +kernel
theorem d_Law_law_164 : decode code 164 = .ok (.iaload, 1) := by decide +kernel
theorem d_Law_law_165 : decode code 165 = .ok (.aload_n 0, 1) := by decide +kernel
theorem d_Law_law_166 : decode code 166 = .ok (.iload_n 3, 1) := by decide +kernel
theorem d_Law_law_167 : decode code 167 = .ok (.iconst 4, 1) := by decide +kernel
theorem d_Law_law_168 : decode code 168 = .ok (.iadd, 1) := by decide +kernel
theorem d_Law_law_169 : decode code 169 = .ok (.iaload, 1) := by decide +kernel
theorem d_Law_law_170 : decode code 170 = .ok (.aload_n 0, 1) := by decide +kernel
theorem d_Law_law_171 : decode code 171 = .ok (.iload_n 3, 1) := by decide +kernel
theorem d_Law_law_172 : decode code 172 = .ok (.iconst 5, 1) := by decide +kernel
theorem d_Law_law_173 : decode code 173 = .ok (.iadd, 1) := by decide +kernel
theorem d_Law_law_174 : decode code 174 = .ok (.iaload, 1) := by decide +kernel
theorem d_Law_law_175 : decode code 175 = .ok (.invokevirtual 25, 3) := by decide +kernel
theorem d_Law_law_178 : decode code 178 = .ok (.if_icmp .eq 486, 3) := by decide +kernel
theorem d_Law_law_181 : decode code 181 = .ok (.iconst 0, 1) := by decide +kernel
theorem d_Law_law_182 : decode code 182 = .ok (.ireturn, 1) := by decide +kernel
theorem d_Law_law_183 : decode code 183 = .ok (.aload_n 1, 1) := by decide +kernel
theorem d_Law_law_184 : decode code 184 = .ok (.aload_n 0, 1) := by decide +kernel
theorem d_Law_law_185 : decode code 185 = .ok (.iload_n 3, 1) := by decide +kernel
theorem d_Law_law_186 : decode code 186 = .ok (.iconst 1, 1) := by decide +kernel
theorem d_Law_law_187 : decode code 187 = .ok (.iadd, 1) := by decide +kernel
theorem d_Law_law_188 : decode code 188 = .ok (.iaload, 1) := by decide +kernel
theorem d_Law_law_189 : decode code 189 = .ok (.invokevirtual 26, 3) := by decide +kernel
theorem d_Law_law_192 : decode code 192 = .ok (.aload_n 2, 1) := by decide +kernel
theorem d_Law_law_193 : decode code 193 = .ok (.aload_n 0, 1) := by decide +kernel
theorem d_Law_law_194 : decode code 194 = .ok (.iload_n 3, 1) := by decide +kernel
theorem d_Law_law_195 : decode code 195 = .ok (.iconst 1, 1) := by decide +kernel
theorem d_Law_law_196 : decode code 196 = .ok (.iadd, 1) := by decide +kernel
theorem d_Law_law_197 : decode code 197 = .ok (.iaload, 1) := by decide +kernel
theorem d_Law_law_198 : decode code 198 = .ok (.invokevirtual 30, 3) := by decide +kernel
theorem d_Law_law_201 : decode code 201 = .ok (.if_icmp .eq 463, 3) := by decide +kernel
theorem d_Law_law_204 : decode code 204 = .ok (.iconst 0, 1) := by decide +kernel
theorem d_Law_law_205 : decode code 205 = .ok (.ireturn, 1) := by decide +kernel
theorem d_Law_law_206 : decode code 206 = .ok (.aload_n 1, 1) := by decide +kernel
theorem d_Law_law_207 : decode code 207 = .ok (.invokevirtual 31, 3) := by decide +kernel
theorem d_Law_law_210 : decode code 210 = .ok (.aload_n 2, 1) := by decide +kernel
theorem d_Law_law_211 : decode code 211 = .ok (.invokevirtual 34, 3) := by decide +kernel
theorem d_Law_law_214 : decode code 214 = .ok (.goto 450, 3) := by decide +kernel
theorem d_Law_law_217 : decode code 217 = .ok (.aload_n 1, 1) := by decide +kernel
theorem d_Law_law_218 : decode code 218 = .ok (.aload_n 0, 1) := by decide +kernel
theorem d_Law_law_219 : decode code 219 = .ok (.iload_n 3, 1) := by decide +kernel
theorem d_Law_law_220 : decode code 220 = .ok (.iconst 1, 1) := by decide +kernel
theorem d_Law_law_221 : decode code 221 = .ok (.iadd, 1) := by decide +kernel
theorem d_Law_law_222 : decode code 222 = .ok (.iaload, 1) := by decide +kernel
theorem d_Law_law_223 : decode code 223 = .ok (.aload_n 0, 1) := by decide +kernel
theorem d_Law_law_224 : decode code 224 = .ok (.iload_n 3, 1) := by decide +kernel
theorem d_Law_law_225 : decode code 225 = .ok (.iconst 2, 1) := by decide +kernel
theorem d_Law_law_226 : decode code 226 = .ok (.iadd, 1) := by decide +kernel
theorem d_Law_law_227 : decode code 227 = .ok (.iaload, 1) := by decide +kernel
theorem d_Law_law_228 : decode code 228 = .ok (.aload_n 0, 1) := by decide +kernel
theorem d_Law_law_229 : decode code 229 = .ok (.iload_n 3, 1) := by decide +kernel
theorem d_Law_law_230 : decode code 230 = .ok (.iconst 3, 1) := by decide +kernel
theorem d_Law_law_231 : decode code 231 = .ok (.iadd, 1) := by decide +kernel
theorem d_Law_law_232 : decode code 232 = .ok (.iaload, 1) := by decide +kernel
theorem d_Law_law_233 : decode code 233 = .ok (.invokevirtual 35, 3) := by decide +kernel
theorem d_Law_law_236 : decode code 236 = .ok (.aload_n 2, 1) := by decide +kernel
theorem d_Law_law_237 : decode code 237 = .ok (.aload_n 0, 1) := by decide +kernel
theorem d_Law_law_238 : decode code 238 = .ok (.iload_n 3, 1) := by decide +kernel
theorem d_Law_law_239 : decode code 239 = .ok (.iconst 1, 1) := by decide +kernel
theorem d_Law_law_240 : decode code 240 = .ok (.iadd, 1) := by decide +kernel
theorem d_Law_law_241 : decode code 241 = .ok (.iaload, 1) := by decide +kernel
theorem d_Law_law_242 : decode code 242 = .ok (.aload_n 0, 1) := by decide +kernel
theorem d_Law_law_243 : decode code 243 = .ok (.iload_n 3, 1) := by decide +kernel
theorem d_Law_law_244 : decode code 244 = .ok (.iconst 2, 1) := by decide +kernel
theorem d_Law_law_245 : decode code 245 = .ok (.iadd, 1) := by decide +kernel
theorem d_Law_law_246 : decode code 246 = .ok (.iaload, 1) := by decide +kernel
theorem d_Law_law_247 : decode code 247 = .ok (.aload_n 0, 1) := by decide +kernel
theorem d_Law_law_248 : decode code 248 = .ok (.iload_n 3, 1) := by decide +kernel
theorem d_Law_law_249 : decode code 249 = .ok (.iconst 3, 1) := by decide +kernel
theorem d_Law_law_250 : decode code 250 = .ok (.iadd, 1) := by decide +kernel
theorem d_Law_law_251 : decode code 251 = .ok (.iaload, 1) := by decide +kernel
theorem d_Law_law_252 : decode code 252 = .ok (.invokevirtual 39, 3) := by decide +kernel
theorem d_Law_law_255 : decode code 255 = .ok (.if_icmp .eq 409, 3) := by decide +kernel
theorem d_Law_law_258 : decode code 258 = .ok (.iconst 0, 1) := by decide +kernel
theorem d_Law_law_259 : decode code 259 = .ok (.ireturn, 1) := by decide +kernel
theorem d_Law_law_260 : decode code 260 = .ok (.aload_n 1, 1) := by decide +kernel
theorem d_Law_law_261 : decode code 261 = .ok (.aload_n 0, 1) := by decide +kernel
theorem d_Law_law_262 : decode code 262 = .ok (.iload_n 3, 1) := by decide +kernel
theorem d_Law_law_263 : decode code 263 = .ok (.iconst 1, 1) := by decide +kernel
theorem d_Law_law_264 : decode code 264 = .ok (.iadd, 1) := by decide +kernel
theorem d_Law_law_265 : decode code 265 = .ok (.iaload, 1) := by decide +kernel
theorem d_Law_law_266 : decode code 266 = .ok (.aload_n 0, 1) := by decide +kernel
theorem d_Law_law_267 : decode code 267 = .ok (.iload_n 3, 1) := by decide +kernel
theorem d_Law_law_268 : decode code 268 = .ok (.iconst 2, 1) := by decide +kernel
theorem d_Law_law_269 : decode code 269 = .ok (.iadd, 1) := by decide +kernel
theorem d_Law_law_270 : decode code 270 = .ok (.iaload, 1) := by decide +kernel
theorem d_Law_law_271 : decode code 271 = .ok (.invokevirtual 40, 3) := by decide +kernel
theorem d_Law_law_274 : decode code 274 = .ok (.aload_n 2, 1) := by decide +kernel
theorem d_Law_law_275 : decode code 275 = .ok (.aload_n 0, 1) := by decide +kernel
theorem d_Law_law_276 : decode code 276 = .ok (.iload_n 3, 1) := by decide +kernel
theorem d_Law_law_277 : decode code 277 = .ok (.iconst 1, 1) := by decide +kernel
theorem d_Law_law_278 : decode code 278 = .ok (.iadd, 1) := by decide +kernel
theorem d_Law_law_279 : decode code 279 = .ok (.iaload, 1) := by decide +kernel
theorem d_Law_law_280 : decode code 280 = .ok (.aload_n 0, 1) := by decide +kernel
theorem d_Law_law_281 : decode code 281 = .ok (.iload_n 3, 1) := by decide +kernel
theorem d_Law_law_282 : decode code 282 = .ok (.iconst 2, 1) := by decide +kernel
theorem d_Law_law_283 : decode code 283 = .ok (.iadd, 1) := by decide +kernel
theorem d_Law_law_284 : decode code 284 = .ok (.iaload, 1) := by decide +kernel
theorem d_Law_law_285 : decode code 285 = .ok (.invokevirtual 44, 3) := by decide +kernel
theorem d_Law_law_288 : decode code 288 = .ok (.if_icmp .eq 376, 3) := by decide +kernel
theorem d_Law_law_291 : decode code 291 = .ok (.iconst 0, 1) := by decide +kernel
theorem d_Law_law_292 : decode code 292 = .ok (.ireturn, 1) := by decide +kernel
theorem d_Law_law_293 : decode code 293 = .ok (.aload_n 1, 1) := by decide +kernel
theorem d_Law_law_294 : decode code 294 = .ok (.aload_n 0, 1) := by decide +kernel
theorem d_Law_law_295 : decode code 295 = .ok (.iload_n 3, 1) := by decide +kernel
theorem d_Law_law_296 : decode code 296 = .ok (.iconst 1, 1) := by decide +kernel
theorem d_Law_law_297 : decode code 297 = .ok (.iadd, 1) := by decide +kernel
theorem d_Law_law_298 : decode code 298 = .ok (.iaload, 1) := by decide +kernel
theorem d_Law_law_299 : decode code 299 = .ok (.aload_n 0, 1) := by decide +kernel
theorem d_Law_law_300 : decode code 300 = .ok (.iload_n 3, 1) := by decide +kernel
theorem d_Law_law_301 : decode code 301 = .ok (.iconst 2, 1) := by decide +kernel
theorem d_Law_law_302 : decode code 302 = .ok (.iadd, 1) := by decide +kernel
theorem d_Law_law_303 : decode code 303 = .ok (.iaload, 1) := by decide +kernel
theorem d_Law_law_304 : decode code 304 = .ok (.aload_n 0, 1) := by decide +kernel
theorem d_Law_law_305 : decode code 305 = .ok (.iload_n 3, 1) := by decide +kernel
theorem d_Law_law_306 : decode code 306 = .ok (.iconst 3, 1) := by decide +kernel
theorem d_Law_law_307 : decode code 307 = .ok (.iadd, 1) := by decide +kernel
theorem d_Law_law_308 : decode code 308 = .ok (.iaload, 1) := by decide +kernel
theorem d_Law_law_309 : decode code 309 = .ok (.invokevirtual 45, 3) := by decide +kernel
theorem d_Law_law_312 : decode code 312 = .ok (.aload_n 2, 1) := by decide +kernel
theorem d_Law_law_313 : decode code 313 = .ok (.aload_n 0, 1) := by decide +kernel
theorem d_Law_law_314 : decode code 314 = .ok (.iload_n 3, 1) := by decide +kernel
theorem d_Law_law_315 : decode code 315 = .ok (.iconst 1, 1) := by decide +kernel
theorem d_Law_law_316 : decode code 316 = .ok (.iadd, 1) := by decide +kernel
theorem d_Law_law_317 : decode code 317 = .ok (.iaload, 1) := by decide +kernel
theorem d_Law_law_318 : decode code 318 = .ok (.aload_n 0, 1) := by decide +kernel
theorem d_Law_law_319 : decode code 319 = .ok (.iload_n 3, 1) := by decide +kernel
theorem d_Law_law_320 : decode code 320 = .ok (.iconst 2, 1) := by decide +kernel
theorem d_Law_law_321 : decode code 321 = .ok (.iadd, 1) := by decide +kernel
theorem d_Law_law_322 : decode code 322 = .ok (.iaload, 1) := by decide +kernel
theorem d_Law_law_323 : decode code 323 = .ok (.aload_n 0, 1) := by decide +kernel
theorem d_Law_law_324 : decode code 324 = .ok (.iload_n 3, 1) := by decide +kernel
theorem d_Law_law_325 : decode code 325 = .ok (.iconst 3, 1) := by decide +kernel
theorem d_Law_law_326 : decode code 326 = .ok (.iadd, 1) := by decide +kernel
theorem d_Law_law_327 : decode code 327 = .ok (.iaload, 1) := by decide +kernel
theorem d_Law_law_328 : decode code 328 = .ok (.invokevirtual 49, 3) := by decide +kernel
theorem d_Law_law_331 : decode code 331 = .ok (.if_icmp .eq 333, 3) := by decide +kernel
theorem d_Law_law_334 : decode code 334 = .ok (.iconst 0, 1) := by decide +kernel
theorem d_Law_law_335 : decode code 335 = .ok (.ireturn, 1) := by decide +kernel
theorem d_Law_law_336 : decode code 336 = .ok (.aload_n 1, 1) := by decide +kernel
theorem d_Law_law_337 : decode code 337 = .ok (.aload_n 0, 1) := by decide +kernel
theorem d_Law_law_338 : decode code 338 = .ok (.iload_n 3, 1) := by decide +kernel
theorem d_Law_law_339 : decode code 339 = .ok (.iconst 1, 1) := by decide +kernel
theorem d_Law_law_340 : decode code 340 = .ok (.iadd, 1) := by decide +kernel
theorem d_Law_law_341 : decode code 341 = .ok (.iaload, 1) := by decide +kernel
theorem d_Law_law_342 : decode code 342 = .ok (.aload_n 0, 1) := by decide +kernel
theorem d_Law_law_343 : decode code 343 = .ok (.iload_n 3, 1) := by decide +kernel
theorem d_Law_law_344 : decode code 344 = .ok (.iconst 2, 1) := by decide +kernel
theorem d_Law_law_345 : decode code 345 = .ok (.iadd, 1) := by decide +kernel
theorem d_Law_law_346 : decode code 346 = .ok (.iaload, 1) := by decide +kernel
theorem d_Law_law_347 : decode code 347 = .ok (.aload_n 0, 1) := by decide +kernel
theorem d_Law_law_348 : decode code 348 = .ok (.iload_n 3, 1) := by decide +kernel
theorem d_Law_law_349 : decode code 349 = .ok (.iconst 3, 1) := by decide +kernel
theorem d_Law_law_350 : decode code 350 = .ok (.iadd, 1) := by decide +kernel
theorem d_Law_law_351 : decode code 351 = .ok (.iaload, 1) := by decide +kernel
theorem d_Law_law_352 : decode code 352 = .ok (.aload_n 0, 1) := by decide +kernel
theorem d_Law_law_353 : decode code 353 = .ok (.iload_n 3, 1) := by decide +kernel
theorem d_Law_law_354 : decode code 354 = .ok (.iconst 4, 1) := by decide +kernel
theorem d_Law_law_355 : decode code 355 = .ok (.iadd, 1) := by decide +kernel
theorem d_Law_law_356 : decode code 356 = .ok (.iaload, 1) := by decide +kernel
theorem d_Law_law_357 : decode code 357 = .ok (.ifCond .eq 7, 3) := by decide +kernel
theorem d_Law_law_360 : decode code 360 = .ok (.iconst 1, 1) := by decide +kernel
theorem d_Law_law_361 : decode code 361 = .ok (.goto 4, 3) := by decide +kernel
theorem d_Law_law_364 : decode code 364 = .ok (.iconst 0, 1) := by decide +kernel
theorem d_Law_law_365 : decode code 365 = .ok (.invokevirtual 50, 3) := by decide +kernel
theorem d_Law_law_368 : decode code 368 = .ok (.aload_n 2, 1) := by decide +kernel
theorem d_Law_law_369 : decode code 369 = .ok (.aload_n 0, 1) := by decide +kernel
theorem d_Law_law_370 : decode code 370 = .ok (.iload_n 3, 1) := by decide +kernel
theorem d_Law_law_371 : decode code 371 = .ok (.iconst 1, 1) := by decide +kernel
theorem d_Law_law_372 : decode code 372 = .ok (.iadd, 1) := by decide +kernel
theorem d_Law_law_373 : decode code 373 = .ok (.iaload, 1) := by decide +kernel
theorem d_Law_law_374 : decode code 374 = .ok (.aload_n 0, 1) := by decide +kernel
theorem d_Law_law_375 : decode code 375 = .ok (.iload_n 3, 1) := by decide +kernel
theorem d_Law_law_376 : decode code 376 = .ok (.iconst 2, 1) := by decide +kernel
theorem d_Law_law_377 : decode code 377 = .ok (.iadd, 1) := by decide +kernel
theorem d_Law_law_378 : decode code 378 = .ok (.iaload, 1) := by decide +kernel
theorem d_Law_law_379 : decode code 379 = .ok (.aload_n 0, 1) := by decide +kernel
theorem d_Law_law_380 : decode code 380 = .ok (.iload_n 3, 1) := by decide +kernel
theorem d_Law_law_381 : decode code 381 = .ok (.iconst 3, 1) := by decide +kernel
theorem d_Law_law_382 : decode code 382 = .ok (.iadd, 1) := by decide +kernel
theorem d_Law_law_383 : decode code 383 = .ok (.iaload, 1) := by decide +kernel
theorem d_Law_law_384 : decode code 384 = .ok (.aload_n 0, 1) := by decide +kernel
theorem d_Law_law_385 : decode code 385 = .ok (.iload_n 3, 1) := by decide +kernel
theorem d_Law_law_386 : decode code 386 = .ok (.iconst 4, 1) := by decide +kernel
theorem d_Law_law_387 : decode code 387 = .ok (.iadd, 1) := by decide +kernel
theorem d_Law_law_388 : decode code 388 = .ok (.iaload, 1) := by decide +kernel
theorem d_Law_law_389 : decode code 389 = .ok (.ifCond .eq 7, 3) := by decide +kernel
theorem d_Law_law_392 : decode code 392 = .ok (.iconst 1, 1) := by decide +kernel
theorem d_Law_law_393 : decode code 393 = .ok (.goto 4, 3) := by decide +kernel
theorem d_Law_law_396 : decode code 396 = .ok (.iconst 0, 1) := by decide +kernel
theorem d_Law_law_397 : decode code 397 = .ok (.invokevirtual 54, 3) := by decide +kernel
theorem d_Law_law_400 : decode code 400 = .ok (.if_icmp .eq 264, 3) := by decide +kernel
theorem d_Law_law_403 : decode code 403 = .ok (.iconst 0, 1) := by decide +kernel
theorem d_Law_law_404 : decode code 404 = .ok (.ireturn, 1) := by decide +kernel
theorem d_Law_law_405 : decode code 405 = .ok (.aload_n 1, 1) := by decide +kernel
theorem d_Law_law_406 : decode code 406 = .ok (.aload_n 0, 1) := by decide +kernel
theorem d_Law_law_407 : decode code 407 = .ok (.iload_n 3, 1) := by decide +kernel
theorem d_Law_law_408 : decode code 408 = .ok (.iconst 1, 1) := by decide +kernel
theorem d_Law_law_409 : decode code 409 = .ok (.iadd, 1) := by decide +kernel
theorem d_Law_law_410 : decode code 410 = .ok (.iaload, 1) := by decide +kernel
theorem d_Law_law_411 : decode code 411 = .ok (.aload_n 0, 1) := by decide +kernel
theorem d_Law_law_412 : decode code 412 = .ok (.iload_n 3, 1) := by decide +kernel
theorem d_Law_law_413 : decode code 413 = .ok (.iconst 2, 1) := by decide +kernel
theorem d_Law_law_414 : decode code 414 = .ok (.iadd, 1) := by decide +kernel
theorem d_Law_law_415 : decode code 415 = .ok (.iaload, 1) := by decide +kernel
theorem d_Law_law_416 : decode code 416 = .ok (.ifCond .eq 7, 3) := by decide +kernel
theorem d_Law_law_419 : decode code 419 = .ok (.iconst 1, 1) := by decide +kernel
theorem d_Law_law_420 : decode code 420 = .ok (.goto 4, 3) := by decide +kernel
theorem d_Law_law_423 : decode code 423 = .ok (.iconst 0, 1) := by decide +kernel
theorem d_Law_law_424 : decode code 424 = .ok (.aload_n 0, 1) := by decide +kernel
theorem d_Law_law_425 : decode code 425 = .ok (.iload_n 3, 1) := by decide +kernel
theorem d_Law_law_426 : decode code 426 = .ok (.iconst 3, 1) := by decide +kernel
theorem d_Law_law_427 : decode code 427 = .ok (.iadd, 1) := by decide +kernel
theorem d_Law_law_428 : decode code 428 = .ok (.iaload, 1) := by decide +kernel
theorem d_Law_law_429 : decode code 429 = .ok (.aload_n 0, 1) := by decide +kernel
theorem d_Law_law_430 : decode code 430 = .ok (.iload_n 3, 1) := by decide +kernel
theorem d_Law_law_431 : decode code 431 = .ok (.iconst 4, 1) := by decide +kernel
theorem d_Law_law_432 : decode code 432 = .ok (.iadd, 1) := by decide +kernel
theorem d_Law_law_433 : decode code 433 = .ok (.iaload, 1) := by decide +kernel
theorem d_Law_law_434 : decode code 434 = .ok (.invokevirtual 55, 3) := by decide +kernel
theorem d_Law_law_437 : decode code 437 = .ok (.aload_n 2, 1) := by decide +kernel
theorem d_Law_law_438 : decode code 438 = .ok (.aload_n 0, 1) := by decide +kernel
theorem d_Law_law_439 : decode code 439 = .ok (.iload_n 3, 1) := by decide +kernel
theorem d_Law_law_440 : decode code 440 = .ok (.iconst 1, 1) := by decide +kernel
theorem d_Law_law_441 : decode code 441 = .ok (.iadd, 1) := by decide +kernel
theorem d_Law_law_442 : decode code 442 = .ok (.iaload, 1) := by decide +kernel
theorem d_Law_law_443 : decode code 443 = .ok (.aload_n 0, 1) := by decide +kernel
theorem d_Law_law_444 : decode code 444 = .ok (.iload_n 3, 1) := by decide +kernel
theorem d_Law_law_445 : decode code 445 = .ok (.iconst 2, 1) := by decide +kernel
theorem d_Law_law_446 : decode code 446 = .ok (.iadd, 1) := by decide +kernel
theorem d_Law_law_447 : decode code 447 = .ok (.iaload, 1) := by decide +kernel
theorem d_Law_law_448 : decode code 448 = .ok (.ifCond .eq 7, 3) := by decide +kernel
theorem d_Law_law_451 : decode code 451 = .ok (.iconst 1, 1) := by decide +kernel
theorem d_Law_law_452 : decode code 452 = .ok (.goto 4, 3) := by decide +kernel
theorem d_Law_law_455 : decode code 455 = .ok (.iconst 0, 1) := by decide +kernel
theorem d_Law_law_456 : decode code 456 = .ok (.aload_n 0, 1) := by decide +kernel
theorem d_Law_law_457 : decode code 457 = .ok (.iload_n 3, 1) := by decide +kernel
theorem d_Law_law_458 : decode code 458 = .ok (.iconst 3, 1) := by decide +kernel
theorem d_Law_law_459 : decode code 459 = .ok (.iadd, 1) := by decide +kernel
theorem d_Law_law_460 : decode code 460 = .ok (.iaload, 1) := by decide +kernel
theorem d_Law_law_461 : decode code 461 = .ok (.aload_n 0, 1) := by decide +kernel
theorem d_Law_law_462 : decode code 462 = .ok (.iload_n 3, 1) := by decide +kernel
theorem d_Law_law_463 : decode code 463 = .ok (.iconst 4, 1) := by decide +kernel
theorem d_Law_law_464 : decode code 464 = .ok (.iadd, 1) := by decide +kernel
theorem d_Law_law_465 : decode code 465 = .ok (.iaload, 1) := by decide +kernel
theorem d_Law_law_466 : decode code 466 = .ok (.invokevirtual 59, 3) := by decide +kernel
theorem d_Law_law_469 : decode code 469 = .ok (.if_icmp .eq 195, 3) := by decide +kernel
theorem d_Law_law_472 : decode code 472 = .ok (.iconst 0, 1) := by decide +kernel
theorem d_Law_law_473 : decode code 473 = .ok (.ireturn, 1) := by decide +kernel
theorem d_Law_law_474 : decode code 474 = .ok (.aload_n 1, 1) := by decide +kernel
theorem d_Law_law_475 : decode code 475 = .ok (.aload_n 0, 1) := by decide +kernel
theorem d_Law_law_476 : decode code 476 = .ok (.iload_n 3, 1) := by decide +kernel
theorem d_Law_law_477 : decode code 477 = .ok (.iconst 1, 1) := by decide +kernel
theorem d_Law_law_478 : decode code 478 = .ok (.iadd, 1) := by decide +kernel
theorem d_Law_law_479 : decode code 479 = .ok (.iaload, 1) := by decide +kernel
theorem d_Law_law_480 : decode code 480 = .ok (.aload_n 0, 1) := by decide +kernel
theorem d_Law_law_481 : decode code 481 = .ok (.iload_n 3, 1) := by decide +kernel
theorem d_Law_law_482 : decode code 482 = .ok (.iconst 2, 1) := by decide +kernel
theorem d_Law_law_483 : decode code 483 = .ok (.iadd, 1) := by decide +kernel
theorem d_Law_law_484 : decode code 484 = .ok (.iaload, 1) := by decide +kernel
theorem d_Law_law_485 : decode code 485 = .ok (.ifCond .eq 7, 3) := by decide +kernel
theorem d_Law_law_488 : decode code 488 = .ok (.iconst 1, 1) := by decide +kernel
theorem d_Law_law_489 : decode code 489 = .ok (.goto 4, 3) := by decide +kernel
theorem d_Law_law_492 : decode code 492 = .ok (.iconst 0, 1) := by decide +kernel
theorem d_Law_law_493 : decode code 493 = .ok (.invokevirtual 60, 3) := by decide +kernel
theorem d_Law_law_496 : decode code 496 = .ok (.aload_n 2, 1) := by decide +kernel
theorem d_Law_law_497 : decode code 497 = .ok (.aload_n 0, 1) := by decide +kernel
theorem d_Law_law_498 : decode code 498 = .ok (.iload_n 3, 1) := by decide +kernel
theorem d_Law_law_499 : decode code 499 = .ok (.iconst 1, 1) := by decide +kernel
theorem d_Law_law_500 : decode code 500 = .ok (.iadd, 1) := by decide +kernel
theorem d_Law_law_501 : decode code 501 = .ok (.iaload, 1) := by decide +kernel
theorem d_Law_law_502 : decode code 502 = .ok (.aload_n 0, 1) := by decide +kernel
theorem d_Law_law_503 : decode code 503 = .ok (.iload_n 3, 1) := by decide +kernel
theorem d_Law_law_504 : decode code 504 = .ok (.iconst 2, 1) := by decide +kernel
theorem d_Law_law_505 : decode code 505 = .ok (.iadd, 1) := by decide +kernel
theorem d_Law_law_506 : decode code 506 = .ok (.iaload, 1) := by decide +kernel
theorem d_Law_law_507 : decode code 507 = .ok (.ifCond .eq 7, 3) := by decide +kernel
theorem d_Law_law_510 : decode code 510 = .ok (.iconst 1, 1) := by decide +kernel
theorem d_Law_law_511 : decode code 511 = .ok (.goto 4, 3) := by decide +kernel
theorem d_Law_law_514 : decode code 514 = .ok (.iconst 0, 1) := by decide +kernel
theorem d_Law_law_515 : decode code 515 = .ok (.invokevirtual 64, 3) := by decide +kernel
theorem d_Law_law_518 : decode code 518 = .ok (.if_icmp .eq 146, 3) := by decide +kernel
theorem d_Law_law_521 : decode code 521 = .ok (.iconst 0, 1) := by decide +kernel
theorem d_Law_law_522 : decode code 522 = .ok (.ireturn, 1) := by decide +kernel
theorem d_Law_law_523 : decode code 523 = .ok (.aload_n 1, 1) := by decide +kernel
theorem d_Law_law_524 : decode code 524 = .ok (.invokevirtual 65, 3) := by decide +kernel
theorem d_Law_law_527 : decode code 527 = .ok (.aload_n 2, 1) := by decide +kernel
theorem d_Law_law_528 : decode code 528 = .ok (.invokevirtual 69, 3) := by decide +kernel
theorem d_Law_law_531 : decode code 531 = .ok (.if_icmp .eq 133, 3) := by decide +kernel
theorem d_Law_law_534 : decode code 534 = .ok (.iconst 0, 1) := by decide +kernel
theorem d_Law_law_535 : decode code 535 = .ok (.ireturn, 1) := by decide +kernel
theorem d_Law_law_536 : decode code 536 = .ok (.aload_n 1, 1) := by decide +kernel
theorem d_Law_law_537 : decode code 537 = .ok (.aload_n 0, 1) := by decide +kernel
theorem d_Law_law_538 : decode code 538 = .ok (.iload_n 3, 1) := by decide +kernel
theorem d_Law_law_539 : decode code 539 = .ok (.iconst 1, 1) := by decide +kernel
theorem d_Law_law_540 : decode code 540 = .ok (.iadd, 1) := by decide +kernel
theorem d_Law_law_541 : decode code 541 = .ok (.iaload, 1) := by decide +kernel
theorem d_Law_law_542 : decode code 542 = .ok (.aload_n 0, 1) := by decide +kernel
theorem d_Law_law_543 : decode code 543 = .ok (.iload_n 3, 1) := by decide +kernel
theorem d_Law_law_544 : decode code 544 = .ok (.iconst 2, 1) := by decide +kernel
theorem d_Law_law_545 : decode code 545 = .ok (.iadd, 1) := by decide +kernel
theorem d_Law_law_546 : decode code 546 = .ok (.iaload, 1) := by decide +kernel
theorem d_Law_law_547 : decode code 547 = .ok (.invokevirtual 70, 3) := by decide +kernel
theorem d_Law_law_550 : decode code 550 = .ok (.aload_n 2, 1) := by decide +kernel
theorem d_Law_law_551 : decode code 551 = .ok (.aload_n 0, 1) := by decide +kernel
theorem d_Law_law_552 : decode code 552 = .ok (.iload_n 3, 1) := by decide +kernel
theorem d_Law_law_553 : decode code 553 = .ok (.iconst 1, 1) := by decide +kernel
theorem d_Law_law_554 : decode code 554 = .ok (.iadd, 1) := by decide +kernel
theorem d_Law_law_555 : decode code 555 = .ok (.iaload, 1) := by decide +kernel
theorem d_Law_law_556 : decode code 556 = .ok (.aload_n 0, 1) := by decide +kernel
theorem d_Law_law_557 : decode code 557 = .ok (.iload_n 3, 1) := by decide +kernel
theorem d_Law_law_558 : decode code 558 = .ok (.iconst 2, 1) := by decide +kernel
theorem d_Law_law_559 : decode code 559 = .ok (.iadd, 1) := by decide +kernel
theorem d_Law_law_560 : decode code 560 = .ok (.iaload, 1) := by decide +kernel
theorem d_Law_law_561 : decode code 561 = .ok (.invokevirtual 73, 3) := by decide +kernel
theorem d_Law_law_564 : decode code 564 = .ok (.if_icmp .eq 100, 3) := by decide +kernel
theorem d_Law_law_567 : decode code 567 = .ok (.iconst 0, 1) := by decide +kernel
theorem d_Law_law_568 : decode code 568 = .ok (.ireturn, 1) := by decide +kernel
theorem d_Law_law_569 : decode code 569 = .ok (.aload_n 1, 1) := by decide +kernel
theorem d_Law_law_570 : decode code 570 = .ok (.aload_n 0, 1) := by decide +kernel
theorem d_Law_law_571 : decode code 571 = .ok (.iload_n 3, 1) := by decide +kernel
theorem d_Law_law_572 : decode code 572 = .ok (.iconst 1, 1) := by decide +kernel
theorem d_Law_law_573 : decode code 573 = .ok (.iadd, 1) := by decide +kernel
theorem d_Law_law_574 : decode code 574 = .ok (.iaload, 1) := by decide +kernel
theorem d_Law_law_575 : decode code 575 = .ok (.aload_n 0, 1) := by decide +kernel
theorem d_Law_law_576 : decode code 576 = .ok (.iload_n 3, 1) := by decide +kernel
theorem d_Law_law_577 : decode code 577 = .ok (.iconst 2, 1) := by decide +kernel
theorem d_Law_law_578 : decode code 578 = .ok (.iadd, 1) := by decide +kernel
theorem d_Law_law_579 : decode code 579 = .ok (.iaload, 1) := by decide +kernel
theorem d_Law_law_580 : decode code 580 = .ok (.invokevirtual 74, 3) := by decide +kernel
theorem d_Law_law_583 : decode code 583 = .ok (.aload_n 2, 1) := by decide +kernel
theorem d_Law_law_584 : decode code 584 = .ok (.aload_n 0, 1) := by decide +kernel
theorem d_Law_law_585 : decode code 585 = .ok (.iload_n 3, 1) := by decide +kernel
theorem d_Law_law_586 : decode code 586 = .ok (.iconst 1, 1) := by decide +kernel
theorem d_Law_law_587 : decode code 587 = .ok (.iadd, 1) := by decide +kernel
theorem d_Law_law_588 : decode code 588 = .ok (.iaload, 1) := by decide +kernel
theorem d_Law_law_589 : decode code 589 = .ok (.aload_n 0, 1) := by decide +kernel
theorem d_Law_law_590 : decode code 590 = .ok (.iload_n 3, 1) := by decide +kernel
theorem d_Law_law_591 : decode code 591 = .ok (.iconst 2, 1) := by decide +kernel
theorem d_Law_law_592 : decode code 592 = .ok (.iadd, 1) := by decide +kernel
theorem d_Law_law_593 : decode code 593 = .ok (.iaload, 1) := by decide +kernel
theorem d_Law_law_594 : decode code 594 = .ok (.invokevirtual 77, 3) := by decide +kernel
theorem d_Law_law_597 : decode code 597 = .ok (.if_icmp .eq 67, 3) := by decide +kernel
theorem d_Law_law_600 : decode code 600 = .ok (.iconst 0, 1) := by decide +kernel
theorem d_Law_law_601 : decode code 601 = .ok (.ireturn, 1) := by decide +kernel
theorem d_Law_law_602 : decode code 602 = .ok (.aload_n 1, 1) := by decide +kernel
theorem d_Law_law_603 : decode code 603 = .ok (.invokevirtual 78, 3) := by decide +kernel
theorem d_Law_law_606 : decode code 606 = .ok (.aload_n 2, 1) := by decide +kernel
theorem d_Law_law_607 : decode code 607 = .ok (.invokevirtual 81, 3) := by decide +kernel
theorem d_Law_law_610 : decode code 610 = .ok (.if_icmp .eq 54, 3) := by decide +kernel
theorem d_Law_law_613 : decode code 613 = .ok (.iconst 0, 1) := by decide +kernel
theorem d_Law_law_614 : decode code 614 = .ok (.ireturn, 1) := by decide +kernel
theorem d_Law_law_615 : decode code 615 = .ok (.aload_n 1, 1) := by decide +kernel
theorem d_Law_law_616 : decode code 616 = .ok (.invokevirtual 82, 3) := by decide +kernel
theorem d_Law_law_619 : decode code 619 = .ok (.aload_n 2, 1) := by decide +kernel
theorem d_Law_law_620 : decode code 620 = .ok (.invokevirtual 85, 3) := by decide +kernel
theorem d_Law_law_623 : decode code 623 = .ok (.if_icmp .eq 41, 3) := by decide +kernel
theorem d_Law_law_626 : decode code 626 = .ok (.iconst 0, 1) := by decide +kernel
theorem d_Law_law_627 : decode code 627 = .ok (.ireturn, 1) := by decide +kernel
theorem d_Law_law_628 : decode code 628 = .ok (.aload_n 1, 1) := by decide +kernel
theorem d_Law_law_629 : decode code 629 = .ok (.invokevirtual 86, 3) := by decide +kernel
theorem d_Law_law_632 : decode code 632 = .ok (.aload_n 2, 1) := by decide +kernel
theorem d_Law_law_633 : decode code 633 = .ok (.invokevirtual 89, 3) := by decide +kernel
theorem d_Law_law_636 : decode code 636 = .ok (.if_icmp .eq 28, 3) := by decide +kernel
theorem d_Law_law_639 : decode code 639 = .ok (.iconst 0, 1) := by decide +kernel
theorem d_Law_law_640 : decode code 640 = .ok (.ireturn, 1) := by decide +kernel
theorem d_Law_law_641 : decode code 641 = .ok (.aload_n 1, 1) := by decide +kernel
theorem d_Law_law_642 : decode code 642 = .ok (.aload_n 0, 1) := by decide +kernel
theorem d_Law_law_643 : decode code 643 = .ok (.iload_n 3, 1) := by decide +kernel
theorem d_Law_law_644 : decode code 644 = .ok (.iconst 1, 1) := by decide +kernel
theorem d_Law_law_645 : decode code 645 = .ok (.iadd, 1) := by decide +kernel
theorem d_Law_law_646 : decode code 646 = .ok (.iaload, 1) := by decide +kernel
theorem d_Law_law_647 : decode code 647 = .ok (.invokevirtual 90, 3) := by decide +kernel
theorem d_Law_law_650 : decode code 650 = .ok (.aload_n 2, 1) := by decide +kernel
theorem d_Law_law_651 : decode code 651 = .ok (.aload_n 0, 1) := by decide +kernel
theorem d_Law_law_652 : decode code 652 = .ok (.iload_n 3, 1) := by decide +kernel
theorem d_Law_law_653 : decode code 653 = .ok (.iconst 1, 1) := by decide +kernel
theorem d_Law_law_654 : decode code 654 = .ok (.iadd, 1) := by decide +kernel
theorem d_Law_law_655 : decode code 655 = .ok (.iaload, 1) := by decide +kernel
theorem d_Law_law_656 : decode code 656 = .ok (.invokevirtual 94, 3) := by decide +kernel
theorem d_Law_law_659 : decode code 659 = .ok (.if_icmp .eq 5, 3) := by decide +kernel
theorem d_Law_law_662 : decode code 662 = .ok (.iconst 0, 1) := by decide +kernel
theorem d_Law_law_663 : decode code 663 = .ok (.ireturn, 1) := by decide +kernel
theorem d_Law_law_664 : decode code 664 = .ok (.iinc 3 6, 3) := by decide +kernel
theorem d_Law_law_667 : decode code 667 = .ok (.goto (-639), 3) := by decide +kernel
theorem d_Law_law_670 : decode code 670 = .ok (.iconst 1, 1) := by decide +kernel
theorem d_Law_law_671 : decode code 671 = .ok (.ireturn, 1) := by decide +kernel
def LWd (cI cL cZ cW cR : ClassId) (fr oF ta qo uo mo ma ro qw oko okc okd r0 v0 a0 b0 r1 v1 a1 b1 rL vL aL bL rK vK aK bK : Nat) (wo ko kc kd : Nat → Nat) (o a_size a_given a_holes a_test a_wFunction a_wArgument a_wNumber a_wPart a_wOrder a_wDown a_wRange a_wLow a_wHigh a_keeps a_value a_hole a_first a_second a_list a_keyColumn a_keyDown : Nat) (σ : cSta) (τ : mSta) : va_W := [(oF, .inr (8, [.ref ta, .ref qo, .ref uo])), (ta, .inl (cR, 2, .inr (.inr (.inr (.inr (va_up (va_up (fun _ => none) 0 (some r0)) 1 (some r1))))))), (uo, .inr (7, [.ref mo, .ref rL, .ref r0, .ref r1, .ref rK, .ref ma, .ref ro, va_rf (σ.od)])), (mo, .inr (4, [.int (nI fr), .int (nI (σ.tr)), .int (nI (σ.mh)), .int (nI (σ.sm))])), (qo, .inr (3, [.ref qw, .ref oko, .int (nI (σ.wc)), .int (nI (σ.fc)), .int (σ.fo), .int (σ.fn), .int (σ.jl), .int (σ.jr)])), (qw, .inl (cW, 3, .inr (.inr (.inr (.inr (va_up (va_up (va_up (fun _ => none) 0 (some (wo 0))) 1 (some (wo 1))) 2 (some (wo 2)))))))), (ma, .inr (5, [.ref mo, .ref rK, .ref r1, .int (nI (fr - 1)), .int (nI (σ.lc)), .int (nI (σ.rc))])), (ro, .inr (6, [.ref rL, va_rf (σ.rw), .int (nI (σ.st)), .int (nI (σ.en)), .int (nI (σ.fp)), .int (nI (σ.pg)), .int (nI (σ.fs)), .int (nI (σ.fe))])), ((wo 0), .inr (2, [.ref (ko 0), .int (nI (σ.wf 0)), .int (nI (σ.wa 0)), .int (nI (σ.wn 0)), .int (oI (σ.po 0)), .int (oI (σ.oo 0)), .int (zb (σ.wd 0)), .int (zb (σ.wg 0)), .int (σ.wl 0), .int (σ.wh 0)])), ((ko 0), .inr (1, [.ref (kc 0), .ref (kd 0), .int (nI (σ.kn 0))])), ((kc 0), .inl (cI, 2, .inl (zN (σ.kf 0)))), ((kd 0), .inl (cZ, 2, .inl (zZ (σ.kg 0)))), ((wo 1), .inr (2, [.ref (ko 1), .int (nI (σ.wf 1)), .int (nI (σ.wa 1)), .int (nI (σ.wn 1)), .int (oI (σ.po 1)), .int (oI (σ.oo 1)), .int (zb (σ.wd 1)), .int (zb (σ.wg 1)), .int (σ.wl 1), .int (σ.wh 1)])), ((ko 1), .inr (1, [.ref (kc 1), .ref (kd 1), .int (nI (σ.kn 1))])), ((kc 1), .inl (cI, 2, .inl (zN (σ.kf 1)))), ((kd 1), .inl (cZ, 2, .inl (zZ (σ.kg 1)))), ((wo 2), .inr (2, [.ref (ko 2), .int (nI (σ.wf 2)), .int (nI (σ.wa 2)), .int (nI (σ.wn 2)), .int (oI (σ.po 2)), .int (oI (σ.oo 2)), .int (zb (σ.wd 2)), .int (zb (σ.wg 2)), .int (σ.wl 2), .int (σ.wh 2)])), ((ko 2), .inr (1, [.ref (kc 2), .ref (kd 2), .int (nI (σ.kn 2))])), ((kc 2), .inl (cI, 2, .inl (zN (σ.kf 2)))), ((kd 2), .inl (cZ, 2, .inl (zZ (σ.kg 2)))), (oko, .inr (1, [.ref okc, .ref okd, .int (nI (σ.kno))])), (okc, .inl (cI, 2, .inl (zN (σ.kfo)))), (okd, .inl (cZ, 2, .inl (zZ (σ.kgo)))), (rL, .inr (0, [.int (nI 10), .ref vL, .ref aL, .ref bL, .int (nI (σ.nL))])), (vL, .inl (cL, 600, .inr (.inl (σ.fL)))), (aL, .inl (cI, 60, .inl (zN (σ.gL)))), (bL, .inl (cI, 60, .inl (zN (σ.sL)))), (rK, .inr (0, [.int (nI 4), .ref vK, .ref aK, .ref bK, .int (nI (σ.nK))])), (vK, .inl (cL, 96, .inr (.inl (σ.fK)))), (aK, .inl (cI, 24, .inl (zN (σ.gK)))), (bK, .inl (cI, 24, .inl (zN (fun _ => 0)))), (r0, .inr (0, [.int (nI 3), .ref v0, .ref a0, .ref b0, .int (nI (σ.n0))])), (v0, .inl (cL, 72, .inr (.inl (σ.f0)))), (a0, .inl (cI, 24, .inl (zN (σ.g0)))), (b0, .inl (cI, 24, .inl (zN (fun _ => 0)))), (r1, .inr (0, [.int (nI 3), .ref v1, .ref a1, .ref b1, .int (nI (σ.n1))])), (v1, .inl (cL, 72, .inr (.inl (σ.f1)))), (a1, .inl (cI, 24, .inl (zN (σ.g1)))), (b1, .inl (cI, 24, .inl (zN (fun _ => 0)))), (o, .inr (9, [.int (nI fr), .ref a_size, .ref a_given, .ref a_holes, .int (zb (τ.flt)), .ref a_test, .int (zb (τ.jns)), .int (nI (τ.jx)), .int (nI (τ.jy)), .int (nI (τ.wc)), .ref a_wFunction, .ref a_wArgument, .ref a_wNumber, .ref a_wPart, .ref a_wOrder, .ref a_wDown, .ref a_wRange, .ref a_wLow, .ref a_wHigh, .int (zb (τ.ors)), .int (nI (τ.oc)), .int (zb (τ.od)), .int (nI (τ.nk)), .ref a_keeps, .int (nI (τ.nn)), .ref a_value, .ref a_hole, .ref a_first, .ref a_second, .ref a_list, .int (τ.ky), .ref a_keyColumn, .ref a_keyDown, .int (nI (τ.tr)), .int (nI (τ.ms)), .int (nI (τ.sm)), .int (τ.er), .int (nI (τ.sh)), .int (τ.ff), .int (τ.fl), .int (nI (τ.fc)), .int (τ.fe), .int (τ.fg), .long (τ.fs)])), (a_size, .inl (cI, 2, .inl (zN (τ.sz_)))), (a_given, .inl (cI, 144, .inl (τ.gv))), (a_holes, .inl (cI, 48, .inl (τ.ho))), (a_test, .inl (cI, 3, .inl (τ.te))), (a_wFunction, .inl (cI, 3, .inl (zN (τ.wf)))), (a_wArgument, .inl (cI, 3, .inl (zN (τ.wa)))), (a_wNumber, .inl (cI, 3, .inl (zN (τ.wn)))), (a_wPart, .inl (cI, 3, .inl (zO (τ.po)))), (a_wOrder, .inl (cI, 3, .inl (zO (τ.oo)))), (a_wDown, .inl (cZ, 3, .inl (zZ (τ.wd)))), (a_wRange, .inl (cZ, 3, .inl (zZ (τ.wg)))), (a_wLow, .inl (cI, 3, .inl (τ.wl))), (a_wHigh, .inl (cI, 3, .inl (τ.wh))), (a_keeps, .inl (cI, 24, .inl (zN (τ.kp)))), (a_value, .inl (cI, 540, .inl (τ.vl))), (a_hole, .inl (cZ, 540, .inl (zZ (τ.hl_)))), (a_first, .inl (cI, 60, .inl (zN (τ.fi)))), (a_second, .inl (cI, 60, .inl (τ.se))), (a_list, .inl (cI, 60, .inl (zN (τ.li)))), (a_keyColumn, .inl (cI, 2, .inl (zN (τ.kf)))), (a_keyDown, .inl (cZ, 2, .inl (zZ (τ.kg))))]
