theorem dc_L_law_0 : decode bc_L_law 0 = .ok (.new 7, 3) := by decide +kernel
theorem dc_L_law_3 : decode bc_L_law 3 = .ok (.dup, 1) := by decide +kernel
theorem dc_L_law_4 : decode bc_L_law 4 = .ok (.invokespecial 9, 3) := by decide +kernel
theorem dc_L_law_7 : decode bc_L_law 7 = .ok (.astore_n 1, 1) := by decide +kernel
theorem dc_L_law_8 : decode bc_L_law 8 = .ok (.new 10, 3) := by decide +kernel
theorem dc_L_law_11 : decode bc_L_law 11 = .ok (.dup, 1) := by decide +kernel
theorem dc_L_law_12 : decode bc_L_law 12 = .ok (.invokespecial 12, 3) := by decide +kernel
theorem dc_L_law_15 : decode bc_L_law 15 = .ok (.astore_n 2, 1) := by decide +kernel
theorem dc_L_law_16 : decode bc_L_law 16 = .ok (.iconst 0, 1) := by decide +kernel
theorem dc_L_law_17 : decode bc_L_law 17 = .ok (.istore_n 3, 1) := by decide +kernel
theorem dc_L_law_18 : decode bc_L_law 18 = .ok (.iload_n 3, 1) := by decide +kernel
theorem dc_L_law_19 : decode bc_L_law 19 = .ok (.aload_n 0, 1) := by decide +kernel
theorem dc_L_law_20 : decode bc_L_law 20 = .ok (.arraylength, 1) := by decide +kernel
theorem dc_L_law_21 : decode bc_L_law 21 = .ok (.iconst 3, 1) := by decide +kernel
theorem dc_L_law_22 : decode bc_L_law 22 = .ok (.isub, 1) := by decide +kernel
theorem dc_L_law_23 : decode bc_L_law 23 = .ok (.if_icmp .gt 542, 3) := by decide +kernel
theorem dc_L_law_26 : decode bc_L_law 26 = .ok (.aload_n 0, 1) := by decide +kernel
theorem dc_L_law_27 : decode bc_L_law 27 = .ok (.iload_n 3, 1) := by decide +kernel
theorem dc_L_law_28 : decode bc_L_law 28 = .ok (.iaload, 1) := by decide +kernel
theorem dc_L_law_29 : decode bc_L_law 29 = .ok (.bipush 31, 2) := by decide +kernel
theorem dc_L_law_31 : decode bc_L_law 31 = .ok (.iand, 1) := by decide +kernel
theorem dc_L_law_32 : decode bc_L_law 32 = .ok (.tableswitch 527 0 18 #[92, 103, 136, 159, 182, 205, 228, 251, 274, 297, 320, 343, 376, 399, 422, 445, 468, 491, 504], 92) := by decide +kernel
theorem dc_L_law_124 : decode bc_L_law 124 = .ok (.aload_n 1, 1) := by decide +kernel
theorem dc_L_law_125 : decode bc_L_law 125 = .ok (.invokevirtual 13, 3) := by decide +kernel
theorem dc_L_law_128 : decode bc_L_law 128 = .ok (.aload_n 2, 1) := by decide +kernel
theorem dc_L_law_129 : decode bc_L_law 129 = .ok (.invokevirtual 16, 3) := by decide +kernel
theorem dc_L_law_132 : decode bc_L_law 132 = .ok (.goto 427, 3) := by decide +kernel
theorem dc_L_law_135 : decode bc_L_law 135 = .ok (.aload_n 1, 1) := by decide +kernel
theorem dc_L_law_136 : decode bc_L_law 136 = .ok (.aload_n 0, 1) := by decide +kernel
theorem dc_L_law_137 : decode bc_L_law 137 = .ok (.iload_n 3, 1) := by decide +kernel
theorem dc_L_law_138 : decode bc_L_law 138 = .ok (.iconst 1, 1) := by decide +kernel
theorem dc_L_law_139 : decode bc_L_law 139 = .ok (.iadd, 1) := by decide +kernel
theorem dc_L_law_140 : decode bc_L_law 140 = .ok (.iaload, 1) := by decide +kernel
theorem dc_L_law_141 : decode bc_L_law 141 = .ok (.aload_n 0, 1) := by decide +kernel
theorem dc_L_law_142 : decode bc_L_law 142 = .ok (.iload_n 3, 1) := by decide +kernel
theorem dc_L_law_143 : decode bc_L_law 143 = .ok (.iconst 2, 1) := by decide +kernel
theorem dc_L_law_144 : decode bc_L_law 144 = .ok (.iadd, 1) := by decide +kernel
theorem dc_L_law_145 : decode bc_L_law 145 = .ok (.iaload, 1) := by decide +kernel
theorem dc_L_law_146 : decode bc_L_law 146 = .ok (.invokevirtual 17, 3) := by decide +kernel
theorem dc_L_law_149 : decode bc_L_law 149 = .ok (.aload_n 2, 1) := by decide +kernel
theorem dc_L_law_150 : decode bc_L_law 150 = .ok (.aload_n 0, 1) := by decide +kernel
theorem dc_L_law_151 : decode bc_L_law 151 = .ok (.iload_n 3, 1) := by decide +kernel
theorem dc_L_law_152 : decode bc_L_law 152 = .ok (.iconst 1, 1) := by decide +kernel
theorem dc_L_law_153 : decode bc_L_law 153 = .ok (.iadd, 1) := by decide +kernel
theorem dc_L_law_154 : decode bc_L_law 154 = .ok (.iaload, 1) := by decide +kernel
theorem dc_L_law_155 : decode bc_L_law 155 = .ok (.aload_n 0, 1) := by decide +kernel
theorem dc_L_law_156 : decode bc_L_law 156 = .ok (.iload_n 3, 1) := by decide +kernel
theorem dc_L_law_157 : decode bc_L_law 157 = .ok (.iconst 2, 1) := by decide +kernel
theorem dc_L_law_158 : decode bc_L_law 158 = .ok (.iadd, 1) := by decide +kernel
theorem dc_L_law_159 : decode bc_L_law 159 = .ok (.iaload, 1) := by decide +kernel
theorem dc_L_law_160 : decode bc_L_law 160 = .ok (.invokevirtual 21, 3) := by decide +kernel
theorem dc_L_law_163 : decode bc_L_law 163 = .ok (.if_icmp .eq 396, 3) := by decide +kernel
theorem dc_L_law_166 : decode bc_L_law 166 = .ok (.iconst 0, 1) := by decide +kernel
theorem dc_L_law_167 : decode bc_L_law 167 = .ok (.ireturn, 1) := by decide +kernel
theorem dc_L_law_168 : decode bc_L_law 168 = .ok (.aload_n 1, 1) := by decide +kernel
theorem dc_L_law_169 : decode bc_L_law 169 = .ok (.aload_n 0, 1) := by decide +kernel
theorem dc_L_law_170 : decode bc_L_law 170 = .ok (.iload_n 3, 1) := by decide +kernel
theorem dc_L_law_171 : decode bc_L_law 171 = .ok (.iconst 1, 1) := by decide +kernel
theorem dc_L_law_172 : decode bc_L_law 172 = .ok (.iadd, 1) := by decide +kernel
theorem dc_L_law_173 : decode bc_L_law 173 = .ok (.iaload, 1) := by decide +kernel
theorem dc_L_law_174 : decode bc_L_law 174 = .ok (.invokevirtual 22, 3) := by decide +kernel
theorem dc_L_law_177 : decode bc_L_law 177 = .ok (.aload_n 2, 1) := by decide +kernel
theorem dc_L_law_178 : decode bc_L_law 178 = .ok (.aload_n 0, 1) := by decide +kernel
theorem dc_L_law_179 : decode bc_L_law 179 = .ok (.iload_n 3, 1) := by decide +kernel
theorem dc_L_law_180 : decode bc_L_law 180 = .ok (.iconst 1, 1) := by decide +kernel
theorem dc_L_law_181 : decode bc_L_law 181 = .ok (.iadd, 1) := by decide +kernel
theorem dc_L_law_182 : decode bc_L_law 182 = .ok (.iaload, 1) := by decide +kernel
theorem dc_L_law_183 : decode bc_L_law 183 = .ok (.invokevirtual 26, 3) := by decide +kernel
theorem dc_L_law_186 : decode bc_L_law 186 = .ok (.if_icmp .eq 373, 3) := by decide +kernel
theorem dc_L_law_189 : decode bc_L_law 189 = .ok (.iconst 0, 1) := by decide +kernel
theorem dc_L_law_190 : decode bc_L_law 190 = .ok (.ireturn, 1) := by decide +kernel
theorem dc_L_law_191 : decode bc_L_law 191 = .ok (.aload_n 1, 1) := by decide +kernel
theorem dc_L_law_192 : decode bc_L_law 192 = .ok (.aload_n 0, 1) := by decide +kernel
theorem dc_L_law_193 : decode bc_L_law 193 = .ok (.iload_n 3, 1) := by decide +kernel
theorem dc_L_law_194 : decode bc_L_law 194 = .ok (.iconst 1, 1) := by decide +kernel
theorem dc_L_law_195 : decode bc_L_law 195 = .ok (.iadd, 1) := by decide +kernel
theorem dc_L_law_196 : decode bc_L_law 196 = .ok (.iaload, 1) := by decide +kernel
theorem dc_L_law_197 : decode bc_L_law 197 = .ok (.invokevirtual 27, 3) := by decide +kernel
theorem dc_L_law_200 : decode bc_L_law 200 = .ok (.aload_n 2, 1) := by decide +kernel
theorem dc_L_law_201 : decode bc_L_law 201 = .ok (.aload_n 0, 1) := by decide +kernel
theorem dc_L_law_202 : decode bc_L_law 202 = .ok (.iload_n 3, 1) := by decide +kernel
theorem dc_L_law_203 : decode bc_L_law 203 = .ok (.iconst 1, 1) := by decide +kernel
theorem dc_L_law_204 : decode bc_L_law 204 = .ok (.iadd, 1) := by decide +kernel
theorem dc_L_law_205 : decode bc_L_law 205 = .ok (.iaload, 1) := by decide +kernel
theorem dc_L_law_206 : decode bc_L_law 206 = .ok (.invokevirtual 31, 3) := by decide +kernel
theorem dc_L_law_209 : decode bc_L_law 209 = .ok (.if_icmp .eq 350, 3) := by decide +kernel
theorem dc_L_law_212 : decode bc_L_law 212 = .ok (.iconst 0, 1) := by decide +kernel
theorem dc_L_law_213 : decode bc_L_law 213 = .ok (.ireturn, 1) := by decide +kernel
theorem dc_L_law_214 : decode bc_L_law 214 = .ok (.aload_n 1, 1) := by decide +kernel
theorem dc_L_law_215 : decode bc_L_law 215 = .ok (.aload_n 0, 1) := by decide +kernel
theorem dc_L_law_216 : decode bc_L_law 216 = .ok (.iload_n 3, 1) := by decide +kernel
theorem dc_L_law_217 : decode bc_L_law 217 = .ok (.iconst 1, 1) := by decide +kernel
theorem dc_L_law_218 : decode bc_L_law 218 = .ok (.iadd, 1) := by decide +kernel
theorem dc_L_law_219 : decode bc_L_law 219 = .ok (.iaload, 1) := by decide +kernel
theorem dc_L_law_220 : decode bc_L_law 220 = .ok (.invokevirtual 32, 3) := by decide +kernel
theorem dc_L_law_223 : decode bc_L_law 223 = .ok (.aload_n 2, 1) := by decide +kernel
theorem dc_L_law_224 : decode bc_L_law 224 = .ok (.aload_n 0, 1) := by decide +kernel
theorem dc_L_law_225 : decode bc_L_law 225 = .ok (.iload_n 3, 1) := by decide +kernel
theorem dc_L_law_226 : decode bc_L_law 226 = .ok (.iconst 1, 1) := by decide +kernel
theorem dc_L_law_227 : decode bc_L_law 227 = .ok (.iadd, 1) := by decide +kernel
theorem dc_L_law_228 : decode bc_L_law 228 = .ok (.iaload, 1) := by decide +kernel
theorem dc_L_law_229 : decode bc_L_law 229 = .ok (.invokevirtual 35, 3) := by decide +kernel
theorem dc_L_law_232 : decode bc_L_law 232 = .ok (.if_icmp .eq 327, 3) := by decide +kernel
theorem dc_L_law_235 : decode bc_L_law 235 = .ok (.iconst 0, 1) := by decide +kernel
theorem dc_L_law_236 : decode bc_L_law 236 = .ok (.ireturn, 1) := by decide +kernel
theorem dc_L_law_237 : decode bc_L_law 237 = .ok (.aload_n 1, 1) := by decide +kernel
theorem dc_L_law_238 : decode bc_L_law 238 = .ok (.aload_n 0, 1) := by decide +kernel
theorem dc_L_law_239 : decode bc_L_law 239 = .ok (.iload_n 3, 1) := by decide +kernel
theorem dc_L_law_240 : decode bc_L_law 240 = .ok (.iconst 1, 1) := by decide +kernel
theorem dc_L_law_241 : decode bc_L_law 241 = .ok (.iadd, 1) := by decide +kernel
theorem dc_L_law_242 : decode bc_L_law 242 = .ok (.iaload, 1) := by decide +kernel
theorem dc_L_law_243 : decode bc_L_law 243 = .ok (.invokevirtual 36, 3) := by decide +kernel
theorem dc_L_law_246 : decode bc_L_law 246 = .ok (.aload_n 2, 1) := by decide +kernel
theorem dc_L_law_247 : decode bc_L_law 247 = .ok (.aload_n 0, 1) := by decide +kernel
theorem dc_L_law_248 : decode bc_L_law 248 = .ok (.iload_n 3, 1) := by decide +kernel
theorem dc_L_law_249 : decode bc_L_law 249 = .ok (.iconst 1, 1) := by decide +kernel
theorem dc_L_law_250 : decode bc_L_law 250 = .ok (.iadd, 1) := by decide +kernel
theorem dc_L_law_251 : decode bc_L_law 251 = .ok (.iaload, 1) := by decide +kernel
theorem dc_L_law_252 : decode bc_L_law 252 = .ok (.invokevirtual 39, 3) := by decide +kernel
theorem dc_L_law_255 : decode bc_L_law 255 = .ok (.if_icmp .eq 304, 3) := by decide +kernel
theorem dc_L_law_258 : decode bc_L_law 258 = .ok (.iconst 0, 1) := by decide +kernel
theorem dc_L_law_259 : decode bc_L_law 259 = .ok (.ireturn, 1) := by decide +kernel
theorem dc_L_law_260 : decode bc_L_law 260 = .ok (.aload_n 1, 1) := by decide +kernel
theorem dc_L_law_261 : decode bc_L_law 261 = .ok (.aload_n 0, 1) := by decide +kernel
theorem dc_L_law_262 : decode bc_L_law 262 = .ok (.iload_n 3, 1) := by decide +kernel
theorem dc_L_law_263 : decode bc_L_law 263 = .ok (.iconst 1, 1) := by decide +kernel
theorem dc_L_law_264 : decode bc_L_law 264 = .ok (.iadd, 1) := by decide +kernel
theorem dc_L_law_265 : decode bc_L_law 265 = .ok (.iaload, 1) := by decide +kernel
theorem dc_L_law_266 : decode bc_L_law 266 = .ok (.invokevirtual 40, 3) := by decide +kernel
theorem dc_L_law_269 : decode bc_L_law 269 = .ok (.aload_n 2, 1) := by decide +kernel
theorem dc_L_law_270 : decode bc_L_law 270 = .ok (.aload_n 0, 1) := by decide +kernel
theorem dc_L_law_271 : decode bc_L_law 271 = .ok (.iload_n 3, 1) := by decide +kernel
theorem dc_L_law_272 : decode bc_L_law 272 = .ok (.iconst 1, 1) := by decide +kernel
theorem dc_L_law_273 : decode bc_L_law 273 = .ok (.iadd, 1) := by decide +kernel
theorem dc_L_law_274 : decode bc_L_law 274 = .ok (.iaload, 1) := by decide +kernel
theorem dc_L_law_275 : decode bc_L_law 275 = .ok (.invokevirtual 43, 3) := by decide +kernel
theorem dc_L_law_278 : decode bc_L_law 278 = .ok (.if_icmp .eq 281, 3) := by decide +kernel
theorem dc_L_law_281 : decode bc_L_law 281 = .ok (.iconst 0, 1) := by decide +kernel
theorem dc_L_law_282 : decode bc_L_law 282 = .ok (.ireturn, 1) := by decide +kernel
theorem dc_L_law_283 : decode bc_L_law 283 = .ok (.aload_n 1, 1) := by decide +kernel
theorem dc_L_law_284 : decode bc_L_law 284 = .ok (.aload_n 0, 1) := by decide +kernel
theorem dc_L_law_285 : decode bc_L_law 285 = .ok (.iload_n 3, 1) := by decide +kernel
theorem dc_L_law_286 : decode bc_L_law 286 = .ok (.iconst 1, 1) := by decide +kernel
theorem dc_L_law_287 : decode bc_L_law 287 = .ok (.iadd, 1) := by decide +kernel
theorem dc_L_law_288 : decode bc_L_law 288 = .ok (.iaload, 1) := by decide +kernel
theorem dc_L_law_289 : decode bc_L_law 289 = .ok (.invokevirtual 44, 3) := by decide +kernel
theorem dc_L_law_292 : decode bc_L_law 292 = .ok (.aload_n 2, 1) := by decide +kernel
theorem dc_L_law_293 : decode bc_L_law 293 = .ok (.aload_n 0, 1) := by decide +kernel
theorem dc_L_law_294 : decode bc_L_law 294 = .ok (.iload_n 3, 1) := by decide +kernel
theorem dc_L_law_295 : decode bc_L_law 295 = .ok (.iconst 1, 1) := by decide +kernel
theorem dc_L_law_296 : decode bc_L_law 296 = .ok (.iadd, 1) := by decide +kernel
theorem dc_L_law_297 : decode bc_L_law 297 = .ok (.iaload, 1) := by decide +kernel
theorem dc_L_law_298 : decode bc_L_law 298 = .ok (.invokevirtual 47, 3) := by decide +kernel
theorem dc_L_law_301 : decode bc_L_law 301 = .ok (.if_icmp .eq 258, 3) := by decide +kernel
theorem dc_L_law_304 : decode bc_L_law 304 = .ok (.iconst 0, 1) := by decide +kernel
theorem dc_L_law_305 : decode bc_L_law 305 = .ok (.ireturn, 1) := by decide +kernel
theorem dc_L_law_306 : decode bc_L_law 306 = .ok (.aload_n 1, 1) := by decide +kernel
theorem dc_L_law_307 : decode bc_L_law 307 = .ok (.aload_n 0, 1) := by decide +kernel
theorem dc_L_law_308 : decode bc_L_law 308 = .ok (.iload_n 3, 1) := by decide +kernel
theorem dc_L_law_309 : decode bc_L_law 309 = .ok (.iconst 1, 1) := by decide +kernel
theorem dc_L_law_310 : decode bc_L_law 310 = .ok (.iadd, 1) := by decide +kernel
theorem dc_L_law_311 : decode bc_L_law 311 = .ok (.iaload, 1) := by decide +kernel
theorem dc_L_law_312 : decode bc_L_law 312 = .ok (.invokevirtual 48, 3) := by decide +kernel
theorem dc_L_law_315 : decode bc_L_law 315 = .ok (.aload_n 2, 1) := by decide +kernel
theorem dc_L_law_316 : decode bc_L_law 316 = .ok (.aload_n 0, 1) := by decide +kernel
theorem dc_L_law_317 : decode bc_L_law 317 = .ok (.iload_n 3, 1) := by decide +kernel
theorem dc_L_law_318 : decode bc_L_law 318 = .ok (.iconst 1, 1) := by decide +kernel
theorem dc_L_law_319 : decode bc_L_law 319 = .ok (.iadd, 1) := by decide +kernel
theorem dc_L_law_320 : decode bc_L_law 320 = .ok (.iaload, 1) := by decide +kernel
theorem dc_L_law_321 : decode bc_L_law 321 = .ok (.invokevirtual 51, 3) := by decide +kernel
theorem dc_L_law_324 : decode bc_L_law 324 = .ok (.if_icmp .eq 235, 3) := by decide +kernel
theorem dc_L_law_327 : decode bc_L_law 327 = .ok (.iconst 0, 1) := by decide +kernel
theorem dc_L_law_328 : decode bc_L_law 328 = .ok (.ireturn, 1) := by decide +kernel
theorem dc_L_law_329 : decode bc_L_law 329 = .ok (.aload_n 1, 1) := by decide +kernel
theorem dc_L_law_330 : decode bc_L_law 330 = .ok (.aload_n 0, 1) := by decide +kernel
theorem dc_L_law_331 : decode bc_L_law 331 = .ok (.iload_n 3, 1) := by decide +kernel
theorem dc_L_law_332 : decode bc_L_law 332 = .ok (.iconst 1, 1) := by decide +kernel
theorem dc_L_law_333 : decode bc_L_law 333 = .ok (.iadd, 1) := by decide +kernel
theorem dc_L_law_334 : decode bc_L_law 334 = .ok (.iaload, 1) := by decide +kernel
theorem dc_L_law_335 : decode bc_L_law 335 = .ok (.invokevirtual 52, 3) := by decide +kernel
theorem dc_L_law_338 : decode bc_L_law 338 = .ok (.aload_n 2, 1) := by decide +kernel
theorem dc_L_law_339 : decode bc_L_law 339 = .ok (.aload_n 0, 1) := by decide +kernel
theorem dc_L_law_340 : decode bc_L_law 340 = .ok (.iload_n 3, 1) := by decide +kernel
theorem dc_L_law_341 : decode bc_L_law 341 = .ok (.iconst 1, 1) := by decide +kernel
theorem dc_L_law_342 : decode bc_L_law 342 = .ok (.iadd, 1) := by decide +kernel
theorem dc_L_law_343 : decode bc_L_law 343 = .ok (.iaload, 1) := by decide +kernel
theorem dc_L_law_344 : decode bc_L_law 344 = .ok (.invokevirtual 55, 3) := by decide +kernel
theorem dc_L_law_347 : decode bc_L_law 347 = .ok (.if_icmp .eq 212, 3) := by decide +kernel
theorem dc_L_law_350 : decode bc_L_law 350 = .ok (.iconst 0, 1) := by decide +kernel
theorem dc_L_law_351 : decode bc_L_law 351 = .ok (.ireturn, 1) := by decide +kernel
theorem dc_L_law_352 : decode bc_L_law 352 = .ok (.aload_n 1, 1) := by decide +kernel
theorem dc_L_law_353 : decode bc_L_law 353 = .ok (.aload_n 0, 1) := by decide +kernel
theorem dc_L_law_354 : decode bc_L_law 354 = .ok (.iload_n 3, 1) := by decide +kernel
theorem dc_L_law_355 : decode bc_L_law 355 = .ok (.iconst 1, 1) := by decide +kernel
theorem dc_L_law_356 : decode bc_L_law 356 = .ok (.iadd, 1) := by decide +kernel
theorem dc_L_law_357 : decode bc_L_law 357 = .ok (.iaload, 1) := by decide +kernel
theorem dc_L_law_358 : decode bc_L_law 358 = .ok (.invokevirtual 56, 3) := by decide +kernel
theorem dc_L_law_361 : decode bc_L_law 361 = .ok (.aload_n 2, 1) := by decide +kernel
theorem dc_L_law_362 : decode bc_L_law 362 = .ok (.aload_n 0, 1) := by decide +kernel
theorem dc_L_law_363 : decode bc_L_law 363 = .ok (.iload_n 3, 1) := by decide +kernel
theorem dc_L_law_364 : decode bc_L_law 364 = .ok (.iconst 1, 1) := by decide +kernel
theorem dc_L_law_365 : decode bc_L_law 365 = .ok (.iadd, 1) := by decide +kernel
theorem dc_L_law_366 : decode bc_L_law 366 = .ok (.iaload, 1) := by decide +kernel
theorem dc_L_law_367 : decode bc_L_law 367 = .ok (.invokevirtual 59, 3) := by decide +kernel
theorem dc_L_law_370 : decode bc_L_law 370 = .ok (.if_icmp .eq 189, 3) := by decide +kernel
theorem dc_L_law_373 : decode bc_L_law 373 = .ok (.iconst 0, 1) := by decide +kernel
theorem dc_L_law_374 : decode bc_L_law 374 = .ok (.ireturn, 1) := by decide +kernel
theorem dc_L_law_375 : decode bc_L_law 375 = .ok (.aload_n 1, 1) := by decide +kernel
theorem dc_L_law_376 : decode bc_L_law 376 = .ok (.aload_n 0, 1) := by decide +kernel
theorem dc_L_law_377 : decode bc_L_law 377 = .ok (.iload_n 3, 1) := by decide +kernel
theorem dc_L_law_378 : decode bc_L_law 378 = .ok (.iconst 1, 1) := by decide +kernel
theorem dc_L_law_379 : decode bc_L_law 379 = .ok (.iadd, 1) := by decide +kernel
theorem dc_L_law_380 : decode bc_L_law 380 = .ok (.iaload, 1) := by decide +kernel
theorem dc_L_law_381 : decode bc_L_law 381 = .ok (.aload_n 0, 1) := by decide +kernel
theorem dc_L_law_382 : decode bc_L_law 382 = .ok (.iload_n 3, 1) := by decide +kernel
theorem dc_L_law_383 : decode bc_L_law 383 = .ok (.iconst 2, 1) := by decide +kernel
theorem dc_L_law_384 : decode bc_L_law 384 = .ok (.iadd, 1) := by decide +kernel
theorem dc_L_law_385 : decode bc_L_law 385 = .ok (.iaload, 1) := by decide +kernel
theorem dc_L_law_386 : decode bc_L_law 386 = .ok (.invokevirtual 60, 3) := by decide +kernel
theorem dc_L_law_389 : decode bc_L_law 389 = .ok (.aload_n 2, 1) := by decide +kernel
theorem dc_L_law_390 : decode bc_L_law 390 = .ok (.aload_n 0, 1) := by decide +kernel
theorem dc_L_law_391 : decode bc_L_law 391 = .ok (.iload_n 3, 1) := by decide +kernel
theorem dc_L_law_392 : decode bc_L_law 392 = .ok (.iconst 1, 1) := by decide +kernel
theorem dc_L_law_393 : decode bc_L_law 393 = .ok (.iadd, 1) := by decide +kernel
theorem dc_L_law_394 : decode bc_L_law 394 = .ok (.iaload, 1) := by decide +kernel
theorem dc_L_law_395 : decode bc_L_law 395 = .ok (.aload_n 0, 1) := by decide +kernel
theorem dc_L_law_396 : decode bc_L_law 396 = .ok (.iload_n 3, 1) := by decide +kernel
theorem dc_L_law_397 : decode bc_L_law 397 = .ok (.iconst 2, 1) := by decide +kernel
theorem dc_L_law_398 : decode bc_L_law 398 = .ok (.iadd, 1) := by decide +kernel
theorem dc_L_law_399 : decode bc_L_law 399 = .ok (.iaload, 1) := by decide +kernel
theorem dc_L_law_400 : decode bc_L_law 400 = .ok (.invokevirtual 63, 3) := by decide +kernel
theorem dc_L_law_403 : decode bc_L_law 403 = .ok (.if_icmp .eq 156, 3) := by decide +kernel
theorem dc_L_law_406 : decode bc_L_law 406 = .ok (.iconst 0, 1) := by decide +kernel
theorem dc_L_law_407 : decode bc_L_law 407 = .ok (.ireturn, 1) := by decide +kernel
theorem dc_L_law_408 : decode bc_L_law 408 = .ok (.aload_n 1, 1) := by decide +kernel
theorem dc_L_law_409 : decode bc_L_law 409 = .ok (.aload_n 0, 1) := by decide +kernel
theorem dc_L_law_410 : decode bc_L_law 410 = .ok (.iload_n 3, 1) := by decide +kernel
theorem dc_L_law_411 : decode bc_L_law 411 = .ok (.iconst 1, 1) := by decide +kernel
theorem dc_L_law_412 : decode bc_L_law 412 = .ok (.iadd, 1) := by decide +kernel
theorem dc_L_law_413 : decode bc_L_law 413 = .ok (.iaload, 1) := by decide +kernel
theorem dc_L_law_414 : decode bc_L_law 414 = .ok (.invokevirtual 64, 3) := by decide +kernel
theorem dc_L_law_417 : decode bc_L_law 417 = .ok (.aload_n 2, 1) := by decide +kernel
theorem dc_L_law_418 : decode bc_L_law 418 = .ok (.aload_n 0, 1) := by decide +kernel
theorem dc_L_law_419 : decode bc_L_law 419 = .ok (.iload_n 3, 1) := by decide +kernel
theorem dc_L_law_420 : decode bc_L_law 420 = .ok (.iconst 1, 1) := by decide +kernel
theorem dc_L_law_421 : decode bc_L_law 421 = .ok (.iadd, 1) := by decide +kernel
theorem dc_L_law_422 : decode bc_L_law 422 = .ok (.iaload, 1) := by decide +kernel
theorem dc_L_law_423 : decode bc_L_law 423 = .ok (.invokevirtual 67, 3) := by decide +kernel
theorem dc_L_law_426 : decode bc_L_law 426 = .ok (.if_icmp .eq 133, 3) := by decide +kernel
theorem dc_L_law_429 : decode bc_L_law 429 = .ok (.iconst 0, 1) := by decide +kernel
theorem dc_L_law_430 : decode bc_L_law 430 = .ok (.ireturn, 1) := by decide +kernel
theorem dc_L_law_431 : decode bc_L_law 431 = .ok (.aload_n 1, 1) := by decide +kernel
theorem dc_L_law_432 : decode bc_L_law 432 = .ok (.aload_n 0, 1) := by decide +kernel
theorem dc_L_law_433 : decode bc_L_law 433 = .ok (.iload_n 3, 1) := by decide +kernel
theorem dc_L_law_434 : decode bc_L_law 434 = .ok (.iconst 1, 1) := by decide +kernel
theorem dc_L_law_435 : decode bc_L_law 435 = .ok (.iadd, 1) := by decide +kernel
theorem dc_L_law_436 : decode bc_L_law 436 = .ok (.iaload, 1) := by decide +kernel
theorem dc_L_law_437 : decode bc_L_law 437 = .ok (.invokevirtual 68, 3) := by decide +kernel
theorem dc_L_law_440 : decode bc_L_law 440 = .ok (.aload_n 2, 1) := by decide +kernel
theorem dc_L_law_441 : decode bc_L_law 441 = .ok (.aload_n 0, 1) := by decide +kernel
theorem dc_L_law_442 : decode bc_L_law 442 = .ok (.iload_n 3, 1) := by decide +kernel
theorem dc_L_law_443 : decode bc_L_law 443 = .ok (.iconst 1, 1) := by decide +kernel
theorem dc_L_law_444 : decode bc_L_law 444 = .ok (.iadd, 1) := by decide +kernel
theorem dc_L_law_445 : decode bc_L_law 445 = .ok (.iaload, 1) := by decide +kernel
theorem dc_L_law_446 : decode bc_L_law 446 = .ok (.invokevirtual 71, 3) := by decide +kernel
theorem dc_L_law_449 : decode bc_L_law 449 = .ok (.if_icmp .eq 110, 3) := by decide +kernel
theorem dc_L_law_452 : decode bc_L_law 452 = .ok (.iconst 0, 1) := by decide +kernel
theorem dc_L_law_453 : decode bc_L_law 453 = .ok (.ireturn, 1) := by decide +kernel
theorem dc_L_law_454 : decode bc_L_law 454 = .ok (.aload_n 1, 1) := by decide +kernel
theorem dc_L_law_455 : decode bc_L_law 455 = .ok (.aload_n 0, 1) := by decide +kernel
theorem dc_L_law_456 : decode bc_L_law 456 = .ok (.iload_n 3, 1) := by decide +kernel
theorem dc_L_law_457 : decode bc_L_law 457 = .ok (.iconst 1, 1) := by decide +kernel
theorem dc_L_law_458 : decode bc_L_law 458 = .ok (.iadd, 1) := by decide +kernel
theorem dc_L_law_459 : decode bc_L_law 459 = .ok (.iaload, 1) := by decide +kernel
theorem dc_L_law_460 : decode bc_L_law 460 = .ok (.invokevirtual 72, 3) := by decide +kernel
theorem dc_L_law_463 : decode bc_L_law 463 = .ok (.aload_n 2, 1) := by decide +kernel
theorem dc_L_law_464 : decode bc_L_law 464 = .ok (.aload_n 0, 1) := by decide +kernel
theorem dc_L_law_465 : decode bc_L_law 465 = .ok (.iload_n 3, 1) := by decide +kernel
theorem dc_L_law_466 : decode bc_L_law 466 = .ok (.iconst 1, 1) := by decide +kernel
theorem dc_L_law_467 : decode bc_L_law 467 = .ok (.iadd, 1) := by decide +kernel
theorem dc_L_law_468 : decode bc_L_law 468 = .ok (.iaload, 1) := by decide +kernel
theorem dc_L_law_469 : decode bc_L_law 469 = .ok (.invokevirtual 75, 3) := by decide +kernel
theorem dc_L_law_472 : decode bc_L_law 472 = .ok (.if_icmp .eq 87, 3) := by decide +kernel
theorem dc_L_law_475 : decode bc_L_law 475 = .ok (.iconst 0, 1) := by decide +kernel
theorem dc_L_law_476 : decode bc_L_law 476 = .ok (.ireturn, 1) := by decide +kernel
theorem dc_L_law_477 : decode bc_L_law 477 = .ok (.aload_n 1, 1) := by decide +kernel
theorem dc_L_law_478 : decode bc_L_law 478 = .ok (.aload_n 0, 1) := by decide +kernel
theorem dc_L_law_479 : decode bc_L_law 479 = .ok (.iload_n 3, 1) := by decide +kernel
theorem dc_L_law_480 : decode bc_L_law 480 = .ok (.iconst 1, 1) := by decide +kernel
theorem dc_L_law_481 : decode bc_L_law 481 = .ok (.iadd, 1) := by decide +kernel
theorem dc_L_law_482 : decode bc_L_law 482 = .ok (.iaload, 1) := by decide +kernel
theorem dc_L_law_483 : decode bc_L_law 483 = .ok (.invokevirtual 76, 3) := by decide +kernel
theorem dc_L_law_486 : decode bc_L_law 486 = .ok (.aload_n 2, 1) := by decide +kernel
theorem dc_L_law_487 : decode bc_L_law 487 = .ok (.aload_n 0, 1) := by decide +kernel
theorem dc_L_law_488 : decode bc_L_law 488 = .ok (.iload_n 3, 1) := by decide +kernel
theorem dc_L_law_489 : decode bc_L_law 489 = .ok (.iconst 1, 1) := by decide +kernel
theorem dc_L_law_490 : decode bc_L_law 490 = .ok (.iadd, 1) := by decide +kernel
theorem dc_L_law_491 : decode bc_L_law 491 = .ok (.iaload, 1) := by decide +kernel
theorem dc_L_law_492 : decode bc_L_law 492 = .ok (.invokevirtual 79, 3) := by decide +kernel
theorem dc_L_law_495 : decode bc_L_law 495 = .ok (.if_icmp .eq 64, 3) := by decide +kernel
theorem dc_L_law_498 : decode bc_L_law 498 = .ok (.iconst 0, 1) := by decide +kernel
theorem dc_L_law_499 : decode bc_L_law 499 = .ok (.ireturn, 1) := by decide +kernel
theorem dc_L_law_500 : decode bc_L_law 500 = .ok (.aload_n 1, 1) := by decide +kernel
theorem dc_L_law_501 : decode bc_L_law 501 = .ok (.aload_n 0, 1) := by decide +kernel
theorem dc_L_law_502 : decode bc_L_law 502 = .ok (.iload_n 3, 1) := by decide +kernel
theorem dc_L_law_503 : decode bc_L_law 503 = .ok (.iconst 1, 1) := by decide +kernel
theorem dc_L_law_504 : decode bc_L_law 504 = .ok (.iadd, 1) := by decide +kernel
theorem dc_L_law_505 : decode bc_L_law 505 = .ok (.iaload, 1) := by decide +kernel
theorem dc_L_law_506 : decode bc_L_law 506 = .ok (.invokevirtual 80, 3) := by decide +kernel
theorem dc_L_law_509 : decode bc_L_law 509 = .ok (.aload_n 2, 1) := by decide +kernel
theorem dc_L_law_510 : decode bc_L_law 510 = .ok (.aload_n 0, 1) := by decide +kernel
theorem dc_L_law_511 : decode bc_L_law 511 = .ok (.iload_n 3, 1) := by decide +kernel
theorem dc_L_law_512 : decode bc_L_law 512 = .ok (.iconst 1, 1) := by decide +kernel
theorem dc_L_law_513 : decode bc_L_law 513 = .ok (.iadd, 1) := by decide +kernel
theorem dc_L_law_514 : decode bc_L_law 514 = .ok (.iaload, 1) := by decide +kernel
theorem dc_L_law_515 : decode bc_L_law 515 = .ok (.invokevirtual 83, 3) := by decide +kernel
theorem dc_L_law_518 : decode bc_L_law 518 = .ok (.if_icmp .eq 41, 3) := by decide +kernel
theorem dc_L_law_521 : decode bc_L_law 521 = .ok (.iconst 0, 1) := by decide +kernel
theorem dc_L_law_522 : decode bc_L_law 522 = .ok (.ireturn, 1) := by decide +kernel
theorem dc_L_law_523 : decode bc_L_law 523 = .ok (.aload_n 1, 1) := by decide +kernel
theorem dc_L_law_524 : decode bc_L_law 524 = .ok (.invokevirtual 84, 3) := by decide +kernel
theorem dc_L_law_527 : decode bc_L_law 527 = .ok (.aload_n 2, 1) := by decide +kernel
theorem dc_L_law_528 : decode bc_L_law 528 = .ok (.invokevirtual 88, 3) := by decide +kernel
theorem dc_L_law_531 : decode bc_L_law 531 = .ok (.if_icmp .eq 28, 3) := by decide +kernel
theorem dc_L_law_534 : decode bc_L_law 534 = .ok (.iconst 0, 1) := by decide +kernel
theorem dc_L_law_535 : decode bc_L_law 535 = .ok (.ireturn, 1) := by decide +kernel
theorem dc_L_law_536 : decode bc_L_law 536 = .ok (.aload_n 1, 1) := by decide +kernel
theorem dc_L_law_537 : decode bc_L_law 537 = .ok (.aload_n 0, 1) := by decide +kernel
theorem dc_L_law_538 : decode bc_L_law 538 = .ok (.iload_n 3, 1) := by decide +kernel
theorem dc_L_law_539 : decode bc_L_law 539 = .ok (.iconst 1, 1) := by decide +kernel
theorem dc_L_law_540 : decode bc_L_law 540 = .ok (.iadd, 1) := by decide +kernel
theorem dc_L_law_541 : decode bc_L_law 541 = .ok (.iaload, 1) := by decide +kernel
theorem dc_L_law_542 : decode bc_L_law 542 = .ok (.invokevirtual 89, 3) := by decide +kernel
theorem dc_L_law_545 : decode bc_L_law 545 = .ok (.aload_n 2, 1) := by decide +kernel
theorem dc_L_law_546 : decode bc_L_law 546 = .ok (.aload_n 0, 1) := by decide +kernel
theorem dc_L_law_547 : decode bc_L_law 547 = .ok (.iload_n 3, 1) := by decide +kernel
theorem dc_L_law_548 : decode bc_L_law 548 = .ok (.iconst 1, 1) := by decide +kernel
theorem dc_L_law_549 : decode bc_L_law 549 = .ok (.iadd, 1) := by decide +kernel
theorem dc_L_law_550 : decode bc_L_law 550 = .ok (.iaload, 1) := by decide +kernel
theorem dc_L_law_551 : decode bc_L_law 551 = .ok (.invokevirtual 92, 3) := by decide +kernel
theorem dc_L_law_554 : decode bc_L_law 554 = .ok (.if_icmp .eq 5, 3) := by decide +kernel
theorem dc_L_law_557 : decode bc_L_law 557 = .ok (.iconst 0, 1) := by decide +kernel
theorem dc_L_law_558 : decode bc_L_law 558 = .ok (.ireturn, 1) := by decide +kernel
theorem dc_L_law_559 : decode bc_L_law 559 = .ok (.iinc 3 3, 3) := by decide +kernel
theorem dc_L_law_562 : decode bc_L_law 562 = .ok (.goto (-544), 3) := by decide +kernel
theorem dc_L_law_565 : decode bc_L_law 565 = .ok (.iconst 1, 1) := by decide +kernel
theorem dc_L_law_566 : decode bc_L_law 566 = .ok (.ireturn, 1) := by decide +kernel
