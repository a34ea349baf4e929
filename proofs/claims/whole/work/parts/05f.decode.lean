abbrev b_Law_law : ByteArray := code
theorem d_Law_cell_0 : decode b_Law_cell 0 = .ok (.iload_n 1, 1) := by decide +kernel
theorem d_Law_cell_1 : decode b_Law_cell 1 = .ok (.aload_n 0, 1) := by decide +kernel
theorem d_Law_cell_2 : decode b_Law_cell 2 = .ok (.arraylength, 1) := by decide +kernel
theorem d_Law_cell_3 : decode b_Law_cell 3 = .ok (.if_icmp .ge 9, 3) := by decide +kernel
theorem d_Law_cell_6 : decode b_Law_cell 6 = .ok (.aload_n 0, 1) := by decide +kernel
theorem d_Law_cell_7 : decode b_Law_cell 7 = .ok (.iload_n 1, 1) := by decide +kernel
theorem d_Law_cell_8 : decode b_Law_cell 8 = .ok (.iaload, 1) := by decide +kernel
theorem d_Law_cell_9 : decode b_Law_cell 9 = .ok (.goto 4, 3) := by decide +kernel
theorem d_Law_cell_12 : decode b_Law_cell 12 = .ok (.iconst 0, 1) := by decide +kernel
theorem d_Law_cell_13 : decode b_Law_cell 13 = .ok (.ireturn, 1) := by decide +kernel
theorem d_Law_law_0 : decode b_Law_law 0 = .ok (.new 7, 3) := by decide +kernel
theorem d_Law_law_3 : decode b_Law_law 3 = .ok (.dup, 1) := by decide +kernel
theorem d_Law_law_4 : decode b_Law_law 4 = .ok (.aload_n 0, 1) := by decide +kernel
theorem d_Law_law_5 : decode b_Law_law 5 = .ok (.iconst 0, 1) := by decide +kernel
theorem d_Law_law_6 : decode b_Law_law 6 = .ok (.invokestatic 9, 3) := by decide +kernel
theorem d_Law_law_9 : decode b_Law_law 9 = .ok (.invokespecial 15, 3) := by decide +kernel
theorem d_Law_law_12 : decode b_Law_law 12 = .ok (.astore_n 1, 1) := by decide +kernel
theorem d_Law_law_13 : decode b_Law_law 13 = .ok (.new 18, 3) := by decide +kernel
theorem d_Law_law_16 : decode b_Law_law 16 = .ok (.dup, 1) := by decide +kernel
theorem d_Law_law_17 : decode b_Law_law 17 = .ok (.aload_n 0, 1) := by decide +kernel
theorem d_Law_law_18 : decode b_Law_law 18 = .ok (.iconst 0, 1) := by decide +kernel
theorem d_Law_law_19 : decode b_Law_law 19 = .ok (.invokestatic 9, 3) := by decide +kernel
theorem d_Law_law_22 : decode b_Law_law 22 = .ok (.invokespecial 20, 3) := by decide +kernel
theorem d_Law_law_25 : decode b_Law_law 25 = .ok (.astore_n 2, 1) := by decide +kernel
theorem d_Law_law_26 : decode b_Law_law 26 = .ok (.iconst 1, 1) := by decide +kernel
theorem d_Law_law_27 : decode b_Law_law 27 = .ok (.istore_n 3, 1) := by decide +kernel
theorem d_Law_law_28 : decode b_Law_law 28 = .ok (.iload_n 3, 1) := by decide +kernel
theorem d_Law_law_29 : decode b_Law_law 29 = .ok (.aload_n 0, 1) := by decide +kernel
theorem d_Law_law_30 : decode b_Law_law 30 = .ok (.arraylength, 1) := by decide +kernel
theorem d_Law_law_31 : decode b_Law_law 31 = .ok (.iconst 4, 1) := by decide +kernel
theorem d_Law_law_32 : decode b_Law_law 32 = .ok (.isub, 1) := by decide +kernel
theorem d_Law_law_33 : decode b_Law_law 33 = .ok (.if_icmp .gt 580, 3) := by decide +kernel
theorem d_Law_law_36 : decode b_Law_law 36 = .ok (.aload_n 0, 1) := by decide +kernel
theorem d_Law_law_37 : decode b_Law_law 37 = .ok (.iload_n 3, 1) := by decide +kernel
theorem d_Law_law_38 : decode b_Law_law 38 = .ok (.iaload, 1) := by decide +kernel
theorem d_Law_law_39 : decode b_Law_law 39 = .ok (.bipush 31, 2) := by decide +kernel
theorem d_Law_law_41 : decode b_Law_law 41 = .ok (.iand, 1) := by decide +kernel
theorem d_Law_law_42 : decode b_Law_law 42 = .ok (.tableswitch 565 0 18 #[90, 115, 126, 149, 182, 215, 228, 241, 264, 275, 298, 311, 334, 367, 400, 443, 486, 519, 552], 90) := by decide +kernel
theorem d_Law_law_132 : decode b_Law_law 132 = .ok (.aload_n 1, 1) := by decide +kernel
theorem d_Law_law_133 : decode b_Law_law 133 = .ok (.aload_n 0, 1) := by decide +kernel
theorem d_Law_law_134 : decode b_Law_law 134 = .ok (.iload_n 3, 1) := by decide +kernel
theorem d_Law_law_135 : decode b_Law_law 135 = .ok (.iconst 1, 1) := by decide +kernel
theorem d_Law_law_136 : decode b_Law_law 136 = .ok (.iadd, 1) := by decide +kernel
theorem d_Law_law_137 : decode b_Law_law 137 = .ok (.iaload, 1) := by decide +kernel
theorem d_Law_law_138 : decode b_Law_law 138 = .ok (.i2c, 1) := by decide +kernel
theorem d_Law_law_139 : decode b_Law_law 139 = .ok (.invokevirtual 21, 3) := by decide +kernel
theorem d_Law_law_142 : decode b_Law_law 142 = .ok (.aload_n 2, 1) := by decide +kernel
theorem d_Law_law_143 : decode b_Law_law 143 = .ok (.aload_n 0, 1) := by decide +kernel
theorem d_Law_law_144 : decode b_Law_law 144 = .ok (.iload_n 3, 1) := by decide +kernel
theorem d_Law_law_145 : decode b_Law_law 145 = .ok (.iconst 1, 1) := by decide +kernel
theorem d_Law_law_146 : decode b_Law_law 146 = .ok (.iadd, 1) := by decide +kernel
theorem d_Law_law_147 : decode b_Law_law 147 = .ok (.iaload, 1) := by decide +kernel
theorem d_Law_law_148 : decode b_Law_law 148 = .ok (.i2c, 1) := by decide +kernel
theorem d_Law_law_149 : decode b_Law_law 149 = .ok (.invokevirtual 25, 3) := by decide +kernel
theorem d_Law_law_152 : decode b_Law_law 152 = .ok (.if_icmp .eq 455, 3) := by decide +kernel
theorem d_Law_law_155 : decode b_Law_law 155 = .ok (.iconst 0, 1) := by decide +kernel
theorem d_Law_law_156 : decode b_Law_law 156 = .ok (.ireturn, 1) := by decide +kernel
theorem d_Law_law_157 : decode b_Law_law 157 = .ok (.aload_n 1, 1) := by decide +kernel
theorem d_Law_law_158 : decode b_Law_law 158 = .ok (.invokevirtual 26, 3) := by decide +kernel
theorem d_Law_law_161 : decode b_Law_law 161 = .ok (.aload_n 2, 1) := by decide +kernel
theorem d_Law_law_162 : decode b_Law_law 162 = .ok (.invokevirtual 29, 3) := by decide +kernel
theorem d_Law_law_165 : decode b_Law_law 165 = .ok (.goto 442, 3) := by decide +kernel
theorem d_Law_law_168 : decode b_Law_law 168 = .ok (.aload_n 1, 1) := by decide +kernel
theorem d_Law_law_169 : decode b_Law_law 169 = .ok (.aload_n 0, 1) := by decide +kernel
theorem d_Law_law_170 : decode b_Law_law 170 = .ok (.iload_n 3, 1) := by decide +kernel
theorem d_Law_law_171 : decode b_Law_law 171 = .ok (.iconst 1, 1) := by decide +kernel
theorem d_Law_law_172 : decode b_Law_law 172 = .ok (.iadd, 1) := by decide +kernel
theorem d_Law_law_173 : decode b_Law_law 173 = .ok (.iaload, 1) := by decide +kernel
theorem d_Law_law_174 : decode b_Law_law 174 = .ok (.invokevirtual 30, 3) := by decide +kernel
theorem d_Law_law_177 : decode b_Law_law 177 = .ok (.aload_n 2, 1) := by decide +kernel
theorem d_Law_law_178 : decode b_Law_law 178 = .ok (.aload_n 0, 1) := by decide +kernel
theorem d_Law_law_179 : decode b_Law_law 179 = .ok (.iload_n 3, 1) := by decide +kernel
theorem d_Law_law_180 : decode b_Law_law 180 = .ok (.iconst 1, 1) := by decide +kernel
theorem d_Law_law_181 : decode b_Law_law 181 = .ok (.iadd, 1) := by decide +kernel
theorem d_Law_law_182 : decode b_Law_law 182 = .ok (.iaload, 1) := by decide +kernel
theorem d_Law_law_183 : decode b_Law_law 183 = .ok (.invokevirtual 34, 3) := by decide +kernel
theorem d_Law_law_186 : decode b_Law_law 186 = .ok (.if_icmp .eq 421, 3) := by decide +kernel
theorem d_Law_law_189 : decode b_Law_law 189 = .ok (.iconst 0, 1) := by decide +kernel
theorem d_Law_law_190 : decode b_Law_law 190 = .ok (.ireturn, 1) := by decide +kernel
theorem d_Law_law_191 : decode b_Law_law 191 = .ok (.aload_n 1, 1) := by decide +kernel
theorem d_Law_law_192 : decode b_Law_law 192 = .ok (.aload_n 0, 1) := by decide +kernel
theorem d_Law_law_193 : decode b_Law_law 193 = .ok (.iload_n 3, 1) := by decide +kernel
theorem d_Law_law_194 : decode b_Law_law 194 = .ok (.iconst 1, 1) := by decide +kernel
theorem d_Law_law_195 : decode b_Law_law 195 = .ok (.iadd, 1) := by decide +kernel
theorem d_Law_law_196 : decode b_Law_law 196 = .ok (.iaload, 1) := by decide +kernel
theorem d_Law_law_197 : decode b_Law_law 197 = .ok (.aload_n 0, 1) := by decide +kernel
theorem d_Law_law_198 : decode b_Law_law 198 = .ok (.iload_n 3, 1) := by decide +kernel
theorem d_Law_law_199 : decode b_Law_law 199 = .ok (.iconst 2, 1) := by decide +kernel
theorem d_Law_law_200 : decode b_Law_law 200 = .ok (.iadd, 1) := by decide +kernel
theorem d_Law_law_201 : decode b_Law_law 201 = .ok (.iaload, 1) := by decide +kernel
theorem d_Law_law_202 : decode b_Law_law 202 = .ok (.invokevirtual 35, 3) := by decide +kernel
theorem d_Law_law_205 : decode b_Law_law 205 = .ok (.aload_n 2, 1) := by decide +kernel
theorem d_Law_law_206 : decode b_Law_law 206 = .ok (.aload_n 0, 1) := by decide +kernel
theorem d_Law_law_207 : decode b_Law_law 207 = .ok (.iload_n 3, 1) := by decide +kernel
theorem d_Law_law_208 : decode b_Law_law 208 = .ok (.iconst 1, 1) := by decide +kernel
theorem d_Law_law_209 : decode b_Law_law 209 = .ok (.iadd, 1) := by decide +kernel
theorem d_Law_law_210 : decode b_Law_law 210 = .ok (.iaload, 1) := by decide +kernel
theorem d_Law_law_211 : decode b_Law_law 211 = .ok (.aload_n 0, 1) := by decide +kernel
theorem d_Law_law_212 : decode b_Law_law 212 = .ok (.iload_n 3, 1) := by decide +kernel
theorem d_Law_law_213 : decode b_Law_law 213 = .ok (.iconst 2, 1) := by decide +kernel
theorem d_Law_law_214 : decode b_Law_law 214 = .ok (.iadd, 1) := by decide +kernel
theorem d_Law_law_215 : decode b_Law_law 215 = .ok (.iaload, 1) := by decide +kernel
theorem d_Law_law_216 : decode b_Law_law 216 = .ok (.invokevirtual 39, 3) := by decide +kernel
theorem d_Law_law_219 : decode b_Law_law 219 = .ok (.if_icmp .eq 388, 3) := by decide +kernel
theorem d_Law_law_222 : decode b_Law_law 222 = .ok (.iconst 0, 1) := by decide +kernel
theorem d_Law_law_223 : decode b_Law_law 223 = .ok (.ireturn, 1) := by decide +kernel
theorem d_Law_law_224 : decode b_Law_law 224 = .ok (.aload_n 1, 1) := by decide +kernel
theorem d_Law_law_225 : decode b_Law_law 225 = .ok (.aload_n 0, 1) := by decide +kernel
theorem d_Law_law_226 : decode b_Law_law 226 = .ok (.iload_n 3, 1) := by decide +kernel
theorem d_Law_law_227 : decode b_Law_law 227 = .ok (.iconst 1, 1) := by decide +kernel
theorem d_Law_law_228 : decode b_Law_law 228 = .ok (.iadd, 1) := by decide +kernel
theorem d_Law_law_229 : decode b_Law_law 229 = .ok (.iaload, 1) := by decide +kernel
theorem d_Law_law_230 : decode b_Law_law 230 = .ok (.aload_n 0, 1) := by decide +kernel
theorem d_Law_law_231 : decode b_Law_law 231 = .ok (.iload_n 3, 1) := by decide +kernel
theorem d_Law_law_232 : decode b_Law_law 232 = .ok (.iconst 2, 1) := by decide +kernel
theorem d_Law_law_233 : decode b_Law_law 233 = .ok (.iadd, 1) := by decide +kernel
theorem d_Law_law_234 : decode b_Law_law 234 = .ok (.iaload, 1) := by decide +kernel
theorem d_Law_law_235 : decode b_Law_law 235 = .ok (.invokevirtual 40, 3) := by decide +kernel
theorem d_Law_law_238 : decode b_Law_law 238 = .ok (.aload_n 2, 1) := by decide +kernel
theorem d_Law_law_239 : decode b_Law_law 239 = .ok (.aload_n 0, 1) := by decide +kernel
theorem d_Law_law_240 : decode b_Law_law 240 = .ok (.iload_n 3, 1) := by decide +kernel
theorem d_Law_law_241 : decode b_Law_law 241 = .ok (.iconst 1, 1) := by decide +kernel
theorem d_Law_law_242 : decode b_Law_law 242 = .ok (.iadd, 1) := by decide +kernel
theorem d_Law_law_243 : decode b_Law_law 243 = .ok (.iaload, 1) := by decide +kernel
theorem d_Law_law_244 : decode b_Law_law 244 = .ok (.aload_n 0, 1) := by decide +kernel
theorem d_Law_law_245 : decode b_Law_law 245 = .ok (.iload_n 3, 1) := by decide +kernel
theorem d_Law_law_246 : decode b_Law_law 246 = .ok (.iconst 2, 1) := by decide +kernel
theorem d_Law_law_247 : decode b_Law_law 247 = .ok (.iadd, 1) := by decide +kernel
theorem d_Law_law_248 : decode b_Law_law 248 = .ok (.iaload, 1) := by decide +kernel
theorem d_Law_law_249 : decode b_Law_law 249 = .ok (.invokevirtual 43, 3) := by decide +kernel
theorem d_Law_law_252 : decode b_Law_law 252 = .ok (.if_icmp .eq 355, 3) := by decide +kernel
theorem d_Law_law_255 : decode b_Law_law 255 = .ok (.iconst 0, 1) := by decide +kernel
theorem d_Law_law_256 : decode b_Law_law 256 = .ok (.ireturn, 1) := by decide +kernel
theorem d_Law_law_257 : decode b_Law_law 257 = .ok (.aload_n 1, 1) := by decide +kernel
theorem d_Law_law_258 : decode b_Law_law 258 = .ok (.invokevirtual 44, 3) := by decide +kernel
theorem d_Law_law_261 : decode b_Law_law 261 = .ok (.aload_n 2, 1) := by decide +kernel
theorem d_Law_law_262 : decode b_Law_law 262 = .ok (.invokevirtual 48, 3) := by decide +kernel
theorem d_Law_law_265 : decode b_Law_law 265 = .ok (.if_icmp .eq 342, 3) := by decide +kernel
theorem d_Law_law_268 : decode b_Law_law 268 = .ok (.iconst 0, 1) := by decide +kernel
theorem d_Law_law_269 : decode b_Law_law 269 = .ok (.ireturn, 1) := by decide +kernel
theorem d_Law_law_270 : decode b_Law_law 270 = .ok (.aload_n 1, 1) := by decide +kernel
theorem d_Law_law_271 : decode b_Law_law 271 = .ok (.invokevirtual 49, 3) := by decide +kernel
theorem d_Law_law_274 : decode b_Law_law 274 = .ok (.aload_n 2, 1) := by decide +kernel
theorem d_Law_law_275 : decode b_Law_law 275 = .ok (.invokevirtual 52, 3) := by decide +kernel
theorem d_Law_law_278 : decode b_Law_law 278 = .ok (.if_icmp .eq 329, 3) := by decide +kernel
theorem d_Law_law_281 : decode b_Law_law 281 = .ok (.iconst 0, 1) := by decide +kernel
theorem d_Law_law_282 : decode b_Law_law 282 = .ok (.ireturn, 1) := by decide +kernel
theorem d_Law_law_283 : decode b_Law_law 283 = .ok (.aload_n 1, 1) := by decide +kernel
theorem d_Law_law_284 : decode b_Law_law 284 = .ok (.aload_n 0, 1) := by decide +kernel
theorem d_Law_law_285 : decode b_Law_law 285 = .ok (.iload_n 3, 1) := by decide +kernel
theorem d_Law_law_286 : decode b_Law_law 286 = .ok (.iconst 1, 1) := by decide +kernel
theorem d_Law_law_287 : decode b_Law_law 287 = .ok (.iadd, 1) := by decide +kernel
theorem d_Law_law_288 : decode b_Law_law 288 = .ok (.iaload, 1) := by decide +kernel
theorem d_Law_law_289 : decode b_Law_law 289 = .ok (.invokevirtual 53, 3) := by decide +kernel
theorem d_Law_law_292 : decode b_Law_law 292 = .ok (.aload_n 2, 1) := by decide +kernel
theorem d_Law_law_293 : decode b_Law_law 293 = .ok (.aload_n 0, 1) := by decide +kernel
theorem d_Law_law_294 : decode b_Law_law 294 = .ok (.iload_n 3, 1) := by decide +kernel
theorem d_Law_law_295 : decode b_Law_law 295 = .ok (.iconst 1, 1) := by decide +kernel
theorem d_Law_law_296 : decode b_Law_law 296 = .ok (.iadd, 1) := by decide +kernel
theorem d_Law_law_297 : decode b_Law_law 297 = .ok (.iaload, 1) := by decide +kernel
theorem d_Law_law_298 : decode b_Law_law 298 = .ok (.invokevirtual 57, 3) := by decide +kernel
theorem d_Law_law_301 : decode b_Law_law 301 = .ok (.if_icmp .eq 306, 3) := by decide +kernel
theorem d_Law_law_304 : decode b_Law_law 304 = .ok (.iconst 0, 1) := by decide +kernel
theorem d_Law_law_305 : decode b_Law_law 305 = .ok (.ireturn, 1) := by decide +kernel
theorem d_Law_law_306 : decode b_Law_law 306 = .ok (.aload_n 1, 1) := by decide +kernel
theorem d_Law_law_307 : decode b_Law_law 307 = .ok (.invokevirtual 58, 3) := by decide +kernel
theorem d_Law_law_310 : decode b_Law_law 310 = .ok (.aload_n 2, 1) := by decide +kernel
theorem d_Law_law_311 : decode b_Law_law 311 = .ok (.invokevirtual 61, 3) := by decide +kernel
theorem d_Law_law_314 : decode b_Law_law 314 = .ok (.goto 293, 3) := by decide +kernel
theorem d_Law_law_317 : decode b_Law_law 317 = .ok (.aload_n 1, 1) := by decide +kernel
theorem d_Law_law_318 : decode b_Law_law 318 = .ok (.aload_n 0, 1) := by decide +kernel
theorem d_Law_law_319 : decode b_Law_law 319 = .ok (.iload_n 3, 1) := by decide +kernel
theorem d_Law_law_320 : decode b_Law_law 320 = .ok (.iconst 1, 1) := by decide +kernel
theorem d_Law_law_321 : decode b_Law_law 321 = .ok (.iadd, 1) := by decide +kernel
theorem d_Law_law_322 : decode b_Law_law 322 = .ok (.iaload, 1) := by decide +kernel
theorem d_Law_law_323 : decode b_Law_law 323 = .ok (.invokevirtual 62, 3) := by decide +kernel
theorem d_Law_law_326 : decode b_Law_law 326 = .ok (.aload_n 2, 1) := by decide +kernel
theorem d_Law_law_327 : decode b_Law_law 327 = .ok (.aload_n 0, 1) := by decide +kernel
theorem d_Law_law_328 : decode b_Law_law 328 = .ok (.iload_n 3, 1) := by decide +kernel
theorem d_Law_law_329 : decode b_Law_law 329 = .ok (.iconst 1, 1) := by decide +kernel
theorem d_Law_law_330 : decode b_Law_law 330 = .ok (.iadd, 1) := by decide +kernel
theorem d_Law_law_331 : decode b_Law_law 331 = .ok (.iaload, 1) := by decide +kernel
theorem d_Law_law_332 : decode b_Law_law 332 = .ok (.invokevirtual 65, 3) := by decide +kernel
theorem d_Law_law_335 : decode b_Law_law 335 = .ok (.if_icmp .eq 272, 3) := by decide +kernel
theorem d_Law_law_338 : decode b_Law_law 338 = .ok (.iconst 0, 1) := by decide +kernel
theorem d_Law_law_339 : decode b_Law_law 339 = .ok (.ireturn, 1) := by decide +kernel
theorem d_Law_law_340 : decode b_Law_law 340 = .ok (.aload_n 1, 1) := by decide +kernel
theorem d_Law_law_341 : decode b_Law_law 341 = .ok (.invokevirtual 66, 3) := by decide +kernel
theorem d_Law_law_344 : decode b_Law_law 344 = .ok (.aload_n 2, 1) := by decide +kernel
theorem d_Law_law_345 : decode b_Law_law 345 = .ok (.invokevirtual 70, 3) := by decide +kernel
theorem d_Law_law_348 : decode b_Law_law 348 = .ok (.if_icmp .eq 259, 3) := by decide +kernel
theorem d_Law_law_351 : decode b_Law_law 351 = .ok (.iconst 0, 1) := by decide +kernel
theorem d_Law_law_352 : decode b_Law_law 352 = .ok (.ireturn, 1) := by decide +kernel
theorem d_Law_law_353 : decode b_Law_law 353 = .ok (.aload_n 1, 1) := by decide +kernel
theorem d_Law_law_354 : decode b_Law_law 354 = .ok (.aload_n 0, 1) := by decide +kernel
theorem d_Law_law_355 : decode b_Law_law 355 = .ok (.iload_n 3, 1) := by decide +kernel
theorem d_Law_law_356 : decode b_Law_law 356 = .ok (.iconst 1, 1) := by decide +kernel
theorem d_Law_law_357 : decode b_Law_law 357 = .ok (.iadd, 1) := by decide +kernel
theorem d_Law_law_358 : decode b_Law_law 358 = .ok (.iaload, 1) := by decide +kernel
theorem d_Law_law_359 : decode b_Law_law 359 = .ok (.invokevirtual 71, 3) := by decide +kernel
theorem d_Law_law_362 : decode b_Law_law 362 = .ok (.aload_n 2, 1) := by decide +kernel
theorem d_Law_law_363 : decode b_Law_law 363 = .ok (.aload_n 0, 1) := by decide +kernel
theorem d_Law_law_364 : decode b_Law_law 364 = .ok (.iload_n 3, 1) := by decide +kernel
theorem d_Law_law_365 : decode b_Law_law 365 = .ok (.iconst 1, 1) := by decide +kernel
theorem d_Law_law_366 : decode b_Law_law 366 = .ok (.iadd, 1) := by decide +kernel
theorem d_Law_law_367 : decode b_Law_law 367 = .ok (.iaload, 1) := by decide +kernel
theorem d_Law_law_368 : decode b_Law_law 368 = .ok (.invokevirtual 74, 3) := by decide +kernel
theorem d_Law_law_371 : decode b_Law_law 371 = .ok (.if_icmp .eq 236, 3) := by decide +kernel
theorem d_Law_law_374 : decode b_Law_law 374 = .ok (.iconst 0, 1) := by decide +kernel
theorem d_Law_law_375 : decode b_Law_law 375 = .ok (.ireturn, 1) := by decide +kernel
theorem d_Law_law_376 : decode b_Law_law 376 = .ok (.aload_n 1, 1) := by decide +kernel
theorem d_Law_law_377 : decode b_Law_law 377 = .ok (.aload_n 0, 1) := by decide +kernel
theorem d_Law_law_378 : decode b_Law_law 378 = .ok (.iload_n 3, 1) := by decide +kernel
theorem d_Law_law_379 : decode b_Law_law 379 = .ok (.iconst 1, 1) := by decide +kernel
theorem d_Law_law_380 : decode b_Law_law 380 = .ok (.iadd, 1) := by decide +kernel
theorem d_Law_law_381 : decode b_Law_law 381 = .ok (.iaload, 1) := by decide +kernel
theorem d_Law_law_382 : decode b_Law_law 382 = .ok (.aload_n 0, 1) := by decide +kernel
theorem d_Law_law_383 : decode b_Law_law 383 = .ok (.iload_n 3, 1) := by decide +kernel
theorem d_Law_law_384 : decode b_Law_law 384 = .ok (.iconst 2, 1) := by decide +kernel
theorem d_Law_law_385 : decode b_Law_law 385 = .ok (.iadd, 1) := by decide +kernel
theorem d_Law_law_386 : decode b_Law_law 386 = .ok (.iaload, 1) := by decide +kernel
theorem d_Law_law_387 : decode b_Law_law 387 = .ok (.invokevirtual 75, 3) := by decide +kernel
theorem d_Law_law_390 : decode b_Law_law 390 = .ok (.aload_n 2, 1) := by decide +kernel
theorem d_Law_law_391 : decode b_Law_law 391 = .ok (.aload_n 0, 1) := by decide +kernel
theorem d_Law_law_392 : decode b_Law_law 392 = .ok (.iload_n 3, 1) := by decide +kernel
theorem d_Law_law_393 : decode b_Law_law 393 = .ok (.iconst 1, 1) := by decide +kernel
theorem d_Law_law_394 : decode b_Law_law 394 = .ok (.iadd, 1) := by decide +kernel
theorem d_Law_law_395 : decode b_Law_law 395 = .ok (.iaload, 1) := by decide +kernel
theorem d_Law_law_396 : decode b_Law_law 396 = .ok (.aload_n 0, 1) := by decide +kernel
theorem d_Law_law_397 : decode b_Law_law 397 = .ok (.iload_n 3, 1) := by decide +kernel
theorem d_Law_law_398 : decode b_Law_law 398 = .ok (.iconst 2, 1) := by decide +kernel
theorem d_Law_law_399 : decode b_Law_law 399 = .ok (.iadd, 1) := by decide +kernel
theorem d_Law_law_400 : decode b_Law_law 400 = .ok (.iaload, 1) := by decide +kernel
theorem d_Law_law_401 : decode b_Law_law 401 = .ok (.invokevirtual 79, 3) := by decide +kernel
theorem d_Law_law_404 : decode b_Law_law 404 = .ok (.if_icmp .eq 203, 3) := by decide +kernel
theorem d_Law_law_407 : decode b_Law_law 407 = .ok (.iconst 0, 1) := by decide +kernel
theorem d_Law_law_408 : decode b_Law_law 408 = .ok (.ireturn, 1) := by decide +kernel
theorem d_Law_law_409 : decode b_Law_law 409 = .ok (.aload_n 1, 1) := by decide +kernel
theorem d_Law_law_410 : decode b_Law_law 410 = .ok (.aload_n 0, 1) := by decide +kernel
theorem d_Law_law_411 : decode b_Law_law 411 = .ok (.iload_n 3, 1) := by decide +kernel
theorem d_Law_law_412 : decode b_Law_law 412 = .ok (.iconst 1, 1) := by decide +kernel
theorem d_Law_law_413 : decode b_Law_law 413 = .ok (.iadd, 1) := by decide +kernel
theorem d_Law_law_414 : decode b_Law_law 414 = .ok (.iaload, 1) := by decide +kernel
theorem d_Law_law_415 : decode b_Law_law 415 = .ok (.aload_n 0, 1) := by decide +kernel
theorem d_Law_law_416 : decode b_Law_law 416 = .ok (.iload_n 3, 1) := by decide +kernel
theorem d_Law_law_417 : decode b_Law_law 417 = .ok (.iconst 2, 1) := by decide +kernel
theorem d_Law_law_418 : decode b_Law_law 418 = .ok (.iadd, 1) := by decide +kernel
theorem d_Law_law_419 : decode b_Law_law 419 = .ok (.iaload, 1) := by decide +kernel
theorem d_Law_law_420 : decode b_Law_law 420 = .ok (.invokevirtual 80, 3) := by decide +kernel
theorem d_Law_law_423 : decode b_Law_law 423 = .ok (.aload_n 2, 1) := by decide +kernel
theorem d_Law_law_424 : decode b_Law_law 424 = .ok (.aload_n 0, 1) := by decide +kernel
theorem d_Law_law_425 : decode b_Law_law 425 = .ok (.iload_n 3, 1) := by decide +kernel
theorem d_Law_law_426 : decode b_Law_law 426 = .ok (.iconst 1, 1) := by decide +kernel
theorem d_Law_law_427 : decode b_Law_law 427 = .ok (.iadd, 1) := by decide +kernel
theorem d_Law_law_428 : decode b_Law_law 428 = .ok (.iaload, 1) := by decide +kernel
theorem d_Law_law_429 : decode b_Law_law 429 = .ok (.aload_n 0, 1) := by decide +kernel
theorem d_Law_law_430 : decode b_Law_law 430 = .ok (.iload_n 3, 1) := by decide +kernel
theorem d_Law_law_431 : decode b_Law_law 431 = .ok (.iconst 2, 1) := by decide +kernel
theorem d_Law_law_432 : decode b_Law_law 432 = .ok (.iadd, 1) := by decide +kernel
theorem d_Law_law_433 : decode b_Law_law 433 = .ok (.iaload, 1) := by decide +kernel
theorem d_Law_law_434 : decode b_Law_law 434 = .ok (.invokevirtual 83, 3) := by decide +kernel
theorem d_Law_law_437 : decode b_Law_law 437 = .ok (.if_icmp .eq 170, 3) := by decide +kernel
theorem d_Law_law_440 : decode b_Law_law 440 = .ok (.iconst 0, 1) := by decide +kernel
theorem d_Law_law_441 : decode b_Law_law 441 = .ok (.ireturn, 1) := by decide +kernel
theorem d_Law_law_442 : decode b_Law_law 442 = .ok (.aload_n 1, 1) := by decide +kernel
theorem d_Law_law_443 : decode b_Law_law 443 = .ok (.aload_n 0, 1) := by decide +kernel
theorem d_Law_law_444 : decode b_Law_law 444 = .ok (.iload_n 3, 1) := by decide +kernel
theorem d_Law_law_445 : decode b_Law_law 445 = .ok (.iconst 1, 1) := by decide +kernel
theorem d_Law_law_446 : decode b_Law_law 446 = .ok (.iadd, 1) := by decide +kernel
theorem d_Law_law_447 : decode b_Law_law 447 = .ok (.iaload, 1) := by decide +kernel
theorem d_Law_law_448 : decode b_Law_law 448 = .ok (.aload_n 0, 1) := by decide +kernel
theorem d_Law_law_449 : decode b_Law_law 449 = .ok (.iload_n 3, 1) := by decide +kernel
theorem d_Law_law_450 : decode b_Law_law 450 = .ok (.iconst 2, 1) := by decide +kernel
theorem d_Law_law_451 : decode b_Law_law 451 = .ok (.iadd, 1) := by decide +kernel
theorem d_Law_law_452 : decode b_Law_law 452 = .ok (.iaload, 1) := by decide +kernel
theorem d_Law_law_453 : decode b_Law_law 453 = .ok (.aload_n 0, 1) := by decide +kernel
theorem d_Law_law_454 : decode b_Law_law 454 = .ok (.iload_n 3, 1) := by decide +kernel
theorem d_Law_law_455 : decode b_Law_law 455 = .ok (.iconst 3, 1) := by decide +kernel
theorem d_Law_law_456 : decode b_Law_law 456 = .ok (.iadd, 1) := by decide +kernel
theorem d_Law_law_457 : decode b_Law_law 457 = .ok (.iaload, 1) := by decide +kernel
theorem d_Law_law_458 : decode b_Law_law 458 = .ok (.invokevirtual 84, 3) := by decide +kernel
theorem d_Law_law_461 : decode b_Law_law 461 = .ok (.aload_n 2, 1) := by decide +kernel
theorem d_Law_law_462 : decode b_Law_law 462 = .ok (.aload_n 0, 1) := by decide +kernel
theorem d_Law_law_463 : decode b_Law_law 463 = .ok (.iload_n 3, 1) := by decide +kernel
theorem d_Law_law_464 : decode b_Law_law 464 = .ok (.iconst 1, 1) := by decide +kernel
theorem d_Law_law_465 : decode b_Law_law 465 = .ok (.iadd, 1) := by decide +kernel
theorem d_Law_law_466 : decode b_Law_law 466 = .ok (.iaload, 1) := by decide +kernel
theorem d_Law_law_467 : decode b_Law_law 467 = .ok (.aload_n 0, 1) := by decide +kernel
theorem d_Law_law_468 : decode b_Law_law 468 = .ok (.iload_n 3, 1) := by decide +kernel
theorem d_Law_law_469 : decode b_Law_law 469 = .ok (.iconst 2, 1) := by decide +kernel
theorem d_Law_law_470 : decode b_Law_law 470 = .ok (.iadd, 1) := by decide +kernel
theorem d_Law_law_471 : decode b_Law_law 471 = .ok (.iaload, 1) := by decide +kernel
theorem d_Law_law_472 : decode b_Law_law 472 = .ok (.aload_n 0, 1) := by decide +kernel
theorem d_Law_law_473 : decode b_Law_law 473 = .ok (.iload_n 3, 1) := by decide +kernel
theorem d_Law_law_474 : decode b_Law_law 474 = .ok (.iconst 3, 1) := by decide +kernel
theorem d_Law_law_475 : decode b_Law_law 475 = .ok (.iadd, 1) := by decide +kernel
theorem d_Law_law_476 : decode b_Law_law 476 = .ok (.iaload, 1) := by decide +kernel
theorem d_Law_law_477 : decode b_Law_law 477 = .ok (.invokevirtual 88, 3) := by decide +kernel
theorem d_Law_law_480 : decode b_Law_law 480 = .ok (.if_icmp .eq 127, 3) := by decide +kernel
theorem d_Law_law_483 : decode b_Law_law 483 = .ok (.iconst 0, 1) := by decide +kernel
theorem d_Law_law_484 : decode b_Law_law 484 = .ok (.ireturn, 1) := by decide +kernel
theorem d_Law_law_485 : decode b_Law_law 485 = .ok (.aload_n 1, 1) := by decide +kernel
theorem d_Law_law_486 : decode b_Law_law 486 = .ok (.aload_n 0, 1) := by decide +kernel
theorem d_Law_law_487 : decode b_Law_law 487 = .ok (.iload_n 3, 1) := by decide +kernel
theorem d_Law_law_488 : decode b_Law_law 488 = .ok (.iconst 1, 1) := by decide +kernel
theorem d_Law_law_489 : decode b_Law_law 489 = .ok (.iadd, 1) := by decide +kernel
theorem d_Law_law_490 : decode b_Law_law 490 = .ok (.iaload, 1) := by decide +kernel
theorem d_Law_law_491 : decode b_Law_law 491 = .ok (.aload_n 0, 1) := by decide +kernel
theorem d_Law_law_492 : decode b_Law_law 492 = .ok (.iload_n 3, 1) := by decide +kernel
theorem d_Law_law_493 : decode b_Law_law 493 = .ok (.iconst 2, 1) := by decide +kernel
theorem d_Law_law_494 : decode b_Law_law 494 = .ok (.iadd, 1) := by decide +kernel
theorem d_Law_law_495 : decode b_Law_law 495 = .ok (.iaload, 1) := by decide +kernel
theorem d_Law_law_496 : decode b_Law_law 496 = .ok (.aload_n 0, 1) := by decide +kernel
theorem d_Law_law_497 : decode b_Law_law 497 = .ok (.iload_n 3, 1) := by decide +kernel
theorem d_Law_law_498 : decode b_Law_law 498 = .ok (.iconst 3, 1) := by decide +kernel
theorem d_Law_law_499 : decode b_Law_law 499 = .ok (.iadd, 1) := by decide +kernel
theorem d_Law_law_500 : decode b_Law_law 500 = .ok (.iaload, 1) := by decide +kernel
theorem d_Law_law_501 : decode b_Law_law 501 = .ok (.invokevirtual 89, 3) := by decide +kernel
theorem d_Law_law_504 : decode b_Law_law 504 = .ok (.aload_n 2, 1) := by decide +kernel
theorem d_Law_law_505 : decode b_Law_law 505 = .ok (.aload_n 0, 1) := by decide +kernel
theorem d_Law_law_506 : decode b_Law_law 506 = .ok (.iload_n 3, 1) := by decide +kernel
theorem d_Law_law_507 : decode b_Law_law 507 = .ok (.iconst 1, 1) := by decide +kernel
theorem d_Law_law_508 : decode b_Law_law 508 = .ok (.iadd, 1) := by decide +kernel
theorem d_Law_law_509 : decode b_Law_law 509 = .ok (.iaload, 1) := by decide +kernel
theorem d_Law_law_510 : decode b_Law_law 510 = .ok (.aload_n 0, 1) := by decide +kernel
theorem d_Law_law_511 : decode b_Law_law 511 = .ok (.iload_n 3, 1) := by decide +kernel
theorem d_Law_law_512 : decode b_Law_law 512 = .ok (.iconst 2, 1) := by decide +kernel
theorem d_Law_law_513 : decode b_Law_law 513 = .ok (.iadd, 1) := by decide +kernel
theorem d_Law_law_514 : decode b_Law_law 514 = .ok (.iaload, 1) := by decide +kernel
theorem d_Law_law_515 : decode b_Law_law 515 = .ok (.aload_n 0, 1) := by decide +kernel
theorem d_Law_law_516 : decode b_Law_law 516 = .ok (.iload_n 3, 1) := by decide +kernel
theorem d_Law_law_517 : decode b_Law_law 517 = .ok (.iconst 3, 1) := by decide +kernel
theorem d_Law_law_518 : decode b_Law_law 518 = .ok (.iadd, 1) := by decide +kernel
theorem d_Law_law_519 : decode b_Law_law 519 = .ok (.iaload, 1) := by decide +kernel
theorem d_Law_law_520 : decode b_Law_law 520 = .ok (.invokevirtual 92, 3) := by decide +kernel
theorem d_Law_law_523 : decode b_Law_law 523 = .ok (.if_icmp .eq 84, 3) := by decide +kernel
theorem d_Law_law_526 : decode b_Law_law 526 = .ok (.iconst 0, 1) := by decide +kernel
theorem d_Law_law_527 : decode b_Law_law 527 = .ok (.ireturn, 1) := by decide +kernel
theorem d_Law_law_528 : decode b_Law_law 528 = .ok (.aload_n 1, 1) := by decide +kernel
theorem d_Law_law_529 : decode b_Law_law 529 = .ok (.aload_n 0, 1) := by decide +kernel
theorem d_Law_law_530 : decode b_Law_law 530 = .ok (.iload_n 3, 1) := by decide +kernel
theorem d_Law_law_531 : decode b_Law_law 531 = .ok (.iconst 1, 1) := by decide +kernel
theorem d_Law_law_532 : decode b_Law_law 532 = .ok (.iadd, 1) := by decide +kernel
theorem d_Law_law_533 : decode b_Law_law 533 = .ok (.iaload, 1) := by decide +kernel
theorem d_Law_law_534 : decode b_Law_law 534 = .ok (.aload_n 0, 1) := by decide +kernel
theorem d_Law_law_535 : decode b_Law_law 535 = .ok (.iload_n 3, 1) := by decide +kernel
theorem d_Law_law_536 : decode b_Law_law 536 = .ok (.iconst 2, 1) := by decide +kernel
theorem d_Law_law_537 : decode b_Law_law 537 = .ok (.iadd, 1) := by decide +kernel
theorem d_Law_law_538 : decode b_Law_law 538 = .ok (.iaload, 1) := by decide +kernel
theorem d_Law_law_539 : decode b_Law_law 539 = .ok (.invokevirtual 93, 3) := by decide +kernel
theorem d_Law_law_542 : decode b_Law_law 542 = .ok (.aload_n 2, 1) := by decide +kernel
theorem d_Law_law_543 : decode b_Law_law 543 = .ok (.aload_n 0, 1) := by decide +kernel
theorem d_Law_law_544 : decode b_Law_law 544 = .ok (.iload_n 3, 1) := by decide +kernel
theorem d_Law_law_545 : decode b_Law_law 545 = .ok (.iconst 1, 1) := by decide +kernel
theorem d_Law_law_546 : decode b_Law_law 546 = .ok (.iadd, 1) := by decide +kernel
theorem d_Law_law_547 : decode b_Law_law 547 = .ok (.iaload, 1) := by decide +kernel
theorem d_Law_law_548 : decode b_Law_law 548 = .ok (.aload_n 0, 1) := by decide +kernel
theorem d_Law_law_549 : decode b_Law_law 549 = .ok (.iload_n 3, 1) := by decide +kernel
theorem d_Law_law_550 : decode b_Law_law 550 = .ok (.iconst 2, 1) := by decide +kernel
theorem d_Law_law_551 : decode b_Law_law 551 = .ok (.iadd, 1) := by decide +kernel
theorem d_Law_law_552 : decode b_Law_law 552 = .ok (.iaload, 1) := by decide +kernel
theorem d_Law_law_553 : decode b_Law_law 553 = .ok (.invokevirtual 96, 3) := by decide +kernel
theorem d_Law_law_556 : decode b_Law_law 556 = .ok (.if_icmp .eq 51, 3) := by decide +kernel
theorem d_Law_law_559 : decode b_Law_law 559 = .ok (.iconst 0, 1) := by decide +kernel
theorem d_Law_law_560 : decode b_Law_law 560 = .ok (.ireturn, 1) := by decide +kernel
theorem d_Law_law_561 : decode b_Law_law 561 = .ok (.aload_n 1, 1) := by decide +kernel
theorem d_Law_law_562 : decode b_Law_law 562 = .ok (.aload_n 0, 1) := by decide +kernel
theorem d_Law_law_563 : decode b_Law_law 563 = .ok (.iload_n 3, 1) := by decide +kernel
theorem d_Law_law_564 : decode b_Law_law 564 = .ok (.iconst 1, 1) := by decide +kernel
theorem d_Law_law_565 : decode b_Law_law 565 = .ok (.iadd, 1) := by decide +kernel
theorem d_Law_law_566 : decode b_Law_law 566 = .ok (.iaload, 1) := by decide +kernel
theorem d_Law_law_567 : decode b_Law_law 567 = .ok (.aload_n 0, 1) := by decide +kernel
theorem d_Law_law_568 : decode b_Law_law 568 = .ok (.iload_n 3, 1) := by decide +kernel
theorem d_Law_law_569 : decode b_Law_law 569 = .ok (.iconst 2, 1) := by decide +kernel
theorem d_Law_law_570 : decode b_Law_law 570 = .ok (.iadd, 1) := by decide +kernel
theorem d_Law_law_571 : decode b_Law_law 571 = .ok (.iaload, 1) := by decide +kernel
theorem d_Law_law_572 : decode b_Law_law 572 = .ok (.invokevirtual 97, 3) := by decide +kernel
theorem d_Law_law_575 : decode b_Law_law 575 = .ok (.aload_n 2, 1) := by decide +kernel
theorem d_Law_law_576 : decode b_Law_law 576 = .ok (.aload_n 0, 1) := by decide +kernel
theorem d_Law_law_577 : decode b_Law_law 577 = .ok (.iload_n 3, 1) := by decide +kernel
theorem d_Law_law_578 : decode b_Law_law 578 = .ok (.iconst 1, 1) := by decide +kernel
theorem d_Law_law_579 : decode b_Law_law 579 = .ok (.iadd, 1) := by decide +kernel
theorem d_Law_law_580 : decode b_Law_law 580 = .ok (.iaload, 1) := by decide +kernel
theorem d_Law_law_581 : decode b_Law_law 581 = .ok (.aload_n 0, 1) := by decide +kernel
theorem d_Law_law_582 : decode b_Law_law 582 = .ok (.iload_n 3, 1) := by decide +kernel
theorem d_Law_law_583 : decode b_Law_law 583 = .ok (.iconst 2, 1) := by decide +kernel
theorem d_Law_law_584 : decode b_Law_law 584 = .ok (.iadd, 1) := by decide +kernel
theorem d_Law_law_585 : decode b_Law_law 585 = .ok (.iaload, 1) := by decide +kernel
theorem d_Law_law_586 : decode b_Law_law 586 = .ok (.invokevirtual 100, 3) := by decide +kernel
theorem d_Law_law_589 : decode b_Law_law 589 = .ok (.if_icmp .eq 18, 3) := by decide +kernel
theorem d_Law_law_592 : decode b_Law_law 592 = .ok (.iconst 0, 1) := by decide +kernel
theorem d_Law_law_593 : decode b_Law_law 593 = .ok (.ireturn, 1) := by decide +kernel
theorem d_Law_law_594 : decode b_Law_law 594 = .ok (.aload_n 1, 1) := by decide +kernel
theorem d_Law_law_595 : decode b_Law_law 595 = .ok (.invokevirtual 101, 3) := by decide +kernel
theorem d_Law_law_598 : decode b_Law_law 598 = .ok (.aload_n 2, 1) := by decide +kernel
theorem d_Law_law_599 : decode b_Law_law 599 = .ok (.invokevirtual 104, 3) := by decide +kernel
theorem d_Law_law_602 : decode b_Law_law 602 = .ok (.if_icmp .eq 5, 3) := by decide +kernel
theorem d_Law_law_605 : decode b_Law_law 605 = .ok (.iconst 0, 1) := by decide +kernel
theorem d_Law_law_606 : decode b_Law_law 606 = .ok (.ireturn, 1) := by decide +kernel
theorem d_Law_law_607 : decode b_Law_law 607 = .ok (.iinc 3 4, 3) := by decide +kernel
theorem d_Law_law_610 : decode b_Law_law 610 = .ok (.goto (-582), 3) := by decide +kernel
theorem d_Law_law_613 : decode b_Law_law 613 = .ok (.iconst 1, 1) := by decide +kernel
theorem d_Law_law_614 : decode b_Law_law 614 = .ok (.ireturn, 1) := by decide +kernel
