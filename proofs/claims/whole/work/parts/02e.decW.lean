theorem d_W_cell_0 : decode b_W_cell 0 = .ok (.iload_n 1, 1) := by decide +kernel
theorem d_W_cell_1 : decode b_W_cell 1 = .ok (.aload_n 0, 1) := by decide +kernel
theorem d_W_cell_2 : decode b_W_cell 2 = .ok (.arraylength, 1) := by decide +kernel
theorem d_W_cell_3 : decode b_W_cell 3 = .ok (.if_icmp .ge 9, 3) := by decide +kernel
theorem d_W_cell_6 : decode b_W_cell 6 = .ok (.aload_n 0, 1) := by decide +kernel
theorem d_W_cell_7 : decode b_W_cell 7 = .ok (.iload_n 1, 1) := by decide +kernel
theorem d_W_cell_8 : decode b_W_cell 8 = .ok (.iaload, 1) := by decide +kernel
theorem d_W_cell_9 : decode b_W_cell 9 = .ok (.goto 4, 3) := by decide +kernel
theorem d_W_cell_12 : decode b_W_cell 12 = .ok (.iconst 0, 1) := by decide +kernel
theorem d_W_cell_13 : decode b_W_cell 13 = .ok (.ireturn, 1) := by decide +kernel
theorem d_W_law_0 : decode code 0 = .ok (.new 7, 3) := by decide +kernel
theorem d_W_law_3 : decode code 3 = .ok (.dup, 1) := by decide +kernel
theorem d_W_law_4 : decode code 4 = .ok (.aload_n 0, 1) := by decide +kernel
theorem d_W_law_5 : decode code 5 = .ok (.iconst 0, 1) := by decide +kernel
theorem d_W_law_6 : decode code 6 = .ok (.invokestatic 9, 3) := by decide +kernel
theorem d_W_law_9 : decode code 9 = .ok (.invokespecial 15, 3) := by decide +kernel
theorem d_W_law_12 : decode code 12 = .ok (.astore_n 1, 1) := by decide +kernel
theorem d_W_law_13 : decode code 13 = .ok (.new 18, 3) := by decide +kernel
theorem d_W_law_16 : decode code 16 = .ok (.dup, 1) := by decide +kernel
theorem d_W_law_17 : decode code 17 = .ok (.aload_n 0, 1) := by decide +kernel
theorem d_W_law_18 : decode code 18 = .ok (.iconst 0, 1) := by decide +kernel
theorem d_W_law_19 : decode code 19 = .ok (.invokestatic 9, 3) := by decide +kernel
theorem d_W_law_22 : decode code 22 = .ok (.invokespecial 20, 3) := by decide +kernel
theorem d_W_law_25 : decode code 25 = .ok (.astore_n 2, 1) := by decide +kernel
theorem d_W_law_26 : decode code 26 = .ok (.iconst 1, 1) := by decide +kernel
theorem d_W_law_27 : decode code 27 = .ok (.istore_n 3, 1) := by decide +kernel
theorem d_W_law_28 : decode code 28 = .ok (.iload_n 3, 1) := by decide +kernel
theorem d_W_law_29 : decode code 29 = .ok (.aload_n 0, 1) := by decide +kernel
theorem d_W_law_30 : decode code 30 = .ok (.arraylength, 1) := by decide +kernel
theorem d_W_law_31 : decode code 31 = .ok (.iconst 5, 1) := by decide +kernel
theorem d_W_law_32 : decode code 32 = .ok (.isub, 1) := by decide +kernel
theorem d_W_law_33 : decode code 33 = .ok (.if_icmp .gt 532, 3) := by decide +kernel
theorem d_W_law_36 : decode code 36 = .ok (.aload_n 0, 1) := by decide +kernel
theorem d_W_law_37 : decode code 37 = .ok (.iload_n 3, 1) := by decide +kernel
theorem d_W_law_38 : decode code 38 = .ok (.iaload, 1) := by decide +kernel
theorem d_W_law_39 : decode code 39 = .ok (.bipush 31, 2) := by decide +kernel
theorem d_W_law_41 : decode code 41 = .ok (.iand, 1) := by decide +kernel
theorem d_W_law_42 : decode code 42 = .ok (.tableswitch 517 0 17 #[86, 129, 162, 195, 218, 231, 244, 267, 280, 319, 332, 345, 378, 401, 414, 427, 450, 463], 86) := by decide +kernel
theorem d_W_law_128 : decode code 128 = .ok (.aload_n 1, 1) := by decide +kernel
theorem d_W_law_129 : decode code 129 = .ok (.aload_n 0, 1) := by decide +kernel
theorem d_W_law_130 : decode code 130 = .ok (.iload_n 3, 1) := by decide +kernel
theorem d_W_law_131 : decode code 131 = .ok (.iconst 1, 1) := by decide +kernel
theorem d_W_law_132 : decode code 132 = .ok (.iadd, 1) := by decide +kernel
theorem d_W_law_133 : decode code 133 = .ok (.iaload, 1) := by decide +kernel
theorem d_W_law_134 : decode code 134 = .ok (.aload_n 0, 1) := by decide +kernel
theorem d_W_law_135 : decode code 135 = .ok (.iload_n 3, 1) := by decide +kernel
theorem d_W_law_136 : decode code 136 = .ok (.iconst 2, 1) := by decide +kernel
theorem d_W_law_137 : decode code 137 = .ok (.iadd, 1) := by decide +kernel
theorem d_W_law_138 : decode code 138 = .ok (.iaload, 1) := by decide +kernel
theorem d_W_law_139 : decode code 139 = .ok (.aload_n 0, 1) := by decide +kernel
theorem d_W_law_140 : decode code 140 = .ok (.iload_n 3, 1) := by decide +kernel
theorem d_W_law_141 : decode code 141 = .ok (.iconst 3, 1) := by decide +kernel
theorem d_W_law_142 : decode code 142 = .ok (.iadd, 1) := by decide +kernel
theorem d_W_law_143 : decode code 143 = .ok (.iaload, 1) := by decide +kernel
theorem d_W_law_144 : decode code 144 = .ok (.invokevirtual 21, 3) := by decide +kernel
theorem d_W_law_147 : decode code 147 = .ok (.aload_n 2, 1) := by decide +kernel
theorem d_W_law_148 : decode code 148 = .ok (.aload_n 0, 1) := by decide +kernel
theorem d_W_law_149 : decode code 149 = .ok (.iload_n 3, 1) := by decide +kernel
theorem d_W_law_150 : decode code 150 = .ok (.iconst 1, 1) := by decide +kernel
theorem d_W_law_151 : decode code 151 = .ok (.iadd, 1) := by decide +kernel
theorem d_W_law_152 : decode code 152 = .ok (.iaload, 1) := by decide +kernel
theorem d_W_law_153 : decode code 153 = .ok (.aload_n 0, 1) := by decide +kernel
theorem d_W_law_154 : decode code 154 = .ok (.iload_n 3, 1) := by decide +kernel
theorem d_W_law_155 : decode code 155 = .ok (.iconst 2, 1) := by decide +kernel
theorem d_W_law_156 : decode code 156 = .ok (.iadd, 1) := by decide +kernel
theorem d_W_law_157 : decode code 157 = .ok (.iaload, 1) := by decide +kernel
theorem d_W_law_158 : decode code 158 = .ok (.aload_n 0, 1) := by decide +kernel
theorem d_W_law_159 : decode code 159 = .ok (.iload_n 3, 1) := by decide +kernel
theorem d_W_law_160 : decode code 160 = .ok (.iconst 3, 1) := by decide +kernel
theorem d_W_law_161 : decode code 161 = .ok (.iadd, 1) := by decide +kernel
theorem d_W_law_162 : decode code 162 = .ok (.iaload, 1) := by decide +kernel
theorem d_W_law_163 : decode code 163 = .ok (.invokevirtual 25, 3) := by decide +kernel
theorem d_W_law_166 : decode code 166 = .ok (.if_icmp .eq 393, 3) := by decide +kernel
theorem d_W_law_169 : decode code 169 = .ok (.iconst 0, 1) := by decide +kernel
theorem d_W_law_170 : decode code 170 = .ok (.ireturn, 1) := by decide +kernel
theorem d_W_law_171 : decode code 171 = .ok (.aload_n 1, 1) := by decide +kernel
theorem d_W_law_172 : decode code 172 = .ok (.aload_n 0, 1) := by decide +kernel
theorem d_W_law_173 : decode code 173 = .ok (.iload_n 3, 1) := by decide +kernel
theorem d_W_law_174 : decode code 174 = .ok (.iconst 1, 1) := by decide +kernel
theorem d_W_law_175 : decode code 175 = .ok (.iadd, 1) := by decide +kernel
theorem d_W_law_176 : decode code 176 = .ok (.iaload, 1) := by decide +kernel
theorem d_W_law_177 : decode code 177 = .ok (.aload_n 0, 1) := by decide +kernel
theorem d_W_law_178 : decode code 178 = .ok (.iload_n 3, 1) := by decide +kernel
theorem d_W_law_179 : decode code 179 = .ok (.iconst 2, 1) := by decide +kernel
theorem d_W_law_180 : decode code 180 = .ok (.iadd, 1) := by decide +kernel
theorem d_W_law_181 : decode code 181 = .ok (.iaload, 1) := by decide +kernel
theorem d_W_law_182 : decode code 182 = .ok (.invokevirtual 26, 3) := by decide +kernel
theorem d_W_law_185 : decode code 185 = .ok (.aload_n 2, 1) := by decide +kernel
theorem d_W_law_186 : decode code 186 = .ok (.aload_n 0, 1) := by decide +kernel
theorem d_W_law_187 : decode code 187 = .ok (.iload_n 3, 1) := by decide +kernel
theorem d_W_law_188 : decode code 188 = .ok (.iconst 1, 1) := by decide +kernel
theorem d_W_law_189 : decode code 189 = .ok (.iadd, 1) := by decide +kernel
theorem d_W_law_190 : decode code 190 = .ok (.iaload, 1) := by decide +kernel
theorem d_W_law_191 : decode code 191 = .ok (.aload_n 0, 1) := by decide +kernel
theorem d_W_law_192 : decode code 192 = .ok (.iload_n 3, 1) := by decide +kernel
theorem d_W_law_193 : decode code 193 = .ok (.iconst 2, 1) := by decide +kernel
theorem d_W_law_194 : decode code 194 = .ok (.iadd, 1) := by decide +kernel
theorem d_W_law_195 : decode code 195 = .ok (.iaload, 1) := by decide +kernel
theorem d_W_law_196 : decode code 196 = .ok (.invokevirtual 30, 3) := by decide +kernel
theorem d_W_law_199 : decode code 199 = .ok (.if_icmp .eq 360, 3) := by decide +kernel
theorem d_W_law_202 : decode code 202 = .ok (.iconst 0, 1) := by decide +kernel
theorem d_W_law_203 : decode code 203 = .ok (.ireturn, 1) := by decide +kernel
theorem d_W_law_204 : decode code 204 = .ok (.aload_n 1, 1) := by decide +kernel
theorem d_W_law_205 : decode code 205 = .ok (.aload_n 0, 1) := by decide +kernel
theorem d_W_law_206 : decode code 206 = .ok (.iload_n 3, 1) := by decide +kernel
theorem d_W_law_207 : decode code 207 = .ok (.iconst 1, 1) := by decide +kernel
theorem d_W_law_208 : decode code 208 = .ok (.iadd, 1) := by decide +kernel
theorem d_W_law_209 : decode code 209 = .ok (.iaload, 1) := by decide +kernel
theorem d_W_law_210 : decode code 210 = .ok (.aload_n 0, 1) := by decide +kernel
theorem d_W_law_211 : decode code 211 = .ok (.iload_n 3, 1) := by decide +kernel
theorem d_W_law_212 : decode code 212 = .ok (.iconst 2, 1) := by decide +kernel
theorem d_W_law_213 : decode code 213 = .ok (.iadd, 1) := by decide +kernel
theorem d_W_law_214 : decode code 214 = .ok (.iaload, 1) := by decide +kernel
theorem d_W_law_215 : decode code 215 = .ok (.invokevirtual 31, 3) := by decide +kernel
theorem d_W_law_218 : decode code 218 = .ok (.aload_n 2, 1) := by decide +kernel
theorem d_W_law_219 : decode code 219 = .ok (.aload_n 0, 1) := by decide +kernel
theorem d_W_law_220 : decode code 220 = .ok (.iload_n 3, 1) := by decide +kernel
theorem d_W_law_221 : decode code 221 = .ok (.iconst 1, 1) := by decide +kernel
theorem d_W_law_222 : decode code 222 = .ok (.iadd, 1) := by decide +kernel
theorem d_W_law_223 : decode code 223 = .ok (.iaload, 1) := by decide +kernel
theorem d_W_law_224 : decode code 224 = .ok (.aload_n 0, 1) := by decide +kernel
theorem d_W_law_225 : decode code 225 = .ok (.iload_n 3, 1) := by decide +kernel
theorem d_W_law_226 : decode code 226 = .ok (.iconst 2, 1) := by decide +kernel
theorem d_W_law_227 : decode code 227 = .ok (.iadd, 1) := by decide +kernel
theorem d_W_law_228 : decode code 228 = .ok (.iaload, 1) := by decide +kernel
theorem d_W_law_229 : decode code 229 = .ok (.invokevirtual 34, 3) := by decide +kernel
theorem d_W_law_232 : decode code 232 = .ok (.if_icmp .eq 327, 3) := by decide +kernel
theorem d_W_law_235 : decode code 235 = .ok (.iconst 0, 1) := by decide +kernel
theorem d_W_law_236 : decode code 236 = .ok (.ireturn, 1) := by decide +kernel
theorem d_W_law_237 : decode code 237 = .ok (.aload_n 1, 1) := by decide +kernel
theorem d_W_law_238 : decode code 238 = .ok (.aload_n 0, 1) := by decide +kernel
theorem d_W_law_239 : decode code 239 = .ok (.iload_n 3, 1) := by decide +kernel
theorem d_W_law_240 : decode code 240 = .ok (.iconst 1, 1) := by decide +kernel
theorem d_W_law_241 : decode code 241 = .ok (.iadd, 1) := by decide +kernel
theorem d_W_law_242 : decode code 242 = .ok (.iaload, 1) := by decide +kernel
theorem d_W_law_243 : decode code 243 = .ok (.invokevirtual 35, 3) := by decide +kernel
theorem d_W_law_246 : decode code 246 = .ok (.aload_n 2, 1) := by decide +kernel
theorem d_W_law_247 : decode code 247 = .ok (.aload_n 0, 1) := by decide +kernel
theorem d_W_law_248 : decode code 248 = .ok (.iload_n 3, 1) := by decide +kernel
theorem d_W_law_249 : decode code 249 = .ok (.iconst 1, 1) := by decide +kernel
theorem d_W_law_250 : decode code 250 = .ok (.iadd, 1) := by decide +kernel
theorem d_W_law_251 : decode code 251 = .ok (.iaload, 1) := by decide +kernel
theorem d_W_law_252 : decode code 252 = .ok (.invokevirtual 39, 3) := by decide +kernel
theorem d_W_law_255 : decode code 255 = .ok (.if_icmp .eq 304, 3) := by decide +kernel
theorem d_W_law_258 : decode code 258 = .ok (.iconst 0, 1) := by decide +kernel
theorem d_W_law_259 : decode code 259 = .ok (.ireturn, 1) := by decide +kernel
theorem d_W_law_260 : decode code 260 = .ok (.aload_n 1, 1) := by decide +kernel
theorem d_W_law_261 : decode code 261 = .ok (.invokevirtual 40, 3) := by decide +kernel
theorem d_W_law_264 : decode code 264 = .ok (.aload_n 2, 1) := by decide +kernel
theorem d_W_law_265 : decode code 265 = .ok (.invokevirtual 44, 3) := by decide +kernel
theorem d_W_law_268 : decode code 268 = .ok (.if_icmp .eq 291, 3) := by decide +kernel
theorem d_W_law_271 : decode code 271 = .ok (.iconst 0, 1) := by decide +kernel
theorem d_W_law_272 : decode code 272 = .ok (.ireturn, 1) := by decide +kernel
theorem d_W_law_273 : decode code 273 = .ok (.aload_n 1, 1) := by decide +kernel
theorem d_W_law_274 : decode code 274 = .ok (.invokevirtual 45, 3) := by decide +kernel
theorem d_W_law_277 : decode code 277 = .ok (.aload_n 2, 1) := by decide +kernel
theorem d_W_law_278 : decode code 278 = .ok (.invokevirtual 48, 3) := by decide +kernel
theorem d_W_law_281 : decode code 281 = .ok (.if_icmp .eq 278, 3) := by decide +kernel
theorem d_W_law_284 : decode code 284 = .ok (.iconst 0, 1) := by decide +kernel
theorem d_W_law_285 : decode code 285 = .ok (.ireturn, 1) := by decide +kernel
theorem d_W_law_286 : decode code 286 = .ok (.aload_n 1, 1) := by decide +kernel
theorem d_W_law_287 : decode code 287 = .ok (.aload_n 0, 1) := by decide +kernel
theorem d_W_law_288 : decode code 288 = .ok (.iload_n 3, 1) := by decide +kernel
theorem d_W_law_289 : decode code 289 = .ok (.iconst 1, 1) := by decide +kernel
theorem d_W_law_290 : decode code 290 = .ok (.iadd, 1) := by decide +kernel
theorem d_W_law_291 : decode code 291 = .ok (.iaload, 1) := by decide +kernel
theorem d_W_law_292 : decode code 292 = .ok (.invokevirtual 49, 3) := by decide +kernel
theorem d_W_law_295 : decode code 295 = .ok (.aload_n 2, 1) := by decide +kernel
theorem d_W_law_296 : decode code 296 = .ok (.aload_n 0, 1) := by decide +kernel
theorem d_W_law_297 : decode code 297 = .ok (.iload_n 3, 1) := by decide +kernel
theorem d_W_law_298 : decode code 298 = .ok (.iconst 1, 1) := by decide +kernel
theorem d_W_law_299 : decode code 299 = .ok (.iadd, 1) := by decide +kernel
theorem d_W_law_300 : decode code 300 = .ok (.iaload, 1) := by decide +kernel
theorem d_W_law_301 : decode code 301 = .ok (.invokevirtual 52, 3) := by decide +kernel
theorem d_W_law_304 : decode code 304 = .ok (.if_icmp .eq 255, 3) := by decide +kernel
theorem d_W_law_307 : decode code 307 = .ok (.iconst 0, 1) := by decide +kernel
theorem d_W_law_308 : decode code 308 = .ok (.ireturn, 1) := by decide +kernel
theorem d_W_law_309 : decode code 309 = .ok (.aload_n 1, 1) := by decide +kernel
theorem d_W_law_310 : decode code 310 = .ok (.invokevirtual 53, 3) := by decide +kernel
theorem d_W_law_313 : decode code 313 = .ok (.aload_n 2, 1) := by decide +kernel
theorem d_W_law_314 : decode code 314 = .ok (.invokevirtual 57, 3) := by decide +kernel
theorem d_W_law_317 : decode code 317 = .ok (.if_icmp .eq 242, 3) := by decide +kernel
theorem d_W_law_320 : decode code 320 = .ok (.iconst 0, 1) := by decide +kernel
theorem d_W_law_321 : decode code 321 = .ok (.ireturn, 1) := by decide +kernel
theorem d_W_law_322 : decode code 322 = .ok (.aload_n 1, 1) := by decide +kernel
theorem d_W_law_323 : decode code 323 = .ok (.aload_n 0, 1) := by decide +kernel
theorem d_W_law_324 : decode code 324 = .ok (.iload_n 3, 1) := by decide +kernel
theorem d_W_law_325 : decode code 325 = .ok (.iconst 1, 1) := by decide +kernel
theorem d_W_law_326 : decode code 326 = .ok (.iadd, 1) := by decide +kernel
theorem d_W_law_327 : decode code 327 = .ok (.iaload, 1) := by decide +kernel
theorem d_W_law_328 : decode code 328 = .ok (.ifCond .eq 7, 3) := by decide +kernel
theorem d_W_law_331 : decode code 331 = .ok (.iconst 1, 1) := by decide +kernel
theorem d_W_law_332 : decode code 332 = .ok (.goto 4, 3) := by decide +kernel
theorem d_W_law_335 : decode code 335 = .ok (.iconst 0, 1) := by decide +kernel
theorem d_W_law_336 : decode code 336 = .ok (.invokevirtual 58, 3) := by decide +kernel
theorem d_W_law_339 : decode code 339 = .ok (.aload_n 2, 1) := by decide +kernel
theorem d_W_law_340 : decode code 340 = .ok (.aload_n 0, 1) := by decide +kernel
theorem d_W_law_341 : decode code 341 = .ok (.iload_n 3, 1) := by decide +kernel
theorem d_W_law_342 : decode code 342 = .ok (.iconst 1, 1) := by decide +kernel
theorem d_W_law_343 : decode code 343 = .ok (.iadd, 1) := by decide +kernel
theorem d_W_law_344 : decode code 344 = .ok (.iaload, 1) := by decide +kernel
theorem d_W_law_345 : decode code 345 = .ok (.ifCond .eq 7, 3) := by decide +kernel
theorem d_W_law_348 : decode code 348 = .ok (.iconst 1, 1) := by decide +kernel
theorem d_W_law_349 : decode code 349 = .ok (.goto 4, 3) := by decide +kernel
theorem d_W_law_352 : decode code 352 = .ok (.iconst 0, 1) := by decide +kernel
theorem d_W_law_353 : decode code 353 = .ok (.invokevirtual 62, 3) := by decide +kernel
theorem d_W_law_356 : decode code 356 = .ok (.if_icmp .eq 203, 3) := by decide +kernel
theorem d_W_law_359 : decode code 359 = .ok (.iconst 0, 1) := by decide +kernel
theorem d_W_law_360 : decode code 360 = .ok (.ireturn, 1) := by decide +kernel
theorem d_W_law_361 : decode code 361 = .ok (.aload_n 1, 1) := by decide +kernel
theorem d_W_law_362 : decode code 362 = .ok (.invokevirtual 63, 3) := by decide +kernel
theorem d_W_law_365 : decode code 365 = .ok (.aload_n 2, 1) := by decide +kernel
theorem d_W_law_366 : decode code 366 = .ok (.invokevirtual 66, 3) := by decide +kernel
theorem d_W_law_369 : decode code 369 = .ok (.if_icmp .eq 190, 3) := by decide +kernel
theorem d_W_law_372 : decode code 372 = .ok (.iconst 0, 1) := by decide +kernel
theorem d_W_law_373 : decode code 373 = .ok (.ireturn, 1) := by decide +kernel
theorem d_W_law_374 : decode code 374 = .ok (.aload_n 1, 1) := by decide +kernel
theorem d_W_law_375 : decode code 375 = .ok (.invokevirtual 67, 3) := by decide +kernel
theorem d_W_law_378 : decode code 378 = .ok (.aload_n 2, 1) := by decide +kernel
theorem d_W_law_379 : decode code 379 = .ok (.invokevirtual 70, 3) := by decide +kernel
theorem d_W_law_382 : decode code 382 = .ok (.if_icmp .eq 177, 3) := by decide +kernel
theorem d_W_law_385 : decode code 385 = .ok (.iconst 0, 1) := by decide +kernel
theorem d_W_law_386 : decode code 386 = .ok (.ireturn, 1) := by decide +kernel
theorem d_W_law_387 : decode code 387 = .ok (.aload_n 1, 1) := by decide +kernel
theorem d_W_law_388 : decode code 388 = .ok (.aload_n 0, 1) := by decide +kernel
theorem d_W_law_389 : decode code 389 = .ok (.iload_n 3, 1) := by decide +kernel
theorem d_W_law_390 : decode code 390 = .ok (.iconst 1, 1) := by decide +kernel
theorem d_W_law_391 : decode code 391 = .ok (.iadd, 1) := by decide +kernel
theorem d_W_law_392 : decode code 392 = .ok (.iaload, 1) := by decide +kernel
theorem d_W_law_393 : decode code 393 = .ok (.aload_n 0, 1) := by decide +kernel
theorem d_W_law_394 : decode code 394 = .ok (.iload_n 3, 1) := by decide +kernel
theorem d_W_law_395 : decode code 395 = .ok (.iconst 2, 1) := by decide +kernel
theorem d_W_law_396 : decode code 396 = .ok (.iadd, 1) := by decide +kernel
theorem d_W_law_397 : decode code 397 = .ok (.iaload, 1) := by decide +kernel
theorem d_W_law_398 : decode code 398 = .ok (.invokevirtual 71, 3) := by decide +kernel
theorem d_W_law_401 : decode code 401 = .ok (.aload_n 2, 1) := by decide +kernel
theorem d_W_law_402 : decode code 402 = .ok (.aload_n 0, 1) := by decide +kernel
theorem d_W_law_403 : decode code 403 = .ok (.iload_n 3, 1) := by decide +kernel
theorem d_W_law_404 : decode code 404 = .ok (.iconst 1, 1) := by decide +kernel
theorem d_W_law_405 : decode code 405 = .ok (.iadd, 1) := by decide +kernel
theorem d_W_law_406 : decode code 406 = .ok (.iaload, 1) := by decide +kernel
theorem d_W_law_407 : decode code 407 = .ok (.aload_n 0, 1) := by decide +kernel
theorem d_W_law_408 : decode code 408 = .ok (.iload_n 3, 1) := by decide +kernel
theorem d_W_law_409 : decode code 409 = .ok (.iconst 2, 1) := by decide +kernel
theorem d_W_law_410 : decode code 410 = .ok (.iadd, 1) := by decide +kernel
theorem d_W_law_411 : decode code 411 = .ok (.iaload, 1) := by decide +kernel
theorem d_W_law_412 : decode code 412 = .ok (.invokevirtual 74, 3) := by decide +kernel
theorem d_W_law_415 : decode code 415 = .ok (.if_icmp .eq 144, 3) := by decide +kernel
theorem d_W_law_418 : decode code 418 = .ok (.iconst 0, 1) := by decide +kernel
theorem d_W_law_419 : decode code 419 = .ok (.ireturn, 1) := by decide +kernel
theorem d_W_law_420 : decode code 420 = .ok (.aload_n 1, 1) := by decide +kernel
theorem d_W_law_421 : decode code 421 = .ok (.aload_n 0, 1) := by decide +kernel
theorem d_W_law_422 : decode code 422 = .ok (.iload_n 3, 1) := by decide +kernel
theorem d_W_law_423 : decode code 423 = .ok (.iconst 1, 1) := by decide +kernel
theorem d_W_law_424 : decode code 424 = .ok (.iadd, 1) := by decide +kernel
theorem d_W_law_425 : decode code 425 = .ok (.iaload, 1) := by decide +kernel
theorem d_W_law_426 : decode code 426 = .ok (.invokevirtual 75, 3) := by decide +kernel
theorem d_W_law_429 : decode code 429 = .ok (.aload_n 2, 1) := by decide +kernel
theorem d_W_law_430 : decode code 430 = .ok (.aload_n 0, 1) := by decide +kernel
theorem d_W_law_431 : decode code 431 = .ok (.iload_n 3, 1) := by decide +kernel
theorem d_W_law_432 : decode code 432 = .ok (.iconst 1, 1) := by decide +kernel
theorem d_W_law_433 : decode code 433 = .ok (.iadd, 1) := by decide +kernel
theorem d_W_law_434 : decode code 434 = .ok (.iaload, 1) := by decide +kernel
theorem d_W_law_435 : decode code 435 = .ok (.invokevirtual 78, 3) := by decide +kernel
theorem d_W_law_438 : decode code 438 = .ok (.if_icmp .eq 121, 3) := by decide +kernel
theorem d_W_law_441 : decode code 441 = .ok (.iconst 0, 1) := by decide +kernel
theorem d_W_law_442 : decode code 442 = .ok (.ireturn, 1) := by decide +kernel
theorem d_W_law_443 : decode code 443 = .ok (.aload_n 1, 1) := by decide +kernel
theorem d_W_law_444 : decode code 444 = .ok (.invokevirtual 79, 3) := by decide +kernel
theorem d_W_law_447 : decode code 447 = .ok (.aload_n 2, 1) := by decide +kernel
theorem d_W_law_448 : decode code 448 = .ok (.invokevirtual 82, 3) := by decide +kernel
theorem d_W_law_451 : decode code 451 = .ok (.if_icmp .eq 108, 3) := by decide +kernel
theorem d_W_law_454 : decode code 454 = .ok (.iconst 0, 1) := by decide +kernel
theorem d_W_law_455 : decode code 455 = .ok (.ireturn, 1) := by decide +kernel
theorem d_W_law_456 : decode code 456 = .ok (.aload_n 1, 1) := by decide +kernel
theorem d_W_law_457 : decode code 457 = .ok (.invokevirtual 83, 3) := by decide +kernel
theorem d_W_law_460 : decode code 460 = .ok (.aload_n 2, 1) := by decide +kernel
theorem d_W_law_461 : decode code 461 = .ok (.invokevirtual 86, 3) := by decide +kernel
theorem d_W_law_464 : decode code 464 = .ok (.if_icmp .eq 95, 3) := by decide +kernel
theorem d_W_law_467 : decode code 467 = .ok (.iconst 0, 1) := by decide +kernel
theorem d_W_law_468 : decode code 468 = .ok (.ireturn, 1) := by decide +kernel
theorem d_W_law_469 : decode code 469 = .ok (.aload_n 1, 1) := by decide +kernel
theorem d_W_law_470 : decode code 470 = .ok (.aload_n 0, 1) := by decide +kernel
theorem d_W_law_471 : decode code 471 = .ok (.iload_n 3, 1) := by decide +kernel
theorem d_W_law_472 : decode code 472 = .ok (.iconst 1, 1) := by decide +kernel
theorem d_W_law_473 : decode code 473 = .ok (.iadd, 1) := by decide +kernel
theorem d_W_law_474 : decode code 474 = .ok (.iaload, 1) := by decide +kernel
theorem d_W_law_475 : decode code 475 = .ok (.invokevirtual 87, 3) := by decide +kernel
theorem d_W_law_478 : decode code 478 = .ok (.aload_n 2, 1) := by decide +kernel
theorem d_W_law_479 : decode code 479 = .ok (.aload_n 0, 1) := by decide +kernel
theorem d_W_law_480 : decode code 480 = .ok (.iload_n 3, 1) := by decide +kernel
theorem d_W_law_481 : decode code 481 = .ok (.iconst 1, 1) := by decide +kernel
theorem d_W_law_482 : decode code 482 = .ok (.iadd, 1) := by decide +kernel
theorem d_W_law_483 : decode code 483 = .ok (.iaload, 1) := by decide +kernel
theorem d_W_law_484 : decode code 484 = .ok (.invokevirtual 90, 3) := by decide +kernel
theorem d_W_law_487 : decode code 487 = .ok (.if_icmp .eq 72, 3) := by decide +kernel
theorem d_W_law_490 : decode code 490 = .ok (.iconst 0, 1) := by decide +kernel
theorem d_W_law_491 : decode code 491 = .ok (.ireturn, 1) := by decide +kernel
theorem d_W_law_492 : decode code 492 = .ok (.aload_n 1, 1) := by decide +kernel
theorem d_W_law_493 : decode code 493 = .ok (.invokevirtual 91, 3) := by decide +kernel
theorem d_W_law_496 : decode code 496 = .ok (.aload_n 2, 1) := by decide +kernel
theorem d_W_law_497 : decode code 497 = .ok (.invokevirtual 94, 3) := by decide +kernel
theorem d_W_law_500 : decode code 500 = .ok (.if_icmp .eq 59, 3) := by decide +kernel
theorem d_W_law_503 : decode code 503 = .ok (.iconst 0, 1) := by decide +kernel
theorem d_W_law_504 : decode code 504 = .ok (.ireturn, 1) := by decide +kernel
theorem d_W_law_505 : decode code 505 = .ok (.aload_n 1, 1) := by decide +kernel
theorem d_W_law_506 : decode code 506 = .ok (.aload_n 0, 1) := by decide +kernel
theorem d_W_law_507 : decode code 507 = .ok (.iload_n 3, 1) := by decide +kernel
theorem d_W_law_508 : decode code 508 = .ok (.iconst 1, 1) := by decide +kernel
theorem d_W_law_509 : decode code 509 = .ok (.iadd, 1) := by decide +kernel
theorem d_W_law_510 : decode code 510 = .ok (.iaload, 1) := by decide +kernel
theorem d_W_law_511 : decode code 511 = .ok (.aload_n 0, 1) := by decide +kernel
theorem d_W_law_512 : decode code 512 = .ok (.iload_n 3, 1) := by decide +kernel
theorem d_W_law_513 : decode code 513 = .ok (.iconst 2, 1) := by decide +kernel
theorem d_W_law_514 : decode code 514 = .ok (.iadd, 1) := by decide +kernel
theorem d_W_law_515 : decode code 515 = .ok (.iaload, 1) := by decide +kernel
theorem d_W_law_516 : decode code 516 = .ok (.aload_n 0, 1) := by decide +kernel
theorem d_W_law_517 : decode code 517 = .ok (.iload_n 3, 1) := by decide +kernel
theorem d_W_law_518 : decode code 518 = .ok (.iconst 3, 1) := by decide +kernel
theorem d_W_law_519 : decode code 519 = .ok (.iadd, 1) := by decide +kernel
theorem d_W_law_520 : decode code 520 = .ok (.iaload, 1) := by decide +kernel
theorem d_W_law_521 : decode code 521 = .ok (.aload_n 0, 1) := by decide +kernel
theorem d_W_law_522 : decode code 522 = .ok (.iload_n 3, 1) := by decide +kernel
theorem d_W_law_523 : decode code 523 = .ok (.iconst 4, 1) := by decide +kernel
theorem d_W_law_524 : decode code 524 = .ok (.iadd, 1) := by decide +kernel
theorem d_W_law_525 : decode code 525 = .ok (.iaload, 1) := by decide +kernel
theorem d_W_law_526 : decode code 526 = .ok (.invokevirtual 95, 3) := by decide +kernel
theorem d_W_law_529 : decode code 529 = .ok (.aload_n 2, 1) := by decide +kernel
theorem d_W_law_530 : decode code 530 = .ok (.aload_n 0, 1) := by decide +kernel
theorem d_W_law_531 : decode code 531 = .ok (.iload_n 3, 1) := by decide +kernel
theorem d_W_law_532 : decode code 532 = .ok (.iconst 1, 1) := by decide +kernel
theorem d_W_law_533 : decode code 533 = .ok (.iadd, 1) := by decide +kernel
theorem d_W_law_534 : decode code 534 = .ok (.iaload, 1) := by decide +kernel
theorem d_W_law_535 : decode code 535 = .ok (.aload_n 0, 1) := by decide +kernel
theorem d_W_law_536 : decode code 536 = .ok (.iload_n 3, 1) := by decide +kernel
theorem d_W_law_537 : decode code 537 = .ok (.iconst 2, 1) := by decide +kernel
theorem d_W_law_538 : decode code 538 = .ok (.iadd, 1) := by decide +kernel
theorem d_W_law_539 : decode code 539 = .ok (.iaload, 1) := by decide +kernel
theorem d_W_law_540 : decode code 540 = .ok (.aload_n 0, 1) := by decide +kernel
theorem d_W_law_541 : decode code 541 = .ok (.iload_n 3, 1) := by decide +kernel
theorem d_W_law_542 : decode code 542 = .ok (.iconst 3, 1) := by decide +kernel
theorem d_W_law_543 : decode code 543 = .ok (.iadd, 1) := by decide +kernel
theorem d_W_law_544 : decode code 544 = .ok (.iaload, 1) := by decide +kernel
theorem d_W_law_545 : decode code 545 = .ok (.aload_n 0, 1) := by decide +kernel
theorem d_W_law_546 : decode code 546 = .ok (.iload_n 3, 1) := by decide +kernel
theorem d_W_law_547 : decode code 547 = .ok (.iconst 4, 1) := by decide +kernel
theorem d_W_law_548 : decode code 548 = .ok (.iadd, 1) := by decide +kernel
theorem d_W_law_549 : decode code 549 = .ok (.iaload, 1) := by decide +kernel
theorem d_W_law_550 : decode code 550 = .ok (.invokevirtual 99, 3) := by decide +kernel
theorem d_W_law_553 : decode code 553 = .ok (.lcmp, 1) := by decide +kernel
theorem d_W_law_554 : decode code 554 = .ok (.ifCond .eq 5, 3) := by decide +kernel
theorem d_W_law_557 : decode code 557 = .ok (.iconst 0, 1) := by decide +kernel
theorem d_W_law_558 : decode code 558 = .ok (.ireturn, 1) := by decide +kernel
theorem d_W_law_559 : decode code 559 = .ok (.iinc 3 5, 3) := by decide +kernel
theorem d_W_law_562 : decode code 562 = .ok (.goto (-534), 3) := by decide +kernel
theorem d_W_law_565 : decode code 565 = .ok (.iconst 1, 1) := by decide +kernel
theorem d_W_law_566 : decode code 566 = .ok (.ireturn, 1) := by decide +kernel
