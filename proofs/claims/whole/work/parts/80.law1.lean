theorem dW_0 : decode code 0 = .ok (.new 7, 3) := by decide +kernel
theorem dW_3 : decode code 3 = .ok (.dup, 1) := by decide +kernel
theorem dW_4 : decode code 4 = .ok (.invokespecial 9, 3) := by decide +kernel
theorem dW_7 : decode code 7 = .ok (.astore_n 1, 1) := by decide +kernel
theorem dW_8 : decode code 8 = .ok (.new 10, 3) := by decide +kernel
theorem dW_11 : decode code 11 = .ok (.dup, 1) := by decide +kernel
theorem dW_12 : decode code 12 = .ok (.invokespecial 12, 3) := by decide +kernel
theorem dW_15 : decode code 15 = .ok (.astore_n 2, 1) := by decide +kernel
theorem dW_16 : decode code 16 = .ok (.iconst 0, 1) := by decide +kernel
theorem dW_17 : decode code 17 = .ok (.istore_n 3, 1) := by decide +kernel
theorem dW_18 : decode code 18 = .ok (.iload_n 3, 1) := by decide +kernel
theorem dW_19 : decode code 19 = .ok (.aload_n 0, 1) := by decide +kernel
theorem dW_20 : decode code 20 = .ok (.arraylength, 1) := by decide +kernel
theorem dW_21 : decode code 21 = .ok (.iconst 5, 1) := by decide +kernel
theorem dW_22 : decode code 22 = .ok (.isub, 1) := by decide +kernel
theorem dW_23 : decode code 23 = .ok (.if_icmp .gt 660, 3) := by decide +kernel
theorem dW_26 : decode code 26 = .ok (.aload_n 0, 1) := by decide +kernel
theorem dW_27 : decode code 27 = .ok (.iload_n 3, 1) := by decide +kernel
theorem dW_28 : decode code 28 = .ok (.iaload, 1) := by decide +kernel
theorem dW_29 : decode code 29 = .ok (.bipush 31, 2) := by decide +kernel
theorem dW_31 : decode code 31 = .ok (.iand, 1) := by decide +kernel
theorem dW_32 : decode code 32 = .ok (.tableswitch 645 0 16 #[84, 107, 150, 183, 226, 269, 292, 315, 338, 371, 404, 427, 470, 503, 546, 569, 622], 84) := by decide +kernel
theorem dW_116 : decode code 116 = .ok (.aload_n 1, 1) := by decide +kernel
theorem dW_117 : decode code 117 = .ok (.aload_n 0, 1) := by decide +kernel
theorem dW_118 : decode code 118 = .ok (.iload_n 3, 1) := by decide +kernel
theorem dW_119 : decode code 119 = .ok (.iconst 1, 1) := by decide +kernel
theorem dW_120 : decode code 120 = .ok (.iadd, 1) := by decide +kernel
theorem dW_121 : decode code 121 = .ok (.iaload, 1) := by decide +kernel
theorem dW_122 : decode code 122 = .ok (.invokevirtual 13, 3) := by decide +kernel
theorem dW_125 : decode code 125 = .ok (.aload_n 2, 1) := by decide +kernel
theorem dW_126 : decode code 126 = .ok (.aload_n 0, 1) := by decide +kernel
theorem dW_127 : decode code 127 = .ok (.iload_n 3, 1) := by decide +kernel
theorem dW_128 : decode code 128 = .ok (.iconst 1, 1) := by decide +kernel
theorem dW_129 : decode code 129 = .ok (.iadd, 1) := by decide +kernel
theorem dW_130 : decode code 130 = .ok (.iaload, 1) := by decide +kernel
theorem dW_131 : decode code 131 = .ok (.invokevirtual 17, 3) := by decide +kernel
theorem dW_134 : decode code 134 = .ok (.if_icmp .eq 543, 3) := by decide +kernel
theorem dW_137 : decode code 137 = .ok (.iconst 0, 1) := by decide +kernel
theorem dW_138 : decode code 138 = .ok (.ireturn, 1) := by decide +kernel
theorem dW_139 : decode code 139 = .ok (.aload_n 1, 1) := by decide +kernel
theorem dW_140 : decode code 140 = .ok (.aload_n 0, 1) := by decide +kernel
theorem dW_141 : decode code 141 = .ok (.iload_n 3, 1) := by decide +kernel
theorem dW_142 : decode code 142 = .ok (.iconst 1, 1) := by decide +kernel
theorem dW_143 : decode code 143 = .ok (.iadd, 1) := by decide +kernel
theorem dW_144 : decode code 144 = .ok (.iaload, 1) := by decide +kernel
theorem dW_145 : decode code 145 = .ok (.aload_n 0, 1) := by decide +kernel
theorem dW_146 : decode code 146 = .ok (.iload_n 3, 1) := by decide +kernel
theorem dW_147 : decode code 147 = .ok (.iconst 2, 1) := by decide +kernel
theorem dW_148 : decode code 148 = .ok (.iadd, 1) := by decide +kernel
theorem dW_149 : decode code 149 = .ok (.iaload, 1) := by decide +kernel
theorem dW_150 : decode code 150 = .ok (.aload_n 0, 1) := by decide +kernel
theorem dW_151 : decode code 151 = .ok (.iload_n 3, 1) := by decide +kernel
theorem dW_152 : decode code 152 = .ok (.iconst 3, 1) := by decide +kernel
theorem dW_153 : decode code 153 = .ok (.iadd, 1) := by decide +kernel
theorem dW_154 : decode code 154 = .ok (.iaload, 1) := by decide +kernel
theorem dW_155 : decode code 155 = .ok (.invokevirtual 18, 3) := by decide +kernel
theorem dW_158 : decode code 158 = .ok (.aload_n 2, 1) := by decide +kernel
theorem dW_159 : decode code 159 = .ok (.aload_n 0, 1) := by decide +kernel
theorem dW_160 : decode code 160 = .ok (.iload_n 3, 1) := by decide +kernel
theorem dW_161 : decode code 161 = .ok (.iconst 1, 1) := by decide +kernel
theorem dW_162 : decode code 162 = .ok (.iadd, 1) := by decide +kernel
theorem dW_163 : decode code 163 = .ok (.iaload, 1) := by decide +kernel
theorem dW_164 : decode code 164 = .ok (.aload_n 0, 1) := by decide +kernel
theorem dW_165 : decode code 165 = .ok (.iload_n 3, 1) := by decide +kernel
theorem dW_166 : decode code 166 = .ok (.iconst 2, 1) := by decide +kernel
theorem dW_167 : decode code 167 = .ok (.iadd, 1) := by decide +kernel
theorem dW_168 : decode code 168 = .ok (.iaload, 1) := by decide +kernel
theorem dW_169 : decode code 169 = .ok (.aload_n 0, 1) := by decide +kernel
theorem dW_170 : decode code 170 = .ok (.iload_n 3, 1) := by decide +kernel
theorem dW_171 : decode code 171 = .ok (.iconst 3, 1) := by decide +kernel
theorem dW_172 : decode code 172 = .ok (.iadd, 1) := by decide +kernel
theorem dW_173 : decode code 173 = .ok (.iaload, 1) := by decide +kernel
theorem dW_174 : decode code 174 = .ok (.invokevirtual 22, 3) := by decide +kernel
theorem dW_177 : decode code 177 = .ok (.if_icmp .eq 500, 3) := by decide +kernel
theorem dW_180 : decode code 180 = .ok (.iconst 0, 1) := by decide +kernel
theorem dW_181 : decode code 181 = .ok (.ireturn, 1) := by decide +kernel
theorem dW_182 : decode code 182 = .ok (.aload_n 1, 1) := by decide +kernel
theorem dW_183 : decode code 183 = .ok (.aload_n 0, 1) := by decide +kernel
theorem dW_184 : decode code 184 = .ok (.iload_n 3, 1) := by decide +kernel
theorem dW_185 : decode code 185 = .ok (.iconst 1, 1) := by decide +kernel
theorem dW_186 : decode code 186 = .ok (.iadd, 1) := by decide +kernel
theorem dW_187 : decode code 187 = .ok (.iaload, 1) := by decide +kernel
theorem dW_188 : decode code 188 = .ok (.aload_n 0, 1) := by decide +kernel
theorem dW_189 : decode code 189 = .ok (.iload_n 3, 1) := by decide +kernel
theorem dW_190 : decode code 190 = .ok (.iconst 2, 1) := by decide +kernel
theorem dW_191 : decode code 191 = .ok (.iadd, 1) := by decide +kernel
theorem dW_192 : decode code 192 = .ok (.iaload, 1) := by decide +kernel
theorem dW_193 : decode code 193 = .ok (.invokevirtual 23, 3) := by decide +kernel
theorem dW_196 : decode code 196 = .ok (.aload_n 2, 1) := by decide +kernel
theorem dW_197 : decode code 197 = .ok (.aload_n 0, 1) := by decide +kernel
theorem dW_198 : decode code 198 = .ok (.iload_n 3, 1) := by decide +kernel
theorem dW_199 : decode code 199 = .ok (.iconst 1, 1) := by decide +kernel
theorem dW_200 : decode code 200 = .ok (.iadd, 1) := by decide +kernel
theorem dW_201 : decode code 201 = .ok (.iaload, 1) := by decide +kernel
theorem dW_202 : decode code 202 = .ok (.aload_n 0, 1) := by decide +kernel
theorem dW_203 : decode code 203 = .ok (.iload_n 3, 1) := by decide +kernel
theorem dW_204 : decode code 204 = .ok (.iconst 2, 1) := by decide +kernel
theorem dW_205 : decode code 205 = .ok (.iadd, 1) := by decide +kernel
theorem dW_206 : decode code 206 = .ok (.iaload, 1) := by decide +kernel
theorem dW_207 : decode code 207 = .ok (.invokevirtual 27, 3) := by decide +kernel
theorem dW_210 : decode code 210 = .ok (.if_icmp .eq 467, 3) := by decide +kernel
theorem dW_213 : decode code 213 = .ok (.iconst 0, 1) := by decide +kernel
theorem dW_214 : decode code 214 = .ok (.ireturn, 1) := by decide +kernel
theorem dW_215 : decode code 215 = .ok (.aload_n 1, 1) := by decide +kernel
theorem dW_216 : decode code 216 = .ok (.aload_n 0, 1) := by decide +kernel
theorem dW_217 : decode code 217 = .ok (.iload_n 3, 1) := by decide +kernel
theorem dW_218 : decode code 218 = .ok (.iconst 1, 1) := by decide +kernel
theorem dW_219 : decode code 219 = .ok (.iadd, 1) := by decide +kernel
theorem dW_220 : decode code 220 = .ok (.iaload, 1) := by decide +kernel
theorem dW_221 : decode code 221 = .ok (.aload_n 0, 1) := by decide +kernel
theorem dW_222 : decode code 222 = .ok (.iload_n 3, 1) := by decide +kernel
theorem dW_223 : decode code 223 = .ok (.iconst 2, 1) := by decide +kernel
theorem dW_224 : decode code 224 = .ok (.iadd, 1) := by decide +kernel
theorem dW_225 : decode code 225 = .ok (.iaload, 1) := by decide +kernel
theorem dW_226 : decode code 226 = .ok (.aload_n 0, 1) := by decide +kernel
theorem dW_227 : decode code 227 = .ok (.iload_n 3, 1) := by decide +kernel
theorem dW_228 : decode code 228 = .ok (.iconst 3, 1) := by decide +kernel
theorem dW_229 : decode code 229 = .ok (.iadd, 1) := by decide +kernel
theorem dW_230 : decode code 230 = .ok (.iaload, 1) := by decide +kernel
theorem dW_231 : decode code 231 = .ok (.invokevirtual 28, 3) := by decide +kernel
theorem dW_234 : decode code 234 = .ok (.aload_n 2, 1) := by decide +kernel
theorem dW_235 : decode code 235 = .ok (.aload_n 0, 1) := by decide +kernel
theorem dW_236 : decode code 236 = .ok (.iload_n 3, 1) := by decide +kernel
theorem dW_237 : decode code 237 = .ok (.iconst 1, 1) := by decide +kernel
theorem dW_238 : decode code 238 = .ok (.iadd, 1) := by decide +kernel
theorem dW_239 : decode code 239 = .ok (.iaload, 1) := by decide +kernel
theorem dW_240 : decode code 240 = .ok (.aload_n 0, 1) := by decide +kernel
theorem dW_241 : decode code 241 = .ok (.iload_n 3, 1) := by decide +kernel
theorem dW_242 : decode code 242 = .ok (.iconst 2, 1) := by decide +kernel
theorem dW_243 : decode code 243 = .ok (.iadd, 1) := by decide +kernel
theorem dW_244 : decode code 244 = .ok (.iaload, 1) := by decide +kernel
theorem dW_245 : decode code 245 = .ok (.aload_n 0, 1) := by decide +kernel
theorem dW_246 : decode code 246 = .ok (.iload_n 3, 1) := by decide +kernel
theorem dW_247 : decode code 247 = .ok (.iconst 3, 1) := by decide +kernel
theorem dW_248 : decode code 248 = .ok (.iadd, 1) := by decide +kernel
theorem dW_249 : decode code 249 = .ok (.iaload, 1) := by decide +kernel
theorem dW_250 : decode code 250 = .ok (.invokevirtual 32, 3) := by decide +kernel
theorem dW_253 : decode code 253 = .ok (.if_icmp .eq 424, 3) := by decide +kernel
theorem dW_256 : decode code 256 = .ok (.iconst 0, 1) := by decide +kernel
theorem dW_257 : decode code 257 = .ok (.ireturn, 1) := by decide +kernel
theorem dW_258 : decode code 258 = .ok (.aload_n 1, 1) := by decide +kernel
theorem dW_259 : decode code 259 = .ok (.aload_n 0, 1) := by decide +kernel
theorem dW_260 : decode code 260 = .ok (.iload_n 3, 1) := by decide +kernel
theorem dW_261 : decode code 261 = .ok (.iconst 1, 1) := by decide +kernel
theorem dW_262 : decode code 262 = .ok (.iadd, 1) := by decide +kernel
theorem dW_263 : decode code 263 = .ok (.iaload, 1) := by decide +kernel
theorem dW_264 : decode code 264 = .ok (.aload_n 0, 1) := by decide +kernel
theorem dW_265 : decode code 265 = .ok (.iload_n 3, 1) := by decide +kernel
theorem dW_266 : decode code 266 = .ok (.iconst 2, 1) := by decide +kernel
theorem dW_267 : decode code 267 = .ok (.iadd, 1) := by decide +kernel
theorem dW_268 : decode code 268 = .ok (.iaload, 1) := by decide +kernel
theorem dW_269 : decode code 269 = .ok (.aload_n 0, 1) := by decide +kernel
theorem dW_270 : decode code 270 = .ok (.iload_n 3, 1) := by decide +kernel
theorem dW_271 : decode code 271 = .ok (.iconst 3, 1) := by decide +kernel
theorem dW_272 : decode code 272 = .ok (.iadd, 1) := by decide +kernel
theorem dW_273 : decode code 273 = .ok (.iaload, 1) := by decide +kernel
theorem dW_274 : decode code 274 = .ok (.invokevirtual 33, 3) := by decide +kernel
theorem dW_277 : decode code 277 = .ok (.aload_n 2, 1) := by decide +kernel
theorem dW_278 : decode code 278 = .ok (.aload_n 0, 1) := by decide +kernel
theorem dW_279 : decode code 279 = .ok (.iload_n 3, 1) := by decide +kernel
theorem dW_280 : decode code 280 = .ok (.iconst 1, 1) := by decide +kernel
theorem dW_281 : decode code 281 = .ok (.iadd, 1) := by decide +kernel
theorem dW_282 : decode code 282 = .ok (.iaload, 1) := by decide +kernel
theorem dW_283 : decode code 283 = .ok (.aload_n 0, 1) := by decide +kernel
theorem dW_284 : decode code 284 = .ok (.iload_n 3, 1) := by decide +kernel
theorem dW_285 : decode code 285 = .ok (.iconst 2, 1) := by decide +kernel
theorem dW_286 : decode code 286 = .ok (.iadd, 1) := by decide +kernel
theorem dW_287 : decode code 287 = .ok (.iaload, 1) := by decide +kernel
theorem dW_288 : decode code 288 = .ok (.aload_n 0, 1) := by decide +kernel
theorem dW_289 : decode code 289 = .ok (.iload_n 3, 1) := by decide +kernel
theorem dW_290 : decode code 290 = .ok (.iconst 3, 1) := by decide +kernel
theorem dW_291 : decode code 291 = .ok (.iadd, 1) := by decide +kernel
theorem dW_292 : decode code 292 = .ok (.iaload, 1) := by decide +kernel
theorem dW_293 : decode code 293 = .ok (.invokevirtual 36, 3) := by decide +kernel
theorem dW_296 : decode code 296 = .ok (.if_icmp .eq 381, 3) := by decide +kernel
theorem dW_299 : decode code 299 = .ok (.iconst 0, 1) := by decide +kernel
theorem dW_300 : decode code 300 = .ok (.ireturn, 1) := by decide +kernel
theorem dW_301 : decode code 301 = .ok (.aload_n 1, 1) := by decide +kernel
theorem dW_302 : decode code 302 = .ok (.aload_n 0, 1) := by decide +kernel
theorem dW_303 : decode code 303 = .ok (.iload_n 3, 1) := by decide +kernel
theorem dW_304 : decode code 304 = .ok (.iconst 1, 1) := by decide +kernel
theorem dW_305 : decode code 305 = .ok (.iadd, 1) := by decide +kernel
theorem dW_306 : decode code 306 = .ok (.iaload, 1) := by decide +kernel
theorem dW_307 : decode code 307 = .ok (.invokevirtual 37, 3) := by decide +kernel
theorem dW_310 : decode code 310 = .ok (.aload_n 2, 1) := by decide +kernel
theorem dW_311 : decode code 311 = .ok (.aload_n 0, 1) := by decide +kernel
theorem dW_312 : decode code 312 = .ok (.iload_n 3, 1) := by decide +kernel
theorem dW_313 : decode code 313 = .ok (.iconst 1, 1) := by decide +kernel
theorem dW_314 : decode code 314 = .ok (.iadd, 1) := by decide +kernel
theorem dW_315 : decode code 315 = .ok (.iaload, 1) := by decide +kernel
theorem dW_316 : decode code 316 = .ok (.invokevirtual 40, 3) := by decide +kernel
theorem dW_319 : decode code 319 = .ok (.if_icmp .eq 358, 3) := by decide +kernel
theorem dW_322 : decode code 322 = .ok (.iconst 0, 1) := by decide +kernel
theorem dW_323 : decode code 323 = .ok (.ireturn, 1) := by decide +kernel
theorem dW_324 : decode code 324 = .ok (.aload_n 1, 1) := by decide +kernel
theorem dW_325 : decode code 325 = .ok (.aload_n 0, 1) := by decide +kernel
theorem dW_326 : decode code 326 = .ok (.iload_n 3, 1) := by decide +kernel
theorem dW_327 : decode code 327 = .ok (.iconst 1, 1) := by decide +kernel
theorem dW_328 : decode code 328 = .ok (.iadd, 1) := by decide +kernel
theorem dW_329 : decode code 329 = .ok (.iaload, 1) := by decide +kernel
theorem dW_330 : decode code 330 = .ok (.invokevirtual 41, 3) := by decide +kernel
theorem dW_333 : decode code 333 = .ok (.aload_n 2, 1) := by decide +kernel
theorem dW_334 : decode code 334 = .ok (.aload_n 0, 1) := by decide +kernel
theorem dW_335 : decode code 335 = .ok (.iload_n 3, 1) := by decide +kernel
theorem dW_336 : decode code 336 = .ok (.iconst 1, 1) := by decide +kernel
theorem dW_337 : decode code 337 = .ok (.iadd, 1) := by decide +kernel
theorem dW_338 : decode code 338 = .ok (.iaload, 1) := by decide +kernel
theorem dW_339 : decode code 339 = .ok (.invokevirtual 45, 3) := by decide +kernel
theorem dW_342 : decode code 342 = .ok (.if_icmp .eq 335, 3) := by decide +kernel
theorem dW_345 : decode code 345 = .ok (.iconst 0, 1) := by decide +kernel
theorem dW_346 : decode code 346 = .ok (.ireturn, 1) := by decide +kernel
theorem dW_347 : decode code 347 = .ok (.aload_n 1, 1) := by decide +kernel
theorem dW_348 : decode code 348 = .ok (.aload_n 0, 1) := by decide +kernel
theorem dW_349 : decode code 349 = .ok (.iload_n 3, 1) := by decide +kernel
theorem dW_350 : decode code 350 = .ok (.iconst 1, 1) := by decide +kernel
theorem dW_351 : decode code 351 = .ok (.iadd, 1) := by decide +kernel
theorem dW_352 : decode code 352 = .ok (.iaload, 1) := by decide +kernel
theorem dW_353 : decode code 353 = .ok (.invokevirtual 46, 3) := by decide +kernel
theorem dW_356 : decode code 356 = .ok (.aload_n 2, 1) := by decide +kernel
theorem dW_357 : decode code 357 = .ok (.aload_n 0, 1) := by decide +kernel
theorem dW_358 : decode code 358 = .ok (.iload_n 3, 1) := by decide +kernel
theorem dW_359 : decode code 359 = .ok (.iconst 1, 1) := by decide +kernel
theorem dW_360 : decode code 360 = .ok (.iadd, 1) := by decide +kernel
theorem dW_361 : decode code 361 = .ok (.iaload, 1) := by decide +kernel
theorem dW_362 : decode code 362 = .ok (.invokevirtual 49, 3) := by decide +kernel
theorem dW_365 : decode code 365 = .ok (.if_icmp .eq 312, 3) := by decide +kernel
theorem dW_368 : decode code 368 = .ok (.iconst 0, 1) := by decide +kernel
theorem dW_369 : decode code 369 = .ok (.ireturn, 1) := by decide +kernel
theorem dW_370 : decode code 370 = .ok (.aload_n 1, 1) := by decide +kernel
theorem dW_371 : decode code 371 = .ok (.aload_n 0, 1) := by decide +kernel
theorem dW_372 : decode code 372 = .ok (.iload_n 3, 1) := by decide +kernel
theorem dW_373 : decode code 373 = .ok (.iconst 1, 1) := by decide +kernel
theorem dW_374 : decode code 374 = .ok (.iadd, 1) := by decide +kernel
theorem dW_375 : decode code 375 = .ok (.iaload, 1) := by decide +kernel
theorem dW_376 : decode code 376 = .ok (.aload_n 0, 1) := by decide +kernel
theorem dW_377 : decode code 377 = .ok (.iload_n 3, 1) := by decide +kernel
theorem dW_378 : decode code 378 = .ok (.iconst 2, 1) := by decide +kernel
theorem dW_379 : decode code 379 = .ok (.iadd, 1) := by decide +kernel
theorem dW_380 : decode code 380 = .ok (.iaload, 1) := by decide +kernel
theorem dW_381 : decode code 381 = .ok (.invokevirtual 50, 3) := by decide +kernel
theorem dW_384 : decode code 384 = .ok (.aload_n 2, 1) := by decide +kernel
theorem dW_385 : decode code 385 = .ok (.aload_n 0, 1) := by decide +kernel
theorem dW_386 : decode code 386 = .ok (.iload_n 3, 1) := by decide +kernel
theorem dW_387 : decode code 387 = .ok (.iconst 1, 1) := by decide +kernel
theorem dW_388 : decode code 388 = .ok (.iadd, 1) := by decide +kernel
theorem dW_389 : decode code 389 = .ok (.iaload, 1) := by decide +kernel
theorem dW_390 : decode code 390 = .ok (.aload_n 0, 1) := by decide +kernel
theorem dW_391 : decode code 391 = .ok (.iload_n 3, 1) := by decide +kernel
theorem dW_392 : decode code 392 = .ok (.iconst 2, 1) := by decide +kernel
theorem dW_393 : decode code 393 = .ok (.iadd, 1) := by decide +kernel
