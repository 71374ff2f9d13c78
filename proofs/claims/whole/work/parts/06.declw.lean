theorem d_lw_0 : decode code 0 = .ok (.new 7, 3) := by decide +kernel
theorem d_lw_3 : decode code 3 = .ok (.dup, 1) := by decide +kernel
theorem d_lw_4 : decode code 4 = .ok (.invokespecial 9, 3) := by decide +kernel
theorem d_lw_7 : decode code 7 = .ok (.astore_n 1, 1) := by decide +kernel
theorem d_lw_8 : decode code 8 = .ok (.new 10, 3) := by decide +kernel
theorem d_lw_11 : decode code 11 = .ok (.dup, 1) := by decide +kernel
theorem d_lw_12 : decode code 12 = .ok (.invokespecial 12, 3) := by decide +kernel
theorem d_lw_15 : decode code 15 = .ok (.astore_n 2, 1) := by decide +kernel
theorem d_lw_16 : decode code 16 = .ok (.iconst 0, 1) := by decide +kernel
theorem d_lw_17 : decode code 17 = .ok (.istore_n 3, 1) := by decide +kernel
theorem d_lw_18 : decode code 18 = .ok (.iload_n 3, 1) := by decide +kernel
theorem d_lw_19 : decode code 19 = .ok (.aload_n 0, 1) := by decide +kernel
theorem d_lw_20 : decode code 20 = .ok (.arraylength, 1) := by decide +kernel
theorem d_lw_21 : decode code 21 = .ok (.iconst 5, 1) := by decide +kernel
theorem d_lw_22 : decode code 22 = .ok (.isub, 1) := by decide +kernel
theorem d_lw_23 : decode code 23 = .ok (.if_icmp .gt 690, 3) := by decide +kernel
theorem d_lw_26 : decode code 26 = .ok (.aload_n 0, 1) := by decide +kernel
theorem d_lw_27 : decode code 27 = .ok (.iload_n 3, 1) := by decide +kernel
theorem d_lw_28 : decode code 28 = .ok (.iaload, 1) := by decide +kernel
theorem d_lw_29 : decode code 29 = .ok (.bipush 15, 2) := by decide +kernel
theorem d_lw_31 : decode code 31 = .ok (.iand, 1) := by decide +kernel
theorem d_lw_32 : decode code 32 = .ok (.tableswitch 675 0 15 #[80, 124, 168, 202, 246, 280, 323, 366, 389, 412, 445, 489, 513, 556, 589, 622], 80) := by decide +kernel
theorem d_lw_112 : decode code 112 = .ok (.aload_n 1, 1) := by decide +kernel
theorem d_lw_113 : decode code 113 = .ok (.aload_n 0, 1) := by decide +kernel
theorem d_lw_114 : decode code 114 = .ok (.iload_n 3, 1) := by decide +kernel
theorem d_lw_115 : decode code 115 = .ok (.iconst 1, 1) := by decide +kernel
theorem d_lw_116 : decode code 116 = .ok (.iadd, 1) := by decide +kernel
theorem d_lw_117 : decode code 117 = .ok (.iaload, 1) := by decide +kernel
theorem d_lw_118 : decode code 118 = .ok (.aload_n 0, 1) := by decide +kernel
theorem d_lw_119 : decode code 119 = .ok (.iload_n 3, 1) := by decide +kernel
theorem d_lw_120 : decode code 120 = .ok (.iconst 2, 1) := by decide +kernel
theorem d_lw_121 : decode code 121 = .ok (.iadd, 1) := by decide +kernel
theorem d_lw_122 : decode code 122 = .ok (.iaload, 1) := by decide +kernel
theorem d_lw_123 : decode code 123 = .ok (.aload_n 0, 1) := by decide +kernel
theorem d_lw_124 : decode code 124 = .ok (.iload_n 3, 1) := by decide +kernel
theorem d_lw_125 : decode code 125 = .ok (.iconst 3, 1) := by decide +kernel
theorem d_lw_126 : decode code 126 = .ok (.iadd, 1) := by decide +kernel
theorem d_lw_127 : decode code 127 = .ok (.iaload, 1) := by decide +kernel
theorem d_lw_128 : decode code 128 = .ok (.invokevirtual 13, 3) := by decide +kernel
theorem d_lw_131 : decode code 131 = .ok (.aload_n 2, 1) := by decide +kernel
theorem d_lw_132 : decode code 132 = .ok (.aload_n 0, 1) := by decide +kernel
theorem d_lw_133 : decode code 133 = .ok (.iload_n 3, 1) := by decide +kernel
theorem d_lw_134 : decode code 134 = .ok (.iconst 1, 1) := by decide +kernel
theorem d_lw_135 : decode code 135 = .ok (.iadd, 1) := by decide +kernel
theorem d_lw_136 : decode code 136 = .ok (.iaload, 1) := by decide +kernel
theorem d_lw_137 : decode code 137 = .ok (.aload_n 0, 1) := by decide +kernel
theorem d_lw_138 : decode code 138 = .ok (.iload_n 3, 1) := by decide +kernel
theorem d_lw_139 : decode code 139 = .ok (.iconst 2, 1) := by decide +kernel
theorem d_lw_140 : decode code 140 = .ok (.iadd, 1) := by decide +kernel
theorem d_lw_141 : decode code 141 = .ok (.iaload, 1) := by decide +kernel
theorem d_lw_142 : decode code 142 = .ok (.aload_n 0, 1) := by decide +kernel
theorem d_lw_143 : decode code 143 = .ok (.iload_n 3, 1) := by decide +kernel
theorem d_lw_144 : decode code 144 = .ok (.iconst 3, 1) := by decide +kernel
theorem d_lw_145 : decode code 145 = .ok (.iadd, 1) := by decide +kernel
theorem d_lw_146 : decode code 146 = .ok (.iaload, 1) := by decide +kernel
theorem d_lw_147 : decode code 147 = .ok (.invokevirtual 17, 3) := by decide +kernel
theorem d_lw_150 : decode code 150 = .ok (.lcmp, 1) := by decide +kernel
theorem d_lw_151 : decode code 151 = .ok (.ifCond .eq 556, 3) := by decide +kernel
theorem d_lw_154 : decode code 154 = .ok (.iconst 0, 1) := by decide +kernel
theorem d_lw_155 : decode code 155 = .ok (.ireturn, 1) := by decide +kernel
theorem d_lw_156 : decode code 156 = .ok (.aload_n 1, 1) := by decide +kernel
theorem d_lw_157 : decode code 157 = .ok (.aload_n 0, 1) := by decide +kernel
theorem d_lw_158 : decode code 158 = .ok (.iload_n 3, 1) := by decide +kernel
theorem d_lw_159 : decode code 159 = .ok (.iconst 1, 1) := by decide +kernel
theorem d_lw_160 : decode code 160 = .ok (.iadd, 1) := by decide +kernel
theorem d_lw_161 : decode code 161 = .ok (.iaload, 1) := by decide +kernel
theorem d_lw_162 : decode code 162 = .ok (.aload_n 0, 1) := by decide +kernel
theorem d_lw_163 : decode code 163 = .ok (.iload_n 3, 1) := by decide +kernel
theorem d_lw_164 : decode code 164 = .ok (.iconst 2, 1) := by decide +kernel
theorem d_lw_165 : decode code 165 = .ok (.iadd, 1) := by decide +kernel
theorem d_lw_166 : decode code 166 = .ok (.iaload, 1) := by decide +kernel
theorem d_lw_167 : decode code 167 = .ok (.aload_n 0, 1) := by decide +kernel
theorem d_lw_168 : decode code 168 = .ok (.iload_n 3, 1) := by decide +kernel
theorem d_lw_169 : decode code 169 = .ok (.iconst 3, 1) := by decide +kernel
theorem d_lw_170 : decode code 170 = .ok (.iadd, 1) := by decide +kernel
theorem d_lw_171 : decode code 171 = .ok (.iaload, 1) := by decide +kernel
theorem d_lw_172 : decode code 172 = .ok (.invokevirtual 18, 3) := by decide +kernel
theorem d_lw_175 : decode code 175 = .ok (.aload_n 2, 1) := by decide +kernel
theorem d_lw_176 : decode code 176 = .ok (.aload_n 0, 1) := by decide +kernel
theorem d_lw_177 : decode code 177 = .ok (.iload_n 3, 1) := by decide +kernel
theorem d_lw_178 : decode code 178 = .ok (.iconst 1, 1) := by decide +kernel
theorem d_lw_179 : decode code 179 = .ok (.iadd, 1) := by decide +kernel
theorem d_lw_180 : decode code 180 = .ok (.iaload, 1) := by decide +kernel
theorem d_lw_181 : decode code 181 = .ok (.aload_n 0, 1) := by decide +kernel
theorem d_lw_182 : decode code 182 = .ok (.iload_n 3, 1) := by decide +kernel
theorem d_lw_183 : decode code 183 = .ok (.iconst 2, 1) := by decide +kernel
theorem d_lw_184 : decode code 184 = .ok (.iadd, 1) := by decide +kernel
theorem d_lw_185 : decode code 185 = .ok (.iaload, 1) := by decide +kernel
theorem d_lw_186 : decode code 186 = .ok (.aload_n 0, 1) := by decide +kernel
theorem d_lw_187 : decode code 187 = .ok (.iload_n 3, 1) := by decide +kernel
theorem d_lw_188 : decode code 188 = .ok (.iconst 3, 1) := by decide +kernel
theorem d_lw_189 : decode code 189 = .ok (.iadd, 1) := by decide +kernel
theorem d_lw_190 : decode code 190 = .ok (.iaload, 1) := by decide +kernel
theorem d_lw_191 : decode code 191 = .ok (.invokevirtual 21, 3) := by decide +kernel
theorem d_lw_194 : decode code 194 = .ok (.lcmp, 1) := by decide +kernel
theorem d_lw_195 : decode code 195 = .ok (.ifCond .eq 512, 3) := by decide +kernel
theorem d_lw_198 : decode code 198 = .ok (.iconst 0, 1) := by decide +kernel
theorem d_lw_199 : decode code 199 = .ok (.ireturn, 1) := by decide +kernel
theorem d_lw_200 : decode code 200 = .ok (.aload_n 1, 1) := by decide +kernel
theorem d_lw_201 : decode code 201 = .ok (.aload_n 0, 1) := by decide +kernel
theorem d_lw_202 : decode code 202 = .ok (.iload_n 3, 1) := by decide +kernel
theorem d_lw_203 : decode code 203 = .ok (.iconst 1, 1) := by decide +kernel
theorem d_lw_204 : decode code 204 = .ok (.iadd, 1) := by decide +kernel
theorem d_lw_205 : decode code 205 = .ok (.iaload, 1) := by decide +kernel
theorem d_lw_206 : decode code 206 = .ok (.aload_n 0, 1) := by decide +kernel
theorem d_lw_207 : decode code 207 = .ok (.iload_n 3, 1) := by decide +kernel
theorem d_lw_208 : decode code 208 = .ok (.iconst 2, 1) := by decide +kernel
theorem d_lw_209 : decode code 209 = .ok (.iadd, 1) := by decide +kernel
theorem d_lw_210 : decode code 210 = .ok (.iaload, 1) := by decide +kernel
theorem d_lw_211 : decode code 211 = .ok (.invokevirtual 22, 3) := by decide +kernel
theorem d_lw_214 : decode code 214 = .ok (.aload_n 2, 1) := by decide +kernel
theorem d_lw_215 : decode code 215 = .ok (.aload_n 0, 1) := by decide +kernel
theorem d_lw_216 : decode code 216 = .ok (.iload_n 3, 1) := by decide +kernel
theorem d_lw_217 : decode code 217 = .ok (.iconst 1, 1) := by decide +kernel
theorem d_lw_218 : decode code 218 = .ok (.iadd, 1) := by decide +kernel
theorem d_lw_219 : decode code 219 = .ok (.iaload, 1) := by decide +kernel
theorem d_lw_220 : decode code 220 = .ok (.aload_n 0, 1) := by decide +kernel
theorem d_lw_221 : decode code 221 = .ok (.iload_n 3, 1) := by decide +kernel
theorem d_lw_222 : decode code 222 = .ok (.iconst 2, 1) := by decide +kernel
theorem d_lw_223 : decode code 223 = .ok (.iadd, 1) := by decide +kernel
theorem d_lw_224 : decode code 224 = .ok (.iaload, 1) := by decide +kernel
theorem d_lw_225 : decode code 225 = .ok (.invokevirtual 26, 3) := by decide +kernel
theorem d_lw_228 : decode code 228 = .ok (.lcmp, 1) := by decide +kernel
theorem d_lw_229 : decode code 229 = .ok (.ifCond .eq 478, 3) := by decide +kernel
theorem d_lw_232 : decode code 232 = .ok (.iconst 0, 1) := by decide +kernel
theorem d_lw_233 : decode code 233 = .ok (.ireturn, 1) := by decide +kernel
theorem d_lw_234 : decode code 234 = .ok (.aload_n 1, 1) := by decide +kernel
theorem d_lw_235 : decode code 235 = .ok (.aload_n 0, 1) := by decide +kernel
theorem d_lw_236 : decode code 236 = .ok (.iload_n 3, 1) := by decide +kernel
theorem d_lw_237 : decode code 237 = .ok (.iconst 1, 1) := by decide +kernel
theorem d_lw_238 : decode code 238 = .ok (.iadd, 1) := by decide +kernel
theorem d_lw_239 : decode code 239 = .ok (.iaload, 1) := by decide +kernel
theorem d_lw_240 : decode code 240 = .ok (.aload_n 0, 1) := by decide +kernel
theorem d_lw_241 : decode code 241 = .ok (.iload_n 3, 1) := by decide +kernel
theorem d_lw_242 : decode code 242 = .ok (.iconst 2, 1) := by decide +kernel
theorem d_lw_243 : decode code 243 = .ok (.iadd, 1) := by decide +kernel
theorem d_lw_244 : decode code 244 = .ok (.iaload, 1) := by decide +kernel
theorem d_lw_245 : decode code 245 = .ok (.aload_n 0, 1) := by decide +kernel
theorem d_lw_246 : decode code 246 = .ok (.iload_n 3, 1) := by decide +kernel
theorem d_lw_247 : decode code 247 = .ok (.iconst 3, 1) := by decide +kernel
theorem d_lw_248 : decode code 248 = .ok (.iadd, 1) := by decide +kernel
theorem d_lw_249 : decode code 249 = .ok (.iaload, 1) := by decide +kernel
theorem d_lw_250 : decode code 250 = .ok (.invokevirtual 27, 3) := by decide +kernel
theorem d_lw_253 : decode code 253 = .ok (.aload_n 2, 1) := by decide +kernel
theorem d_lw_254 : decode code 254 = .ok (.aload_n 0, 1) := by decide +kernel
theorem d_lw_255 : decode code 255 = .ok (.iload_n 3, 1) := by decide +kernel
theorem d_lw_256 : decode code 256 = .ok (.iconst 1, 1) := by decide +kernel
theorem d_lw_257 : decode code 257 = .ok (.iadd, 1) := by decide +kernel
theorem d_lw_258 : decode code 258 = .ok (.iaload, 1) := by decide +kernel
theorem d_lw_259 : decode code 259 = .ok (.aload_n 0, 1) := by decide +kernel
theorem d_lw_260 : decode code 260 = .ok (.iload_n 3, 1) := by decide +kernel
theorem d_lw_261 : decode code 261 = .ok (.iconst 2, 1) := by decide +kernel
theorem d_lw_262 : decode code 262 = .ok (.iadd, 1) := by decide +kernel
theorem d_lw_263 : decode code 263 = .ok (.iaload, 1) := by decide +kernel
theorem d_lw_264 : decode code 264 = .ok (.aload_n 0, 1) := by decide +kernel
theorem d_lw_265 : decode code 265 = .ok (.iload_n 3, 1) := by decide +kernel
theorem d_lw_266 : decode code 266 = .ok (.iconst 3, 1) := by decide +kernel
theorem d_lw_267 : decode code 267 = .ok (.iadd, 1) := by decide +kernel
theorem d_lw_268 : decode code 268 = .ok (.iaload, 1) := by decide +kernel
theorem d_lw_269 : decode code 269 = .ok (.invokevirtual 30, 3) := by decide +kernel
theorem d_lw_272 : decode code 272 = .ok (.lcmp, 1) := by decide +kernel
theorem d_lw_273 : decode code 273 = .ok (.ifCond .eq 434, 3) := by decide +kernel
theorem d_lw_276 : decode code 276 = .ok (.iconst 0, 1) := by decide +kernel
theorem d_lw_277 : decode code 277 = .ok (.ireturn, 1) := by decide +kernel
theorem d_lw_278 : decode code 278 = .ok (.aload_n 1, 1) := by decide +kernel
theorem d_lw_279 : decode code 279 = .ok (.aload_n 0, 1) := by decide +kernel
theorem d_lw_280 : decode code 280 = .ok (.iload_n 3, 1) := by decide +kernel
theorem d_lw_281 : decode code 281 = .ok (.iconst 1, 1) := by decide +kernel
theorem d_lw_282 : decode code 282 = .ok (.iadd, 1) := by decide +kernel
theorem d_lw_283 : decode code 283 = .ok (.iaload, 1) := by decide +kernel
theorem d_lw_284 : decode code 284 = .ok (.aload_n 0, 1) := by decide +kernel
theorem d_lw_285 : decode code 285 = .ok (.iload_n 3, 1) := by decide +kernel
theorem d_lw_286 : decode code 286 = .ok (.iconst 2, 1) := by decide +kernel
theorem d_lw_287 : decode code 287 = .ok (.iadd, 1) := by decide +kernel
theorem d_lw_288 : decode code 288 = .ok (.iaload, 1) := by decide +kernel
theorem d_lw_289 : decode code 289 = .ok (.invokevirtual 31, 3) := by decide +kernel
theorem d_lw_292 : decode code 292 = .ok (.aload_n 2, 1) := by decide +kernel
theorem d_lw_293 : decode code 293 = .ok (.aload_n 0, 1) := by decide +kernel
theorem d_lw_294 : decode code 294 = .ok (.iload_n 3, 1) := by decide +kernel
theorem d_lw_295 : decode code 295 = .ok (.iconst 1, 1) := by decide +kernel
theorem d_lw_296 : decode code 296 = .ok (.iadd, 1) := by decide +kernel
theorem d_lw_297 : decode code 297 = .ok (.iaload, 1) := by decide +kernel
theorem d_lw_298 : decode code 298 = .ok (.aload_n 0, 1) := by decide +kernel
theorem d_lw_299 : decode code 299 = .ok (.iload_n 3, 1) := by decide +kernel
theorem d_lw_300 : decode code 300 = .ok (.iconst 2, 1) := by decide +kernel
theorem d_lw_301 : decode code 301 = .ok (.iadd, 1) := by decide +kernel
theorem d_lw_302 : decode code 302 = .ok (.iaload, 1) := by decide +kernel
theorem d_lw_303 : decode code 303 = .ok (.invokevirtual 34, 3) := by decide +kernel
theorem d_lw_306 : decode code 306 = .ok (.lcmp, 1) := by decide +kernel
theorem d_lw_307 : decode code 307 = .ok (.ifCond .eq 400, 3) := by decide +kernel
theorem d_lw_310 : decode code 310 = .ok (.iconst 0, 1) := by decide +kernel
theorem d_lw_311 : decode code 311 = .ok (.ireturn, 1) := by decide +kernel
theorem d_lw_312 : decode code 312 = .ok (.aload_n 1, 1) := by decide +kernel
theorem d_lw_313 : decode code 313 = .ok (.aload_n 0, 1) := by decide +kernel
theorem d_lw_314 : decode code 314 = .ok (.iload_n 3, 1) := by decide +kernel
theorem d_lw_315 : decode code 315 = .ok (.iconst 1, 1) := by decide +kernel
theorem d_lw_316 : decode code 316 = .ok (.iadd, 1) := by decide +kernel
theorem d_lw_317 : decode code 317 = .ok (.iaload, 1) := by decide +kernel
theorem d_lw_318 : decode code 318 = .ok (.aload_n 0, 1) := by decide +kernel
theorem d_lw_319 : decode code 319 = .ok (.iload_n 3, 1) := by decide +kernel
theorem d_lw_320 : decode code 320 = .ok (.iconst 2, 1) := by decide +kernel
theorem d_lw_321 : decode code 321 = .ok (.iadd, 1) := by decide +kernel
theorem d_lw_322 : decode code 322 = .ok (.iaload, 1) := by decide +kernel
theorem d_lw_323 : decode code 323 = .ok (.aload_n 0, 1) := by decide +kernel
theorem d_lw_324 : decode code 324 = .ok (.iload_n 3, 1) := by decide +kernel
theorem d_lw_325 : decode code 325 = .ok (.iconst 3, 1) := by decide +kernel
theorem d_lw_326 : decode code 326 = .ok (.iadd, 1) := by decide +kernel
theorem d_lw_327 : decode code 327 = .ok (.iaload, 1) := by decide +kernel
theorem d_lw_328 : decode code 328 = .ok (.invokevirtual 35, 3) := by decide +kernel
theorem d_lw_331 : decode code 331 = .ok (.aload_n 2, 1) := by decide +kernel
theorem d_lw_332 : decode code 332 = .ok (.aload_n 0, 1) := by decide +kernel
theorem d_lw_333 : decode code 333 = .ok (.iload_n 3, 1) := by decide +kernel
theorem d_lw_334 : decode code 334 = .ok (.iconst 1, 1) := by decide +kernel
theorem d_lw_335 : decode code 335 = .ok (.iadd, 1) := by decide +kernel
theorem d_lw_336 : decode code 336 = .ok (.iaload, 1) := by decide +kernel
theorem d_lw_337 : decode code 337 = .ok (.aload_n 0, 1) := by decide +kernel
theorem d_lw_338 : decode code 338 = .ok (.iload_n 3, 1) := by decide +kernel
theorem d_lw_339 : decode code 339 = .ok (.iconst 2, 1) := by decide +kernel
theorem d_lw_340 : decode code 340 = .ok (.iadd, 1) := by decide +kernel
theorem d_lw_341 : decode code 341 = .ok (.iaload, 1) := by decide +kernel
theorem d_lw_342 : decode code 342 = .ok (.aload_n 0, 1) := by decide +kernel
theorem d_lw_343 : decode code 343 = .ok (.iload_n 3, 1) := by decide +kernel
theorem d_lw_344 : decode code 344 = .ok (.iconst 3, 1) := by decide +kernel
theorem d_lw_345 : decode code 345 = .ok (.iadd, 1) := by decide +kernel
theorem d_lw_346 : decode code 346 = .ok (.iaload, 1) := by decide +kernel
theorem d_lw_347 : decode code 347 = .ok (.invokevirtual 39, 3) := by decide +kernel
theorem d_lw_350 : decode code 350 = .ok (.if_icmp .eq 357, 3) := by decide +kernel
theorem d_lw_353 : decode code 353 = .ok (.iconst 0, 1) := by decide +kernel
theorem d_lw_354 : decode code 354 = .ok (.ireturn, 1) := by decide +kernel
theorem d_lw_355 : decode code 355 = .ok (.aload_n 1, 1) := by decide +kernel
theorem d_lw_356 : decode code 356 = .ok (.aload_n 0, 1) := by decide +kernel
theorem d_lw_357 : decode code 357 = .ok (.iload_n 3, 1) := by decide +kernel
theorem d_lw_358 : decode code 358 = .ok (.iconst 1, 1) := by decide +kernel
theorem d_lw_359 : decode code 359 = .ok (.iadd, 1) := by decide +kernel
theorem d_lw_360 : decode code 360 = .ok (.iaload, 1) := by decide +kernel
theorem d_lw_361 : decode code 361 = .ok (.aload_n 0, 1) := by decide +kernel
theorem d_lw_362 : decode code 362 = .ok (.iload_n 3, 1) := by decide +kernel
theorem d_lw_363 : decode code 363 = .ok (.iconst 2, 1) := by decide +kernel
theorem d_lw_364 : decode code 364 = .ok (.iadd, 1) := by decide +kernel
theorem d_lw_365 : decode code 365 = .ok (.iaload, 1) := by decide +kernel
theorem d_lw_366 : decode code 366 = .ok (.aload_n 0, 1) := by decide +kernel
theorem d_lw_367 : decode code 367 = .ok (.iload_n 3, 1) := by decide +kernel
theorem d_lw_368 : decode code 368 = .ok (.iconst 3, 1) := by decide +kernel
theorem d_lw_369 : decode code 369 = .ok (.iadd, 1) := by decide +kernel
theorem d_lw_370 : decode code 370 = .ok (.iaload, 1) := by decide +kernel
theorem d_lw_371 : decode code 371 = .ok (.invokevirtual 40, 3) := by decide +kernel
theorem d_lw_374 : decode code 374 = .ok (.aload_n 2, 1) := by decide +kernel
theorem d_lw_375 : decode code 375 = .ok (.aload_n 0, 1) := by decide +kernel
theorem d_lw_376 : decode code 376 = .ok (.iload_n 3, 1) := by decide +kernel
theorem d_lw_377 : decode code 377 = .ok (.iconst 1, 1) := by decide +kernel
theorem d_lw_378 : decode code 378 = .ok (.iadd, 1) := by decide +kernel
theorem d_lw_379 : decode code 379 = .ok (.iaload, 1) := by decide +kernel
theorem d_lw_380 : decode code 380 = .ok (.aload_n 0, 1) := by decide +kernel
theorem d_lw_381 : decode code 381 = .ok (.iload_n 3, 1) := by decide +kernel
theorem d_lw_382 : decode code 382 = .ok (.iconst 2, 1) := by decide +kernel
theorem d_lw_383 : decode code 383 = .ok (.iadd, 1) := by decide +kernel
theorem d_lw_384 : decode code 384 = .ok (.iaload, 1) := by decide +kernel
theorem d_lw_385 : decode code 385 = .ok (.aload_n 0, 1) := by decide +kernel
theorem d_lw_386 : decode code 386 = .ok (.iload_n 3, 1) := by decide +kernel
theorem d_lw_387 : decode code 387 = .ok (.iconst 3, 1) := by decide +kernel
theorem d_lw_388 : decode code 388 = .ok (.iadd, 1) := by decide +kernel
theorem d_lw_389 : decode code 389 = .ok (.iaload, 1) := by decide +kernel
theorem d_lw_390 : decode code 390 = .ok (.invokevirtual 43, 3) := by decide +kernel
theorem d_lw_393 : decode code 393 = .ok (.if_icmp .eq 314, 3) := by decide +kernel
theorem d_lw_396 : decode code 396 = .ok (.iconst 0, 1) := by decide +kernel
theorem d_lw_397 : decode code 397 = .ok (.ireturn, 1) := by decide +kernel
theorem d_lw_398 : decode code 398 = .ok (.aload_n 1, 1) := by decide +kernel
theorem d_lw_399 : decode code 399 = .ok (.aload_n 0, 1) := by decide +kernel
theorem d_lw_400 : decode code 400 = .ok (.iload_n 3, 1) := by decide +kernel
theorem d_lw_401 : decode code 401 = .ok (.iconst 1, 1) := by decide +kernel
theorem d_lw_402 : decode code 402 = .ok (.iadd, 1) := by decide +kernel
theorem d_lw_403 : decode code 403 = .ok (.iaload, 1) := by decide +kernel
theorem d_lw_404 : decode code 404 = .ok (.invokevirtual 44, 3) := by decide +kernel
theorem d_lw_407 : decode code 407 = .ok (.aload_n 2, 1) := by decide +kernel
theorem d_lw_408 : decode code 408 = .ok (.aload_n 0, 1) := by decide +kernel
theorem d_lw_409 : decode code 409 = .ok (.iload_n 3, 1) := by decide +kernel
theorem d_lw_410 : decode code 410 = .ok (.iconst 1, 1) := by decide +kernel
theorem d_lw_411 : decode code 411 = .ok (.iadd, 1) := by decide +kernel
theorem d_lw_412 : decode code 412 = .ok (.iaload, 1) := by decide +kernel
theorem d_lw_413 : decode code 413 = .ok (.invokevirtual 48, 3) := by decide +kernel
theorem d_lw_416 : decode code 416 = .ok (.if_icmp .eq 291, 3) := by decide +kernel
theorem d_lw_419 : decode code 419 = .ok (.iconst 0, 1) := by decide +kernel
theorem d_lw_420 : decode code 420 = .ok (.ireturn, 1) := by decide +kernel
theorem d_lw_421 : decode code 421 = .ok (.aload_n 1, 1) := by decide +kernel
theorem d_lw_422 : decode code 422 = .ok (.aload_n 0, 1) := by decide +kernel
theorem d_lw_423 : decode code 423 = .ok (.iload_n 3, 1) := by decide +kernel
theorem d_lw_424 : decode code 424 = .ok (.iconst 1, 1) := by decide +kernel
theorem d_lw_425 : decode code 425 = .ok (.iadd, 1) := by decide +kernel
theorem d_lw_426 : decode code 426 = .ok (.iaload, 1) := by decide +kernel
theorem d_lw_427 : decode code 427 = .ok (.invokevirtual 49, 3) := by decide +kernel
theorem d_lw_430 : decode code 430 = .ok (.aload_n 2, 1) := by decide +kernel
theorem d_lw_431 : decode code 431 = .ok (.aload_n 0, 1) := by decide +kernel
theorem d_lw_432 : decode code 432 = .ok (.iload_n 3, 1) := by decide +kernel
theorem d_lw_433 : decode code 433 = .ok (.iconst 1, 1) := by decide +kernel
theorem d_lw_434 : decode code 434 = .ok (.iadd, 1) := by decide +kernel
theorem d_lw_435 : decode code 435 = .ok (.iaload, 1) := by decide +kernel
theorem d_lw_436 : decode code 436 = .ok (.invokevirtual 52, 3) := by decide +kernel
theorem d_lw_439 : decode code 439 = .ok (.if_icmp .eq 268, 3) := by decide +kernel
theorem d_lw_442 : decode code 442 = .ok (.iconst 0, 1) := by decide +kernel
theorem d_lw_443 : decode code 443 = .ok (.ireturn, 1) := by decide +kernel
theorem d_lw_444 : decode code 444 = .ok (.aload_n 1, 1) := by decide +kernel
theorem d_lw_445 : decode code 445 = .ok (.aload_n 0, 1) := by decide +kernel
theorem d_lw_446 : decode code 446 = .ok (.iload_n 3, 1) := by decide +kernel
theorem d_lw_447 : decode code 447 = .ok (.iconst 1, 1) := by decide +kernel
theorem d_lw_448 : decode code 448 = .ok (.iadd, 1) := by decide +kernel
theorem d_lw_449 : decode code 449 = .ok (.iaload, 1) := by decide +kernel
theorem d_lw_450 : decode code 450 = .ok (.aload_n 0, 1) := by decide +kernel
theorem d_lw_451 : decode code 451 = .ok (.iload_n 3, 1) := by decide +kernel
theorem d_lw_452 : decode code 452 = .ok (.iconst 2, 1) := by decide +kernel
theorem d_lw_453 : decode code 453 = .ok (.iadd, 1) := by decide +kernel
theorem d_lw_454 : decode code 454 = .ok (.iaload, 1) := by decide +kernel
theorem d_lw_455 : decode code 455 = .ok (.invokevirtual 53, 3) := by decide +kernel
theorem d_lw_458 : decode code 458 = .ok (.aload_n 2, 1) := by decide +kernel
theorem d_lw_459 : decode code 459 = .ok (.aload_n 0, 1) := by decide +kernel
theorem d_lw_460 : decode code 460 = .ok (.iload_n 3, 1) := by decide +kernel
theorem d_lw_461 : decode code 461 = .ok (.iconst 1, 1) := by decide +kernel
theorem d_lw_462 : decode code 462 = .ok (.iadd, 1) := by decide +kernel
theorem d_lw_463 : decode code 463 = .ok (.iaload, 1) := by decide +kernel
theorem d_lw_464 : decode code 464 = .ok (.aload_n 0, 1) := by decide +kernel
theorem d_lw_465 : decode code 465 = .ok (.iload_n 3, 1) := by decide +kernel
theorem d_lw_466 : decode code 466 = .ok (.iconst 2, 1) := by decide +kernel
theorem d_lw_467 : decode code 467 = .ok (.iadd, 1) := by decide +kernel
theorem d_lw_468 : decode code 468 = .ok (.iaload, 1) := by decide +kernel
theorem d_lw_469 : decode code 469 = .ok (.invokevirtual 57, 3) := by decide +kernel
theorem d_lw_472 : decode code 472 = .ok (.if_icmp .eq 235, 3) := by decide +kernel
theorem d_lw_475 : decode code 475 = .ok (.iconst 0, 1) := by decide +kernel
theorem d_lw_476 : decode code 476 = .ok (.ireturn, 1) := by decide +kernel
theorem d_lw_477 : decode code 477 = .ok (.aload_n 1, 1) := by decide +kernel
theorem d_lw_478 : decode code 478 = .ok (.aload_n 0, 1) := by decide +kernel
theorem d_lw_479 : decode code 479 = .ok (.iload_n 3, 1) := by decide +kernel
theorem d_lw_480 : decode code 480 = .ok (.iconst 1, 1) := by decide +kernel
theorem d_lw_481 : decode code 481 = .ok (.iadd, 1) := by decide +kernel
theorem d_lw_482 : decode code 482 = .ok (.iaload, 1) := by decide +kernel
theorem d_lw_483 : decode code 483 = .ok (.aload_n 0, 1) := by decide +kernel
theorem d_lw_484 : decode code 484 = .ok (.iload_n 3, 1) := by decide +kernel
theorem d_lw_485 : decode code 485 = .ok (.iconst 2, 1) := by decide +kernel
theorem d_lw_486 : decode code 486 = .ok (.iadd, 1) := by decide +kernel
theorem d_lw_487 : decode code 487 = .ok (.iaload, 1) := by decide +kernel
theorem d_lw_488 : decode code 488 = .ok (.aload_n 0, 1) := by decide +kernel
theorem d_lw_489 : decode code 489 = .ok (.iload_n 3, 1) := by decide +kernel
theorem d_lw_490 : decode code 490 = .ok (.iconst 3, 1) := by decide +kernel
theorem d_lw_491 : decode code 491 = .ok (.iadd, 1) := by decide +kernel
theorem d_lw_492 : decode code 492 = .ok (.iaload, 1) := by decide +kernel
theorem d_lw_493 : decode code 493 = .ok (.invokevirtual 58, 3) := by decide +kernel
theorem d_lw_496 : decode code 496 = .ok (.aload_n 2, 1) := by decide +kernel
theorem d_lw_497 : decode code 497 = .ok (.aload_n 0, 1) := by decide +kernel
theorem d_lw_498 : decode code 498 = .ok (.iload_n 3, 1) := by decide +kernel
theorem d_lw_499 : decode code 499 = .ok (.iconst 1, 1) := by decide +kernel
theorem d_lw_500 : decode code 500 = .ok (.iadd, 1) := by decide +kernel
theorem d_lw_501 : decode code 501 = .ok (.iaload, 1) := by decide +kernel
theorem d_lw_502 : decode code 502 = .ok (.aload_n 0, 1) := by decide +kernel
theorem d_lw_503 : decode code 503 = .ok (.iload_n 3, 1) := by decide +kernel
theorem d_lw_504 : decode code 504 = .ok (.iconst 2, 1) := by decide +kernel
theorem d_lw_505 : decode code 505 = .ok (.iadd, 1) := by decide +kernel
theorem d_lw_506 : decode code 506 = .ok (.iaload, 1) := by decide +kernel
theorem d_lw_507 : decode code 507 = .ok (.aload_n 0, 1) := by decide +kernel
theorem d_lw_508 : decode code 508 = .ok (.iload_n 3, 1) := by decide +kernel
theorem d_lw_509 : decode code 509 = .ok (.iconst 3, 1) := by decide +kernel
theorem d_lw_510 : decode code 510 = .ok (.iadd, 1) := by decide +kernel
theorem d_lw_511 : decode code 511 = .ok (.iaload, 1) := by decide +kernel
theorem d_lw_512 : decode code 512 = .ok (.invokevirtual 61, 3) := by decide +kernel
theorem d_lw_515 : decode code 515 = .ok (.lcmp, 1) := by decide +kernel
theorem d_lw_516 : decode code 516 = .ok (.ifCond .eq 191, 3) := by decide +kernel
theorem d_lw_519 : decode code 519 = .ok (.iconst 0, 1) := by decide +kernel
theorem d_lw_520 : decode code 520 = .ok (.ireturn, 1) := by decide +kernel
theorem d_lw_521 : decode code 521 = .ok (.aload_n 1, 1) := by decide +kernel
theorem d_lw_522 : decode code 522 = .ok (.aload_n 0, 1) := by decide +kernel
theorem d_lw_523 : decode code 523 = .ok (.iload_n 3, 1) := by decide +kernel
theorem d_lw_524 : decode code 524 = .ok (.iconst 1, 1) := by decide +kernel
theorem d_lw_525 : decode code 525 = .ok (.iadd, 1) := by decide +kernel
theorem d_lw_526 : decode code 526 = .ok (.iaload, 1) := by decide +kernel
theorem d_lw_527 : decode code 527 = .ok (.invokevirtual 62, 3) := by decide +kernel
theorem d_lw_530 : decode code 530 = .ok (.aload_n 2, 1) := by decide +kernel
theorem d_lw_531 : decode code 531 = .ok (.aload_n 0, 1) := by decide +kernel
theorem d_lw_532 : decode code 532 = .ok (.iload_n 3, 1) := by decide +kernel
theorem d_lw_533 : decode code 533 = .ok (.iconst 1, 1) := by decide +kernel
theorem d_lw_534 : decode code 534 = .ok (.iadd, 1) := by decide +kernel
theorem d_lw_535 : decode code 535 = .ok (.iaload, 1) := by decide +kernel
theorem d_lw_536 : decode code 536 = .ok (.invokevirtual 66, 3) := by decide +kernel
theorem d_lw_539 : decode code 539 = .ok (.lcmp, 1) := by decide +kernel
theorem d_lw_540 : decode code 540 = .ok (.ifCond .eq 167, 3) := by decide +kernel
theorem d_lw_543 : decode code 543 = .ok (.iconst 0, 1) := by decide +kernel
theorem d_lw_544 : decode code 544 = .ok (.ireturn, 1) := by decide +kernel
theorem d_lw_545 : decode code 545 = .ok (.aload_n 1, 1) := by decide +kernel
theorem d_lw_546 : decode code 546 = .ok (.aload_n 0, 1) := by decide +kernel
theorem d_lw_547 : decode code 547 = .ok (.iload_n 3, 1) := by decide +kernel
theorem d_lw_548 : decode code 548 = .ok (.iconst 1, 1) := by decide +kernel
theorem d_lw_549 : decode code 549 = .ok (.iadd, 1) := by decide +kernel
theorem d_lw_550 : decode code 550 = .ok (.iaload, 1) := by decide +kernel
theorem d_lw_551 : decode code 551 = .ok (.aload_n 0, 1) := by decide +kernel
theorem d_lw_552 : decode code 552 = .ok (.iload_n 3, 1) := by decide +kernel
theorem d_lw_553 : decode code 553 = .ok (.iconst 2, 1) := by decide +kernel
theorem d_lw_554 : decode code 554 = .ok (.iadd, 1) := by decide +kernel
theorem d_lw_555 : decode code 555 = .ok (.iaload, 1) := by decide +kernel
theorem d_lw_556 : decode code 556 = .ok (.aload_n 0, 1) := by decide +kernel
theorem d_lw_557 : decode code 557 = .ok (.iload_n 3, 1) := by decide +kernel
theorem d_lw_558 : decode code 558 = .ok (.iconst 3, 1) := by decide +kernel
theorem d_lw_559 : decode code 559 = .ok (.iadd, 1) := by decide +kernel
theorem d_lw_560 : decode code 560 = .ok (.iaload, 1) := by decide +kernel
theorem d_lw_561 : decode code 561 = .ok (.invokevirtual 67, 3) := by decide +kernel
theorem d_lw_564 : decode code 564 = .ok (.aload_n 2, 1) := by decide +kernel
theorem d_lw_565 : decode code 565 = .ok (.aload_n 0, 1) := by decide +kernel
theorem d_lw_566 : decode code 566 = .ok (.iload_n 3, 1) := by decide +kernel
theorem d_lw_567 : decode code 567 = .ok (.iconst 1, 1) := by decide +kernel
theorem d_lw_568 : decode code 568 = .ok (.iadd, 1) := by decide +kernel
theorem d_lw_569 : decode code 569 = .ok (.iaload, 1) := by decide +kernel
theorem d_lw_570 : decode code 570 = .ok (.aload_n 0, 1) := by decide +kernel
theorem d_lw_571 : decode code 571 = .ok (.iload_n 3, 1) := by decide +kernel
theorem d_lw_572 : decode code 572 = .ok (.iconst 2, 1) := by decide +kernel
theorem d_lw_573 : decode code 573 = .ok (.iadd, 1) := by decide +kernel
theorem d_lw_574 : decode code 574 = .ok (.iaload, 1) := by decide +kernel
theorem d_lw_575 : decode code 575 = .ok (.aload_n 0, 1) := by decide +kernel
theorem d_lw_576 : decode code 576 = .ok (.iload_n 3, 1) := by decide +kernel
theorem d_lw_577 : decode code 577 = .ok (.iconst 3, 1) := by decide +kernel
theorem d_lw_578 : decode code 578 = .ok (.iadd, 1) := by decide +kernel
theorem d_lw_579 : decode code 579 = .ok (.iaload, 1) := by decide +kernel
theorem d_lw_580 : decode code 580 = .ok (.invokevirtual 71, 3) := by decide +kernel
theorem d_lw_583 : decode code 583 = .ok (.if_icmp .eq 124, 3) := by decide +kernel
theorem d_lw_586 : decode code 586 = .ok (.iconst 0, 1) := by decide +kernel
theorem d_lw_587 : decode code 587 = .ok (.ireturn, 1) := by decide +kernel
theorem d_lw_588 : decode code 588 = .ok (.aload_n 1, 1) := by decide +kernel
theorem d_lw_589 : decode code 589 = .ok (.aload_n 0, 1) := by decide +kernel
theorem d_lw_590 : decode code 590 = .ok (.iload_n 3, 1) := by decide +kernel
theorem d_lw_591 : decode code 591 = .ok (.iconst 1, 1) := by decide +kernel
theorem d_lw_592 : decode code 592 = .ok (.iadd, 1) := by decide +kernel
theorem d_lw_593 : decode code 593 = .ok (.iaload, 1) := by decide +kernel
theorem d_lw_594 : decode code 594 = .ok (.aload_n 0, 1) := by decide +kernel
theorem d_lw_595 : decode code 595 = .ok (.iload_n 3, 1) := by decide +kernel
theorem d_lw_596 : decode code 596 = .ok (.iconst 2, 1) := by decide +kernel
theorem d_lw_597 : decode code 597 = .ok (.iadd, 1) := by decide +kernel
theorem d_lw_598 : decode code 598 = .ok (.iaload, 1) := by decide +kernel
theorem d_lw_599 : decode code 599 = .ok (.invokevirtual 72, 3) := by decide +kernel
theorem d_lw_602 : decode code 602 = .ok (.aload_n 2, 1) := by decide +kernel
theorem d_lw_603 : decode code 603 = .ok (.aload_n 0, 1) := by decide +kernel
theorem d_lw_604 : decode code 604 = .ok (.iload_n 3, 1) := by decide +kernel
theorem d_lw_605 : decode code 605 = .ok (.iconst 1, 1) := by decide +kernel
theorem d_lw_606 : decode code 606 = .ok (.iadd, 1) := by decide +kernel
theorem d_lw_607 : decode code 607 = .ok (.iaload, 1) := by decide +kernel
theorem d_lw_608 : decode code 608 = .ok (.aload_n 0, 1) := by decide +kernel
theorem d_lw_609 : decode code 609 = .ok (.iload_n 3, 1) := by decide +kernel
theorem d_lw_610 : decode code 610 = .ok (.iconst 2, 1) := by decide +kernel
theorem d_lw_611 : decode code 611 = .ok (.iadd, 1) := by decide +kernel
theorem d_lw_612 : decode code 612 = .ok (.iaload, 1) := by decide +kernel
theorem d_lw_613 : decode code 613 = .ok (.invokevirtual 75, 3) := by decide +kernel
theorem d_lw_616 : decode code 616 = .ok (.if_icmp .eq 91, 3) := by decide +kernel
theorem d_lw_619 : decode code 619 = .ok (.iconst 0, 1) := by decide +kernel
theorem d_lw_620 : decode code 620 = .ok (.ireturn, 1) := by decide +kernel
theorem d_lw_621 : decode code 621 = .ok (.aload_n 1, 1) := by decide +kernel
theorem d_lw_622 : decode code 622 = .ok (.aload_n 0, 1) := by decide +kernel
theorem d_lw_623 : decode code 623 = .ok (.iload_n 3, 1) := by decide +kernel
theorem d_lw_624 : decode code 624 = .ok (.iconst 1, 1) := by decide +kernel
theorem d_lw_625 : decode code 625 = .ok (.iadd, 1) := by decide +kernel
theorem d_lw_626 : decode code 626 = .ok (.iaload, 1) := by decide +kernel
theorem d_lw_627 : decode code 627 = .ok (.aload_n 0, 1) := by decide +kernel
theorem d_lw_628 : decode code 628 = .ok (.iload_n 3, 1) := by decide +kernel
theorem d_lw_629 : decode code 629 = .ok (.iconst 2, 1) := by decide +kernel
theorem d_lw_630 : decode code 630 = .ok (.iadd, 1) := by decide +kernel
theorem d_lw_631 : decode code 631 = .ok (.iaload, 1) := by decide +kernel
theorem d_lw_632 : decode code 632 = .ok (.invokevirtual 76, 3) := by decide +kernel
theorem d_lw_635 : decode code 635 = .ok (.aload_n 2, 1) := by decide +kernel
theorem d_lw_636 : decode code 636 = .ok (.aload_n 0, 1) := by decide +kernel
theorem d_lw_637 : decode code 637 = .ok (.iload_n 3, 1) := by decide +kernel
theorem d_lw_638 : decode code 638 = .ok (.iconst 1, 1) := by decide +kernel
theorem d_lw_639 : decode code 639 = .ok (.iadd, 1) := by decide +kernel
theorem d_lw_640 : decode code 640 = .ok (.iaload, 1) := by decide +kernel
theorem d_lw_641 : decode code 641 = .ok (.aload_n 0, 1) := by decide +kernel
theorem d_lw_642 : decode code 642 = .ok (.iload_n 3, 1) := by decide +kernel
theorem d_lw_643 : decode code 643 = .ok (.iconst 2, 1) := by decide +kernel
theorem d_lw_644 : decode code 644 = .ok (.iadd, 1) := by decide +kernel
theorem d_lw_645 : decode code 645 = .ok (.iaload, 1) := by decide +kernel
theorem d_lw_646 : decode code 646 = .ok (.invokevirtual 80, 3) := by decide +kernel
theorem d_lw_649 : decode code 649 = .ok (.if_icmp .eq 58, 3) := by decide +kernel
theorem d_lw_652 : decode code 652 = .ok (.iconst 0, 1) := by decide +kernel
theorem d_lw_653 : decode code 653 = .ok (.ireturn, 1) := by decide +kernel
theorem d_lw_654 : decode code 654 = .ok (.aload_n 1, 1) := by decide +kernel
theorem d_lw_655 : decode code 655 = .ok (.aload_n 0, 1) := by decide +kernel
theorem d_lw_656 : decode code 656 = .ok (.iload_n 3, 1) := by decide +kernel
theorem d_lw_657 : decode code 657 = .ok (.iconst 1, 1) := by decide +kernel
theorem d_lw_658 : decode code 658 = .ok (.iadd, 1) := by decide +kernel
theorem d_lw_659 : decode code 659 = .ok (.iaload, 1) := by decide +kernel
theorem d_lw_660 : decode code 660 = .ok (.aload_n 0, 1) := by decide +kernel
theorem d_lw_661 : decode code 661 = .ok (.iload_n 3, 1) := by decide +kernel
theorem d_lw_662 : decode code 662 = .ok (.iconst 2, 1) := by decide +kernel
theorem d_lw_663 : decode code 663 = .ok (.iadd, 1) := by decide +kernel
theorem d_lw_664 : decode code 664 = .ok (.iaload, 1) := by decide +kernel
theorem d_lw_665 : decode code 665 = .ok (.aload_n 0, 1) := by decide +kernel
theorem d_lw_666 : decode code 666 = .ok (.iload_n 3, 1) := by decide +kernel
theorem d_lw_667 : decode code 667 = .ok (.iconst 3, 1) := by decide +kernel
theorem d_lw_668 : decode code 668 = .ok (.iadd, 1) := by decide +kernel
theorem d_lw_669 : decode code 669 = .ok (.iaload, 1) := by decide +kernel
theorem d_lw_670 : decode code 670 = .ok (.aload_n 0, 1) := by decide +kernel
theorem d_lw_671 : decode code 671 = .ok (.iload_n 3, 1) := by decide +kernel
theorem d_lw_672 : decode code 672 = .ok (.iconst 4, 1) := by decide +kernel
theorem d_lw_673 : decode code 673 = .ok (.iadd, 1) := by decide +kernel
theorem d_lw_674 : decode code 674 = .ok (.iaload, 1) := by decide +kernel
theorem d_lw_675 : decode code 675 = .ok (.invokevirtual 81, 3) := by decide +kernel
theorem d_lw_678 : decode code 678 = .ok (.aload_n 2, 1) := by decide +kernel
theorem d_lw_679 : decode code 679 = .ok (.aload_n 0, 1) := by decide +kernel
theorem d_lw_680 : decode code 680 = .ok (.iload_n 3, 1) := by decide +kernel
theorem d_lw_681 : decode code 681 = .ok (.iconst 1, 1) := by decide +kernel
theorem d_lw_682 : decode code 682 = .ok (.iadd, 1) := by decide +kernel
theorem d_lw_683 : decode code 683 = .ok (.iaload, 1) := by decide +kernel
theorem d_lw_684 : decode code 684 = .ok (.aload_n 0, 1) := by decide +kernel
theorem d_lw_685 : decode code 685 = .ok (.iload_n 3, 1) := by decide +kernel
theorem d_lw_686 : decode code 686 = .ok (.iconst 2, 1) := by decide +kernel
theorem d_lw_687 : decode code 687 = .ok (.iadd, 1) := by decide +kernel
theorem d_lw_688 : decode code 688 = .ok (.iaload, 1) := by decide +kernel
theorem d_lw_689 : decode code 689 = .ok (.aload_n 0, 1) := by decide +kernel
theorem d_lw_690 : decode code 690 = .ok (.iload_n 3, 1) := by decide +kernel
theorem d_lw_691 : decode code 691 = .ok (.iconst 3, 1) := by decide +kernel
theorem d_lw_692 : decode code 692 = .ok (.iadd, 1) := by decide +kernel
theorem d_lw_693 : decode code 693 = .ok (.iaload, 1) := by decide +kernel
theorem d_lw_694 : decode code 694 = .ok (.aload_n 0, 1) := by decide +kernel
theorem d_lw_695 : decode code 695 = .ok (.iload_n 3, 1) := by decide +kernel
theorem d_lw_696 : decode code 696 = .ok (.iconst 4, 1) := by decide +kernel
theorem d_lw_697 : decode code 697 = .ok (.iadd, 1) := by decide +kernel
theorem d_lw_698 : decode code 698 = .ok (.iaload, 1) := by decide +kernel
theorem d_lw_699 : decode code 699 = .ok (.invokevirtual 85, 3) := by decide +kernel
theorem d_lw_702 : decode code 702 = .ok (.if_icmp .eq 5, 3) := by decide +kernel
theorem d_lw_705 : decode code 705 = .ok (.iconst 0, 1) := by decide +kernel
theorem d_lw_706 : decode code 706 = .ok (.ireturn, 1) := by decide +kernel
theorem d_lw_707 : decode code 707 = .ok (.iinc 3 5, 3) := by decide +kernel
theorem d_lw_710 : decode code 710 = .ok (.goto (-692), 3) := by decide +kernel
theorem d_lw_713 : decode code 713 = .ok (.iconst 1, 1) := by decide +kernel
theorem d_lw_714 : decode code 714 = .ok (.ireturn, 1) := by decide +kernel
