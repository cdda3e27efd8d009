theorem d_lw_law_0 : decode code 0 = .ok (.new 7, 3) := by decide +kernel
theorem d_lw_law_3 : decode code 3 = .ok (.dup, 1) := by decide +kernel
theorem d_lw_law_4 : decode code 4 = .ok (.invokespecial 9, 3) := by decide +kernel
theorem d_lw_law_7 : decode code 7 = .ok (.astore_n 1, 1) := by decide +kernel
theorem d_lw_law_8 : decode code 8 = .ok (.new 10, 3) := by decide +kernel
theorem d_lw_law_11 : decode code 11 = .ok (.dup, 1) := by decide +kernel
theorem d_lw_law_12 : decode code 12 = .ok (.invokespecial 12, 3) := by decide +kernel
theorem d_lw_law_15 : decode code 15 = .ok (.astore_n 2, 1) := by decide +kernel
theorem d_lw_law_16 : decode code 16 = .ok (.iconst 0, 1) := by decide +kernel
theorem d_lw_law_17 : decode code 17 = .ok (.istore_n 3, 1) := by decide +kernel
theorem d_lw_law_18 : decode code 18 = .ok (.iload_n 3, 1) := by decide +kernel
theorem d_lw_law_19 : decode code 19 = .ok (.aload_n 0, 1) := by decide +kernel
theorem d_lw_law_20 : decode code 20 = .ok (.arraylength, 1) := by decide +kernel
theorem d_lw_law_21 : decode code 21 = .ok (.iconst 4, 1) := by decide +kernel
theorem d_lw_law_22 : decode code 22 = .ok (.isub, 1) := by decide +kernel
theorem d_lw_law_23 : decode code 23 = .ok (.if_icmp .gt 378, 3) := by decide +kernel
theorem d_lw_law_26 : decode code 26 = .ok (.aload_n 0, 1) := by decide +kernel
theorem d_lw_law_27 : decode code 27 = .ok (.iload_n 3, 1) := by decide +kernel
theorem d_lw_law_28 : decode code 28 = .ok (.iaload, 1) := by decide +kernel
theorem d_lw_law_29 : decode code 29 = .ok (.bipush 15, 2) := by decide +kernel
theorem d_lw_law_31 : decode code 31 = .ok (.iand, 1) := by decide +kernel
theorem d_lw_law_32 : decode code 32 = .ok (.tableswitch 363 0 10 #[60, 93, 116, 149, 162, 185, 218, 241, 264, 297, 340], 60) := by decide +kernel
theorem d_lw_law_92 : decode code 92 = .ok (.aload_n 1, 1) := by decide +kernel
theorem d_lw_law_93 : decode code 93 = .ok (.aload_n 0, 1) := by decide +kernel
theorem d_lw_law_94 : decode code 94 = .ok (.iload_n 3, 1) := by decide +kernel
theorem d_lw_law_95 : decode code 95 = .ok (.iconst 1, 1) := by decide +kernel
theorem d_lw_law_96 : decode code 96 = .ok (.iadd, 1) := by decide +kernel
theorem d_lw_law_97 : decode code 97 = .ok (.iaload, 1) := by decide +kernel
theorem d_lw_law_98 : decode code 98 = .ok (.aload_n 0, 1) := by decide +kernel
theorem d_lw_law_99 : decode code 99 = .ok (.iload_n 3, 1) := by decide +kernel
theorem d_lw_law_100 : decode code 100 = .ok (.iconst 2, 1) := by decide +kernel
theorem d_lw_law_101 : decode code 101 = .ok (.iadd, 1) := by decide +kernel
theorem d_lw_law_102 : decode code 102 = .ok (.iaload, 1) := by decide +kernel
theorem d_lw_law_103 : decode code 103 = .ok (.invokevirtual 13, 3) := by decide +kernel
theorem d_lw_law_106 : decode code 106 = .ok (.pop, 1) := by decide +kernel
theorem d_lw_law_107 : decode code 107 = .ok (.aload_n 2, 1) := by decide +kernel
theorem d_lw_law_108 : decode code 108 = .ok (.aload_n 0, 1) := by decide +kernel
theorem d_lw_law_109 : decode code 109 = .ok (.iload_n 3, 1) := by decide +kernel
theorem d_lw_law_110 : decode code 110 = .ok (.iconst 1, 1) := by decide +kernel
theorem d_lw_law_111 : decode code 111 = .ok (.iadd, 1) := by decide +kernel
theorem d_lw_law_112 : decode code 112 = .ok (.iaload, 1) := by decide +kernel
theorem d_lw_law_113 : decode code 113 = .ok (.aload_n 0, 1) := by decide +kernel
theorem d_lw_law_114 : decode code 114 = .ok (.iload_n 3, 1) := by decide +kernel
theorem d_lw_law_115 : decode code 115 = .ok (.iconst 2, 1) := by decide +kernel
theorem d_lw_law_116 : decode code 116 = .ok (.iadd, 1) := by decide +kernel
theorem d_lw_law_117 : decode code 117 = .ok (.iaload, 1) := by decide +kernel
theorem d_lw_law_118 : decode code 118 = .ok (.invokevirtual 17, 3) := by decide +kernel
theorem d_lw_law_121 : decode code 121 = .ok (.pop, 1) := by decide +kernel
theorem d_lw_law_122 : decode code 122 = .ok (.goto 273, 3) := by decide +kernel
theorem d_lw_law_125 : decode code 125 = .ok (.aload_n 1, 1) := by decide +kernel
theorem d_lw_law_126 : decode code 126 = .ok (.aload_n 0, 1) := by decide +kernel
theorem d_lw_law_127 : decode code 127 = .ok (.iload_n 3, 1) := by decide +kernel
theorem d_lw_law_128 : decode code 128 = .ok (.iconst 1, 1) := by decide +kernel
theorem d_lw_law_129 : decode code 129 = .ok (.iadd, 1) := by decide +kernel
theorem d_lw_law_130 : decode code 130 = .ok (.iaload, 1) := by decide +kernel
theorem d_lw_law_131 : decode code 131 = .ok (.invokevirtual 18, 3) := by decide +kernel
theorem d_lw_law_134 : decode code 134 = .ok (.pop, 1) := by decide +kernel
theorem d_lw_law_135 : decode code 135 = .ok (.aload_n 2, 1) := by decide +kernel
theorem d_lw_law_136 : decode code 136 = .ok (.aload_n 0, 1) := by decide +kernel
theorem d_lw_law_137 : decode code 137 = .ok (.iload_n 3, 1) := by decide +kernel
theorem d_lw_law_138 : decode code 138 = .ok (.iconst 1, 1) := by decide +kernel
theorem d_lw_law_139 : decode code 139 = .ok (.iadd, 1) := by decide +kernel
theorem d_lw_law_140 : decode code 140 = .ok (.iaload, 1) := by decide +kernel
theorem d_lw_law_141 : decode code 141 = .ok (.invokevirtual 22, 3) := by decide +kernel
theorem d_lw_law_144 : decode code 144 = .ok (.pop, 1) := by decide +kernel
theorem d_lw_law_145 : decode code 145 = .ok (.goto 250, 3) := by decide +kernel
theorem d_lw_law_148 : decode code 148 = .ok (.aload_n 1, 1) := by decide +kernel
theorem d_lw_law_149 : decode code 149 = .ok (.aload_n 0, 1) := by decide +kernel
theorem d_lw_law_150 : decode code 150 = .ok (.iload_n 3, 1) := by decide +kernel
theorem d_lw_law_151 : decode code 151 = .ok (.iconst 1, 1) := by decide +kernel
theorem d_lw_law_152 : decode code 152 = .ok (.iadd, 1) := by decide +kernel
theorem d_lw_law_153 : decode code 153 = .ok (.iaload, 1) := by decide +kernel
theorem d_lw_law_154 : decode code 154 = .ok (.aload_n 0, 1) := by decide +kernel
theorem d_lw_law_155 : decode code 155 = .ok (.iload_n 3, 1) := by decide +kernel
theorem d_lw_law_156 : decode code 156 = .ok (.iconst 2, 1) := by decide +kernel
theorem d_lw_law_157 : decode code 157 = .ok (.iadd, 1) := by decide +kernel
theorem d_lw_law_158 : decode code 158 = .ok (.iaload, 1) := by decide +kernel
theorem d_lw_law_159 : decode code 159 = .ok (.invokevirtual 23, 3) := by decide +kernel
theorem d_lw_law_162 : decode code 162 = .ok (.pop, 1) := by decide +kernel
theorem d_lw_law_163 : decode code 163 = .ok (.aload_n 2, 1) := by decide +kernel
theorem d_lw_law_164 : decode code 164 = .ok (.aload_n 0, 1) := by decide +kernel
theorem d_lw_law_165 : decode code 165 = .ok (.iload_n 3, 1) := by decide +kernel
theorem d_lw_law_166 : decode code 166 = .ok (.iconst 1, 1) := by decide +kernel
theorem d_lw_law_167 : decode code 167 = .ok (.iadd, 1) := by decide +kernel
theorem d_lw_law_168 : decode code 168 = .ok (.iaload, 1) := by decide +kernel
theorem d_lw_law_169 : decode code 169 = .ok (.aload_n 0, 1) := by decide +kernel
theorem d_lw_law_170 : decode code 170 = .ok (.iload_n 3, 1) := by decide +kernel
theorem d_lw_law_171 : decode code 171 = .ok (.iconst 2, 1) := by decide +kernel
theorem d_lw_law_172 : decode code 172 = .ok (.iadd, 1) := by decide +kernel
theorem d_lw_law_173 : decode code 173 = .ok (.iaload, 1) := by decide +kernel
theorem d_lw_law_174 : decode code 174 = .ok (.invokevirtual 26, 3) := by decide +kernel
theorem d_lw_law_177 : decode code 177 = .ok (.pop, 1) := by decide +kernel
theorem d_lw_law_178 : decode code 178 = .ok (.goto 217, 3) := by decide +kernel
theorem d_lw_law_181 : decode code 181 = .ok (.aload_n 1, 1) := by decide +kernel
theorem d_lw_law_182 : decode code 182 = .ok (.invokevirtual 27, 3) := by decide +kernel
theorem d_lw_law_185 : decode code 185 = .ok (.pop, 1) := by decide +kernel
theorem d_lw_law_186 : decode code 186 = .ok (.aload_n 2, 1) := by decide +kernel
theorem d_lw_law_187 : decode code 187 = .ok (.invokevirtual 31, 3) := by decide +kernel
theorem d_lw_law_190 : decode code 190 = .ok (.pop, 1) := by decide +kernel
theorem d_lw_law_191 : decode code 191 = .ok (.goto 204, 3) := by decide +kernel
theorem d_lw_law_194 : decode code 194 = .ok (.aload_n 1, 1) := by decide +kernel
theorem d_lw_law_195 : decode code 195 = .ok (.aload_n 0, 1) := by decide +kernel
theorem d_lw_law_196 : decode code 196 = .ok (.iload_n 3, 1) := by decide +kernel
theorem d_lw_law_197 : decode code 197 = .ok (.iconst 1, 1) := by decide +kernel
theorem d_lw_law_198 : decode code 198 = .ok (.iadd, 1) := by decide +kernel
theorem d_lw_law_199 : decode code 199 = .ok (.iaload, 1) := by decide +kernel
theorem d_lw_law_200 : decode code 200 = .ok (.invokevirtual 32, 3) := by decide +kernel
theorem d_lw_law_203 : decode code 203 = .ok (.pop, 1) := by decide +kernel
theorem d_lw_law_204 : decode code 204 = .ok (.aload_n 2, 1) := by decide +kernel
theorem d_lw_law_205 : decode code 205 = .ok (.aload_n 0, 1) := by decide +kernel
theorem d_lw_law_206 : decode code 206 = .ok (.iload_n 3, 1) := by decide +kernel
theorem d_lw_law_207 : decode code 207 = .ok (.iconst 1, 1) := by decide +kernel
theorem d_lw_law_208 : decode code 208 = .ok (.iadd, 1) := by decide +kernel
theorem d_lw_law_209 : decode code 209 = .ok (.iaload, 1) := by decide +kernel
theorem d_lw_law_210 : decode code 210 = .ok (.invokevirtual 35, 3) := by decide +kernel
theorem d_lw_law_213 : decode code 213 = .ok (.pop, 1) := by decide +kernel
theorem d_lw_law_214 : decode code 214 = .ok (.goto 181, 3) := by decide +kernel
theorem d_lw_law_217 : decode code 217 = .ok (.aload_n 1, 1) := by decide +kernel
theorem d_lw_law_218 : decode code 218 = .ok (.aload_n 0, 1) := by decide +kernel
theorem d_lw_law_219 : decode code 219 = .ok (.iload_n 3, 1) := by decide +kernel
theorem d_lw_law_220 : decode code 220 = .ok (.iconst 1, 1) := by decide +kernel
theorem d_lw_law_221 : decode code 221 = .ok (.iadd, 1) := by decide +kernel
theorem d_lw_law_222 : decode code 222 = .ok (.iaload, 1) := by decide +kernel
theorem d_lw_law_223 : decode code 223 = .ok (.aload_n 0, 1) := by decide +kernel
theorem d_lw_law_224 : decode code 224 = .ok (.iload_n 3, 1) := by decide +kernel
theorem d_lw_law_225 : decode code 225 = .ok (.iconst 2, 1) := by decide +kernel
theorem d_lw_law_226 : decode code 226 = .ok (.iadd, 1) := by decide +kernel
theorem d_lw_law_227 : decode code 227 = .ok (.iaload, 1) := by decide +kernel
theorem d_lw_law_228 : decode code 228 = .ok (.invokevirtual 36, 3) := by decide +kernel
theorem d_lw_law_231 : decode code 231 = .ok (.pop2, 1) := by decide +kernel
theorem d_lw_law_232 : decode code 232 = .ok (.aload_n 2, 1) := by decide +kernel
theorem d_lw_law_233 : decode code 233 = .ok (.aload_n 0, 1) := by decide +kernel
theorem d_lw_law_234 : decode code 234 = .ok (.iload_n 3, 1) := by decide +kernel
theorem d_lw_law_235 : decode code 235 = .ok (.iconst 1, 1) := by decide +kernel
theorem d_lw_law_236 : decode code 236 = .ok (.iadd, 1) := by decide +kernel
theorem d_lw_law_237 : decode code 237 = .ok (.iaload, 1) := by decide +kernel
theorem d_lw_law_238 : decode code 238 = .ok (.aload_n 0, 1) := by decide +kernel
theorem d_lw_law_239 : decode code 239 = .ok (.iload_n 3, 1) := by decide +kernel
theorem d_lw_law_240 : decode code 240 = .ok (.iconst 2, 1) := by decide +kernel
theorem d_lw_law_241 : decode code 241 = .ok (.iadd, 1) := by decide +kernel
theorem d_lw_law_242 : decode code 242 = .ok (.iaload, 1) := by decide +kernel
theorem d_lw_law_243 : decode code 243 = .ok (.invokevirtual 40, 3) := by decide +kernel
theorem d_lw_law_246 : decode code 246 = .ok (.pop2, 1) := by decide +kernel
theorem d_lw_law_247 : decode code 247 = .ok (.goto 148, 3) := by decide +kernel
theorem d_lw_law_250 : decode code 250 = .ok (.aload_n 1, 1) := by decide +kernel
theorem d_lw_law_251 : decode code 251 = .ok (.aload_n 0, 1) := by decide +kernel
theorem d_lw_law_252 : decode code 252 = .ok (.iload_n 3, 1) := by decide +kernel
theorem d_lw_law_253 : decode code 253 = .ok (.iconst 1, 1) := by decide +kernel
theorem d_lw_law_254 : decode code 254 = .ok (.iadd, 1) := by decide +kernel
theorem d_lw_law_255 : decode code 255 = .ok (.iaload, 1) := by decide +kernel
theorem d_lw_law_256 : decode code 256 = .ok (.invokevirtual 41, 3) := by decide +kernel
theorem d_lw_law_259 : decode code 259 = .ok (.pop, 1) := by decide +kernel
theorem d_lw_law_260 : decode code 260 = .ok (.aload_n 2, 1) := by decide +kernel
theorem d_lw_law_261 : decode code 261 = .ok (.aload_n 0, 1) := by decide +kernel
theorem d_lw_law_262 : decode code 262 = .ok (.iload_n 3, 1) := by decide +kernel
theorem d_lw_law_263 : decode code 263 = .ok (.iconst 1, 1) := by decide +kernel
theorem d_lw_law_264 : decode code 264 = .ok (.iadd, 1) := by decide +kernel
theorem d_lw_law_265 : decode code 265 = .ok (.iaload, 1) := by decide +kernel
theorem d_lw_law_266 : decode code 266 = .ok (.invokevirtual 44, 3) := by decide +kernel
theorem d_lw_law_269 : decode code 269 = .ok (.pop, 1) := by decide +kernel
theorem d_lw_law_270 : decode code 270 = .ok (.goto 125, 3) := by decide +kernel
theorem d_lw_law_273 : decode code 273 = .ok (.aload_n 1, 1) := by decide +kernel
theorem d_lw_law_274 : decode code 274 = .ok (.aload_n 0, 1) := by decide +kernel
theorem d_lw_law_275 : decode code 275 = .ok (.iload_n 3, 1) := by decide +kernel
theorem d_lw_law_276 : decode code 276 = .ok (.iconst 1, 1) := by decide +kernel
theorem d_lw_law_277 : decode code 277 = .ok (.iadd, 1) := by decide +kernel
theorem d_lw_law_278 : decode code 278 = .ok (.iaload, 1) := by decide +kernel
theorem d_lw_law_279 : decode code 279 = .ok (.invokevirtual 45, 3) := by decide +kernel
theorem d_lw_law_282 : decode code 282 = .ok (.pop, 1) := by decide +kernel
theorem d_lw_law_283 : decode code 283 = .ok (.aload_n 2, 1) := by decide +kernel
theorem d_lw_law_284 : decode code 284 = .ok (.aload_n 0, 1) := by decide +kernel
theorem d_lw_law_285 : decode code 285 = .ok (.iload_n 3, 1) := by decide +kernel
theorem d_lw_law_286 : decode code 286 = .ok (.iconst 1, 1) := by decide +kernel
theorem d_lw_law_287 : decode code 287 = .ok (.iadd, 1) := by decide +kernel
theorem d_lw_law_288 : decode code 288 = .ok (.iaload, 1) := by decide +kernel
theorem d_lw_law_289 : decode code 289 = .ok (.invokevirtual 48, 3) := by decide +kernel
theorem d_lw_law_292 : decode code 292 = .ok (.pop, 1) := by decide +kernel
theorem d_lw_law_293 : decode code 293 = .ok (.goto 102, 3) := by decide +kernel
theorem d_lw_law_296 : decode code 296 = .ok (.aload_n 1, 1) := by decide +kernel
theorem d_lw_law_297 : decode code 297 = .ok (.aload_n 0, 1) := by decide +kernel
theorem d_lw_law_298 : decode code 298 = .ok (.iload_n 3, 1) := by decide +kernel
theorem d_lw_law_299 : decode code 299 = .ok (.iconst 1, 1) := by decide +kernel
theorem d_lw_law_300 : decode code 300 = .ok (.iadd, 1) := by decide +kernel
theorem d_lw_law_301 : decode code 301 = .ok (.iaload, 1) := by decide +kernel
theorem d_lw_law_302 : decode code 302 = .ok (.aload_n 0, 1) := by decide +kernel
theorem d_lw_law_303 : decode code 303 = .ok (.iload_n 3, 1) := by decide +kernel
theorem d_lw_law_304 : decode code 304 = .ok (.iconst 2, 1) := by decide +kernel
theorem d_lw_law_305 : decode code 305 = .ok (.iadd, 1) := by decide +kernel
theorem d_lw_law_306 : decode code 306 = .ok (.iaload, 1) := by decide +kernel
theorem d_lw_law_307 : decode code 307 = .ok (.invokevirtual 49, 3) := by decide +kernel
theorem d_lw_law_310 : decode code 310 = .ok (.pop, 1) := by decide +kernel
theorem d_lw_law_311 : decode code 311 = .ok (.aload_n 2, 1) := by decide +kernel
theorem d_lw_law_312 : decode code 312 = .ok (.aload_n 0, 1) := by decide +kernel
theorem d_lw_law_313 : decode code 313 = .ok (.iload_n 3, 1) := by decide +kernel
theorem d_lw_law_314 : decode code 314 = .ok (.iconst 1, 1) := by decide +kernel
theorem d_lw_law_315 : decode code 315 = .ok (.iadd, 1) := by decide +kernel
theorem d_lw_law_316 : decode code 316 = .ok (.iaload, 1) := by decide +kernel
theorem d_lw_law_317 : decode code 317 = .ok (.aload_n 0, 1) := by decide +kernel
theorem d_lw_law_318 : decode code 318 = .ok (.iload_n 3, 1) := by decide +kernel
theorem d_lw_law_319 : decode code 319 = .ok (.iconst 2, 1) := by decide +kernel
theorem d_lw_law_320 : decode code 320 = .ok (.iadd, 1) := by decide +kernel
theorem d_lw_law_321 : decode code 321 = .ok (.iaload, 1) := by decide +kernel
theorem d_lw_law_322 : decode code 322 = .ok (.invokevirtual 52, 3) := by decide +kernel
theorem d_lw_law_325 : decode code 325 = .ok (.pop, 1) := by decide +kernel
theorem d_lw_law_326 : decode code 326 = .ok (.goto 69, 3) := by decide +kernel
theorem d_lw_law_329 : decode code 329 = .ok (.aload_n 1, 1) := by decide +kernel
theorem d_lw_law_330 : decode code 330 = .ok (.aload_n 0, 1) := by decide +kernel
theorem d_lw_law_331 : decode code 331 = .ok (.iload_n 3, 1) := by decide +kernel
theorem d_lw_law_332 : decode code 332 = .ok (.iconst 1, 1) := by decide +kernel
theorem d_lw_law_333 : decode code 333 = .ok (.iadd, 1) := by decide +kernel
theorem d_lw_law_334 : decode code 334 = .ok (.iaload, 1) := by decide +kernel
theorem d_lw_law_335 : decode code 335 = .ok (.aload_n 0, 1) := by decide +kernel
theorem d_lw_law_336 : decode code 336 = .ok (.iload_n 3, 1) := by decide +kernel
theorem d_lw_law_337 : decode code 337 = .ok (.iconst 2, 1) := by decide +kernel
theorem d_lw_law_338 : decode code 338 = .ok (.iadd, 1) := by decide +kernel
theorem d_lw_law_339 : decode code 339 = .ok (.iaload, 1) := by decide +kernel
theorem d_lw_law_340 : decode code 340 = .ok (.aload_n 0, 1) := by decide +kernel
theorem d_lw_law_341 : decode code 341 = .ok (.iload_n 3, 1) := by decide +kernel
theorem d_lw_law_342 : decode code 342 = .ok (.iconst 3, 1) := by decide +kernel
theorem d_lw_law_343 : decode code 343 = .ok (.iadd, 1) := by decide +kernel
theorem d_lw_law_344 : decode code 344 = .ok (.iaload, 1) := by decide +kernel
theorem d_lw_law_345 : decode code 345 = .ok (.invokevirtual 53, 3) := by decide +kernel
theorem d_lw_law_348 : decode code 348 = .ok (.pop, 1) := by decide +kernel
theorem d_lw_law_349 : decode code 349 = .ok (.aload_n 2, 1) := by decide +kernel
theorem d_lw_law_350 : decode code 350 = .ok (.aload_n 0, 1) := by decide +kernel
theorem d_lw_law_351 : decode code 351 = .ok (.iload_n 3, 1) := by decide +kernel
theorem d_lw_law_352 : decode code 352 = .ok (.iconst 1, 1) := by decide +kernel
theorem d_lw_law_353 : decode code 353 = .ok (.iadd, 1) := by decide +kernel
theorem d_lw_law_354 : decode code 354 = .ok (.iaload, 1) := by decide +kernel
theorem d_lw_law_355 : decode code 355 = .ok (.aload_n 0, 1) := by decide +kernel
theorem d_lw_law_356 : decode code 356 = .ok (.iload_n 3, 1) := by decide +kernel
theorem d_lw_law_357 : decode code 357 = .ok (.iconst 2, 1) := by decide +kernel
theorem d_lw_law_358 : decode code 358 = .ok (.iadd, 1) := by decide +kernel
theorem d_lw_law_359 : decode code 359 = .ok (.iaload, 1) := by decide +kernel
theorem d_lw_law_360 : decode code 360 = .ok (.aload_n 0, 1) := by decide +kernel
theorem d_lw_law_361 : decode code 361 = .ok (.iload_n 3, 1) := by decide +kernel
theorem d_lw_law_362 : decode code 362 = .ok (.iconst 3, 1) := by decide +kernel
theorem d_lw_law_363 : decode code 363 = .ok (.iadd, 1) := by decide +kernel
theorem d_lw_law_364 : decode code 364 = .ok (.iaload, 1) := by decide +kernel
theorem d_lw_law_365 : decode code 365 = .ok (.invokevirtual 57, 3) := by decide +kernel
theorem d_lw_law_368 : decode code 368 = .ok (.pop, 1) := by decide +kernel
theorem d_lw_law_369 : decode code 369 = .ok (.goto 26, 3) := by decide +kernel
theorem d_lw_law_372 : decode code 372 = .ok (.aload_n 1, 1) := by decide +kernel
theorem d_lw_law_373 : decode code 373 = .ok (.aload_n 0, 1) := by decide +kernel
theorem d_lw_law_374 : decode code 374 = .ok (.iload_n 3, 1) := by decide +kernel
theorem d_lw_law_375 : decode code 375 = .ok (.iconst 1, 1) := by decide +kernel
theorem d_lw_law_376 : decode code 376 = .ok (.iadd, 1) := by decide +kernel
theorem d_lw_law_377 : decode code 377 = .ok (.iaload, 1) := by decide +kernel
theorem d_lw_law_378 : decode code 378 = .ok (.invokevirtual 58, 3) := by decide +kernel
theorem d_lw_law_381 : decode code 381 = .ok (.aload_n 2, 1) := by decide +kernel
theorem d_lw_law_382 : decode code 382 = .ok (.aload_n 0, 1) := by decide +kernel
theorem d_lw_law_383 : decode code 383 = .ok (.iload_n 3, 1) := by decide +kernel
theorem d_lw_law_384 : decode code 384 = .ok (.iconst 1, 1) := by decide +kernel
theorem d_lw_law_385 : decode code 385 = .ok (.iadd, 1) := by decide +kernel
theorem d_lw_law_386 : decode code 386 = .ok (.iaload, 1) := by decide +kernel
theorem d_lw_law_387 : decode code 387 = .ok (.invokevirtual 61, 3) := by decide +kernel
theorem d_lw_law_390 : decode code 390 = .ok (.if_icmp .eq 5, 3) := by decide +kernel
theorem d_lw_law_395 : decode code 395 = .ok (.iinc 3 4, 3) := by decide +kernel
theorem d_lw_law_398 : decode code 398 = .ok (.goto (-380), 3) := by decide +kernel
theorem d_lw_law_401 : decode code 401 = .ok (.iconst 1, 1) := by decide +kernel
theorem d_lw_law_402 : decode code 402 = .ok (.ireturn, 1) := by decide +kernel
