theorem dX8_init_0 : decode cX8_init 0 = .ok (.aload_n 0, 1) := by decide +kernel
theorem dX8_init_1 : decode cX8_init 1 = .ok (.invokespecial 7, 3) := by decide +kernel
theorem dX8_init_4 : decode cX8_init 4 = .ok (.aload_n 0, 1) := by decide +kernel
theorem dX8_init_5 : decode cX8_init 5 = .ok (.sipush 139, 3) := by decide +kernel
theorem dX8_init_8 : decode cX8_init 8 = .ok (.newarray .int, 2) := by decide +kernel
theorem dX8_init_10 : decode cX8_init 10 = .ok (.putfield 13, 3) := by decide +kernel
theorem dX8_init_13 : decode cX8_init 13 = .ok (.aload_n 0, 1) := by decide +kernel
theorem dX8_init_14 : decode cX8_init 14 = .ok (.bipush 8, 2) := by decide +kernel
theorem dX8_init_16 : decode cX8_init 16 = .ok (.newarray .long, 2) := by decide +kernel
theorem dX8_init_18 : decode cX8_init 18 = .ok (.putfield 17, 3) := by decide +kernel
theorem dX8_init_21 : decode cX8_init 21 = .ok (.aload_n 0, 1) := by decide +kernel
theorem dX8_init_22 : decode cX8_init 22 = .ok (.sipush 139, 3) := by decide +kernel
theorem dX8_init_25 : decode cX8_init 25 = .ok (.newarray .int, 2) := by decide +kernel
theorem dX8_init_27 : decode cX8_init 27 = .ok (.putfield 21, 3) := by decide +kernel
theorem dX8_init_30 : decode cX8_init 30 = .ok (.aload_n 0, 1) := by decide +kernel
theorem dX8_init_31 : decode cX8_init 31 = .ok (.sipush 139, 3) := by decide +kernel
theorem dX8_init_34 : decode cX8_init 34 = .ok (.newarray .int, 2) := by decide +kernel
theorem dX8_init_36 : decode cX8_init 36 = .ok (.putfield 24, 3) := by decide +kernel
theorem dX8_init_39 : decode cX8_init 39 = .ok (.aload_n 0, 1) := by decide +kernel
theorem dX8_init_40 : decode cX8_init 40 = .ok (.sipush 1668, 3) := by decide +kernel
theorem dX8_init_43 : decode cX8_init 43 = .ok (.newarray .int, 2) := by decide +kernel
theorem dX8_init_45 : decode cX8_init 45 = .ok (.putfield 27, 3) := by decide +kernel
theorem dX8_init_48 : decode cX8_init 48 = .ok (.aload_n 0, 1) := by decide +kernel
theorem dX8_init_49 : decode cX8_init 49 = .ok (.bipush 96, 2) := by decide +kernel
theorem dX8_init_51 : decode cX8_init 51 = .ok (.newarray .long, 2) := by decide +kernel
theorem dX8_init_53 : decode cX8_init 53 = .ok (.putfield 30, 3) := by decide +kernel
theorem dX8_init_56 : decode cX8_init 56 = .ok (.aload_n 0, 1) := by decide +kernel
theorem dX8_init_57 : decode cX8_init 57 = .ok (.bipush 30, 2) := by decide +kernel
theorem dX8_init_59 : decode cX8_init 59 = .ok (.newarray .int, 2) := by decide +kernel
theorem dX8_init_61 : decode cX8_init 61 = .ok (.putfield 33, 3) := by decide +kernel
theorem dX8_init_64 : decode cX8_init 64 = .ok (.aload_n 0, 1) := by decide +kernel
theorem dX8_init_65 : decode cX8_init 65 = .ok (.bipush 30, 2) := by decide +kernel
theorem dX8_init_67 : decode cX8_init 67 = .ok (.newarray .int, 2) := by decide +kernel
theorem dX8_init_69 : decode cX8_init 69 = .ok (.putfield 36, 3) := by decide +kernel
theorem dX8_init_72 : decode cX8_init 72 = .ok (.aload_n 0, 1) := by decide +kernel
theorem dX8_init_73 : decode cX8_init 73 = .ok (.bipush 30, 2) := by decide +kernel
theorem dX8_init_75 : decode cX8_init 75 = .ok (.newarray .int, 2) := by decide +kernel
theorem dX8_init_77 : decode cX8_init 77 = .ok (.putfield 39, 3) := by decide +kernel
theorem dX8_init_80 : decode cX8_init 80 = .ok (.aload_n 0, 1) := by decide +kernel
theorem dX8_init_81 : decode cX8_init 81 = .ok (.bipush 30, 2) := by decide +kernel
theorem dX8_init_83 : decode cX8_init 83 = .ok (.newarray .int, 2) := by decide +kernel
theorem dX8_init_85 : decode cX8_init 85 = .ok (.putfield 42, 3) := by decide +kernel
theorem dX8_init_88 : decode cX8_init 88 = .ok (.aload_n 0, 1) := by decide +kernel
theorem dX8_init_89 : decode cX8_init 89 = .ok (.bipush 8, 2) := by decide +kernel
theorem dX8_init_91 : decode cX8_init 91 = .ok (.newarray .int, 2) := by decide +kernel
theorem dX8_init_93 : decode cX8_init 93 = .ok (.putfield 45, 3) := by decide +kernel
theorem dX8_init_96 : decode cX8_init 96 = .ok (.aload_n 0, 1) := by decide +kernel
theorem dX8_init_97 : decode cX8_init 97 = .ok (.bipush 30, 2) := by decide +kernel
theorem dX8_init_99 : decode cX8_init 99 = .ok (.newarray .boolean, 2) := by decide +kernel
theorem dX8_init_101 : decode cX8_init 101 = .ok (.putfield 48, 3) := by decide +kernel
theorem dX8_init_104 : decode cX8_init 104 = .ok (.aload_n 0, 1) := by decide +kernel
theorem dX8_init_105 : decode cX8_init 105 = .ok (.sipush 1400, 3) := by decide +kernel
theorem dX8_init_108 : decode cX8_init 108 = .ok (.newarray .int, 2) := by decide +kernel
theorem dX8_init_110 : decode cX8_init 110 = .ok (.putfield 52, 3) := by decide +kernel
theorem dX8_init_113 : decode cX8_init 113 = .ok (.aload_n 0, 1) := by decide +kernel
theorem dX8_init_114 : decode cX8_init 114 = .ok (.sipush 700, 3) := by decide +kernel
theorem dX8_init_117 : decode cX8_init 117 = .ok (.newarray .int, 2) := by decide +kernel
theorem dX8_init_119 : decode cX8_init 119 = .ok (.putfield 55, 3) := by decide +kernel
theorem dX8_init_122 : decode cX8_init 122 = .ok (.aload_n 0, 1) := by decide +kernel
theorem dX8_init_123 : decode cX8_init 123 = .ok (.bipush 68, 2) := by decide +kernel
theorem dX8_init_125 : decode cX8_init 125 = .ok (.newarray .byte, 2) := by decide +kernel
theorem dX8_init_127 : decode cX8_init 127 = .ok (.dup, 1) := by decide +kernel
theorem dX8_init_128 : decode cX8_init 128 = .ok (.iconst 0, 1) := by decide +kernel
theorem dX8_init_129 : decode cX8_init 129 = .ok (.bipush 111, 2) := by decide +kernel
theorem dX8_init_131 : decode cX8_init 131 = .ok (.bastore, 1) := by decide +kernel
theorem dX8_init_132 : decode cX8_init 132 = .ok (.dup, 1) := by decide +kernel
theorem dX8_init_133 : decode cX8_init 133 = .ok (.iconst 1, 1) := by decide +kernel
theorem dX8_init_134 : decode cX8_init 134 = .ok (.bipush 102, 2) := by decide +kernel
theorem dX8_init_136 : decode cX8_init 136 = .ok (.bastore, 1) := by decide +kernel
theorem dX8_init_137 : decode cX8_init 137 = .ok (.dup, 1) := by decide +kernel
theorem dX8_init_138 : decode cX8_init 138 = .ok (.iconst 2, 1) := by decide +kernel
theorem dX8_init_139 : decode cX8_init 139 = .ok (.bipush 102, 2) := by decide +kernel
theorem dX8_init_141 : decode cX8_init 141 = .ok (.bastore, 1) := by decide +kernel
theorem dX8_init_142 : decode cX8_init 142 = .ok (.dup, 1) := by decide +kernel
theorem dX8_init_143 : decode cX8_init 143 = .ok (.iconst 3, 1) := by decide +kernel
theorem dX8_init_144 : decode cX8_init 144 = .ok (.bipush 101, 2) := by decide +kernel
theorem dX8_init_146 : decode cX8_init 146 = .ok (.bastore, 1) := by decide +kernel
theorem dX8_init_147 : decode cX8_init 147 = .ok (.dup, 1) := by decide +kernel
theorem dX8_init_148 : decode cX8_init 148 = .ok (.iconst 4, 1) := by decide +kernel
theorem dX8_init_149 : decode cX8_init 149 = .ok (.bipush 114, 2) := by decide +kernel
theorem dX8_init_151 : decode cX8_init 151 = .ok (.bastore, 1) := by decide +kernel
theorem dX8_init_152 : decode cX8_init 152 = .ok (.dup, 1) := by decide +kernel
theorem dX8_init_153 : decode cX8_init 153 = .ok (.iconst 5, 1) := by decide +kernel
theorem dX8_init_154 : decode cX8_init 154 = .ok (.iconst 0, 1) := by decide +kernel
theorem dX8_init_155 : decode cX8_init 155 = .ok (.bastore, 1) := by decide +kernel
theorem dX8_init_156 : decode cX8_init 156 = .ok (.dup, 1) := by decide +kernel
theorem dX8_init_157 : decode cX8_init 157 = .ok (.bipush 6, 2) := by decide +kernel
theorem dX8_init_159 : decode cX8_init 159 = .ok (.bipush 108, 2) := by decide +kernel
theorem dX8_init_161 : decode cX8_init 161 = .ok (.bastore, 1) := by decide +kernel
theorem dX8_init_162 : decode cX8_init 162 = .ok (.dup, 1) := by decide +kernel
theorem dX8_init_163 : decode cX8_init 163 = .ok (.bipush 7, 2) := by decide +kernel
theorem dX8_init_165 : decode cX8_init 165 = .ok (.bipush 105, 2) := by decide +kernel
theorem dX8_init_167 : decode cX8_init 167 = .ok (.bastore, 1) := by decide +kernel
theorem dX8_init_168 : decode cX8_init 168 = .ok (.dup, 1) := by decide +kernel
theorem dX8_init_169 : decode cX8_init 169 = .ok (.bipush 8, 2) := by decide +kernel
theorem dX8_init_171 : decode cX8_init 171 = .ok (.bipush 109, 2) := by decide +kernel
theorem dX8_init_173 : decode cX8_init 173 = .ok (.bastore, 1) := by decide +kernel
theorem dX8_init_174 : decode cX8_init 174 = .ok (.dup, 1) := by decide +kernel
theorem dX8_init_175 : decode cX8_init 175 = .ok (.bipush 9, 2) := by decide +kernel
theorem dX8_init_177 : decode cX8_init 177 = .ok (.bipush 105, 2) := by decide +kernel
theorem dX8_init_179 : decode cX8_init 179 = .ok (.bastore, 1) := by decide +kernel
theorem dX8_init_180 : decode cX8_init 180 = .ok (.dup, 1) := by decide +kernel
theorem dX8_init_181 : decode cX8_init 181 = .ok (.bipush 10, 2) := by decide +kernel
theorem dX8_init_183 : decode cX8_init 183 = .ok (.bipush 116, 2) := by decide +kernel
theorem dX8_init_185 : decode cX8_init 185 = .ok (.bastore, 1) := by decide +kernel
theorem dX8_init_186 : decode cX8_init 186 = .ok (.dup, 1) := by decide +kernel
theorem dX8_init_187 : decode cX8_init 187 = .ok (.bipush 11, 2) := by decide +kernel
theorem dX8_init_189 : decode cX8_init 189 = .ok (.iconst 0, 1) := by decide +kernel
theorem dX8_init_190 : decode cX8_init 190 = .ok (.bastore, 1) := by decide +kernel
theorem dX8_init_191 : decode cX8_init 191 = .ok (.dup, 1) := by decide +kernel
theorem dX8_init_192 : decode cX8_init 192 = .ok (.bipush 12, 2) := by decide +kernel
theorem dX8_init_194 : decode cX8_init 194 = .ok (.bipush 115, 2) := by decide +kernel
theorem dX8_init_196 : decode cX8_init 196 = .ok (.bastore, 1) := by decide +kernel
theorem dX8_init_197 : decode cX8_init 197 = .ok (.dup, 1) := by decide +kernel
theorem dX8_init_198 : decode cX8_init 198 = .ok (.bipush 13, 2) := by decide +kernel
theorem dX8_init_200 : decode cX8_init 200 = .ok (.bipush 104, 2) := by decide +kernel
theorem dX8_init_202 : decode cX8_init 202 = .ok (.bastore, 1) := by decide +kernel
theorem dX8_init_203 : decode cX8_init 203 = .ok (.dup, 1) := by decide +kernel
theorem dX8_init_204 : decode cX8_init 204 = .ok (.bipush 14, 2) := by decide +kernel
theorem dX8_init_206 : decode cX8_init 206 = .ok (.bipush 97, 2) := by decide +kernel
theorem dX8_init_208 : decode cX8_init 208 = .ok (.bastore, 1) := by decide +kernel
theorem dX8_init_209 : decode cX8_init 209 = .ok (.dup, 1) := by decide +kernel
theorem dX8_init_210 : decode cX8_init 210 = .ok (.bipush 15, 2) := by decide +kernel
theorem dX8_init_212 : decode cX8_init 212 = .ok (.bipush 114, 2) := by decide +kernel
theorem dX8_init_214 : decode cX8_init 214 = .ok (.bastore, 1) := by decide +kernel
theorem dX8_init_215 : decode cX8_init 215 = .ok (.dup, 1) := by decide +kernel
theorem dX8_init_216 : decode cX8_init 216 = .ok (.bipush 16, 2) := by decide +kernel
theorem dX8_init_218 : decode cX8_init 218 = .ok (.bipush 101, 2) := by decide +kernel
theorem dX8_init_220 : decode cX8_init 220 = .ok (.bastore, 1) := by decide +kernel
theorem dX8_init_221 : decode cX8_init 221 = .ok (.dup, 1) := by decide +kernel
theorem dX8_init_222 : decode cX8_init 222 = .ok (.bipush 17, 2) := by decide +kernel
theorem dX8_init_224 : decode cX8_init 224 = .ok (.iconst 0, 1) := by decide +kernel
theorem dX8_init_225 : decode cX8_init 225 = .ok (.bastore, 1) := by decide +kernel
theorem dX8_init_226 : decode cX8_init 226 = .ok (.dup, 1) := by decide +kernel
theorem dX8_init_227 : decode cX8_init 227 = .ok (.bipush 18, 2) := by decide +kernel
theorem dX8_init_229 : decode cX8_init 229 = .ok (.bipush 121, 2) := by decide +kernel
theorem dX8_init_231 : decode cX8_init 231 = .ok (.bastore, 1) := by decide +kernel
theorem dX8_init_232 : decode cX8_init 232 = .ok (.dup, 1) := by decide +kernel
theorem dX8_init_233 : decode cX8_init 233 = .ok (.bipush 19, 2) := by decide +kernel
theorem dX8_init_235 : decode cX8_init 235 = .ok (.bipush 105, 2) := by decide +kernel
theorem dX8_init_237 : decode cX8_init 237 = .ok (.bastore, 1) := by decide +kernel
theorem dX8_init_238 : decode cX8_init 238 = .ok (.dup, 1) := by decide +kernel
theorem dX8_init_239 : decode cX8_init 239 = .ok (.bipush 20, 2) := by decide +kernel
theorem dX8_init_241 : decode cX8_init 241 = .ok (.bipush 101, 2) := by decide +kernel
theorem dX8_init_243 : decode cX8_init 243 = .ok (.bastore, 1) := by decide +kernel
theorem dX8_init_244 : decode cX8_init 244 = .ok (.dup, 1) := by decide +kernel
theorem dX8_init_245 : decode cX8_init 245 = .ok (.bipush 21, 2) := by decide +kernel
theorem dX8_init_247 : decode cX8_init 247 = .ok (.bipush 108, 2) := by decide +kernel
theorem dX8_init_249 : decode cX8_init 249 = .ok (.bastore, 1) := by decide +kernel
theorem dX8_init_250 : decode cX8_init 250 = .ok (.dup, 1) := by decide +kernel
theorem dX8_init_251 : decode cX8_init 251 = .ok (.bipush 22, 2) := by decide +kernel
theorem dX8_init_253 : decode cX8_init 253 = .ok (.bipush 100, 2) := by decide +kernel
theorem dX8_init_255 : decode cX8_init 255 = .ok (.bastore, 1) := by decide +kernel
theorem dX8_init_256 : decode cX8_init 256 = .ok (.dup, 1) := by decide +kernel
theorem dX8_init_257 : decode cX8_init 257 = .ok (.bipush 23, 2) := by decide +kernel
theorem dX8_init_259 : decode cX8_init 259 = .ok (.bipush 115, 2) := by decide +kernel
theorem dX8_init_261 : decode cX8_init 261 = .ok (.bastore, 1) := by decide +kernel
theorem dX8_init_262 : decode cX8_init 262 = .ok (.dup, 1) := by decide +kernel
theorem dX8_init_263 : decode cX8_init 263 = .ok (.bipush 24, 2) := by decide +kernel
theorem dX8_init_265 : decode cX8_init 265 = .ok (.iconst 0, 1) := by decide +kernel
theorem dX8_init_266 : decode cX8_init 266 = .ok (.bastore, 1) := by decide +kernel
theorem dX8_init_267 : decode cX8_init 267 = .ok (.dup, 1) := by decide +kernel
theorem dX8_init_268 : decode cX8_init 268 = .ok (.bipush 25, 2) := by decide +kernel
theorem dX8_init_270 : decode cX8_init 270 = .ok (.bipush 116, 2) := by decide +kernel
theorem dX8_init_272 : decode cX8_init 272 = .ok (.bastore, 1) := by decide +kernel
theorem dX8_init_273 : decode cX8_init 273 = .ok (.dup, 1) := by decide +kernel
theorem dX8_init_274 : decode cX8_init 274 = .ok (.bipush 26, 2) := by decide +kernel
theorem dX8_init_276 : decode cX8_init 276 = .ok (.bipush 111, 2) := by decide +kernel
theorem dX8_init_278 : decode cX8_init 278 = .ok (.bastore, 1) := by decide +kernel
theorem dX8_init_279 : decode cX8_init 279 = .ok (.dup, 1) := by decide +kernel
theorem dX8_init_280 : decode cX8_init 280 = .ok (.bipush 27, 2) := by decide +kernel
theorem dX8_init_282 : decode cX8_init 282 = .ok (.iconst 0, 1) := by decide +kernel
theorem dX8_init_283 : decode cX8_init 283 = .ok (.bastore, 1) := by decide +kernel
theorem dX8_init_284 : decode cX8_init 284 = .ok (.dup, 1) := by decide +kernel
theorem dX8_init_285 : decode cX8_init 285 = .ok (.bipush 28, 2) := by decide +kernel
theorem dX8_init_287 : decode cX8_init 287 = .ok (.bipush 100, 2) := by decide +kernel
theorem dX8_init_289 : decode cX8_init 289 = .ok (.bastore, 1) := by decide +kernel
theorem dX8_init_290 : decode cX8_init 290 = .ok (.dup, 1) := by decide +kernel
theorem dX8_init_291 : decode cX8_init 291 = .ok (.bipush 29, 2) := by decide +kernel
theorem dX8_init_293 : decode cX8_init 293 = .ok (.bipush 97, 2) := by decide +kernel
theorem dX8_init_295 : decode cX8_init 295 = .ok (.bastore, 1) := by decide +kernel
theorem dX8_init_296 : decode cX8_init 296 = .ok (.dup, 1) := by decide +kernel
theorem dX8_init_297 : decode cX8_init 297 = .ok (.bipush 30, 2) := by decide +kernel
theorem dX8_init_299 : decode cX8_init 299 = .ok (.bipush 121, 2) := by decide +kernel
theorem dX8_init_301 : decode cX8_init 301 = .ok (.bastore, 1) := by decide +kernel
theorem dX8_init_302 : decode cX8_init 302 = .ok (.dup, 1) := by decide +kernel
theorem dX8_init_303 : decode cX8_init 303 = .ok (.bipush 31, 2) := by decide +kernel
theorem dX8_init_305 : decode cX8_init 305 = .ok (.bipush 115, 2) := by decide +kernel
theorem dX8_init_307 : decode cX8_init 307 = .ok (.bastore, 1) := by decide +kernel
theorem dX8_init_308 : decode cX8_init 308 = .ok (.dup, 1) := by decide +kernel
theorem dX8_init_309 : decode cX8_init 309 = .ok (.bipush 32, 2) := by decide +kernel
theorem dX8_init_311 : decode cX8_init 311 = .ok (.iconst 0, 1) := by decide +kernel
theorem dX8_init_312 : decode cX8_init 312 = .ok (.bastore, 1) := by decide +kernel
theorem dX8_init_313 : decode cX8_init 313 = .ok (.dup, 1) := by decide +kernel
theorem dX8_init_314 : decode cX8_init 314 = .ok (.bipush 33, 2) := by decide +kernel
theorem dX8_init_316 : decode cX8_init 316 = .ok (.bipush 111, 2) := by decide +kernel
theorem dX8_init_318 : decode cX8_init 318 = .ok (.bastore, 1) := by decide +kernel
theorem dX8_init_319 : decode cX8_init 319 = .ok (.dup, 1) := by decide +kernel
theorem dX8_init_320 : decode cX8_init 320 = .ok (.bipush 34, 2) := by decide +kernel
theorem dX8_init_322 : decode cX8_init 322 = .ok (.bipush 110, 2) := by decide +kernel
theorem dX8_init_324 : decode cX8_init 324 = .ok (.bastore, 1) := by decide +kernel
theorem dX8_init_325 : decode cX8_init 325 = .ok (.dup, 1) := by decide +kernel
theorem dX8_init_326 : decode cX8_init 326 = .ok (.bipush 35, 2) := by decide +kernel
theorem dX8_init_328 : decode cX8_init 328 = .ok (.bipush 101, 2) := by decide +kernel
theorem dX8_init_330 : decode cX8_init 330 = .ok (.bastore, 1) := by decide +kernel
theorem dX8_init_331 : decode cX8_init 331 = .ok (.dup, 1) := by decide +kernel
theorem dX8_init_332 : decode cX8_init 332 = .ok (.bipush 36, 2) := by decide +kernel
theorem dX8_init_334 : decode cX8_init 334 = .ok (.iconst 0, 1) := by decide +kernel
theorem dX8_init_335 : decode cX8_init 335 = .ok (.bastore, 1) := by decide +kernel
theorem dX8_init_336 : decode cX8_init 336 = .ok (.dup, 1) := by decide +kernel
theorem dX8_init_337 : decode cX8_init 337 = .ok (.bipush 37, 2) := by decide +kernel
theorem dX8_init_339 : decode cX8_init 339 = .ok (.bipush 111, 2) := by decide +kernel
theorem dX8_init_341 : decode cX8_init 341 = .ok (.bastore, 1) := by decide +kernel
theorem dX8_init_342 : decode cX8_init 342 = .ok (.dup, 1) := by decide +kernel
theorem dX8_init_343 : decode cX8_init 343 = .ok (.bipush 38, 2) := by decide +kernel
theorem dX8_init_345 : decode cX8_init 345 = .ok (.bipush 119, 2) := by decide +kernel
theorem dX8_init_347 : decode cX8_init 347 = .ok (.bastore, 1) := by decide +kernel
theorem dX8_init_348 : decode cX8_init 348 = .ok (.dup, 1) := by decide +kernel
theorem dX8_init_349 : decode cX8_init 349 = .ok (.bipush 39, 2) := by decide +kernel
theorem dX8_init_351 : decode cX8_init 351 = .ok (.bipush 110, 2) := by decide +kernel
theorem dX8_init_353 : decode cX8_init 353 = .ok (.bastore, 1) := by decide +kernel
theorem dX8_init_354 : decode cX8_init 354 = .ok (.dup, 1) := by decide +kernel
theorem dX8_init_355 : decode cX8_init 355 = .ok (.bipush 40, 2) := by decide +kernel
theorem dX8_init_357 : decode cX8_init 357 = .ok (.iconst 0, 1) := by decide +kernel
theorem dX8_init_358 : decode cX8_init 358 = .ok (.bastore, 1) := by decide +kernel
theorem dX8_init_359 : decode cX8_init 359 = .ok (.dup, 1) := by decide +kernel
theorem dX8_init_360 : decode cX8_init 360 = .ok (.bipush 41, 2) := by decide +kernel
theorem dX8_init_362 : decode cX8_init 362 = .ok (.bipush 104, 2) := by decide +kernel
theorem dX8_init_364 : decode cX8_init 364 = .ok (.bastore, 1) := by decide +kernel
theorem dX8_init_365 : decode cX8_init 365 = .ok (.dup, 1) := by decide +kernel
theorem dX8_init_366 : decode cX8_init 366 = .ok (.bipush 42, 2) := by decide +kernel
theorem dX8_init_368 : decode cX8_init 368 = .ok (.bipush 111, 2) := by decide +kernel
theorem dX8_init_370 : decode cX8_init 370 = .ok (.bastore, 1) := by decide +kernel
theorem dX8_init_371 : decode cX8_init 371 = .ok (.dup, 1) := by decide +kernel
theorem dX8_init_372 : decode cX8_init 372 = .ok (.bipush 43, 2) := by decide +kernel
theorem dX8_init_374 : decode cX8_init 374 = .ok (.bipush 108, 2) := by decide +kernel
theorem dX8_init_376 : decode cX8_init 376 = .ok (.bastore, 1) := by decide +kernel
theorem dX8_init_377 : decode cX8_init 377 = .ok (.dup, 1) := by decide +kernel
theorem dX8_init_378 : decode cX8_init 378 = .ok (.bipush 44, 2) := by decide +kernel
theorem dX8_init_380 : decode cX8_init 380 = .ok (.bipush 100, 2) := by decide +kernel
theorem dX8_init_382 : decode cX8_init 382 = .ok (.bastore, 1) := by decide +kernel
theorem dX8_init_383 : decode cX8_init 383 = .ok (.dup, 1) := by decide +kernel
theorem dX8_init_384 : decode cX8_init 384 = .ok (.bipush 45, 2) := by decide +kernel
theorem dX8_init_386 : decode cX8_init 386 = .ok (.bipush 115, 2) := by decide +kernel
theorem dX8_init_388 : decode cX8_init 388 = .ok (.bastore, 1) := by decide +kernel
theorem dX8_init_389 : decode cX8_init 389 = .ok (.dup, 1) := by decide +kernel
theorem dX8_init_390 : decode cX8_init 390 = .ok (.bipush 46, 2) := by decide +kernel
theorem dX8_init_392 : decode cX8_init 392 = .ok (.iconst 0, 1) := by decide +kernel
theorem dX8_init_393 : decode cX8_init 393 = .ok (.bastore, 1) := by decide +kernel
theorem dX8_init_394 : decode cX8_init 394 = .ok (.dup, 1) := by decide +kernel
theorem dX8_init_395 : decode cX8_init 395 = .ok (.bipush 47, 2) := by decide +kernel
theorem dX8_init_397 : decode cX8_init 397 = .ok (.bipush 111, 2) := by decide +kernel
theorem dX8_init_399 : decode cX8_init 399 = .ok (.bastore, 1) := by decide +kernel
theorem dX8_init_400 : decode cX8_init 400 = .ok (.dup, 1) := by decide +kernel
theorem dX8_init_401 : decode cX8_init 401 = .ok (.bipush 48, 2) := by decide +kernel
theorem dX8_init_403 : decode cX8_init 403 = .ok (.bipush 119, 2) := by decide +kernel
theorem dX8_init_405 : decode cX8_init 405 = .ok (.bastore, 1) := by decide +kernel
theorem dX8_init_406 : decode cX8_init 406 = .ok (.dup, 1) := by decide +kernel
theorem dX8_init_407 : decode cX8_init 407 = .ok (.bipush 49, 2) := by decide +kernel
theorem dX8_init_409 : decode cX8_init 409 = .ok (.bipush 110, 2) := by decide +kernel
theorem dX8_init_411 : decode cX8_init 411 = .ok (.bastore, 1) := by decide +kernel
theorem dX8_init_412 : decode cX8_init 412 = .ok (.dup, 1) := by decide +kernel
theorem dX8_init_413 : decode cX8_init 413 = .ok (.bipush 50, 2) := by decide +kernel
theorem dX8_init_415 : decode cX8_init 415 = .ok (.bipush 101, 2) := by decide +kernel
theorem dX8_init_417 : decode cX8_init 417 = .ok (.bastore, 1) := by decide +kernel
theorem dX8_init_418 : decode cX8_init 418 = .ok (.dup, 1) := by decide +kernel
theorem dX8_init_419 : decode cX8_init 419 = .ok (.bipush 51, 2) := by decide +kernel
theorem dX8_init_421 : decode cX8_init 421 = .ok (.bipush 114, 2) := by decide +kernel
theorem dX8_init_423 : decode cX8_init 423 = .ok (.bastore, 1) := by decide +kernel
theorem dX8_init_424 : decode cX8_init 424 = .ok (.dup, 1) := by decide +kernel
theorem dX8_init_425 : decode cX8_init 425 = .ok (.bipush 52, 2) := by decide +kernel
theorem dX8_init_427 : decode cX8_init 427 = .ok (.iconst 0, 1) := by decide +kernel
theorem dX8_init_428 : decode cX8_init 428 = .ok (.bastore, 1) := by decide +kernel
theorem dX8_init_429 : decode cX8_init 429 = .ok (.dup, 1) := by decide +kernel
theorem dX8_init_430 : decode cX8_init 430 = .ok (.bipush 53, 2) := by decide +kernel
theorem dX8_init_432 : decode cX8_init 432 = .ok (.bipush 98, 2) := by decide +kernel
theorem dX8_init_434 : decode cX8_init 434 = .ok (.bastore, 1) := by decide +kernel
theorem dX8_init_435 : decode cX8_init 435 = .ok (.dup, 1) := by decide +kernel
theorem dX8_init_436 : decode cX8_init 436 = .ok (.bipush 54, 2) := by decide +kernel
theorem dX8_init_438 : decode cX8_init 438 = .ok (.bipush 105, 2) := by decide +kernel
theorem dX8_init_440 : decode cX8_init 440 = .ok (.bastore, 1) := by decide +kernel
theorem dX8_init_441 : decode cX8_init 441 = .ok (.dup, 1) := by decide +kernel
theorem dX8_init_442 : decode cX8_init 442 = .ok (.bipush 55, 2) := by decide +kernel
theorem dX8_init_444 : decode cX8_init 444 = .ok (.bipush 100, 2) := by decide +kernel
theorem dX8_init_446 : decode cX8_init 446 = .ok (.bastore, 1) := by decide +kernel
theorem dX8_init_447 : decode cX8_init 447 = .ok (.dup, 1) := by decide +kernel
theorem dX8_init_448 : decode cX8_init 448 = .ok (.bipush 56, 2) := by decide +kernel
theorem dX8_init_450 : decode cX8_init 450 = .ok (.iconst 0, 1) := by decide +kernel
theorem dX8_init_451 : decode cX8_init 451 = .ok (.bastore, 1) := by decide +kernel
theorem dX8_init_452 : decode cX8_init 452 = .ok (.dup, 1) := by decide +kernel
theorem dX8_init_453 : decode cX8_init 453 = .ok (.bipush 57, 2) := by decide +kernel
theorem dX8_init_455 : decode cX8_init 455 = .ok (.bipush 108, 2) := by decide +kernel
theorem dX8_init_457 : decode cX8_init 457 = .ok (.bastore, 1) := by decide +kernel
theorem dX8_init_458 : decode cX8_init 458 = .ok (.dup, 1) := by decide +kernel
theorem dX8_init_459 : decode cX8_init 459 = .ok (.bipush 58, 2) := by decide +kernel
theorem dX8_init_461 : decode cX8_init 461 = .ok (.bipush 111, 2) := by decide +kernel
theorem dX8_init_463 : decode cX8_init 463 = .ok (.bastore, 1) := by decide +kernel
theorem dX8_init_464 : decode cX8_init 464 = .ok (.dup, 1) := by decide +kernel
theorem dX8_init_465 : decode cX8_init 465 = .ok (.bipush 59, 2) := by decide +kernel
theorem dX8_init_467 : decode cX8_init 467 = .ok (.bipush 116, 2) := by decide +kernel
theorem dX8_init_469 : decode cX8_init 469 = .ok (.bastore, 1) := by decide +kernel
theorem dX8_init_470 : decode cX8_init 470 = .ok (.dup, 1) := by decide +kernel
theorem dX8_init_471 : decode cX8_init 471 = .ok (.bipush 60, 2) := by decide +kernel
theorem dX8_init_473 : decode cX8_init 473 = .ok (.bipush 115, 2) := by decide +kernel
theorem dX8_init_475 : decode cX8_init 475 = .ok (.bastore, 1) := by decide +kernel
theorem dX8_init_476 : decode cX8_init 476 = .ok (.dup, 1) := by decide +kernel
theorem dX8_init_477 : decode cX8_init 477 = .ok (.bipush 61, 2) := by decide +kernel
theorem dX8_init_479 : decode cX8_init 479 = .ok (.iconst 0, 1) := by decide +kernel
theorem dX8_init_480 : decode cX8_init 480 = .ok (.bastore, 1) := by decide +kernel
theorem dX8_init_481 : decode cX8_init 481 = .ok (.dup, 1) := by decide +kernel
theorem dX8_init_482 : decode cX8_init 482 = .ok (.bipush 62, 2) := by decide +kernel
theorem dX8_init_484 : decode cX8_init 484 = .ok (.bipush 112, 2) := by decide +kernel
theorem dX8_init_486 : decode cX8_init 486 = .ok (.bastore, 1) := by decide +kernel
theorem dX8_init_487 : decode cX8_init 487 = .ok (.dup, 1) := by decide +kernel
theorem dX8_init_488 : decode cX8_init 488 = .ok (.bipush 63, 2) := by decide +kernel
theorem dX8_init_490 : decode cX8_init 490 = .ok (.bipush 108, 2) := by decide +kernel
theorem dX8_init_492 : decode cX8_init 492 = .ok (.bastore, 1) := by decide +kernel
theorem dX8_init_493 : decode cX8_init 493 = .ok (.dup, 1) := by decide +kernel
theorem dX8_init_494 : decode cX8_init 494 = .ok (.bipush 64, 2) := by decide +kernel
theorem dX8_init_496 : decode cX8_init 496 = .ok (.bipush 97, 2) := by decide +kernel
theorem dX8_init_498 : decode cX8_init 498 = .ok (.bastore, 1) := by decide +kernel
theorem dX8_init_499 : decode cX8_init 499 = .ok (.dup, 1) := by decide +kernel
theorem dX8_init_500 : decode cX8_init 500 = .ok (.bipush 65, 2) := by decide +kernel
theorem dX8_init_502 : decode cX8_init 502 = .ok (.bipush 105, 2) := by decide +kernel
theorem dX8_init_504 : decode cX8_init 504 = .ok (.bastore, 1) := by decide +kernel
theorem dX8_init_505 : decode cX8_init 505 = .ok (.dup, 1) := by decide +kernel
theorem dX8_init_506 : decode cX8_init 506 = .ok (.bipush 66, 2) := by decide +kernel
theorem dX8_init_508 : decode cX8_init 508 = .ok (.bipush 110, 2) := by decide +kernel
theorem dX8_init_510 : decode cX8_init 510 = .ok (.bastore, 1) := by decide +kernel
theorem dX8_init_511 : decode cX8_init 511 = .ok (.dup, 1) := by decide +kernel
theorem dX8_init_512 : decode cX8_init 512 = .ok (.bipush 67, 2) := by decide +kernel
theorem dX8_init_514 : decode cX8_init 514 = .ok (.iconst 0, 1) := by decide +kernel
theorem dX8_init_515 : decode cX8_init 515 = .ok (.bastore, 1) := by decide +kernel
theorem dX8_init_516 : decode cX8_init 516 = .ok (.putfield 58, 3) := by decide +kernel
theorem dX8_init_519 : decode cX8_init 519 = .ok (.aload_n 0, 1) := by decide +kernel
theorem dX8_init_520 : decode cX8_init 520 = .ok (.getfield 13, 3) := by decide +kernel
theorem dX8_init_523 : decode cX8_init 523 = .ok (.invokestatic 62, 3) := by decide +kernel
theorem dX8_init_526 : decode cX8_init 526 = .ok (.return_, 1) := by decide +kernel
theorem dX8_in_0 : decode cX8_in 0 = .ok (.iload_n 0, 1) := by decide +kernel
theorem dX8_in_1 : decode cX8_in 1 = .ok (.iload_n 1, 1) := by decide +kernel
theorem dX8_in_2 : decode cX8_in 2 = .ok (.if_icmp .lt 12, 3) := by decide +kernel
theorem dX8_in_5 : decode cX8_in 5 = .ok (.iload_n 0, 1) := by decide +kernel
theorem dX8_in_6 : decode cX8_in 6 = .ok (.iload_n 2, 1) := by decide +kernel
theorem dX8_in_7 : decode cX8_in 7 = .ok (.if_icmp .gt 7, 3) := by decide +kernel
theorem dX8_in_10 : decode cX8_in 10 = .ok (.iconst 1, 1) := by decide +kernel
theorem dX8_in_11 : decode cX8_in 11 = .ok (.goto 4, 3) := by decide +kernel
theorem dX8_in_14 : decode cX8_in 14 = .ok (.iconst 0, 1) := by decide +kernel
theorem dX8_in_15 : decode cX8_in 15 = .ok (.ireturn, 1) := by decide +kernel
theorem dX8_begins_0 : decode cX8_begins 0 = .ok (.iconst 0, 1) := by decide +kernel
theorem dX8_begins_1 : decode cX8_begins 1 = .ok (.istore_n 1, 1) := by decide +kernel
theorem dX8_begins_2 : decode cX8_begins 2 = .ok (.iload_n 1, 1) := by decide +kernel
theorem dX8_begins_3 : decode cX8_begins 3 = .ok (.sipush 139, 3) := by decide +kernel
theorem dX8_begins_6 : decode cX8_begins 6 = .ok (.if_icmp .ge 13, 3) := by decide +kernel
theorem dX8_begins_9 : decode cX8_begins 9 = .ok (.aload_n 0, 1) := by decide +kernel
theorem dX8_begins_10 : decode cX8_begins 10 = .ok (.iload_n 1, 1) := by decide +kernel
theorem dX8_begins_11 : decode cX8_begins 11 = .ok (.iconst 0, 1) := by decide +kernel
theorem dX8_begins_12 : decode cX8_begins 12 = .ok (.iastore, 1) := by decide +kernel
theorem dX8_begins_13 : decode cX8_begins 13 = .ok (.iinc 1 1, 3) := by decide +kernel
theorem dX8_begins_16 : decode cX8_begins 16 = .ok (.goto (-14), 3) := by decide +kernel
theorem dX8_begins_19 : decode cX8_begins 19 = .ok (.aload_n 0, 1) := by decide +kernel
theorem dX8_begins_20 : decode cX8_begins 20 = .ok (.iconst 0, 1) := by decide +kernel
theorem dX8_begins_21 : decode cX8_begins 21 = .ok (.bipush 100, 2) := by decide +kernel
theorem dX8_begins_23 : decode cX8_begins 23 = .ok (.iastore, 1) := by decide +kernel
theorem dX8_begins_24 : decode cX8_begins 24 = .ok (.aload_n 0, 1) := by decide +kernel
theorem dX8_begins_25 : decode cX8_begins 25 = .ok (.iconst 1, 1) := by decide +kernel
theorem dX8_begins_26 : decode cX8_begins 26 = .ok (.bipush 35, 2) := by decide +kernel
theorem dX8_begins_28 : decode cX8_begins 28 = .ok (.iastore, 1) := by decide +kernel
theorem dX8_begins_29 : decode cX8_begins 29 = .ok (.aload_n 0, 1) := by decide +kernel
theorem dX8_begins_30 : decode cX8_begins 30 = .ok (.iconst 2, 1) := by decide +kernel
theorem dX8_begins_31 : decode cX8_begins 31 = .ok (.bipush 20, 2) := by decide +kernel
theorem dX8_begins_33 : decode cX8_begins 33 = .ok (.iastore, 1) := by decide +kernel
theorem dX8_begins_34 : decode cX8_begins 34 = .ok (.aload_n 0, 1) := by decide +kernel
theorem dX8_begins_35 : decode cX8_begins 35 = .ok (.iconst 4, 1) := by decide +kernel
theorem dX8_begins_36 : decode cX8_begins 36 = .ok (.sipush 999, 3) := by decide +kernel
theorem dX8_begins_39 : decode cX8_begins 39 = .ok (.iastore, 1) := by decide +kernel
theorem dX8_begins_40 : decode cX8_begins 40 = .ok (.aload_n 0, 1) := by decide +kernel
theorem dX8_begins_41 : decode cX8_begins 41 = .ok (.iconst 5, 1) := by decide +kernel
theorem dX8_begins_42 : decode cX8_begins 42 = .ok (.bipush 90, 2) := by decide +kernel
theorem dX8_begins_44 : decode cX8_begins 44 = .ok (.iastore, 1) := by decide +kernel
theorem dX8_begins_45 : decode cX8_begins 45 = .ok (.iconst 0, 1) := by decide +kernel
theorem dX8_begins_46 : decode cX8_begins 46 = .ok (.istore_n 1, 1) := by decide +kernel
theorem dX8_begins_47 : decode cX8_begins 47 = .ok (.iload_n 1, 1) := by decide +kernel
theorem dX8_begins_48 : decode cX8_begins 48 = .ok (.bipush 8, 2) := by decide +kernel
theorem dX8_begins_50 : decode cX8_begins 50 = .ok (.if_icmp .ge 16, 3) := by decide +kernel
theorem dX8_begins_53 : decode cX8_begins 53 = .ok (.aload_n 0, 1) := by decide +kernel
theorem dX8_begins_54 : decode cX8_begins 54 = .ok (.bipush 15, 2) := by decide +kernel
theorem dX8_begins_56 : decode cX8_begins 56 = .ok (.iload_n 1, 1) := by decide +kernel
theorem dX8_begins_57 : decode cX8_begins 57 = .ok (.iadd, 1) := by decide +kernel
theorem dX8_begins_58 : decode cX8_begins 58 = .ok (.iload_n 1, 1) := by decide +kernel
theorem dX8_begins_59 : decode cX8_begins 59 = .ok (.iastore, 1) := by decide +kernel
theorem dX8_begins_60 : decode cX8_begins 60 = .ok (.iinc 1 1, 3) := by decide +kernel
theorem dX8_begins_63 : decode cX8_begins 63 = .ok (.goto (-16), 3) := by decide +kernel
theorem dX8_begins_66 : decode cX8_begins 66 = .ok (.return_, 1) := by decide +kernel
theorem dX8_keeps_0 : decode cX8_keeps 0 = .ok (.aload_n 0, 1) := by decide +kernel
theorem dX8_keeps_1 : decode cX8_keeps 1 = .ok (.getfield 66, 3) := by decide +kernel
theorem dX8_keeps_4 : decode cX8_keeps 4 = .ok (.bipush 12, 2) := by decide +kernel
theorem dX8_keeps_6 : decode cX8_keeps 6 = .ok (.if_icmp .ne 76, 3) := by decide +kernel
theorem dX8_keeps_9 : decode cX8_keeps 9 = .ok (.sipush 139, 3) := by decide +kernel
theorem dX8_keeps_12 : decode cX8_keeps 12 = .ok (.istore_n 1, 1) := by decide +kernel
theorem dX8_keeps_13 : decode cX8_keeps 13 = .ok (.iload_n 1, 1) := by decide +kernel
theorem dX8_keeps_14 : decode cX8_keeps 14 = .ok (.sipush 1668, 3) := by decide +kernel
theorem dX8_keeps_17 : decode cX8_keeps 17 = .ok (.if_icmp .ge 25, 3) := by decide +kernel
theorem dX8_keeps_20 : decode cX8_keeps 20 = .ok (.aload_n 0, 1) := by decide +kernel
theorem dX8_keeps_21 : decode cX8_keeps 21 = .ok (.getfield 27, 3) := by decide +kernel
theorem dX8_keeps_24 : decode cX8_keeps 24 = .ok (.iload_n 1, 1) := by decide +kernel
theorem dX8_keeps_25 : decode cX8_keeps 25 = .ok (.sipush 139, 3) := by decide +kernel
theorem dX8_keeps_28 : decode cX8_keeps 28 = .ok (.isub, 1) := by decide +kernel
theorem dX8_keeps_29 : decode cX8_keeps 29 = .ok (.aload_n 0, 1) := by decide +kernel
theorem dX8_keeps_30 : decode cX8_keeps 30 = .ok (.getfield 27, 3) := by decide +kernel
theorem dX8_keeps_33 : decode cX8_keeps 33 = .ok (.iload_n 1, 1) := by decide +kernel
theorem dX8_keeps_34 : decode cX8_keeps 34 = .ok (.iaload, 1) := by decide +kernel
theorem dX8_keeps_35 : decode cX8_keeps 35 = .ok (.iastore, 1) := by decide +kernel
theorem dX8_keeps_36 : decode cX8_keeps 36 = .ok (.iinc 1 1, 3) := by decide +kernel
theorem dX8_keeps_39 : decode cX8_keeps 39 = .ok (.goto (-26), 3) := by decide +kernel
theorem dX8_keeps_42 : decode cX8_keeps 42 = .ok (.bipush 8, 2) := by decide +kernel
theorem dX8_keeps_44 : decode cX8_keeps 44 = .ok (.istore_n 1, 1) := by decide +kernel
theorem dX8_keeps_45 : decode cX8_keeps 45 = .ok (.iload_n 1, 1) := by decide +kernel
theorem dX8_keeps_46 : decode cX8_keeps 46 = .ok (.bipush 96, 2) := by decide +kernel
theorem dX8_keeps_48 : decode cX8_keeps 48 = .ok (.if_icmp .ge 24, 3) := by decide +kernel
theorem dX8_keeps_51 : decode cX8_keeps 51 = .ok (.aload_n 0, 1) := by decide +kernel
theorem dX8_keeps_52 : decode cX8_keeps 52 = .ok (.getfield 30, 3) := by decide +kernel
theorem dX8_keeps_55 : decode cX8_keeps 55 = .ok (.iload_n 1, 1) := by decide +kernel
theorem dX8_keeps_56 : decode cX8_keeps 56 = .ok (.bipush 8, 2) := by decide +kernel
theorem dX8_keeps_58 : decode cX8_keeps 58 = .ok (.isub, 1) := by decide +kernel
theorem dX8_keeps_59 : decode cX8_keeps 59 = .ok (.aload_n 0, 1) := by decide +kernel
theorem dX8_keeps_60 : decode cX8_keeps 60 = .ok (.getfield 30, 3) := by decide +kernel
theorem dX8_keeps_63 : decode cX8_keeps 63 = .ok (.iload_n 1, 1) := by decide +kernel
theorem dX8_keeps_64 : decode cX8_keeps 64 = .ok (.laload, 1) := by decide +kernel
theorem dX8_keeps_65 : decode cX8_keeps 65 = .ok (.lastore, 1) := by decide +kernel
theorem dX8_keeps_66 : decode cX8_keeps 66 = .ok (.iinc 1 1, 3) := by decide +kernel
theorem dX8_keeps_69 : decode cX8_keeps 69 = .ok (.goto (-24), 3) := by decide +kernel
theorem dX8_keeps_72 : decode cX8_keeps 72 = .ok (.aload_n 0, 1) := by decide +kernel
theorem dX8_keeps_73 : decode cX8_keeps 73 = .ok (.dup, 1) := by decide +kernel
theorem dX8_keeps_74 : decode cX8_keeps 74 = .ok (.getfield 66, 3) := by decide +kernel
theorem dX8_keeps_77 : decode cX8_keeps 77 = .ok (.iconst 1, 1) := by decide +kernel
theorem dX8_keeps_78 : decode cX8_keeps 78 = .ok (.isub, 1) := by decide +kernel
theorem dX8_keeps_79 : decode cX8_keeps 79 = .ok (.putfield 66, 3) := by decide +kernel
theorem dX8_keeps_82 : decode cX8_keeps 82 = .ok (.iconst 0, 1) := by decide +kernel
theorem dX8_keeps_83 : decode cX8_keeps 83 = .ok (.istore_n 1, 1) := by decide +kernel
theorem dX8_keeps_84 : decode cX8_keeps 84 = .ok (.iload_n 1, 1) := by decide +kernel
theorem dX8_keeps_85 : decode cX8_keeps 85 = .ok (.sipush 139, 3) := by decide +kernel
theorem dX8_keeps_88 : decode cX8_keeps 88 = .ok (.if_icmp .ge 30, 3) := by decide +kernel
theorem dX8_keeps_91 : decode cX8_keeps 91 = .ok (.aload_n 0, 1) := by decide +kernel
theorem dX8_keeps_92 : decode cX8_keeps 92 = .ok (.getfield 27, 3) := by decide +kernel
theorem dX8_keeps_95 : decode cX8_keeps 95 = .ok (.sipush 139, 3) := by decide +kernel
theorem dX8_keeps_98 : decode cX8_keeps 98 = .ok (.aload_n 0, 1) := by decide +kernel
theorem dX8_keeps_99 : decode cX8_keeps 99 = .ok (.getfield 66, 3) := by decide +kernel
theorem dX8_keeps_102 : decode cX8_keeps 102 = .ok (.imul, 1) := by decide +kernel
theorem dX8_keeps_103 : decode cX8_keeps 103 = .ok (.iload_n 1, 1) := by decide +kernel
theorem dX8_keeps_104 : decode cX8_keeps 104 = .ok (.iadd, 1) := by decide +kernel
theorem dX8_keeps_105 : decode cX8_keeps 105 = .ok (.aload_n 0, 1) := by decide +kernel
theorem dX8_keeps_106 : decode cX8_keeps 106 = .ok (.getfield 13, 3) := by decide +kernel
theorem dX8_keeps_109 : decode cX8_keeps 109 = .ok (.iload_n 1, 1) := by decide +kernel
theorem dX8_keeps_110 : decode cX8_keeps 110 = .ok (.iaload, 1) := by decide +kernel
theorem dX8_keeps_111 : decode cX8_keeps 111 = .ok (.iastore, 1) := by decide +kernel
theorem dX8_keeps_112 : decode cX8_keeps 112 = .ok (.iinc 1 1, 3) := by decide +kernel
theorem dX8_keeps_115 : decode cX8_keeps 115 = .ok (.goto (-31), 3) := by decide +kernel
theorem dX8_keeps_118 : decode cX8_keeps 118 = .ok (.iconst 0, 1) := by decide +kernel
theorem dX8_keeps_119 : decode cX8_keeps 119 = .ok (.istore_n 1, 1) := by decide +kernel
theorem dX8_keeps_120 : decode cX8_keeps 120 = .ok (.iload_n 1, 1) := by decide +kernel
theorem dX8_keeps_121 : decode cX8_keeps 121 = .ok (.bipush 8, 2) := by decide +kernel
theorem dX8_keeps_123 : decode cX8_keeps 123 = .ok (.if_icmp .ge 29, 3) := by decide +kernel
theorem dX8_keeps_126 : decode cX8_keeps 126 = .ok (.aload_n 0, 1) := by decide +kernel
theorem dX8_keeps_127 : decode cX8_keeps 127 = .ok (.getfield 30, 3) := by decide +kernel
theorem dX8_keeps_130 : decode cX8_keeps 130 = .ok (.bipush 8, 2) := by decide +kernel
theorem dX8_keeps_132 : decode cX8_keeps 132 = .ok (.aload_n 0, 1) := by decide +kernel
theorem dX8_keeps_133 : decode cX8_keeps 133 = .ok (.getfield 66, 3) := by decide +kernel
theorem dX8_keeps_136 : decode cX8_keeps 136 = .ok (.imul, 1) := by decide +kernel
theorem dX8_keeps_137 : decode cX8_keeps 137 = .ok (.iload_n 1, 1) := by decide +kernel
theorem dX8_keeps_138 : decode cX8_keeps 138 = .ok (.iadd, 1) := by decide +kernel
theorem dX8_keeps_139 : decode cX8_keeps 139 = .ok (.aload_n 0, 1) := by decide +kernel
theorem dX8_keeps_140 : decode cX8_keeps 140 = .ok (.getfield 17, 3) := by decide +kernel
theorem dX8_keeps_143 : decode cX8_keeps 143 = .ok (.iload_n 1, 1) := by decide +kernel
theorem dX8_keeps_144 : decode cX8_keeps 144 = .ok (.laload, 1) := by decide +kernel
theorem dX8_keeps_145 : decode cX8_keeps 145 = .ok (.lastore, 1) := by decide +kernel
theorem dX8_keeps_146 : decode cX8_keeps 146 = .ok (.iinc 1 1, 3) := by decide +kernel
theorem dX8_keeps_149 : decode cX8_keeps 149 = .ok (.goto (-29), 3) := by decide +kernel
theorem dX8_keeps_152 : decode cX8_keeps 152 = .ok (.aload_n 0, 1) := by decide +kernel
theorem dX8_keeps_153 : decode cX8_keeps 153 = .ok (.dup, 1) := by decide +kernel
theorem dX8_keeps_154 : decode cX8_keeps 154 = .ok (.getfield 66, 3) := by decide +kernel
theorem dX8_keeps_157 : decode cX8_keeps 157 = .ok (.iconst 1, 1) := by decide +kernel
theorem dX8_keeps_158 : decode cX8_keeps 158 = .ok (.iadd, 1) := by decide +kernel
theorem dX8_keeps_159 : decode cX8_keeps 159 = .ok (.putfield 66, 3) := by decide +kernel
theorem dX8_keeps_162 : decode cX8_keeps 162 = .ok (.return_, 1) := by decide +kernel
theorem dX8_putsAside_0 : decode cX8_putsAside 0 = .ok (.iconst 0, 1) := by decide +kernel
theorem dX8_putsAside_1 : decode cX8_putsAside 1 = .ok (.istore_n 1, 1) := by decide +kernel
theorem dX8_putsAside_2 : decode cX8_putsAside 2 = .ok (.iload_n 1, 1) := by decide +kernel
theorem dX8_putsAside_3 : decode cX8_putsAside 3 = .ok (.sipush 139, 3) := by decide +kernel
theorem dX8_putsAside_6 : decode cX8_putsAside 6 = .ok (.if_icmp .ge 21, 3) := by decide +kernel
theorem dX8_putsAside_9 : decode cX8_putsAside 9 = .ok (.aload_n 0, 1) := by decide +kernel
theorem dX8_putsAside_10 : decode cX8_putsAside 10 = .ok (.getfield 24, 3) := by decide +kernel
theorem dX8_putsAside_13 : decode cX8_putsAside 13 = .ok (.iload_n 1, 1) := by decide +kernel
theorem dX8_putsAside_14 : decode cX8_putsAside 14 = .ok (.aload_n 0, 1) := by decide +kernel
theorem dX8_putsAside_15 : decode cX8_putsAside 15 = .ok (.getfield 13, 3) := by decide +kernel
theorem dX8_putsAside_18 : decode cX8_putsAside 18 = .ok (.iload_n 1, 1) := by decide +kernel
theorem dX8_putsAside_19 : decode cX8_putsAside 19 = .ok (.iaload, 1) := by decide +kernel
theorem dX8_putsAside_20 : decode cX8_putsAside 20 = .ok (.iastore, 1) := by decide +kernel
theorem dX8_putsAside_21 : decode cX8_putsAside 21 = .ok (.iinc 1 1, 3) := by decide +kernel
theorem dX8_putsAside_24 : decode cX8_putsAside 24 = .ok (.goto (-22), 3) := by decide +kernel
theorem dX8_putsAside_27 : decode cX8_putsAside 27 = .ok (.return_, 1) := by decide +kernel
theorem dX8_takesBack_0 : decode cX8_takesBack 0 = .ok (.iconst 0, 1) := by decide +kernel
theorem dX8_takesBack_1 : decode cX8_takesBack 1 = .ok (.istore_n 1, 1) := by decide +kernel
theorem dX8_takesBack_2 : decode cX8_takesBack 2 = .ok (.iload_n 1, 1) := by decide +kernel
theorem dX8_takesBack_3 : decode cX8_takesBack 3 = .ok (.sipush 139, 3) := by decide +kernel
theorem dX8_takesBack_6 : decode cX8_takesBack 6 = .ok (.if_icmp .ge 21, 3) := by decide +kernel
theorem dX8_takesBack_9 : decode cX8_takesBack 9 = .ok (.aload_n 0, 1) := by decide +kernel
theorem dX8_takesBack_10 : decode cX8_takesBack 10 = .ok (.getfield 13, 3) := by decide +kernel
theorem dX8_takesBack_13 : decode cX8_takesBack 13 = .ok (.iload_n 1, 1) := by decide +kernel
theorem dX8_takesBack_14 : decode cX8_takesBack 14 = .ok (.aload_n 0, 1) := by decide +kernel
theorem dX8_takesBack_15 : decode cX8_takesBack 15 = .ok (.getfield 24, 3) := by decide +kernel
theorem dX8_takesBack_18 : decode cX8_takesBack 18 = .ok (.iload_n 1, 1) := by decide +kernel
theorem dX8_takesBack_19 : decode cX8_takesBack 19 = .ok (.iaload, 1) := by decide +kernel
theorem dX8_takesBack_20 : decode cX8_takesBack 20 = .ok (.iastore, 1) := by decide +kernel
theorem dX8_takesBack_21 : decode cX8_takesBack 21 = .ok (.iinc 1 1, 3) := by decide +kernel
theorem dX8_takesBack_24 : decode cX8_takesBack 24 = .ok (.goto (-22), 3) := by decide +kernel
theorem dX8_takesBack_27 : decode cX8_takesBack 27 = .ok (.return_, 1) := by decide +kernel
theorem dX8_isHouse_0 : decode cX8_isHouse 0 = .ok (.iload_n 0, 1) := by decide +kernel
theorem dX8_isHouse_1 : decode cX8_isHouse 1 = .ok (.iconst 0, 1) := by decide +kernel
theorem dX8_isHouse_2 : decode cX8_isHouse 2 = .ok (.bipush 7, 2) := by decide +kernel
theorem dX8_isHouse_4 : decode cX8_isHouse 4 = .ok (.invokestatic 69, 3) := by decide +kernel
theorem dX8_isHouse_7 : decode cX8_isHouse 7 = .ok (.ireturn, 1) := by decide +kernel
theorem dX8_isRate_0 : decode cX8_isRate 0 = .ok (.iload_n 0, 1) := by decide +kernel
theorem dX8_isRate_1 : decode cX8_isRate 1 = .ok (.iconst 0, 1) := by decide +kernel
theorem dX8_isRate_2 : decode cX8_isRate 2 = .ok (.sipush 999, 3) := by decide +kernel
theorem dX8_isRate_5 : decode cX8_isRate 5 = .ok (.invokestatic 69, 3) := by decide +kernel
theorem dX8_isRate_8 : decode cX8_isRate 8 = .ok (.ireturn, 1) := by decide +kernel
theorem dX8_areLots_0 : decode cX8_areLots 0 = .ok (.iload_n 0, 1) := by decide +kernel
theorem dX8_areLots_1 : decode cX8_areLots 1 = .ok (.iconst 1, 1) := by decide +kernel
theorem dX8_areLots_2 : decode cX8_areLots 2 = .ok (.sipush 1000, 3) := by decide +kernel
theorem dX8_areLots_5 : decode cX8_areLots 5 = .ok (.invokestatic 69, 3) := by decide +kernel
theorem dX8_areLots_8 : decode cX8_areLots 8 = .ok (.ireturn, 1) := by decide +kernel
theorem dX8_many_0 : decode cX8_many 0 = .ok (.aload_n 0, 1) := by decide +kernel
theorem dX8_many_1 : decode cX8_many 1 = .ok (.getfield 13, 3) := by decide +kernel
theorem dX8_many_4 : decode cX8_many 4 = .ok (.bipush 23, 2) := by decide +kernel
theorem dX8_many_6 : decode cX8_many 6 = .ok (.iaload, 1) := by decide +kernel
theorem dX8_many_7 : decode cX8_many 7 = .ok (.ireturn, 1) := by decide +kernel
theorem dX8_isBid_0 : decode cX8_isBid 0 = .ok (.iload_n 1, 1) := by decide +kernel
theorem dX8_isBid_1 : decode cX8_isBid 1 = .ok (.iconst 0, 1) := by decide +kernel
theorem dX8_isBid_2 : decode cX8_isBid 2 = .ok (.aload_n 0, 1) := by decide +kernel
theorem dX8_isBid_3 : decode cX8_isBid 3 = .ok (.invokevirtual 73, 3) := by decide +kernel
theorem dX8_isBid_6 : decode cX8_isBid 6 = .ok (.iconst 1, 1) := by decide +kernel
theorem dX8_isBid_7 : decode cX8_isBid 7 = .ok (.isub, 1) := by decide +kernel
theorem dX8_isBid_8 : decode cX8_isBid 8 = .ok (.invokestatic 69, 3) := by decide +kernel
theorem dX8_isBid_11 : decode cX8_isBid 11 = .ok (.ireturn, 1) := by decide +kernel
theorem dX8_houseOf_0 : decode cX8_houseOf 0 = .ok (.aload_n 0, 1) := by decide +kernel
theorem dX8_houseOf_1 : decode cX8_houseOf 1 = .ok (.getfield 13, 3) := by decide +kernel
theorem dX8_houseOf_4 : decode cX8_houseOf 4 = .ok (.bipush 24, 2) := by decide +kernel
theorem dX8_houseOf_6 : decode cX8_houseOf 6 = .ok (.iconst 3, 1) := by decide +kernel
theorem dX8_houseOf_7 : decode cX8_houseOf 7 = .ok (.iload_n 1, 1) := by decide +kernel
theorem dX8_houseOf_8 : decode cX8_houseOf 8 = .ok (.imul, 1) := by decide +kernel
theorem dX8_houseOf_9 : decode cX8_houseOf 9 = .ok (.iadd, 1) := by decide +kernel
theorem dX8_houseOf_10 : decode cX8_houseOf 10 = .ok (.iaload, 1) := by decide +kernel
theorem dX8_houseOf_11 : decode cX8_houseOf 11 = .ok (.ireturn, 1) := by decide +kernel
theorem dX8_rateOf_0 : decode cX8_rateOf 0 = .ok (.aload_n 0, 1) := by decide +kernel
theorem dX8_rateOf_1 : decode cX8_rateOf 1 = .ok (.getfield 13, 3) := by decide +kernel
theorem dX8_rateOf_4 : decode cX8_rateOf 4 = .ok (.bipush 24, 2) := by decide +kernel
theorem dX8_rateOf_6 : decode cX8_rateOf 6 = .ok (.iconst 3, 1) := by decide +kernel
theorem dX8_rateOf_7 : decode cX8_rateOf 7 = .ok (.iload_n 1, 1) := by decide +kernel
theorem dX8_rateOf_8 : decode cX8_rateOf 8 = .ok (.imul, 1) := by decide +kernel
theorem dX8_rateOf_9 : decode cX8_rateOf 9 = .ok (.iadd, 1) := by decide +kernel
theorem dX8_rateOf_10 : decode cX8_rateOf 10 = .ok (.iconst 1, 1) := by decide +kernel
theorem dX8_rateOf_11 : decode cX8_rateOf 11 = .ok (.iadd, 1) := by decide +kernel
theorem dX8_rateOf_12 : decode cX8_rateOf 12 = .ok (.iaload, 1) := by decide +kernel
theorem dX8_rateOf_13 : decode cX8_rateOf 13 = .ok (.ireturn, 1) := by decide +kernel
theorem dX8_lotsOf_0 : decode cX8_lotsOf 0 = .ok (.aload_n 0, 1) := by decide +kernel
theorem dX8_lotsOf_1 : decode cX8_lotsOf 1 = .ok (.getfield 13, 3) := by decide +kernel
theorem dX8_lotsOf_4 : decode cX8_lotsOf 4 = .ok (.bipush 24, 2) := by decide +kernel
theorem dX8_lotsOf_6 : decode cX8_lotsOf 6 = .ok (.iconst 3, 1) := by decide +kernel
theorem dX8_lotsOf_7 : decode cX8_lotsOf 7 = .ok (.iload_n 1, 1) := by decide +kernel
theorem dX8_lotsOf_8 : decode cX8_lotsOf 8 = .ok (.imul, 1) := by decide +kernel
theorem dX8_lotsOf_9 : decode cX8_lotsOf 9 = .ok (.iadd, 1) := by decide +kernel
theorem dX8_lotsOf_10 : decode cX8_lotsOf 10 = .ok (.iconst 2, 1) := by decide +kernel
theorem dX8_lotsOf_11 : decode cX8_lotsOf 11 = .ok (.iadd, 1) := by decide +kernel
theorem dX8_lotsOf_12 : decode cX8_lotsOf 12 = .ok (.iaload, 1) := by decide +kernel
theorem dX8_lotsOf_13 : decode cX8_lotsOf 13 = .ok (.ireturn, 1) := by decide +kernel
theorem dX8_isPlain_0 : decode cX8_isPlain 0 = .ok (.aload_n 0, 1) := by decide +kernel
theorem dX8_isPlain_1 : decode cX8_isPlain 1 = .ok (.iload_n 1, 1) := by decide +kernel
theorem dX8_isPlain_2 : decode cX8_isPlain 2 = .ok (.invokevirtual 77, 3) := by decide +kernel
theorem dX8_isPlain_5 : decode cX8_isPlain 5 = .ok (.iconst (-1), 1) := by decide +kernel
theorem dX8_isPlain_6 : decode cX8_isPlain 6 = .ok (.if_icmp .ne 7, 3) := by decide +kernel
theorem dX8_isPlain_9 : decode cX8_isPlain 9 = .ok (.iconst 1, 1) := by decide +kernel
theorem dX8_isPlain_10 : decode cX8_isPlain 10 = .ok (.goto 4, 3) := by decide +kernel
theorem dX8_isPlain_13 : decode cX8_isPlain 13 = .ok (.iconst 0, 1) := by decide +kernel
theorem dX8_isPlain_14 : decode cX8_isPlain 14 = .ok (.ireturn, 1) := by decide +kernel
theorem dX8_lays_0 : decode cX8_lays 0 = .ok (.aload_n 0, 1) := by decide +kernel
theorem dX8_lays_1 : decode cX8_lays 1 = .ok (.getfield 13, 3) := by decide +kernel
theorem dX8_lays_4 : decode cX8_lays 4 = .ok (.bipush 24, 2) := by decide +kernel
theorem dX8_lays_6 : decode cX8_lays 6 = .ok (.iconst 3, 1) := by decide +kernel
theorem dX8_lays_7 : decode cX8_lays 7 = .ok (.iload_n 1, 1) := by decide +kernel
theorem dX8_lays_8 : decode cX8_lays 8 = .ok (.imul, 1) := by decide +kernel
theorem dX8_lays_9 : decode cX8_lays 9 = .ok (.iadd, 1) := by decide +kernel
theorem dX8_lays_10 : decode cX8_lays 10 = .ok (.iload_n 2, 1) := by decide +kernel
theorem dX8_lays_11 : decode cX8_lays 11 = .ok (.iastore, 1) := by decide +kernel
theorem dX8_lays_12 : decode cX8_lays 12 = .ok (.aload_n 0, 1) := by decide +kernel
theorem dX8_lays_13 : decode cX8_lays 13 = .ok (.getfield 13, 3) := by decide +kernel
theorem dX8_lays_16 : decode cX8_lays 16 = .ok (.bipush 24, 2) := by decide +kernel
theorem dX8_lays_18 : decode cX8_lays 18 = .ok (.iconst 3, 1) := by decide +kernel
theorem dX8_lays_19 : decode cX8_lays 19 = .ok (.iload_n 1, 1) := by decide +kernel
theorem dX8_lays_20 : decode cX8_lays 20 = .ok (.imul, 1) := by decide +kernel
theorem dX8_lays_21 : decode cX8_lays 21 = .ok (.iadd, 1) := by decide +kernel
theorem dX8_lays_22 : decode cX8_lays 22 = .ok (.iconst 1, 1) := by decide +kernel
theorem dX8_lays_23 : decode cX8_lays 23 = .ok (.iadd, 1) := by decide +kernel
theorem dX8_lays_24 : decode cX8_lays 24 = .ok (.iload_n 3, 1) := by decide +kernel
theorem dX8_lays_25 : decode cX8_lays 25 = .ok (.iastore, 1) := by decide +kernel
theorem dX8_lays_26 : decode cX8_lays 26 = .ok (.aload_n 0, 1) := by decide +kernel
theorem dX8_lays_27 : decode cX8_lays 27 = .ok (.getfield 13, 3) := by decide +kernel
theorem dX8_lays_30 : decode cX8_lays 30 = .ok (.bipush 24, 2) := by decide +kernel
theorem dX8_lays_32 : decode cX8_lays 32 = .ok (.iconst 3, 1) := by decide +kernel
theorem dX8_lays_33 : decode cX8_lays 33 = .ok (.iload_n 1, 1) := by decide +kernel
theorem dX8_lays_34 : decode cX8_lays 34 = .ok (.imul, 1) := by decide +kernel
theorem dX8_lays_35 : decode cX8_lays 35 = .ok (.iadd, 1) := by decide +kernel
theorem dX8_lays_36 : decode cX8_lays 36 = .ok (.iconst 2, 1) := by decide +kernel
theorem dX8_lays_37 : decode cX8_lays 37 = .ok (.iadd, 1) := by decide +kernel
theorem dX8_lays_38 : decode cX8_lays 38 = .ok (.iload 4, 2) := by decide +kernel
theorem dX8_lays_40 : decode cX8_lays 40 = .ok (.iastore, 1) := by decide +kernel
theorem dX8_lays_41 : decode cX8_lays 41 = .ok (.return_, 1) := by decide +kernel
theorem dX8_copies_0 : decode cX8_copies 0 = .ok (.aload_n 0, 1) := by decide +kernel
theorem dX8_copies_1 : decode cX8_copies 1 = .ok (.iload_n 2, 1) := by decide +kernel
theorem dX8_copies_2 : decode cX8_copies 2 = .ok (.aload_n 0, 1) := by decide +kernel
theorem dX8_copies_3 : decode cX8_copies 3 = .ok (.iload_n 1, 1) := by decide +kernel
theorem dX8_copies_4 : decode cX8_copies 4 = .ok (.invokevirtual 81, 3) := by decide +kernel
theorem dX8_copies_7 : decode cX8_copies 7 = .ok (.aload_n 0, 1) := by decide +kernel
theorem dX8_copies_8 : decode cX8_copies 8 = .ok (.iload_n 1, 1) := by decide +kernel
theorem dX8_copies_9 : decode cX8_copies 9 = .ok (.invokevirtual 77, 3) := by decide +kernel
theorem dX8_copies_12 : decode cX8_copies 12 = .ok (.aload_n 0, 1) := by decide +kernel
theorem dX8_copies_13 : decode cX8_copies 13 = .ok (.iload_n 1, 1) := by decide +kernel
theorem dX8_copies_14 : decode cX8_copies 14 = .ok (.invokevirtual 84, 3) := by decide +kernel
theorem dX8_copies_17 : decode cX8_copies 17 = .ok (.invokevirtual 87, 3) := by decide +kernel
theorem dX8_copies_20 : decode cX8_copies 20 = .ok (.return_, 1) := by decide +kernel
theorem dX8_makesRoom_0 : decode cX8_makesRoom 0 = .ok (.aload_n 0, 1) := by decide +kernel
theorem dX8_makesRoom_1 : decode cX8_makesRoom 1 = .ok (.invokevirtual 73, 3) := by decide +kernel
theorem dX8_makesRoom_4 : decode cX8_makesRoom 4 = .ok (.istore_n 2, 1) := by decide +kernel
theorem dX8_makesRoom_5 : decode cX8_makesRoom 5 = .ok (.iload_n 2, 1) := by decide +kernel
theorem dX8_makesRoom_6 : decode cX8_makesRoom 6 = .ok (.iload_n 1, 1) := by decide +kernel
theorem dX8_makesRoom_7 : decode cX8_makesRoom 7 = .ok (.if_icmp .le 17, 3) := by decide +kernel
theorem dX8_makesRoom_10 : decode cX8_makesRoom 10 = .ok (.aload_n 0, 1) := by decide +kernel
theorem dX8_makesRoom_11 : decode cX8_makesRoom 11 = .ok (.iload_n 2, 1) := by decide +kernel
theorem dX8_makesRoom_12 : decode cX8_makesRoom 12 = .ok (.iconst 1, 1) := by decide +kernel
theorem dX8_makesRoom_13 : decode cX8_makesRoom 13 = .ok (.isub, 1) := by decide +kernel
theorem dX8_makesRoom_14 : decode cX8_makesRoom 14 = .ok (.iload_n 2, 1) := by decide +kernel
theorem dX8_makesRoom_15 : decode cX8_makesRoom 15 = .ok (.invokevirtual 91, 3) := by decide +kernel
theorem dX8_makesRoom_18 : decode cX8_makesRoom 18 = .ok (.iinc 2 (-1), 3) := by decide +kernel
theorem dX8_makesRoom_21 : decode cX8_makesRoom 21 = .ok (.goto (-16), 3) := by decide +kernel
theorem dX8_makesRoom_24 : decode cX8_makesRoom 24 = .ok (.aload_n 0, 1) := by decide +kernel
theorem dX8_makesRoom_25 : decode cX8_makesRoom 25 = .ok (.getfield 13, 3) := by decide +kernel
theorem dX8_makesRoom_28 : decode cX8_makesRoom 28 = .ok (.bipush 23, 2) := by decide +kernel
theorem dX8_makesRoom_30 : decode cX8_makesRoom 30 = .ok (.dup2, 1) := by decide +kernel
theorem dX8_makesRoom_31 : decode cX8_makesRoom 31 = .ok (.iaload, 1) := by decide +kernel
theorem dX8_makesRoom_32 : decode cX8_makesRoom 32 = .ok (.iconst 1, 1) := by decide +kernel
theorem dX8_makesRoom_33 : decode cX8_makesRoom 33 = .ok (.iadd, 1) := by decide +kernel
theorem dX8_makesRoom_34 : decode cX8_makesRoom 34 = .ok (.iastore, 1) := by decide +kernel
theorem dX8_makesRoom_35 : decode cX8_makesRoom 35 = .ok (.return_, 1) := by decide +kernel
theorem dX8_drops_0 : decode cX8_drops 0 = .ok (.iload_n 1, 1) := by decide +kernel
theorem dX8_drops_1 : decode cX8_drops 1 = .ok (.istore_n 2, 1) := by decide +kernel
theorem dX8_drops_2 : decode cX8_drops 2 = .ok (.iload_n 2, 1) := by decide +kernel
theorem dX8_drops_3 : decode cX8_drops 3 = .ok (.iconst 1, 1) := by decide +kernel
theorem dX8_drops_4 : decode cX8_drops 4 = .ok (.iadd, 1) := by decide +kernel
theorem dX8_drops_5 : decode cX8_drops 5 = .ok (.aload_n 0, 1) := by decide +kernel
theorem dX8_drops_6 : decode cX8_drops 6 = .ok (.invokevirtual 73, 3) := by decide +kernel
theorem dX8_drops_9 : decode cX8_drops 9 = .ok (.if_icmp .ge 17, 3) := by decide +kernel
theorem dX8_drops_12 : decode cX8_drops 12 = .ok (.aload_n 0, 1) := by decide +kernel
theorem dX8_drops_13 : decode cX8_drops 13 = .ok (.iload_n 2, 1) := by decide +kernel
theorem dX8_drops_14 : decode cX8_drops 14 = .ok (.iconst 1, 1) := by decide +kernel
theorem dX8_drops_15 : decode cX8_drops 15 = .ok (.iadd, 1) := by decide +kernel
theorem dX8_drops_16 : decode cX8_drops 16 = .ok (.iload_n 2, 1) := by decide +kernel
theorem dX8_drops_17 : decode cX8_drops 17 = .ok (.invokevirtual 91, 3) := by decide +kernel
theorem dX8_drops_20 : decode cX8_drops 20 = .ok (.iinc 2 1, 3) := by decide +kernel
theorem dX8_drops_23 : decode cX8_drops 23 = .ok (.goto (-21), 3) := by decide +kernel
theorem dX8_drops_26 : decode cX8_drops 26 = .ok (.aload_n 0, 1) := by decide +kernel
theorem dX8_drops_27 : decode cX8_drops 27 = .ok (.getfield 13, 3) := by decide +kernel
theorem dX8_drops_30 : decode cX8_drops 30 = .ok (.bipush 23, 2) := by decide +kernel
theorem dX8_drops_32 : decode cX8_drops 32 = .ok (.dup2, 1) := by decide +kernel
theorem dX8_drops_33 : decode cX8_drops 33 = .ok (.iaload, 1) := by decide +kernel
theorem dX8_drops_34 : decode cX8_drops 34 = .ok (.iconst 1, 1) := by decide +kernel
theorem dX8_drops_35 : decode cX8_drops 35 = .ok (.isub, 1) := by decide +kernel
theorem dX8_drops_36 : decode cX8_drops 36 = .ok (.iastore, 1) := by decide +kernel
theorem dX8_drops_37 : decode cX8_drops 37 = .ok (.return_, 1) := by decide +kernel
theorem dX8_bid_0 : decode cX8_bid 0 = .ok (.iload_n 1, 1) := by decide +kernel
theorem dX8_bid_1 : decode cX8_bid 1 = .ok (.invokestatic 95, 3) := by decide +kernel
theorem dX8_bid_4 : decode cX8_bid 4 = .ok (.ifCond .eq 31, 3) := by decide +kernel
theorem dX8_bid_7 : decode cX8_bid 7 = .ok (.iload_n 2, 1) := by decide +kernel
theorem dX8_bid_8 : decode cX8_bid 8 = .ok (.iconst (-1), 1) := by decide +kernel
theorem dX8_bid_9 : decode cX8_bid 9 = .ok (.if_icmp .eq 10, 3) := by decide +kernel
theorem dX8_bid_12 : decode cX8_bid 12 = .ok (.iload_n 2, 1) := by decide +kernel
theorem dX8_bid_13 : decode cX8_bid 13 = .ok (.invokestatic 99, 3) := by decide +kernel
theorem dX8_bid_16 : decode cX8_bid 16 = .ok (.ifCond .eq 19, 3) := by decide +kernel
theorem dX8_bid_19 : decode cX8_bid 19 = .ok (.iload_n 3, 1) := by decide +kernel
theorem dX8_bid_20 : decode cX8_bid 20 = .ok (.invokestatic 102, 3) := by decide +kernel
theorem dX8_bid_23 : decode cX8_bid 23 = .ok (.ifCond .eq 12, 3) := by decide +kernel
theorem dX8_bid_26 : decode cX8_bid 26 = .ok (.aload_n 0, 1) := by decide +kernel
theorem dX8_bid_27 : decode cX8_bid 27 = .ok (.invokevirtual 73, 3) := by decide +kernel
theorem dX8_bid_30 : decode cX8_bid 30 = .ok (.bipush 30, 2) := by decide +kernel
theorem dX8_bid_32 : decode cX8_bid 32 = .ok (.if_icmp .ne 5, 3) := by decide +kernel
theorem dX8_bid_35 : decode cX8_bid 35 = .ok (.iconst (-1), 1) := by decide +kernel
theorem dX8_bid_36 : decode cX8_bid 36 = .ok (.ireturn, 1) := by decide +kernel
theorem dX8_bid_37 : decode cX8_bid 37 = .ok (.aload_n 0, 1) := by decide +kernel
theorem dX8_bid_38 : decode cX8_bid 38 = .ok (.invokevirtual 105, 3) := by decide +kernel
theorem dX8_bid_41 : decode cX8_bid 41 = .ok (.aload_n 0, 1) := by decide +kernel
theorem dX8_bid_42 : decode cX8_bid 42 = .ok (.aload_n 0, 1) := by decide +kernel
theorem dX8_bid_43 : decode cX8_bid 43 = .ok (.invokevirtual 73, 3) := by decide +kernel
theorem dX8_bid_46 : decode cX8_bid 46 = .ok (.iload_n 1, 1) := by decide +kernel
theorem dX8_bid_47 : decode cX8_bid 47 = .ok (.iload_n 2, 1) := by decide +kernel
theorem dX8_bid_48 : decode cX8_bid 48 = .ok (.iload_n 3, 1) := by decide +kernel
theorem dX8_bid_49 : decode cX8_bid 49 = .ok (.invokevirtual 87, 3) := by decide +kernel
theorem dX8_bid_52 : decode cX8_bid 52 = .ok (.aload_n 0, 1) := by decide +kernel
theorem dX8_bid_53 : decode cX8_bid 53 = .ok (.getfield 13, 3) := by decide +kernel
theorem dX8_bid_56 : decode cX8_bid 56 = .ok (.bipush 23, 2) := by decide +kernel
theorem dX8_bid_58 : decode cX8_bid 58 = .ok (.dup2, 1) := by decide +kernel
theorem dX8_bid_59 : decode cX8_bid 59 = .ok (.iaload, 1) := by decide +kernel
theorem dX8_bid_60 : decode cX8_bid 60 = .ok (.iconst 1, 1) := by decide +kernel
theorem dX8_bid_61 : decode cX8_bid 61 = .ok (.iadd, 1) := by decide +kernel
theorem dX8_bid_62 : decode cX8_bid 62 = .ok (.iastore, 1) := by decide +kernel
theorem dX8_bid_63 : decode cX8_bid 63 = .ok (.aload_n 0, 1) := by decide +kernel
theorem dX8_bid_64 : decode cX8_bid 64 = .ok (.invokevirtual 73, 3) := by decide +kernel
theorem dX8_bid_67 : decode cX8_bid 67 = .ok (.iconst 1, 1) := by decide +kernel
theorem dX8_bid_68 : decode cX8_bid 68 = .ok (.isub, 1) := by decide +kernel
theorem dX8_bid_69 : decode cX8_bid 69 = .ok (.ireturn, 1) := by decide +kernel
theorem dX8_withdraw_0 : decode cX8_withdraw 0 = .ok (.aload_n 0, 1) := by decide +kernel
theorem dX8_withdraw_1 : decode cX8_withdraw 1 = .ok (.iload_n 1, 1) := by decide +kernel
theorem dX8_withdraw_2 : decode cX8_withdraw 2 = .ok (.invokevirtual 108, 3) := by decide +kernel
theorem dX8_withdraw_5 : decode cX8_withdraw 5 = .ok (.ifCond .ne 5, 3) := by decide +kernel
theorem dX8_withdraw_8 : decode cX8_withdraw 8 = .ok (.iconst 0, 1) := by decide +kernel
theorem dX8_withdraw_9 : decode cX8_withdraw 9 = .ok (.ireturn, 1) := by decide +kernel
theorem dX8_withdraw_10 : decode cX8_withdraw 10 = .ok (.aload_n 0, 1) := by decide +kernel
theorem dX8_withdraw_11 : decode cX8_withdraw 11 = .ok (.invokevirtual 105, 3) := by decide +kernel
theorem dX8_withdraw_14 : decode cX8_withdraw 14 = .ok (.aload_n 0, 1) := by decide +kernel
theorem dX8_withdraw_15 : decode cX8_withdraw 15 = .ok (.iload_n 1, 1) := by decide +kernel
theorem dX8_withdraw_16 : decode cX8_withdraw 16 = .ok (.invokevirtual 111, 3) := by decide +kernel
theorem dX8_withdraw_19 : decode cX8_withdraw 19 = .ok (.iconst 1, 1) := by decide +kernel
theorem dX8_withdraw_20 : decode cX8_withdraw 20 = .ok (.ireturn, 1) := by decide +kernel
theorem dX8_becomes_0 : decode cX8_becomes 0 = .ok (.aload_n 0, 1) := by decide +kernel
theorem dX8_becomes_1 : decode cX8_becomes 1 = .ok (.invokevirtual 105, 3) := by decide +kernel
theorem dX8_becomes_4 : decode cX8_becomes 4 = .ok (.aload_n 0, 1) := by decide +kernel
theorem dX8_becomes_5 : decode cX8_becomes 5 = .ok (.getfield 13, 3) := by decide +kernel
theorem dX8_becomes_8 : decode cX8_becomes 8 = .ok (.iload_n 1, 1) := by decide +kernel
theorem dX8_becomes_9 : decode cX8_becomes 9 = .ok (.iaload, 1) := by decide +kernel
theorem dX8_becomes_10 : decode cX8_becomes 10 = .ok (.istore_n 3, 1) := by decide +kernel
theorem dX8_becomes_11 : decode cX8_becomes 11 = .ok (.aload_n 0, 1) := by decide +kernel
theorem dX8_becomes_12 : decode cX8_becomes 12 = .ok (.getfield 13, 3) := by decide +kernel
theorem dX8_becomes_15 : decode cX8_becomes 15 = .ok (.iload_n 1, 1) := by decide +kernel
theorem dX8_becomes_16 : decode cX8_becomes 16 = .ok (.iload_n 2, 1) := by decide +kernel
theorem dX8_becomes_17 : decode cX8_becomes 17 = .ok (.iastore, 1) := by decide +kernel
theorem dX8_becomes_18 : decode cX8_becomes 18 = .ok (.iload_n 3, 1) := by decide +kernel
theorem dX8_becomes_19 : decode cX8_becomes 19 = .ok (.ireturn, 1) := by decide +kernel
theorem dX8_change_0 : decode cX8_change 0 = .ok (.aload_n 0, 1) := by decide +kernel
theorem dX8_change_1 : decode cX8_change 1 = .ok (.iload_n 1, 1) := by decide +kernel
theorem dX8_change_2 : decode cX8_change 2 = .ok (.invokevirtual 108, 3) := by decide +kernel
theorem dX8_change_5 : decode cX8_change 5 = .ok (.ifCond .eq 12, 3) := by decide +kernel
theorem dX8_change_8 : decode cX8_change 8 = .ok (.iload_n 2, 1) := by decide +kernel
theorem dX8_change_9 : decode cX8_change 9 = .ok (.iconst 0, 1) := by decide +kernel
theorem dX8_change_10 : decode cX8_change 10 = .ok (.iconst 1, 1) := by decide +kernel
theorem dX8_change_11 : decode cX8_change 11 = .ok (.invokestatic 69, 3) := by decide +kernel
theorem dX8_change_14 : decode cX8_change 14 = .ok (.ifCond .ne 5, 3) := by decide +kernel
theorem dX8_change_17 : decode cX8_change 17 = .ok (.iconst (-1), 1) := by decide +kernel
theorem dX8_change_18 : decode cX8_change 18 = .ok (.ireturn, 1) := by decide +kernel
theorem dX8_change_19 : decode cX8_change 19 = .ok (.iload_n 2, 1) := by decide +kernel
theorem dX8_change_20 : decode cX8_change 20 = .ok (.ifCond .ne 27, 3) := by decide +kernel
theorem dX8_change_23 : decode cX8_change 23 = .ok (.iload_n 3, 1) := by decide +kernel
theorem dX8_change_24 : decode cX8_change 24 = .ok (.invokestatic 102, 3) := by decide +kernel
theorem dX8_change_27 : decode cX8_change 27 = .ok (.ifCond .eq 16, 3) := by decide +kernel
theorem dX8_change_30 : decode cX8_change 30 = .ok (.iload_n 3, 1) := by decide +kernel
theorem dX8_change_31 : decode cX8_change 31 = .ok (.aload_n 0, 1) := by decide +kernel
theorem dX8_change_32 : decode cX8_change 32 = .ok (.iload_n 1, 1) := by decide +kernel
theorem dX8_change_33 : decode cX8_change 33 = .ok (.invokevirtual 84, 3) := by decide +kernel
theorem dX8_change_36 : decode cX8_change 36 = .ok (.if_icmp .eq 7, 3) := by decide +kernel
theorem dX8_change_39 : decode cX8_change 39 = .ok (.iconst 1, 1) := by decide +kernel
theorem dX8_change_40 : decode cX8_change 40 = .ok (.goto 36, 3) := by decide +kernel
theorem dX8_change_43 : decode cX8_change 43 = .ok (.iconst 0, 1) := by decide +kernel
theorem dX8_change_44 : decode cX8_change 44 = .ok (.goto 32, 3) := by decide +kernel
theorem dX8_change_47 : decode cX8_change 47 = .ok (.aload_n 0, 1) := by decide +kernel
theorem dX8_change_48 : decode cX8_change 48 = .ok (.iload_n 1, 1) := by decide +kernel
theorem dX8_change_49 : decode cX8_change 49 = .ok (.invokevirtual 115, 3) := by decide +kernel
theorem dX8_change_52 : decode cX8_change 52 = .ok (.ifCond .ne 23, 3) := by decide +kernel
theorem dX8_change_55 : decode cX8_change 55 = .ok (.iload_n 3, 1) := by decide +kernel
theorem dX8_change_56 : decode cX8_change 56 = .ok (.invokestatic 99, 3) := by decide +kernel
theorem dX8_change_59 : decode cX8_change 59 = .ok (.ifCond .eq 16, 3) := by decide +kernel
theorem dX8_change_62 : decode cX8_change 62 = .ok (.iload_n 3, 1) := by decide +kernel
theorem dX8_change_63 : decode cX8_change 63 = .ok (.aload_n 0, 1) := by decide +kernel
theorem dX8_change_64 : decode cX8_change 64 = .ok (.iload_n 1, 1) := by decide +kernel
theorem dX8_change_65 : decode cX8_change 65 = .ok (.invokevirtual 77, 3) := by decide +kernel
theorem dX8_change_68 : decode cX8_change 68 = .ok (.if_icmp .eq 7, 3) := by decide +kernel
theorem dX8_change_71 : decode cX8_change 71 = .ok (.iconst 1, 1) := by decide +kernel
theorem dX8_change_72 : decode cX8_change 72 = .ok (.goto 4, 3) := by decide +kernel
theorem dX8_change_75 : decode cX8_change 75 = .ok (.iconst 0, 1) := by decide +kernel
theorem dX8_change_76 : decode cX8_change 76 = .ok (.istore 4, 2) := by decide +kernel
theorem dX8_change_78 : decode cX8_change 78 = .ok (.iload 4, 2) := by decide +kernel
theorem dX8_change_80 : decode cX8_change 80 = .ok (.ifCond .eq 27, 3) := by decide +kernel
theorem dX8_change_83 : decode cX8_change 83 = .ok (.aload_n 0, 1) := by decide +kernel
theorem dX8_change_84 : decode cX8_change 84 = .ok (.bipush 24, 2) := by decide +kernel
theorem dX8_change_86 : decode cX8_change 86 = .ok (.iconst 3, 1) := by decide +kernel
theorem dX8_change_87 : decode cX8_change 87 = .ok (.iload_n 1, 1) := by decide +kernel
theorem dX8_change_88 : decode cX8_change 88 = .ok (.imul, 1) := by decide +kernel
theorem dX8_change_89 : decode cX8_change 89 = .ok (.iadd, 1) := by decide +kernel
theorem dX8_change_90 : decode cX8_change 90 = .ok (.iload_n 2, 1) := by decide +kernel
theorem dX8_change_91 : decode cX8_change 91 = .ok (.ifCond .ne 7, 3) := by decide +kernel
theorem dX8_change_94 : decode cX8_change 94 = .ok (.iconst 2, 1) := by decide +kernel
theorem dX8_change_95 : decode cX8_change 95 = .ok (.goto 4, 3) := by decide +kernel
theorem dX8_change_98 : decode cX8_change 98 = .ok (.iconst 1, 1) := by decide +kernel
theorem dX8_change_99 : decode cX8_change 99 = .ok (.iadd, 1) := by decide +kernel
theorem dX8_change_100 : decode cX8_change 100 = .ok (.iload_n 3, 1) := by decide +kernel
theorem dX8_change_101 : decode cX8_change 101 = .ok (.invokevirtual 118, 3) := by decide +kernel
theorem dX8_change_104 : decode cX8_change 104 = .ok (.goto 4, 3) := by decide +kernel
theorem dX8_change_107 : decode cX8_change 107 = .ok (.iconst (-1), 1) := by decide +kernel
theorem dX8_change_108 : decode cX8_change 108 = .ok (.ireturn, 1) := by decide +kernel
theorem dX8_mayBe_0 : decode cX8_mayBe 0 = .ok (.iload_n 1, 1) := by decide +kernel
theorem dX8_mayBe_1 : decode cX8_mayBe 1 = .ok (.tableswitch 110 0 6 #[43, 52, 60, 68, 80, 94, 103], 43) := by decide +kernel
theorem dX8_mayBe_44 : decode cX8_mayBe 44 = .ok (.iload_n 2, 1) := by decide +kernel
theorem dX8_mayBe_45 : decode cX8_mayBe 45 = .ok (.iconst 1, 1) := by decide +kernel
theorem dX8_mayBe_46 : decode cX8_mayBe 46 = .ok (.sipush 2000, 3) := by decide +kernel
theorem dX8_mayBe_49 : decode cX8_mayBe 49 = .ok (.invokestatic 69, 3) := by decide +kernel
theorem dX8_mayBe_52 : decode cX8_mayBe 52 = .ok (.ireturn, 1) := by decide +kernel
theorem dX8_mayBe_53 : decode cX8_mayBe 53 = .ok (.iload_n 2, 1) := by decide +kernel
theorem dX8_mayBe_54 : decode cX8_mayBe 54 = .ok (.iconst 1, 1) := by decide +kernel
theorem dX8_mayBe_55 : decode cX8_mayBe 55 = .ok (.bipush 100, 2) := by decide +kernel
theorem dX8_mayBe_57 : decode cX8_mayBe 57 = .ok (.invokestatic 69, 3) := by decide +kernel
theorem dX8_mayBe_60 : decode cX8_mayBe 60 = .ok (.ireturn, 1) := by decide +kernel
theorem dX8_mayBe_61 : decode cX8_mayBe 61 = .ok (.iload_n 2, 1) := by decide +kernel
theorem dX8_mayBe_62 : decode cX8_mayBe 62 = .ok (.iconst 0, 1) := by decide +kernel
theorem dX8_mayBe_63 : decode cX8_mayBe 63 = .ok (.bipush 100, 2) := by decide +kernel
theorem dX8_mayBe_65 : decode cX8_mayBe 65 = .ok (.invokestatic 69, 3) := by decide +kernel
theorem dX8_mayBe_68 : decode cX8_mayBe 68 = .ok (.ireturn, 1) := by decide +kernel
theorem dX8_mayBe_69 : decode cX8_mayBe 69 = .ok (.iload_n 2, 1) := by decide +kernel
theorem dX8_mayBe_70 : decode cX8_mayBe 70 = .ok (.iconst 0, 1) := by decide +kernel
theorem dX8_mayBe_71 : decode cX8_mayBe 71 = .ok (.aload_n 0, 1) := by decide +kernel
theorem dX8_mayBe_72 : decode cX8_mayBe 72 = .ok (.getfield 13, 3) := by decide +kernel
theorem dX8_mayBe_75 : decode cX8_mayBe 75 = .ok (.iconst 4, 1) := by decide +kernel
theorem dX8_mayBe_76 : decode cX8_mayBe 76 = .ok (.iaload, 1) := by decide +kernel
theorem dX8_mayBe_77 : decode cX8_mayBe 77 = .ok (.invokestatic 69, 3) := by decide +kernel
theorem dX8_mayBe_80 : decode cX8_mayBe 80 = .ok (.ireturn, 1) := by decide +kernel
theorem dX8_mayBe_81 : decode cX8_mayBe 81 = .ok (.iload_n 2, 1) := by decide +kernel
theorem dX8_mayBe_82 : decode cX8_mayBe 82 = .ok (.aload_n 0, 1) := by decide +kernel
theorem dX8_mayBe_83 : decode cX8_mayBe 83 = .ok (.getfield 13, 3) := by decide +kernel
theorem dX8_mayBe_86 : decode cX8_mayBe 86 = .ok (.iconst 3, 1) := by decide +kernel
theorem dX8_mayBe_87 : decode cX8_mayBe 87 = .ok (.iaload, 1) := by decide +kernel
theorem dX8_mayBe_88 : decode cX8_mayBe 88 = .ok (.sipush 999, 3) := by decide +kernel
theorem dX8_mayBe_91 : decode cX8_mayBe 91 = .ok (.invokestatic 69, 3) := by decide +kernel
theorem dX8_mayBe_94 : decode cX8_mayBe 94 = .ok (.ireturn, 1) := by decide +kernel
theorem dX8_mayBe_95 : decode cX8_mayBe 95 = .ok (.iload_n 2, 1) := by decide +kernel
theorem dX8_mayBe_96 : decode cX8_mayBe 96 = .ok (.iconst 1, 1) := by decide +kernel
theorem dX8_mayBe_97 : decode cX8_mayBe 97 = .ok (.sipush 360, 3) := by decide +kernel
theorem dX8_mayBe_100 : decode cX8_mayBe 100 = .ok (.invokestatic 69, 3) := by decide +kernel
theorem dX8_mayBe_103 : decode cX8_mayBe 103 = .ok (.ireturn, 1) := by decide +kernel
theorem dX8_mayBe_104 : decode cX8_mayBe 104 = .ok (.iload_n 2, 1) := by decide +kernel
theorem dX8_mayBe_105 : decode cX8_mayBe 105 = .ok (.iconst 0, 1) := by decide +kernel
theorem dX8_mayBe_106 : decode cX8_mayBe 106 = .ok (.iconst 1, 1) := by decide +kernel
theorem dX8_mayBe_107 : decode cX8_mayBe 107 = .ok (.invokestatic 69, 3) := by decide +kernel
theorem dX8_mayBe_110 : decode cX8_mayBe 110 = .ok (.ireturn, 1) := by decide +kernel
theorem dX8_mayBe_111 : decode cX8_mayBe 111 = .ok (.iconst 0, 1) := by decide +kernel
theorem dX8_mayBe_112 : decode cX8_mayBe 112 = .ok (.ireturn, 1) := by decide +kernel
theorem dX8_term_0 : decode cX8_term 0 = .ok (.aload_n 0, 1) := by decide +kernel
theorem dX8_term_1 : decode cX8_term 1 = .ok (.iload_n 1, 1) := by decide +kernel
theorem dX8_term_2 : decode cX8_term 2 = .ok (.iload_n 2, 1) := by decide +kernel
theorem dX8_term_3 : decode cX8_term 3 = .ok (.invokevirtual 122, 3) := by decide +kernel
theorem dX8_term_6 : decode cX8_term 6 = .ok (.ifCond .eq 22, 3) := by decide +kernel
theorem dX8_term_9 : decode cX8_term 9 = .ok (.aload_n 0, 1) := by decide +kernel
theorem dX8_term_10 : decode cX8_term 10 = .ok (.getfield 13, 3) := by decide +kernel
theorem dX8_term_13 : decode cX8_term 13 = .ok (.iload_n 1, 1) := by decide +kernel
theorem dX8_term_14 : decode cX8_term 14 = .ok (.iaload, 1) := by decide +kernel
theorem dX8_term_15 : decode cX8_term 15 = .ok (.iload_n 2, 1) := by decide +kernel
theorem dX8_term_16 : decode cX8_term 16 = .ok (.if_icmp .eq 12, 3) := by decide +kernel
theorem dX8_term_19 : decode cX8_term 19 = .ok (.aload_n 0, 1) := by decide +kernel
theorem dX8_term_20 : decode cX8_term 20 = .ok (.iload_n 1, 1) := by decide +kernel
theorem dX8_term_21 : decode cX8_term 21 = .ok (.iload_n 2, 1) := by decide +kernel
theorem dX8_term_22 : decode cX8_term 22 = .ok (.invokevirtual 118, 3) := by decide +kernel
theorem dX8_term_25 : decode cX8_term 25 = .ok (.goto 4, 3) := by decide +kernel
theorem dX8_term_28 : decode cX8_term 28 = .ok (.iconst (-1), 1) := by decide +kernel
theorem dX8_term_29 : decode cX8_term 29 = .ok (.ireturn, 1) := by decide +kernel
theorem dX8_own_0 : decode cX8_own 0 = .ok (.iload_n 1, 1) := by decide +kernel
theorem dX8_own_1 : decode cX8_own 1 = .ok (.invokestatic 95, 3) := by decide +kernel
theorem dX8_own_4 : decode cX8_own 4 = .ok (.ifCond .eq 35, 3) := by decide +kernel
theorem dX8_own_7 : decode cX8_own 7 = .ok (.iload_n 2, 1) := by decide +kernel
theorem dX8_own_8 : decode cX8_own 8 = .ok (.invokestatic 95, 3) := by decide +kernel
theorem dX8_own_11 : decode cX8_own 11 = .ok (.ifCond .eq 28, 3) := by decide +kernel
theorem dX8_own_14 : decode cX8_own 14 = .ok (.aload_n 0, 1) := by decide +kernel
theorem dX8_own_15 : decode cX8_own 15 = .ok (.getfield 13, 3) := by decide +kernel
theorem dX8_own_18 : decode cX8_own 18 = .ok (.bipush 15, 2) := by decide +kernel
theorem dX8_own_20 : decode cX8_own 20 = .ok (.iload_n 1, 1) := by decide +kernel
theorem dX8_own_21 : decode cX8_own 21 = .ok (.iadd, 1) := by decide +kernel
theorem dX8_own_22 : decode cX8_own 22 = .ok (.iaload, 1) := by decide +kernel
theorem dX8_own_23 : decode cX8_own 23 = .ok (.iload_n 2, 1) := by decide +kernel
theorem dX8_own_24 : decode cX8_own 24 = .ok (.if_icmp .eq 15, 3) := by decide +kernel
theorem dX8_own_27 : decode cX8_own 27 = .ok (.aload_n 0, 1) := by decide +kernel
theorem dX8_own_28 : decode cX8_own 28 = .ok (.bipush 15, 2) := by decide +kernel
theorem dX8_own_30 : decode cX8_own 30 = .ok (.iload_n 1, 1) := by decide +kernel
theorem dX8_own_31 : decode cX8_own 31 = .ok (.iadd, 1) := by decide +kernel
theorem dX8_own_32 : decode cX8_own 32 = .ok (.iload_n 2, 1) := by decide +kernel
theorem dX8_own_33 : decode cX8_own 33 = .ok (.invokevirtual 118, 3) := by decide +kernel
theorem dX8_own_36 : decode cX8_own 36 = .ok (.goto 4, 3) := by decide +kernel
theorem dX8_own_39 : decode cX8_own 39 = .ok (.iconst (-1), 1) := by decide +kernel
theorem dX8_own_40 : decode cX8_own 40 = .ok (.ireturn, 1) := by decide +kernel
theorem dX8_split_0 : decode cX8_split 0 = .ok (.aload_n 0, 1) := by decide +kernel
theorem dX8_split_1 : decode cX8_split 1 = .ok (.iload_n 1, 1) := by decide +kernel
theorem dX8_split_2 : decode cX8_split 2 = .ok (.invokevirtual 108, 3) := by decide +kernel
theorem dX8_split_5 : decode cX8_split 5 = .ok (.ifCond .eq 27, 3) := by decide +kernel
theorem dX8_split_8 : decode cX8_split 8 = .ok (.aload_n 0, 1) := by decide +kernel
theorem dX8_split_9 : decode cX8_split 9 = .ok (.invokevirtual 73, 3) := by decide +kernel
theorem dX8_split_12 : decode cX8_split 12 = .ok (.bipush 30, 2) := by decide +kernel
theorem dX8_split_14 : decode cX8_split 14 = .ok (.if_icmp .eq 18, 3) := by decide +kernel
theorem dX8_split_17 : decode cX8_split 17 = .ok (.iload_n 2, 1) := by decide +kernel
theorem dX8_split_18 : decode cX8_split 18 = .ok (.iconst 1, 1) := by decide +kernel
theorem dX8_split_19 : decode cX8_split 19 = .ok (.aload_n 0, 1) := by decide +kernel
theorem dX8_split_20 : decode cX8_split 20 = .ok (.iload_n 1, 1) := by decide +kernel
theorem dX8_split_21 : decode cX8_split 21 = .ok (.invokevirtual 84, 3) := by decide +kernel
theorem dX8_split_24 : decode cX8_split 24 = .ok (.iconst 1, 1) := by decide +kernel
theorem dX8_split_25 : decode cX8_split 25 = .ok (.isub, 1) := by decide +kernel
theorem dX8_split_26 : decode cX8_split 26 = .ok (.invokestatic 69, 3) := by decide +kernel
theorem dX8_split_29 : decode cX8_split 29 = .ok (.ifCond .ne 5, 3) := by decide +kernel
theorem dX8_split_32 : decode cX8_split 32 = .ok (.iconst 0, 1) := by decide +kernel
theorem dX8_split_33 : decode cX8_split 33 = .ok (.ireturn, 1) := by decide +kernel
theorem dX8_split_34 : decode cX8_split 34 = .ok (.aload_n 0, 1) := by decide +kernel
theorem dX8_split_35 : decode cX8_split 35 = .ok (.invokevirtual 105, 3) := by decide +kernel
theorem dX8_split_38 : decode cX8_split 38 = .ok (.aload_n 0, 1) := by decide +kernel
theorem dX8_split_39 : decode cX8_split 39 = .ok (.iload_n 1, 1) := by decide +kernel
theorem dX8_split_40 : decode cX8_split 40 = .ok (.invokevirtual 84, 3) := by decide +kernel
theorem dX8_split_43 : decode cX8_split 43 = .ok (.iload_n 2, 1) := by decide +kernel
theorem dX8_split_44 : decode cX8_split 44 = .ok (.isub, 1) := by decide +kernel
theorem dX8_split_45 : decode cX8_split 45 = .ok (.istore_n 3, 1) := by decide +kernel
theorem dX8_split_46 : decode cX8_split 46 = .ok (.aload_n 0, 1) := by decide +kernel
theorem dX8_split_47 : decode cX8_split 47 = .ok (.iload_n 1, 1) := by decide +kernel
theorem dX8_split_48 : decode cX8_split 48 = .ok (.iconst 1, 1) := by decide +kernel
theorem dX8_split_49 : decode cX8_split 49 = .ok (.iadd, 1) := by decide +kernel
theorem dX8_split_50 : decode cX8_split 50 = .ok (.invokevirtual 126, 3) := by decide +kernel
theorem dX8_split_53 : decode cX8_split 53 = .ok (.aload_n 0, 1) := by decide +kernel
theorem dX8_split_54 : decode cX8_split 54 = .ok (.iload_n 1, 1) := by decide +kernel
theorem dX8_split_55 : decode cX8_split 55 = .ok (.iconst 1, 1) := by decide +kernel
theorem dX8_split_56 : decode cX8_split 56 = .ok (.iadd, 1) := by decide +kernel
theorem dX8_split_57 : decode cX8_split 57 = .ok (.aload_n 0, 1) := by decide +kernel
theorem dX8_split_58 : decode cX8_split 58 = .ok (.iload_n 1, 1) := by decide +kernel
theorem dX8_split_59 : decode cX8_split 59 = .ok (.invokevirtual 81, 3) := by decide +kernel
theorem dX8_split_62 : decode cX8_split 62 = .ok (.aload_n 0, 1) := by decide +kernel
theorem dX8_split_63 : decode cX8_split 63 = .ok (.iload_n 1, 1) := by decide +kernel
theorem dX8_split_64 : decode cX8_split 64 = .ok (.invokevirtual 77, 3) := by decide +kernel
theorem dX8_split_67 : decode cX8_split 67 = .ok (.iload_n 3, 1) := by decide +kernel
theorem dX8_split_68 : decode cX8_split 68 = .ok (.invokevirtual 87, 3) := by decide +kernel
theorem dX8_split_71 : decode cX8_split 71 = .ok (.aload_n 0, 1) := by decide +kernel
theorem dX8_split_72 : decode cX8_split 72 = .ok (.iload_n 1, 1) := by decide +kernel
theorem dX8_split_73 : decode cX8_split 73 = .ok (.aload_n 0, 1) := by decide +kernel
theorem dX8_split_74 : decode cX8_split 74 = .ok (.iload_n 1, 1) := by decide +kernel
theorem dX8_split_75 : decode cX8_split 75 = .ok (.invokevirtual 81, 3) := by decide +kernel
theorem dX8_split_78 : decode cX8_split 78 = .ok (.aload_n 0, 1) := by decide +kernel
theorem dX8_split_79 : decode cX8_split 79 = .ok (.iload_n 1, 1) := by decide +kernel
theorem dX8_split_80 : decode cX8_split 80 = .ok (.invokevirtual 77, 3) := by decide +kernel
theorem dX8_split_83 : decode cX8_split 83 = .ok (.iload_n 2, 1) := by decide +kernel
theorem dX8_split_84 : decode cX8_split 84 = .ok (.invokevirtual 87, 3) := by decide +kernel
theorem dX8_split_87 : decode cX8_split 87 = .ok (.iconst 1, 1) := by decide +kernel
theorem dX8_split_88 : decode cX8_split 88 = .ok (.ireturn, 1) := by decide +kernel
theorem dX8_likeAhead_0 : decode cX8_likeAhead 0 = .ok (.iconst 0, 1) := by decide +kernel
theorem dX8_likeAhead_1 : decode cX8_likeAhead 1 = .ok (.istore_n 2, 1) := by decide +kernel
theorem dX8_likeAhead_2 : decode cX8_likeAhead 2 = .ok (.iload_n 2, 1) := by decide +kernel
theorem dX8_likeAhead_3 : decode cX8_likeAhead 3 = .ok (.iload_n 1, 1) := by decide +kernel
theorem dX8_likeAhead_4 : decode cX8_likeAhead 4 = .ok (.if_icmp .ge 37, 3) := by decide +kernel
theorem dX8_likeAhead_7 : decode cX8_likeAhead 7 = .ok (.aload_n 0, 1) := by decide +kernel
theorem dX8_likeAhead_8 : decode cX8_likeAhead 8 = .ok (.iload_n 2, 1) := by decide +kernel
theorem dX8_likeAhead_9 : decode cX8_likeAhead 9 = .ok (.invokevirtual 81, 3) := by decide +kernel
theorem dX8_likeAhead_12 : decode cX8_likeAhead 12 = .ok (.aload_n 0, 1) := by decide +kernel
theorem dX8_likeAhead_13 : decode cX8_likeAhead 13 = .ok (.iload_n 1, 1) := by decide +kernel
theorem dX8_likeAhead_14 : decode cX8_likeAhead 14 = .ok (.invokevirtual 81, 3) := by decide +kernel
theorem dX8_likeAhead_17 : decode cX8_likeAhead 17 = .ok (.if_icmp .ne 18, 3) := by decide +kernel
theorem dX8_likeAhead_20 : decode cX8_likeAhead 20 = .ok (.aload_n 0, 1) := by decide +kernel
theorem dX8_likeAhead_21 : decode cX8_likeAhead 21 = .ok (.iload_n 2, 1) := by decide +kernel
theorem dX8_likeAhead_22 : decode cX8_likeAhead 22 = .ok (.invokevirtual 77, 3) := by decide +kernel
theorem dX8_likeAhead_25 : decode cX8_likeAhead 25 = .ok (.aload_n 0, 1) := by decide +kernel
theorem dX8_likeAhead_26 : decode cX8_likeAhead 26 = .ok (.iload_n 1, 1) := by decide +kernel
theorem dX8_likeAhead_27 : decode cX8_likeAhead 27 = .ok (.invokevirtual 77, 3) := by decide +kernel
theorem dX8_likeAhead_30 : decode cX8_likeAhead 30 = .ok (.if_icmp .ne 5, 3) := by decide +kernel
theorem dX8_likeAhead_33 : decode cX8_likeAhead 33 = .ok (.iload_n 2, 1) := by decide +kernel
theorem dX8_likeAhead_34 : decode cX8_likeAhead 34 = .ok (.ireturn, 1) := by decide +kernel
theorem dX8_likeAhead_35 : decode cX8_likeAhead 35 = .ok (.iinc 2 1, 3) := by decide +kernel
theorem dX8_likeAhead_38 : decode cX8_likeAhead 38 = .ok (.goto (-36), 3) := by decide +kernel
theorem dX8_likeAhead_41 : decode cX8_likeAhead 41 = .ok (.iconst (-1), 1) := by decide +kernel
theorem dX8_likeAhead_42 : decode cX8_likeAhead 42 = .ok (.ireturn, 1) := by decide +kernel
theorem dX8_merge_0 : decode cX8_merge 0 = .ok (.iload_n 1, 1) := by decide +kernel
theorem dX8_merge_1 : decode cX8_merge 1 = .ok (.invokestatic 95, 3) := by decide +kernel
theorem dX8_merge_4 : decode cX8_merge 4 = .ok (.ifCond .ne 5, 3) := by decide +kernel
theorem dX8_merge_7 : decode cX8_merge 7 = .ok (.iconst (-1), 1) := by decide +kernel
theorem dX8_merge_8 : decode cX8_merge 8 = .ok (.ireturn, 1) := by decide +kernel
theorem dX8_merge_9 : decode cX8_merge 9 = .ok (.iconst 0, 1) := by decide +kernel
theorem dX8_merge_10 : decode cX8_merge 10 = .ok (.istore_n 2, 1) := by decide +kernel
theorem dX8_merge_11 : decode cX8_merge 11 = .ok (.iconst 0, 1) := by decide +kernel
theorem dX8_merge_12 : decode cX8_merge 12 = .ok (.istore_n 3, 1) := by decide +kernel
theorem dX8_merge_13 : decode cX8_merge 13 = .ok (.iload_n 3, 1) := by decide +kernel
theorem dX8_merge_14 : decode cX8_merge 14 = .ok (.aload_n 0, 1) := by decide +kernel
theorem dX8_merge_15 : decode cX8_merge 15 = .ok (.invokevirtual 73, 3) := by decide +kernel
theorem dX8_merge_18 : decode cX8_merge 18 = .ok (.if_icmp .ge 30, 3) := by decide +kernel
theorem dX8_merge_21 : decode cX8_merge 21 = .ok (.aload_n 0, 1) := by decide +kernel
theorem dX8_merge_22 : decode cX8_merge 22 = .ok (.iload_n 3, 1) := by decide +kernel
theorem dX8_merge_23 : decode cX8_merge 23 = .ok (.invokevirtual 81, 3) := by decide +kernel
theorem dX8_merge_26 : decode cX8_merge 26 = .ok (.iload_n 1, 1) := by decide +kernel
theorem dX8_merge_27 : decode cX8_merge 27 = .ok (.if_icmp .ne 15, 3) := by decide +kernel
theorem dX8_merge_30 : decode cX8_merge 30 = .ok (.aload_n 0, 1) := by decide +kernel
theorem dX8_merge_31 : decode cX8_merge 31 = .ok (.iload_n 3, 1) := by decide +kernel
theorem dX8_merge_32 : decode cX8_merge 32 = .ok (.invokevirtual 129, 3) := by decide +kernel
theorem dX8_merge_35 : decode cX8_merge 35 = .ok (.iconst (-1), 1) := by decide +kernel
theorem dX8_merge_36 : decode cX8_merge 36 = .ok (.if_icmp .eq 6, 3) := by decide +kernel
theorem dX8_merge_39 : decode cX8_merge 39 = .ok (.iinc 2 1, 3) := by decide +kernel
theorem dX8_merge_42 : decode cX8_merge 42 = .ok (.iinc 3 1, 3) := by decide +kernel
theorem dX8_merge_45 : decode cX8_merge 45 = .ok (.goto (-32), 3) := by decide +kernel
theorem dX8_merge_48 : decode cX8_merge 48 = .ok (.iload_n 2, 1) := by decide +kernel
theorem dX8_merge_49 : decode cX8_merge 49 = .ok (.ifCond .ne 5, 3) := by decide +kernel
theorem dX8_merge_52 : decode cX8_merge 52 = .ok (.iconst (-1), 1) := by decide +kernel
theorem dX8_merge_53 : decode cX8_merge 53 = .ok (.ireturn, 1) := by decide +kernel
theorem dX8_merge_54 : decode cX8_merge 54 = .ok (.aload_n 0, 1) := by decide +kernel
theorem dX8_merge_55 : decode cX8_merge 55 = .ok (.invokevirtual 105, 3) := by decide +kernel
theorem dX8_merge_58 : decode cX8_merge 58 = .ok (.aload_n 0, 1) := by decide +kernel
theorem dX8_merge_59 : decode cX8_merge 59 = .ok (.invokevirtual 73, 3) := by decide +kernel
theorem dX8_merge_62 : decode cX8_merge 62 = .ok (.iconst 1, 1) := by decide +kernel
theorem dX8_merge_63 : decode cX8_merge 63 = .ok (.isub, 1) := by decide +kernel
theorem dX8_merge_64 : decode cX8_merge 64 = .ok (.istore_n 3, 1) := by decide +kernel
theorem dX8_merge_65 : decode cX8_merge 65 = .ok (.iload_n 3, 1) := by decide +kernel
theorem dX8_merge_66 : decode cX8_merge 66 = .ok (.ifCond .lt 71, 3) := by decide +kernel
theorem dX8_merge_69 : decode cX8_merge 69 = .ok (.aload_n 0, 1) := by decide +kernel
theorem dX8_merge_70 : decode cX8_merge 70 = .ok (.iload_n 3, 1) := by decide +kernel
theorem dX8_merge_71 : decode cX8_merge 71 = .ok (.invokevirtual 81, 3) := by decide +kernel
theorem dX8_merge_74 : decode cX8_merge 74 = .ok (.iload_n 1, 1) := by decide +kernel
theorem dX8_merge_75 : decode cX8_merge 75 = .ok (.if_icmp .ne 11, 3) := by decide +kernel
theorem dX8_merge_78 : decode cX8_merge 78 = .ok (.aload_n 0, 1) := by decide +kernel
theorem dX8_merge_79 : decode cX8_merge 79 = .ok (.iload_n 3, 1) := by decide +kernel
theorem dX8_merge_80 : decode cX8_merge 80 = .ok (.invokevirtual 129, 3) := by decide +kernel
theorem dX8_merge_83 : decode cX8_merge 83 = .ok (.goto 4, 3) := by decide +kernel
theorem dX8_merge_86 : decode cX8_merge 86 = .ok (.iconst (-1), 1) := by decide +kernel
theorem dX8_merge_87 : decode cX8_merge 87 = .ok (.istore 4, 2) := by decide +kernel
theorem dX8_merge_89 : decode cX8_merge 89 = .ok (.iload 4, 2) := by decide +kernel
theorem dX8_merge_91 : decode cX8_merge 91 = .ok (.iconst (-1), 1) := by decide +kernel
theorem dX8_merge_92 : decode cX8_merge 92 = .ok (.if_icmp .ne 6, 3) := by decide +kernel
theorem dX8_merge_95 : decode cX8_merge 95 = .ok (.goto 36, 3) := by decide +kernel
theorem dX8_merge_98 : decode cX8_merge 98 = .ok (.aload_n 0, 1) := by decide +kernel
theorem dX8_merge_99 : decode cX8_merge 99 = .ok (.iload 4, 2) := by decide +kernel
theorem dX8_merge_101 : decode cX8_merge 101 = .ok (.invokevirtual 84, 3) := by decide +kernel
theorem dX8_merge_104 : decode cX8_merge 104 = .ok (.aload_n 0, 1) := by decide +kernel
theorem dX8_merge_105 : decode cX8_merge 105 = .ok (.iload_n 3, 1) := by decide +kernel
theorem dX8_merge_106 : decode cX8_merge 106 = .ok (.invokevirtual 84, 3) := by decide +kernel
theorem dX8_merge_109 : decode cX8_merge 109 = .ok (.iadd, 1) := by decide +kernel
theorem dX8_merge_110 : decode cX8_merge 110 = .ok (.istore 5, 2) := by decide +kernel
theorem dX8_merge_112 : decode cX8_merge 112 = .ok (.aload_n 0, 1) := by decide +kernel
theorem dX8_merge_113 : decode cX8_merge 113 = .ok (.iload 4, 2) := by decide +kernel
theorem dX8_merge_115 : decode cX8_merge 115 = .ok (.iload_n 1, 1) := by decide +kernel
theorem dX8_merge_116 : decode cX8_merge 116 = .ok (.aload_n 0, 1) := by decide +kernel
theorem dX8_merge_117 : decode cX8_merge 117 = .ok (.iload_n 3, 1) := by decide +kernel
theorem dX8_merge_118 : decode cX8_merge 118 = .ok (.invokevirtual 77, 3) := by decide +kernel
theorem dX8_merge_121 : decode cX8_merge 121 = .ok (.iload 5, 2) := by decide +kernel
theorem dX8_merge_123 : decode cX8_merge 123 = .ok (.invokevirtual 87, 3) := by decide +kernel
theorem dX8_merge_126 : decode cX8_merge 126 = .ok (.aload_n 0, 1) := by decide +kernel
theorem dX8_merge_127 : decode cX8_merge 127 = .ok (.iload_n 3, 1) := by decide +kernel
theorem dX8_merge_128 : decode cX8_merge 128 = .ok (.invokevirtual 111, 3) := by decide +kernel
theorem dX8_merge_131 : decode cX8_merge 131 = .ok (.iinc 3 (-1), 3) := by decide +kernel
theorem dX8_merge_134 : decode cX8_merge 134 = .ok (.goto (-69), 3) := by decide +kernel
theorem dX8_merge_137 : decode cX8_merge 137 = .ok (.iconst 0, 1) := by decide +kernel
theorem dX8_merge_138 : decode cX8_merge 138 = .ok (.istore_n 3, 1) := by decide +kernel
theorem dX8_merge_139 : decode cX8_merge 139 = .ok (.iload_n 3, 1) := by decide +kernel
theorem dX8_merge_140 : decode cX8_merge 140 = .ok (.aload_n 0, 1) := by decide +kernel
theorem dX8_merge_141 : decode cX8_merge 141 = .ok (.invokevirtual 73, 3) := by decide +kernel
theorem dX8_merge_144 : decode cX8_merge 144 = .ok (.if_icmp .ge 38, 3) := by decide +kernel
theorem dX8_merge_147 : decode cX8_merge 147 = .ok (.aload_n 0, 1) := by decide +kernel
theorem dX8_merge_148 : decode cX8_merge 148 = .ok (.iload_n 3, 1) := by decide +kernel
theorem dX8_merge_149 : decode cX8_merge 149 = .ok (.invokevirtual 84, 3) := by decide +kernel
theorem dX8_merge_152 : decode cX8_merge 152 = .ok (.sipush 1000, 3) := by decide +kernel
theorem dX8_merge_155 : decode cX8_merge 155 = .ok (.if_icmp .le 21, 3) := by decide +kernel
theorem dX8_merge_158 : decode cX8_merge 158 = .ok (.aload_n 0, 1) := by decide +kernel
theorem dX8_merge_159 : decode cX8_merge 159 = .ok (.iload_n 3, 1) := by decide +kernel
theorem dX8_merge_160 : decode cX8_merge 160 = .ok (.aload_n 0, 1) := by decide +kernel
theorem dX8_merge_161 : decode cX8_merge 161 = .ok (.iload_n 3, 1) := by decide +kernel
theorem dX8_merge_162 : decode cX8_merge 162 = .ok (.invokevirtual 81, 3) := by decide +kernel
theorem dX8_merge_165 : decode cX8_merge 165 = .ok (.aload_n 0, 1) := by decide +kernel
theorem dX8_merge_166 : decode cX8_merge 166 = .ok (.iload_n 3, 1) := by decide +kernel
theorem dX8_merge_167 : decode cX8_merge 167 = .ok (.invokevirtual 77, 3) := by decide +kernel
theorem dX8_merge_170 : decode cX8_merge 170 = .ok (.sipush 1000, 3) := by decide +kernel
theorem dX8_merge_173 : decode cX8_merge 173 = .ok (.invokevirtual 87, 3) := by decide +kernel
theorem dX8_merge_176 : decode cX8_merge 176 = .ok (.iinc 3 1, 3) := by decide +kernel
theorem dX8_merge_179 : decode cX8_merge 179 = .ok (.goto (-40), 3) := by decide +kernel
theorem dX8_merge_182 : decode cX8_merge 182 = .ok (.iload_n 2, 1) := by decide +kernel
theorem dX8_merge_183 : decode cX8_merge 183 = .ok (.ireturn, 1) := by decide +kernel
theorem dX8_move_0 : decode cX8_move 0 = .ok (.aload_n 0, 1) := by decide +kernel
theorem dX8_move_1 : decode cX8_move 1 = .ok (.iload_n 1, 1) := by decide +kernel
theorem dX8_move_2 : decode cX8_move 2 = .ok (.invokevirtual 108, 3) := by decide +kernel
theorem dX8_move_5 : decode cX8_move 5 = .ok (.ifCond .eq 16, 3) := by decide +kernel
theorem dX8_move_8 : decode cX8_move 8 = .ok (.aload_n 0, 1) := by decide +kernel
theorem dX8_move_9 : decode cX8_move 9 = .ok (.iload_n 2, 1) := by decide +kernel
theorem dX8_move_10 : decode cX8_move 10 = .ok (.invokevirtual 108, 3) := by decide +kernel
theorem dX8_move_13 : decode cX8_move 13 = .ok (.ifCond .eq 8, 3) := by decide +kernel
theorem dX8_move_16 : decode cX8_move 16 = .ok (.iload_n 1, 1) := by decide +kernel
theorem dX8_move_17 : decode cX8_move 17 = .ok (.iload_n 2, 1) := by decide +kernel
theorem dX8_move_18 : decode cX8_move 18 = .ok (.if_icmp .ne 5, 3) := by decide +kernel
theorem dX8_move_21 : decode cX8_move 21 = .ok (.iconst 0, 1) := by decide +kernel
theorem dX8_move_22 : decode cX8_move 22 = .ok (.ireturn, 1) := by decide +kernel
theorem dX8_move_23 : decode cX8_move 23 = .ok (.aload_n 0, 1) := by decide +kernel
theorem dX8_move_24 : decode cX8_move 24 = .ok (.invokevirtual 105, 3) := by decide +kernel
theorem dX8_move_27 : decode cX8_move 27 = .ok (.aload_n 0, 1) := by decide +kernel
theorem dX8_move_28 : decode cX8_move 28 = .ok (.iload_n 1, 1) := by decide +kernel
theorem dX8_move_29 : decode cX8_move 29 = .ok (.invokevirtual 81, 3) := by decide +kernel
theorem dX8_move_32 : decode cX8_move 32 = .ok (.istore_n 3, 1) := by decide +kernel
theorem dX8_move_33 : decode cX8_move 33 = .ok (.aload_n 0, 1) := by decide +kernel
theorem dX8_move_34 : decode cX8_move 34 = .ok (.iload_n 1, 1) := by decide +kernel
theorem dX8_move_35 : decode cX8_move 35 = .ok (.invokevirtual 77, 3) := by decide +kernel
theorem dX8_move_38 : decode cX8_move 38 = .ok (.istore 4, 2) := by decide +kernel
theorem dX8_move_40 : decode cX8_move 40 = .ok (.aload_n 0, 1) := by decide +kernel
theorem dX8_move_41 : decode cX8_move 41 = .ok (.iload_n 1, 1) := by decide +kernel
theorem dX8_move_42 : decode cX8_move 42 = .ok (.invokevirtual 84, 3) := by decide +kernel
theorem dX8_move_45 : decode cX8_move 45 = .ok (.istore 5, 2) := by decide +kernel
theorem dX8_move_47 : decode cX8_move 47 = .ok (.aload_n 0, 1) := by decide +kernel
theorem dX8_move_48 : decode cX8_move 48 = .ok (.iload_n 1, 1) := by decide +kernel
theorem dX8_move_49 : decode cX8_move 49 = .ok (.invokevirtual 111, 3) := by decide +kernel
theorem dX8_move_52 : decode cX8_move 52 = .ok (.aload_n 0, 1) := by decide +kernel
theorem dX8_move_53 : decode cX8_move 53 = .ok (.iload_n 2, 1) := by decide +kernel
theorem dX8_move_54 : decode cX8_move 54 = .ok (.invokevirtual 126, 3) := by decide +kernel
theorem dX8_move_57 : decode cX8_move 57 = .ok (.aload_n 0, 1) := by decide +kernel
theorem dX8_move_58 : decode cX8_move 58 = .ok (.iload_n 2, 1) := by decide +kernel
theorem dX8_move_59 : decode cX8_move 59 = .ok (.iload_n 3, 1) := by decide +kernel
theorem dX8_move_60 : decode cX8_move 60 = .ok (.iload 4, 2) := by decide +kernel
theorem dX8_move_62 : decode cX8_move 62 = .ok (.iload 5, 2) := by decide +kernel
theorem dX8_move_64 : decode cX8_move 64 = .ok (.invokevirtual 87, 3) := by decide +kernel
theorem dX8_move_67 : decode cX8_move 67 = .ok (.iconst 1, 1) := by decide +kernel
theorem dX8_move_68 : decode cX8_move 68 = .ok (.ireturn, 1) := by decide +kernel
theorem dX8_hold_0 : decode cX8_hold 0 = .ok (.iload_n 1, 1) := by decide +kernel
theorem dX8_hold_1 : decode cX8_hold 1 = .ok (.invokestatic 95, 3) := by decide +kernel
theorem dX8_hold_4 : decode cX8_hold 4 = .ok (.ifCond .eq 39, 3) := by decide +kernel
theorem dX8_hold_7 : decode cX8_hold 7 = .ok (.iload_n 2, 1) := by decide +kernel
theorem dX8_hold_8 : decode cX8_hold 8 = .ok (.iconst 0, 1) := by decide +kernel
theorem dX8_hold_9 : decode cX8_hold 9 = .ok (.sipush 9999, 3) := by decide +kernel
theorem dX8_hold_12 : decode cX8_hold 12 = .ok (.invokestatic 69, 3) := by decide +kernel
theorem dX8_hold_15 : decode cX8_hold 15 = .ok (.ifCond .eq 28, 3) := by decide +kernel
theorem dX8_hold_18 : decode cX8_hold 18 = .ok (.aload_n 0, 1) := by decide +kernel
theorem dX8_hold_19 : decode cX8_hold 19 = .ok (.getfield 13, 3) := by decide +kernel
theorem dX8_hold_22 : decode cX8_hold 22 = .ok (.bipush 7, 2) := by decide +kernel
theorem dX8_hold_24 : decode cX8_hold 24 = .ok (.iload_n 1, 1) := by decide +kernel
theorem dX8_hold_25 : decode cX8_hold 25 = .ok (.iadd, 1) := by decide +kernel
theorem dX8_hold_26 : decode cX8_hold 26 = .ok (.iaload, 1) := by decide +kernel
theorem dX8_hold_27 : decode cX8_hold 27 = .ok (.iload_n 2, 1) := by decide +kernel
theorem dX8_hold_28 : decode cX8_hold 28 = .ok (.if_icmp .eq 15, 3) := by decide +kernel
theorem dX8_hold_31 : decode cX8_hold 31 = .ok (.aload_n 0, 1) := by decide +kernel
theorem dX8_hold_32 : decode cX8_hold 32 = .ok (.bipush 7, 2) := by decide +kernel
theorem dX8_hold_34 : decode cX8_hold 34 = .ok (.iload_n 1, 1) := by decide +kernel
theorem dX8_hold_35 : decode cX8_hold 35 = .ok (.iadd, 1) := by decide +kernel
theorem dX8_hold_36 : decode cX8_hold 36 = .ok (.iload_n 2, 1) := by decide +kernel
theorem dX8_hold_37 : decode cX8_hold 37 = .ok (.invokevirtual 118, 3) := by decide +kernel
theorem dX8_hold_40 : decode cX8_hold 40 = .ok (.goto 4, 3) := by decide +kernel
theorem dX8_hold_43 : decode cX8_hold 43 = .ok (.iconst (-1), 1) := by decide +kernel
theorem dX8_hold_44 : decode cX8_hold 44 = .ok (.ireturn, 1) := by decide +kernel
theorem dX8_undo_0 : decode cX8_undo 0 = .ok (.aload_n 0, 1) := by decide +kernel
theorem dX8_undo_1 : decode cX8_undo 1 = .ok (.getfield 66, 3) := by decide +kernel
theorem dX8_undo_4 : decode cX8_undo 4 = .ok (.ifCond .ne 5, 3) := by decide +kernel
theorem dX8_undo_7 : decode cX8_undo 7 = .ok (.iconst (-1), 1) := by decide +kernel
theorem dX8_undo_8 : decode cX8_undo 8 = .ok (.ireturn, 1) := by decide +kernel
theorem dX8_undo_9 : decode cX8_undo 9 = .ok (.aload_n 0, 1) := by decide +kernel
theorem dX8_undo_10 : decode cX8_undo 10 = .ok (.dup, 1) := by decide +kernel
theorem dX8_undo_11 : decode cX8_undo 11 = .ok (.getfield 66, 3) := by decide +kernel
theorem dX8_undo_14 : decode cX8_undo 14 = .ok (.iconst 1, 1) := by decide +kernel
theorem dX8_undo_15 : decode cX8_undo 15 = .ok (.isub, 1) := by decide +kernel
theorem dX8_undo_16 : decode cX8_undo 16 = .ok (.putfield 66, 3) := by decide +kernel
theorem dX8_undo_19 : decode cX8_undo 19 = .ok (.iconst 0, 1) := by decide +kernel
theorem dX8_undo_20 : decode cX8_undo 20 = .ok (.istore_n 1, 1) := by decide +kernel
theorem dX8_undo_21 : decode cX8_undo 21 = .ok (.iload_n 1, 1) := by decide +kernel
theorem dX8_undo_22 : decode cX8_undo 22 = .ok (.sipush 139, 3) := by decide +kernel
theorem dX8_undo_25 : decode cX8_undo 25 = .ok (.if_icmp .ge 30, 3) := by decide +kernel
theorem dX8_undo_28 : decode cX8_undo 28 = .ok (.aload_n 0, 1) := by decide +kernel
theorem dX8_undo_29 : decode cX8_undo 29 = .ok (.getfield 13, 3) := by decide +kernel
theorem dX8_undo_32 : decode cX8_undo 32 = .ok (.iload_n 1, 1) := by decide +kernel
theorem dX8_undo_33 : decode cX8_undo 33 = .ok (.aload_n 0, 1) := by decide +kernel
theorem dX8_undo_34 : decode cX8_undo 34 = .ok (.getfield 27, 3) := by decide +kernel
theorem dX8_undo_37 : decode cX8_undo 37 = .ok (.sipush 139, 3) := by decide +kernel
theorem dX8_undo_40 : decode cX8_undo 40 = .ok (.aload_n 0, 1) := by decide +kernel
theorem dX8_undo_41 : decode cX8_undo 41 = .ok (.getfield 66, 3) := by decide +kernel
theorem dX8_undo_44 : decode cX8_undo 44 = .ok (.imul, 1) := by decide +kernel
theorem dX8_undo_45 : decode cX8_undo 45 = .ok (.iload_n 1, 1) := by decide +kernel
theorem dX8_undo_46 : decode cX8_undo 46 = .ok (.iadd, 1) := by decide +kernel
theorem dX8_undo_47 : decode cX8_undo 47 = .ok (.iaload, 1) := by decide +kernel
theorem dX8_undo_48 : decode cX8_undo 48 = .ok (.iastore, 1) := by decide +kernel
theorem dX8_undo_49 : decode cX8_undo 49 = .ok (.iinc 1 1, 3) := by decide +kernel
theorem dX8_undo_52 : decode cX8_undo 52 = .ok (.goto (-31), 3) := by decide +kernel
theorem dX8_undo_55 : decode cX8_undo 55 = .ok (.iconst 0, 1) := by decide +kernel
theorem dX8_undo_56 : decode cX8_undo 56 = .ok (.istore_n 1, 1) := by decide +kernel
theorem dX8_undo_57 : decode cX8_undo 57 = .ok (.iload_n 1, 1) := by decide +kernel
theorem dX8_undo_58 : decode cX8_undo 58 = .ok (.bipush 8, 2) := by decide +kernel
theorem dX8_undo_60 : decode cX8_undo 60 = .ok (.if_icmp .ge 29, 3) := by decide +kernel
theorem dX8_undo_63 : decode cX8_undo 63 = .ok (.aload_n 0, 1) := by decide +kernel
theorem dX8_undo_64 : decode cX8_undo 64 = .ok (.getfield 17, 3) := by decide +kernel
theorem dX8_undo_67 : decode cX8_undo 67 = .ok (.iload_n 1, 1) := by decide +kernel
theorem dX8_undo_68 : decode cX8_undo 68 = .ok (.aload_n 0, 1) := by decide +kernel
theorem dX8_undo_69 : decode cX8_undo 69 = .ok (.getfield 30, 3) := by decide +kernel
theorem dX8_undo_72 : decode cX8_undo 72 = .ok (.bipush 8, 2) := by decide +kernel
theorem dX8_undo_74 : decode cX8_undo 74 = .ok (.aload_n 0, 1) := by decide +kernel
theorem dX8_undo_75 : decode cX8_undo 75 = .ok (.getfield 66, 3) := by decide +kernel
theorem dX8_undo_78 : decode cX8_undo 78 = .ok (.imul, 1) := by decide +kernel
theorem dX8_undo_79 : decode cX8_undo 79 = .ok (.iload_n 1, 1) := by decide +kernel
theorem dX8_undo_80 : decode cX8_undo 80 = .ok (.iadd, 1) := by decide +kernel
theorem dX8_undo_81 : decode cX8_undo 81 = .ok (.laload, 1) := by decide +kernel
theorem dX8_undo_82 : decode cX8_undo 82 = .ok (.lastore, 1) := by decide +kernel
theorem dX8_undo_83 : decode cX8_undo 83 = .ok (.iinc 1 1, 3) := by decide +kernel
theorem dX8_undo_86 : decode cX8_undo 86 = .ok (.goto (-29), 3) := by decide +kernel
theorem dX8_undo_89 : decode cX8_undo 89 = .ok (.aload_n 0, 1) := by decide +kernel
theorem dX8_undo_90 : decode cX8_undo 90 = .ok (.getfield 66, 3) := by decide +kernel
theorem dX8_undo_93 : decode cX8_undo 93 = .ok (.ireturn, 1) := by decide +kernel
theorem dX8_roomOf_0 : decode cX8_roomOf 0 = .ok (.aload_n 0, 1) := by decide +kernel
theorem dX8_roomOf_1 : decode cX8_roomOf 1 = .ok (.getfield 13, 3) := by decide +kernel
theorem dX8_roomOf_4 : decode cX8_roomOf 4 = .ok (.iconst 1, 1) := by decide +kernel
theorem dX8_roomOf_5 : decode cX8_roomOf 5 = .ok (.iaload, 1) := by decide +kernel
theorem dX8_roomOf_6 : decode cX8_roomOf 6 = .ok (.aload_n 0, 1) := by decide +kernel
theorem dX8_roomOf_7 : decode cX8_roomOf 7 = .ok (.getfield 13, 3) := by decide +kernel
theorem dX8_roomOf_10 : decode cX8_roomOf 10 = .ok (.iconst 0, 1) := by decide +kernel
theorem dX8_roomOf_11 : decode cX8_roomOf 11 = .ok (.iaload, 1) := by decide +kernel
theorem dX8_roomOf_12 : decode cX8_roomOf 12 = .ok (.imul, 1) := by decide +kernel
theorem dX8_roomOf_13 : decode cX8_roomOf 13 = .ok (.bipush 100, 2) := by decide +kernel
theorem dX8_roomOf_15 : decode cX8_roomOf 15 = .ok (.idiv, 1) := by decide +kernel
theorem dX8_roomOf_16 : decode cX8_roomOf 16 = .ok (.istore_n 2, 1) := by decide +kernel
theorem dX8_roomOf_17 : decode cX8_roomOf 17 = .ok (.iconst 0, 1) := by decide +kernel
theorem dX8_roomOf_18 : decode cX8_roomOf 18 = .ok (.istore_n 3, 1) := by decide +kernel
theorem dX8_roomOf_19 : decode cX8_roomOf 19 = .ok (.iload_n 3, 1) := by decide +kernel
theorem dX8_roomOf_20 : decode cX8_roomOf 20 = .ok (.bipush 8, 2) := by decide +kernel
theorem dX8_roomOf_22 : decode cX8_roomOf 22 = .ok (.if_icmp .ge 34, 3) := by decide +kernel
theorem dX8_roomOf_25 : decode cX8_roomOf 25 = .ok (.aload_n 0, 1) := by decide +kernel
theorem dX8_roomOf_26 : decode cX8_roomOf 26 = .ok (.getfield 13, 3) := by decide +kernel
theorem dX8_roomOf_29 : decode cX8_roomOf 29 = .ok (.bipush 15, 2) := by decide +kernel
theorem dX8_roomOf_31 : decode cX8_roomOf 31 = .ok (.iload_n 3, 1) := by decide +kernel
theorem dX8_roomOf_32 : decode cX8_roomOf 32 = .ok (.iadd, 1) := by decide +kernel
theorem dX8_roomOf_33 : decode cX8_roomOf 33 = .ok (.iaload, 1) := by decide +kernel
theorem dX8_roomOf_34 : decode cX8_roomOf 34 = .ok (.iload_n 1, 1) := by decide +kernel
theorem dX8_roomOf_35 : decode cX8_roomOf 35 = .ok (.if_icmp .ne 15, 3) := by decide +kernel
theorem dX8_roomOf_38 : decode cX8_roomOf 38 = .ok (.iload_n 2, 1) := by decide +kernel
theorem dX8_roomOf_39 : decode cX8_roomOf 39 = .ok (.aload_n 0, 1) := by decide +kernel
theorem dX8_roomOf_40 : decode cX8_roomOf 40 = .ok (.getfield 13, 3) := by decide +kernel
theorem dX8_roomOf_43 : decode cX8_roomOf 43 = .ok (.bipush 7, 2) := by decide +kernel
theorem dX8_roomOf_45 : decode cX8_roomOf 45 = .ok (.iload_n 3, 1) := by decide +kernel
theorem dX8_roomOf_46 : decode cX8_roomOf 46 = .ok (.iadd, 1) := by decide +kernel
theorem dX8_roomOf_47 : decode cX8_roomOf 47 = .ok (.iaload, 1) := by decide +kernel
theorem dX8_roomOf_48 : decode cX8_roomOf 48 = .ok (.isub, 1) := by decide +kernel
theorem dX8_roomOf_49 : decode cX8_roomOf 49 = .ok (.istore_n 2, 1) := by decide +kernel
theorem dX8_roomOf_50 : decode cX8_roomOf 50 = .ok (.iinc 3 1, 3) := by decide +kernel
theorem dX8_roomOf_53 : decode cX8_roomOf 53 = .ok (.goto (-34), 3) := by decide +kernel
theorem dX8_roomOf_56 : decode cX8_roomOf 56 = .ok (.iload_n 2, 1) := by decide +kernel
theorem dX8_roomOf_57 : decode cX8_roomOf 57 = .ok (.ifCond .ge 7, 3) := by decide +kernel
theorem dX8_roomOf_60 : decode cX8_roomOf 60 = .ok (.iconst 0, 1) := by decide +kernel
theorem dX8_roomOf_61 : decode cX8_roomOf 61 = .ok (.goto 4, 3) := by decide +kernel
theorem dX8_roomOf_64 : decode cX8_roomOf 64 = .ok (.iload_n 2, 1) := by decide +kernel
theorem dX8_roomOf_65 : decode cX8_roomOf 65 = .ok (.ireturn, 1) := by decide +kernel
theorem dX8_laysOrder_0 : decode cX8_laysOrder 0 = .ok (.iconst 0, 1) := by decide +kernel
theorem dX8_laysOrder_1 : decode cX8_laysOrder 1 = .ok (.istore_n 1, 1) := by decide +kernel
theorem dX8_laysOrder_2 : decode cX8_laysOrder 2 = .ok (.iload_n 1, 1) := by decide +kernel
theorem dX8_laysOrder_3 : decode cX8_laysOrder 3 = .ok (.aload_n 0, 1) := by decide +kernel
theorem dX8_laysOrder_4 : decode cX8_laysOrder 4 = .ok (.invokevirtual 73, 3) := by decide +kernel
theorem dX8_laysOrder_7 : decode cX8_laysOrder 7 = .ok (.if_icmp .ge 62, 3) := by decide +kernel
theorem dX8_laysOrder_10 : decode cX8_laysOrder 10 = .ok (.iload_n 1, 1) := by decide +kernel
theorem dX8_laysOrder_11 : decode cX8_laysOrder 11 = .ok (.istore_n 2, 1) := by decide +kernel
theorem dX8_laysOrder_12 : decode cX8_laysOrder 12 = .ok (.iload_n 2, 1) := by decide +kernel
theorem dX8_laysOrder_13 : decode cX8_laysOrder 13 = .ok (.ifCond .le 43, 3) := by decide +kernel
theorem dX8_laysOrder_16 : decode cX8_laysOrder 16 = .ok (.aload_n 0, 1) := by decide +kernel
theorem dX8_laysOrder_17 : decode cX8_laysOrder 17 = .ok (.aload_n 0, 1) := by decide +kernel
theorem dX8_laysOrder_18 : decode cX8_laysOrder 18 = .ok (.getfield 33, 3) := by decide +kernel
theorem dX8_laysOrder_21 : decode cX8_laysOrder 21 = .ok (.iload_n 2, 1) := by decide +kernel
theorem dX8_laysOrder_22 : decode cX8_laysOrder 22 = .ok (.iconst 1, 1) := by decide +kernel
theorem dX8_laysOrder_23 : decode cX8_laysOrder 23 = .ok (.isub, 1) := by decide +kernel
theorem dX8_laysOrder_24 : decode cX8_laysOrder 24 = .ok (.iaload, 1) := by decide +kernel
theorem dX8_laysOrder_25 : decode cX8_laysOrder 25 = .ok (.invokevirtual 77, 3) := by decide +kernel
theorem dX8_laysOrder_28 : decode cX8_laysOrder 28 = .ok (.aload_n 0, 1) := by decide +kernel
theorem dX8_laysOrder_29 : decode cX8_laysOrder 29 = .ok (.iload_n 1, 1) := by decide +kernel
theorem dX8_laysOrder_30 : decode cX8_laysOrder 30 = .ok (.invokevirtual 77, 3) := by decide +kernel
theorem dX8_laysOrder_33 : decode cX8_laysOrder 33 = .ok (.if_icmp .le 23, 3) := by decide +kernel
theorem dX8_laysOrder_36 : decode cX8_laysOrder 36 = .ok (.aload_n 0, 1) := by decide +kernel
theorem dX8_laysOrder_37 : decode cX8_laysOrder 37 = .ok (.getfield 33, 3) := by decide +kernel
theorem dX8_laysOrder_40 : decode cX8_laysOrder 40 = .ok (.iload_n 2, 1) := by decide +kernel
theorem dX8_laysOrder_41 : decode cX8_laysOrder 41 = .ok (.aload_n 0, 1) := by decide +kernel
theorem dX8_laysOrder_42 : decode cX8_laysOrder 42 = .ok (.getfield 33, 3) := by decide +kernel
theorem dX8_laysOrder_45 : decode cX8_laysOrder 45 = .ok (.iload_n 2, 1) := by decide +kernel
theorem dX8_laysOrder_46 : decode cX8_laysOrder 46 = .ok (.iconst 1, 1) := by decide +kernel
theorem dX8_laysOrder_47 : decode cX8_laysOrder 47 = .ok (.isub, 1) := by decide +kernel
theorem dX8_laysOrder_48 : decode cX8_laysOrder 48 = .ok (.iaload, 1) := by decide +kernel
theorem dX8_laysOrder_49 : decode cX8_laysOrder 49 = .ok (.iastore, 1) := by decide +kernel
theorem dX8_laysOrder_50 : decode cX8_laysOrder 50 = .ok (.iinc 2 (-1), 3) := by decide +kernel
theorem dX8_laysOrder_53 : decode cX8_laysOrder 53 = .ok (.goto (-41), 3) := by decide +kernel
theorem dX8_laysOrder_56 : decode cX8_laysOrder 56 = .ok (.aload_n 0, 1) := by decide +kernel
theorem dX8_laysOrder_57 : decode cX8_laysOrder 57 = .ok (.getfield 33, 3) := by decide +kernel
theorem dX8_laysOrder_60 : decode cX8_laysOrder 60 = .ok (.iload_n 2, 1) := by decide +kernel
theorem dX8_laysOrder_61 : decode cX8_laysOrder 61 = .ok (.iload_n 1, 1) := by decide +kernel
theorem dX8_laysOrder_62 : decode cX8_laysOrder 62 = .ok (.iastore, 1) := by decide +kernel
theorem dX8_laysOrder_63 : decode cX8_laysOrder 63 = .ok (.iinc 1 1, 3) := by decide +kernel
theorem dX8_laysOrder_66 : decode cX8_laysOrder 66 = .ok (.goto (-64), 3) := by decide +kernel
theorem dX8_laysOrder_69 : decode cX8_laysOrder 69 = .ok (.return_, 1) := by decide +kernel
theorem dX8_admits_0 : decode cX8_admits 0 = .ok (.iconst 0, 1) := by decide +kernel
theorem dX8_admits_1 : decode cX8_admits 1 = .ok (.istore_n 1, 1) := by decide +kernel
theorem dX8_admits_2 : decode cX8_admits 2 = .ok (.iload_n 1, 1) := by decide +kernel
theorem dX8_admits_3 : decode cX8_admits 3 = .ok (.bipush 8, 2) := by decide +kernel
theorem dX8_admits_5 : decode cX8_admits 5 = .ok (.if_icmp .ge 20, 3) := by decide +kernel
theorem dX8_admits_8 : decode cX8_admits 8 = .ok (.aload_n 0, 1) := by decide +kernel
theorem dX8_admits_9 : decode cX8_admits 9 = .ok (.getfield 45, 3) := by decide +kernel
theorem dX8_admits_12 : decode cX8_admits 12 = .ok (.iload_n 1, 1) := by decide +kernel
theorem dX8_admits_13 : decode cX8_admits 13 = .ok (.aload_n 0, 1) := by decide +kernel
theorem dX8_admits_14 : decode cX8_admits 14 = .ok (.iload_n 1, 1) := by decide +kernel
theorem dX8_admits_15 : decode cX8_admits 15 = .ok (.invokevirtual 132, 3) := by decide +kernel
theorem dX8_admits_18 : decode cX8_admits 18 = .ok (.iastore, 1) := by decide +kernel
theorem dX8_admits_19 : decode cX8_admits 19 = .ok (.iinc 1 1, 3) := by decide +kernel
theorem dX8_admits_22 : decode cX8_admits 22 = .ok (.goto (-20), 3) := by decide +kernel
theorem dX8_admits_25 : decode cX8_admits 25 = .ok (.iconst 0, 1) := by decide +kernel
theorem dX8_admits_26 : decode cX8_admits 26 = .ok (.istore_n 1, 1) := by decide +kernel
theorem dX8_admits_27 : decode cX8_admits 27 = .ok (.iload_n 1, 1) := by decide +kernel
theorem dX8_admits_28 : decode cX8_admits 28 = .ok (.aload_n 0, 1) := by decide +kernel
theorem dX8_admits_29 : decode cX8_admits 29 = .ok (.invokevirtual 73, 3) := by decide +kernel
theorem dX8_admits_32 : decode cX8_admits 32 = .ok (.if_icmp .ge 152, 3) := by decide +kernel
theorem dX8_admits_35 : decode cX8_admits 35 = .ok (.aload_n 0, 1) := by decide +kernel
theorem dX8_admits_36 : decode cX8_admits 36 = .ok (.getfield 33, 3) := by decide +kernel
theorem dX8_admits_39 : decode cX8_admits 39 = .ok (.iload_n 1, 1) := by decide +kernel
theorem dX8_admits_40 : decode cX8_admits 40 = .ok (.iaload, 1) := by decide +kernel
theorem dX8_admits_41 : decode cX8_admits 41 = .ok (.istore_n 2, 1) := by decide +kernel
theorem dX8_admits_42 : decode cX8_admits 42 = .ok (.aload_n 0, 1) := by decide +kernel
theorem dX8_admits_43 : decode cX8_admits 43 = .ok (.getfield 36, 3) := by decide +kernel
theorem dX8_admits_46 : decode cX8_admits 46 = .ok (.iload_n 2, 1) := by decide +kernel
theorem dX8_admits_47 : decode cX8_admits 47 = .ok (.iconst 0, 1) := by decide +kernel
theorem dX8_admits_48 : decode cX8_admits 48 = .ok (.iastore, 1) := by decide +kernel
theorem dX8_admits_49 : decode cX8_admits 49 = .ok (.aload_n 0, 1) := by decide +kernel
theorem dX8_admits_50 : decode cX8_admits 50 = .ok (.getfield 39, 3) := by decide +kernel
theorem dX8_admits_53 : decode cX8_admits 53 = .ok (.iload_n 2, 1) := by decide +kernel
theorem dX8_admits_54 : decode cX8_admits 54 = .ok (.iconst 1, 1) := by decide +kernel
theorem dX8_admits_55 : decode cX8_admits 55 = .ok (.iastore, 1) := by decide +kernel
theorem dX8_admits_56 : decode cX8_admits 56 = .ok (.aload_n 0, 1) := by decide +kernel
theorem dX8_admits_57 : decode cX8_admits 57 = .ok (.iload_n 2, 1) := by decide +kernel
theorem dX8_admits_58 : decode cX8_admits 58 = .ok (.invokevirtual 115, 3) := by decide +kernel
theorem dX8_admits_61 : decode cX8_admits 61 = .ok (.ifCond .ne 29, 3) := by decide +kernel
theorem dX8_admits_64 : decode cX8_admits 64 = .ok (.aload_n 0, 1) := by decide +kernel
theorem dX8_admits_65 : decode cX8_admits 65 = .ok (.iload_n 2, 1) := by decide +kernel
theorem dX8_admits_66 : decode cX8_admits 66 = .ok (.invokevirtual 77, 3) := by decide +kernel
theorem dX8_admits_69 : decode cX8_admits 69 = .ok (.aload_n 0, 1) := by decide +kernel
theorem dX8_admits_70 : decode cX8_admits 70 = .ok (.getfield 13, 3) := by decide +kernel
theorem dX8_admits_73 : decode cX8_admits 73 = .ok (.iconst 3, 1) := by decide +kernel
theorem dX8_admits_74 : decode cX8_admits 74 = .ok (.iaload, 1) := by decide +kernel
theorem dX8_admits_75 : decode cX8_admits 75 = .ok (.aload_n 0, 1) := by decide +kernel
theorem dX8_admits_76 : decode cX8_admits 76 = .ok (.getfield 13, 3) := by decide +kernel
theorem dX8_admits_79 : decode cX8_admits 79 = .ok (.iconst 4, 1) := by decide +kernel
theorem dX8_admits_80 : decode cX8_admits 80 = .ok (.iaload, 1) := by decide +kernel
theorem dX8_admits_81 : decode cX8_admits 81 = .ok (.invokestatic 69, 3) := by decide +kernel
theorem dX8_admits_84 : decode cX8_admits 84 = .ok (.ifCond .ne 6, 3) := by decide +kernel
theorem dX8_admits_87 : decode cX8_admits 87 = .ok (.goto 91, 3) := by decide +kernel
theorem dX8_admits_90 : decode cX8_admits 90 = .ok (.aload_n 0, 1) := by decide +kernel
theorem dX8_admits_91 : decode cX8_admits 91 = .ok (.getfield 13, 3) := by decide +kernel
theorem dX8_admits_94 : decode cX8_admits 94 = .ok (.bipush 15, 2) := by decide +kernel
theorem dX8_admits_96 : decode cX8_admits 96 = .ok (.aload_n 0, 1) := by decide +kernel
theorem dX8_admits_97 : decode cX8_admits 97 = .ok (.iload_n 2, 1) := by decide +kernel
theorem dX8_admits_98 : decode cX8_admits 98 = .ok (.invokevirtual 81, 3) := by decide +kernel
theorem dX8_admits_101 : decode cX8_admits 101 = .ok (.iadd, 1) := by decide +kernel
theorem dX8_admits_102 : decode cX8_admits 102 = .ok (.iaload, 1) := by decide +kernel
theorem dX8_admits_103 : decode cX8_admits 103 = .ok (.istore_n 3, 1) := by decide +kernel
theorem dX8_admits_104 : decode cX8_admits 104 = .ok (.aload_n 0, 1) := by decide +kernel
theorem dX8_admits_105 : decode cX8_admits 105 = .ok (.getfield 36, 3) := by decide +kernel
theorem dX8_admits_108 : decode cX8_admits 108 = .ok (.iload_n 2, 1) := by decide +kernel
theorem dX8_admits_109 : decode cX8_admits 109 = .ok (.aload_n 0, 1) := by decide +kernel
theorem dX8_admits_110 : decode cX8_admits 110 = .ok (.iload_n 2, 1) := by decide +kernel
theorem dX8_admits_111 : decode cX8_admits 111 = .ok (.invokevirtual 84, 3) := by decide +kernel
theorem dX8_admits_114 : decode cX8_admits 114 = .ok (.aload_n 0, 1) := by decide +kernel
theorem dX8_admits_115 : decode cX8_admits 115 = .ok (.getfield 45, 3) := by decide +kernel
theorem dX8_admits_118 : decode cX8_admits 118 = .ok (.iload_n 3, 1) := by decide +kernel
theorem dX8_admits_119 : decode cX8_admits 119 = .ok (.iaload, 1) := by decide +kernel
theorem dX8_admits_120 : decode cX8_admits 120 = .ok (.if_icmp .ge 11, 3) := by decide +kernel
theorem dX8_admits_123 : decode cX8_admits 123 = .ok (.aload_n 0, 1) := by decide +kernel
theorem dX8_admits_124 : decode cX8_admits 124 = .ok (.iload_n 2, 1) := by decide +kernel
theorem dX8_admits_125 : decode cX8_admits 125 = .ok (.invokevirtual 84, 3) := by decide +kernel
theorem dX8_admits_128 : decode cX8_admits 128 = .ok (.goto 9, 3) := by decide +kernel
theorem dX8_admits_131 : decode cX8_admits 131 = .ok (.aload_n 0, 1) := by decide +kernel
theorem dX8_admits_132 : decode cX8_admits 132 = .ok (.getfield 45, 3) := by decide +kernel
theorem dX8_admits_135 : decode cX8_admits 135 = .ok (.iload_n 3, 1) := by decide +kernel
theorem dX8_admits_136 : decode cX8_admits 136 = .ok (.iaload, 1) := by decide +kernel
theorem dX8_admits_137 : decode cX8_admits 137 = .ok (.iastore, 1) := by decide +kernel
theorem dX8_admits_138 : decode cX8_admits 138 = .ok (.aload_n 0, 1) := by decide +kernel
theorem dX8_admits_139 : decode cX8_admits 139 = .ok (.getfield 45, 3) := by decide +kernel
theorem dX8_admits_142 : decode cX8_admits 142 = .ok (.iload_n 3, 1) := by decide +kernel
theorem dX8_admits_143 : decode cX8_admits 143 = .ok (.dup2, 1) := by decide +kernel
theorem dX8_admits_144 : decode cX8_admits 144 = .ok (.iaload, 1) := by decide +kernel
theorem dX8_admits_145 : decode cX8_admits 145 = .ok (.aload_n 0, 1) := by decide +kernel
theorem dX8_admits_146 : decode cX8_admits 146 = .ok (.getfield 36, 3) := by decide +kernel
theorem dX8_admits_149 : decode cX8_admits 149 = .ok (.iload_n 2, 1) := by decide +kernel
theorem dX8_admits_150 : decode cX8_admits 150 = .ok (.iaload, 1) := by decide +kernel
theorem dX8_admits_151 : decode cX8_admits 151 = .ok (.isub, 1) := by decide +kernel
theorem dX8_admits_152 : decode cX8_admits 152 = .ok (.iastore, 1) := by decide +kernel
theorem dX8_admits_153 : decode cX8_admits 153 = .ok (.aload_n 0, 1) := by decide +kernel
theorem dX8_admits_154 : decode cX8_admits 154 = .ok (.getfield 39, 3) := by decide +kernel
theorem dX8_admits_157 : decode cX8_admits 157 = .ok (.iload_n 2, 1) := by decide +kernel
theorem dX8_admits_158 : decode cX8_admits 158 = .ok (.aload_n 0, 1) := by decide +kernel
theorem dX8_admits_159 : decode cX8_admits 159 = .ok (.getfield 36, 3) := by decide +kernel
theorem dX8_admits_162 : decode cX8_admits 162 = .ok (.iload_n 2, 1) := by decide +kernel
theorem dX8_admits_163 : decode cX8_admits 163 = .ok (.iaload, 1) := by decide +kernel
theorem dX8_admits_164 : decode cX8_admits 164 = .ok (.aload_n 0, 1) := by decide +kernel
theorem dX8_admits_165 : decode cX8_admits 165 = .ok (.iload_n 2, 1) := by decide +kernel
theorem dX8_admits_166 : decode cX8_admits 166 = .ok (.invokevirtual 84, 3) := by decide +kernel
theorem dX8_admits_169 : decode cX8_admits 169 = .ok (.if_icmp .ne 7, 3) := by decide +kernel
theorem dX8_admits_172 : decode cX8_admits 172 = .ok (.iconst 0, 1) := by decide +kernel
theorem dX8_admits_173 : decode cX8_admits 173 = .ok (.goto 4, 3) := by decide +kernel
theorem dX8_admits_176 : decode cX8_admits 176 = .ok (.iconst 2, 1) := by decide +kernel
theorem dX8_admits_177 : decode cX8_admits 177 = .ok (.iastore, 1) := by decide +kernel
theorem dX8_admits_178 : decode cX8_admits 178 = .ok (.iinc 1 1, 3) := by decide +kernel
theorem dX8_admits_181 : decode cX8_admits 181 = .ok (.goto (-154), 3) := by decide +kernel
theorem dX8_admits_184 : decode cX8_admits 184 = .ok (.return_, 1) := by decide +kernel
theorem dX8_gives_0 : decode cX8_gives 0 = .ok (.iconst 0, 1) := by decide +kernel
theorem dX8_gives_1 : decode cX8_gives 1 = .ok (.istore_n 2, 1) := by decide +kernel
theorem dX8_gives_2 : decode cX8_gives 2 = .ok (.iconst 0, 1) := by decide +kernel
theorem dX8_gives_3 : decode cX8_gives 3 = .ok (.istore_n 3, 1) := by decide +kernel
theorem dX8_gives_4 : decode cX8_gives 4 = .ok (.iload_n 3, 1) := by decide +kernel
theorem dX8_gives_5 : decode cX8_gives 5 = .ok (.aload_n 0, 1) := by decide +kernel
theorem dX8_gives_6 : decode cX8_gives 6 = .ok (.invokevirtual 73, 3) := by decide +kernel
theorem dX8_gives_9 : decode cX8_gives 9 = .ok (.if_icmp .ge 27, 3) := by decide +kernel
theorem dX8_gives_12 : decode cX8_gives 12 = .ok (.aload_n 0, 1) := by decide +kernel
theorem dX8_gives_13 : decode cX8_gives 13 = .ok (.getfield 48, 3) := by decide +kernel
theorem dX8_gives_16 : decode cX8_gives 16 = .ok (.iload_n 3, 1) := by decide +kernel
theorem dX8_gives_17 : decode cX8_gives 17 = .ok (.baload, 1) := by decide +kernel
theorem dX8_gives_18 : decode cX8_gives 18 = .ok (.ifCond .eq 12, 3) := by decide +kernel
theorem dX8_gives_21 : decode cX8_gives 21 = .ok (.iload_n 2, 1) := by decide +kernel
theorem dX8_gives_22 : decode cX8_gives 22 = .ok (.aload_n 0, 1) := by decide +kernel
theorem dX8_gives_23 : decode cX8_gives 23 = .ok (.getfield 36, 3) := by decide +kernel
theorem dX8_gives_26 : decode cX8_gives 26 = .ok (.iload_n 3, 1) := by decide +kernel
theorem dX8_gives_27 : decode cX8_gives 27 = .ok (.iaload, 1) := by decide +kernel
theorem dX8_gives_28 : decode cX8_gives 28 = .ok (.iadd, 1) := by decide +kernel
theorem dX8_gives_29 : decode cX8_gives 29 = .ok (.istore_n 2, 1) := by decide +kernel
theorem dX8_gives_30 : decode cX8_gives 30 = .ok (.iinc 3 1, 3) := by decide +kernel
theorem dX8_gives_33 : decode cX8_gives 33 = .ok (.goto (-29), 3) := by decide +kernel
theorem dX8_gives_36 : decode cX8_gives 36 = .ok (.iload_n 1, 1) := by decide +kernel
theorem dX8_gives_37 : decode cX8_gives 37 = .ok (.istore_n 3, 1) := by decide +kernel
theorem dX8_gives_38 : decode cX8_gives 38 = .ok (.iconst 0, 1) := by decide +kernel
theorem dX8_gives_39 : decode cX8_gives 39 = .ok (.istore 4, 2) := by decide +kernel
theorem dX8_gives_41 : decode cX8_gives 41 = .ok (.iload 4, 2) := by decide +kernel
theorem dX8_gives_43 : decode cX8_gives 43 = .ok (.aload_n 0, 1) := by decide +kernel
theorem dX8_gives_44 : decode cX8_gives 44 = .ok (.invokevirtual 73, 3) := by decide +kernel
theorem dX8_gives_47 : decode cX8_gives 47 = .ok (.if_icmp .ge 65, 3) := by decide +kernel
theorem dX8_gives_50 : decode cX8_gives 50 = .ok (.aload_n 0, 1) := by decide +kernel
theorem dX8_gives_51 : decode cX8_gives 51 = .ok (.getfield 48, 3) := by decide +kernel
theorem dX8_gives_54 : decode cX8_gives 54 = .ok (.iload 4, 2) := by decide +kernel
theorem dX8_gives_56 : decode cX8_gives 56 = .ok (.baload, 1) := by decide +kernel
theorem dX8_gives_57 : decode cX8_gives 57 = .ok (.ifCond .ne 6, 3) := by decide +kernel
theorem dX8_gives_60 : decode cX8_gives 60 = .ok (.goto 46, 3) := by decide +kernel
theorem dX8_gives_63 : decode cX8_gives 63 = .ok (.aload_n 0, 1) := by decide +kernel
theorem dX8_gives_64 : decode cX8_gives 64 = .ok (.getfield 42, 3) := by decide +kernel
theorem dX8_gives_67 : decode cX8_gives 67 = .ok (.iload 4, 2) := by decide +kernel
theorem dX8_gives_69 : decode cX8_gives 69 = .ok (.iload_n 2, 1) := by decide +kernel
theorem dX8_gives_70 : decode cX8_gives 70 = .ok (.iload_n 1, 1) := by decide +kernel
theorem dX8_gives_71 : decode cX8_gives 71 = .ok (.if_icmp .gt 13, 3) := by decide +kernel
theorem dX8_gives_74 : decode cX8_gives 74 = .ok (.aload_n 0, 1) := by decide +kernel
theorem dX8_gives_75 : decode cX8_gives 75 = .ok (.getfield 36, 3) := by decide +kernel
theorem dX8_gives_78 : decode cX8_gives 78 = .ok (.iload 4, 2) := by decide +kernel
theorem dX8_gives_80 : decode cX8_gives 80 = .ok (.iaload, 1) := by decide +kernel
theorem dX8_gives_81 : decode cX8_gives 81 = .ok (.goto 14, 3) := by decide +kernel
theorem dX8_gives_84 : decode cX8_gives 84 = .ok (.aload_n 0, 1) := by decide +kernel
theorem dX8_gives_85 : decode cX8_gives 85 = .ok (.getfield 36, 3) := by decide +kernel
theorem dX8_gives_88 : decode cX8_gives 88 = .ok (.iload 4, 2) := by decide +kernel
theorem dX8_gives_90 : decode cX8_gives 90 = .ok (.iaload, 1) := by decide +kernel
theorem dX8_gives_91 : decode cX8_gives 91 = .ok (.iload_n 1, 1) := by decide +kernel
theorem dX8_gives_92 : decode cX8_gives 92 = .ok (.imul, 1) := by decide +kernel
theorem dX8_gives_93 : decode cX8_gives 93 = .ok (.iload_n 2, 1) := by decide +kernel
theorem dX8_gives_94 : decode cX8_gives 94 = .ok (.idiv, 1) := by decide +kernel
theorem dX8_gives_95 : decode cX8_gives 95 = .ok (.iastore, 1) := by decide +kernel
theorem dX8_gives_96 : decode cX8_gives 96 = .ok (.iload_n 3, 1) := by decide +kernel
theorem dX8_gives_97 : decode cX8_gives 97 = .ok (.aload_n 0, 1) := by decide +kernel
theorem dX8_gives_98 : decode cX8_gives 98 = .ok (.getfield 42, 3) := by decide +kernel
theorem dX8_gives_101 : decode cX8_gives 101 = .ok (.iload 4, 2) := by decide +kernel
theorem dX8_gives_103 : decode cX8_gives 103 = .ok (.iaload, 1) := by decide +kernel
theorem dX8_gives_104 : decode cX8_gives 104 = .ok (.isub, 1) := by decide +kernel
theorem dX8_gives_105 : decode cX8_gives 105 = .ok (.istore_n 3, 1) := by decide +kernel
theorem dX8_gives_106 : decode cX8_gives 106 = .ok (.iinc 4 1, 3) := by decide +kernel
theorem dX8_gives_109 : decode cX8_gives 109 = .ok (.goto (-68), 3) := by decide +kernel
theorem dX8_gives_112 : decode cX8_gives 112 = .ok (.iload_n 2, 1) := by decide +kernel
theorem dX8_gives_113 : decode cX8_gives 113 = .ok (.iload_n 1, 1) := by decide +kernel
theorem dX8_gives_114 : decode cX8_gives 114 = .ok (.if_icmp .gt 5, 3) := by decide +kernel
theorem dX8_gives_117 : decode cX8_gives 117 = .ok (.iconst 0, 1) := by decide +kernel
theorem dX8_gives_118 : decode cX8_gives 118 = .ok (.ireturn, 1) := by decide +kernel
theorem dX8_gives_119 : decode cX8_gives 119 = .ok (.iload_n 3, 1) := by decide +kernel
theorem dX8_gives_120 : decode cX8_gives 120 = .ok (.ifCond .le 94, 3) := by decide +kernel
theorem dX8_gives_123 : decode cX8_gives 123 = .ok (.iconst (-1), 1) := by decide +kernel
theorem dX8_gives_124 : decode cX8_gives 124 = .ok (.istore 4, 2) := by decide +kernel
theorem dX8_gives_126 : decode cX8_gives 126 = .ok (.iconst 0, 1) := by decide +kernel
theorem dX8_gives_127 : decode cX8_gives 127 = .ok (.istore 5, 2) := by decide +kernel
theorem dX8_gives_129 : decode cX8_gives 129 = .ok (.iload 5, 2) := by decide +kernel
theorem dX8_gives_131 : decode cX8_gives 131 = .ok (.aload_n 0, 1) := by decide +kernel
theorem dX8_gives_132 : decode cX8_gives 132 = .ok (.invokevirtual 73, 3) := by decide +kernel
theorem dX8_gives_135 : decode cX8_gives 135 = .ok (.if_icmp .ge 54, 3) := by decide +kernel
theorem dX8_gives_138 : decode cX8_gives 138 = .ok (.aload_n 0, 1) := by decide +kernel
theorem dX8_gives_139 : decode cX8_gives 139 = .ok (.getfield 48, 3) := by decide +kernel
theorem dX8_gives_142 : decode cX8_gives 142 = .ok (.iload 5, 2) := by decide +kernel
theorem dX8_gives_144 : decode cX8_gives 144 = .ok (.baload, 1) := by decide +kernel
theorem dX8_gives_145 : decode cX8_gives 145 = .ok (.ifCond .eq 38, 3) := by decide +kernel
theorem dX8_gives_148 : decode cX8_gives 148 = .ok (.iload 4, 2) := by decide +kernel
theorem dX8_gives_150 : decode cX8_gives 150 = .ok (.iconst (-1), 1) := by decide +kernel
theorem dX8_gives_151 : decode cX8_gives 151 = .ok (.if_icmp .eq 28, 3) := by decide +kernel
theorem dX8_gives_154 : decode cX8_gives 154 = .ok (.aload_n 0, 1) := by decide +kernel
theorem dX8_gives_155 : decode cX8_gives 155 = .ok (.getfield 36, 3) := by decide +kernel
theorem dX8_gives_158 : decode cX8_gives 158 = .ok (.iload 5, 2) := by decide +kernel
theorem dX8_gives_160 : decode cX8_gives 160 = .ok (.iaload, 1) := by decide +kernel
theorem dX8_gives_161 : decode cX8_gives 161 = .ok (.iload_n 1, 1) := by decide +kernel
theorem dX8_gives_162 : decode cX8_gives 162 = .ok (.imul, 1) := by decide +kernel
theorem dX8_gives_163 : decode cX8_gives 163 = .ok (.iload_n 2, 1) := by decide +kernel
theorem dX8_gives_164 : decode cX8_gives 164 = .ok (.irem, 1) := by decide +kernel
theorem dX8_gives_165 : decode cX8_gives 165 = .ok (.aload_n 0, 1) := by decide +kernel
theorem dX8_gives_166 : decode cX8_gives 166 = .ok (.getfield 36, 3) := by decide +kernel
theorem dX8_gives_169 : decode cX8_gives 169 = .ok (.iload 4, 2) := by decide +kernel
theorem dX8_gives_171 : decode cX8_gives 171 = .ok (.iaload, 1) := by decide +kernel
theorem dX8_gives_172 : decode cX8_gives 172 = .ok (.iload_n 1, 1) := by decide +kernel
theorem dX8_gives_173 : decode cX8_gives 173 = .ok (.imul, 1) := by decide +kernel
theorem dX8_gives_174 : decode cX8_gives 174 = .ok (.iload_n 2, 1) := by decide +kernel
theorem dX8_gives_175 : decode cX8_gives 175 = .ok (.irem, 1) := by decide +kernel
theorem dX8_gives_176 : decode cX8_gives 176 = .ok (.if_icmp .le 7, 3) := by decide +kernel
theorem dX8_gives_179 : decode cX8_gives 179 = .ok (.iload 5, 2) := by decide +kernel
theorem dX8_gives_181 : decode cX8_gives 181 = .ok (.istore 4, 2) := by decide +kernel
theorem dX8_gives_183 : decode cX8_gives 183 = .ok (.iinc 5 1, 3) := by decide +kernel
theorem dX8_gives_186 : decode cX8_gives 186 = .ok (.goto (-57), 3) := by decide +kernel
theorem dX8_gives_189 : decode cX8_gives 189 = .ok (.aload_n 0, 1) := by decide +kernel
theorem dX8_gives_190 : decode cX8_gives 190 = .ok (.getfield 42, 3) := by decide +kernel
theorem dX8_gives_193 : decode cX8_gives 193 = .ok (.iload 4, 2) := by decide +kernel
theorem dX8_gives_195 : decode cX8_gives 195 = .ok (.dup2, 1) := by decide +kernel
theorem dX8_gives_196 : decode cX8_gives 196 = .ok (.iaload, 1) := by decide +kernel
