theorem dX8_gives_197 : decode cX8_gives 197 = .ok (.iconst 1, 1) := by decide +kernel
theorem dX8_gives_198 : decode cX8_gives 198 = .ok (.iadd, 1) := by decide +kernel
theorem dX8_gives_199 : decode cX8_gives 199 = .ok (.iastore, 1) := by decide +kernel
theorem dX8_gives_200 : decode cX8_gives 200 = .ok (.aload_n 0, 1) := by decide +kernel
theorem dX8_gives_201 : decode cX8_gives 201 = .ok (.getfield 48, 3) := by decide +kernel
theorem dX8_gives_204 : decode cX8_gives 204 = .ok (.iload 4, 2) := by decide +kernel
theorem dX8_gives_206 : decode cX8_gives 206 = .ok (.iconst 0, 1) := by decide +kernel
theorem dX8_gives_207 : decode cX8_gives 207 = .ok (.bastore, 1) := by decide +kernel
theorem dX8_gives_208 : decode cX8_gives 208 = .ok (.iinc 3 (-1), 3) := by decide +kernel
theorem dX8_gives_211 : decode cX8_gives 211 = .ok (.goto (-92), 3) := by decide +kernel
theorem dX8_gives_214 : decode cX8_gives 214 = .ok (.iconst 1, 1) := by decide +kernel
theorem dX8_gives_215 : decode cX8_gives 215 = .ok (.ireturn, 1) := by decide +kernel
theorem dX8_admittedTo_0 : decode cX8_admittedTo 0 = .ok (.iconst 0, 1) := by decide +kernel
theorem dX8_admittedTo_1 : decode cX8_admittedTo 1 = .ok (.istore_n 2, 1) := by decide +kernel
theorem dX8_admittedTo_2 : decode cX8_admittedTo 2 = .ok (.iconst 0, 1) := by decide +kernel
theorem dX8_admittedTo_3 : decode cX8_admittedTo 3 = .ok (.istore_n 3, 1) := by decide +kernel
theorem dX8_admittedTo_4 : decode cX8_admittedTo 4 = .ok (.iload_n 3, 1) := by decide +kernel
theorem dX8_admittedTo_5 : decode cX8_admittedTo 5 = .ok (.aload_n 0, 1) := by decide +kernel
theorem dX8_admittedTo_6 : decode cX8_admittedTo 6 = .ok (.invokevirtual 73, 3) := by decide +kernel
theorem dX8_admittedTo_9 : decode cX8_admittedTo 9 = .ok (.if_icmp .ge 35, 3) := by decide +kernel
theorem dX8_admittedTo_12 : decode cX8_admittedTo 12 = .ok (.aload_n 0, 1) := by decide +kernel
theorem dX8_admittedTo_13 : decode cX8_admittedTo 13 = .ok (.iload_n 3, 1) := by decide +kernel
theorem dX8_admittedTo_14 : decode cX8_admittedTo 14 = .ok (.invokevirtual 115, 3) := by decide +kernel
theorem dX8_admittedTo_17 : decode cX8_admittedTo 17 = .ok (.ifCond .ne 21, 3) := by decide +kernel
theorem dX8_admittedTo_20 : decode cX8_admittedTo 20 = .ok (.aload_n 0, 1) := by decide +kernel
theorem dX8_admittedTo_21 : decode cX8_admittedTo 21 = .ok (.iload_n 3, 1) := by decide +kernel
theorem dX8_admittedTo_22 : decode cX8_admittedTo 22 = .ok (.invokevirtual 77, 3) := by decide +kernel
theorem dX8_admittedTo_25 : decode cX8_admittedTo 25 = .ok (.iload_n 1, 1) := by decide +kernel
theorem dX8_admittedTo_26 : decode cX8_admittedTo 26 = .ok (.if_icmp .gt 12, 3) := by decide +kernel
theorem dX8_admittedTo_29 : decode cX8_admittedTo 29 = .ok (.iload_n 2, 1) := by decide +kernel
theorem dX8_admittedTo_30 : decode cX8_admittedTo 30 = .ok (.aload_n 0, 1) := by decide +kernel
theorem dX8_admittedTo_31 : decode cX8_admittedTo 31 = .ok (.getfield 36, 3) := by decide +kernel
theorem dX8_admittedTo_34 : decode cX8_admittedTo 34 = .ok (.iload_n 3, 1) := by decide +kernel
theorem dX8_admittedTo_35 : decode cX8_admittedTo 35 = .ok (.iaload, 1) := by decide +kernel
theorem dX8_admittedTo_36 : decode cX8_admittedTo 36 = .ok (.iadd, 1) := by decide +kernel
theorem dX8_admittedTo_37 : decode cX8_admittedTo 37 = .ok (.istore_n 2, 1) := by decide +kernel
theorem dX8_admittedTo_38 : decode cX8_admittedTo 38 = .ok (.iinc 3 1, 3) := by decide +kernel
theorem dX8_admittedTo_41 : decode cX8_admittedTo 41 = .ok (.goto (-37), 3) := by decide +kernel
theorem dX8_admittedTo_44 : decode cX8_admittedTo 44 = .ok (.iload_n 2, 1) := by decide +kernel
theorem dX8_admittedTo_45 : decode cX8_admittedTo 45 = .ok (.ireturn, 1) := by decide +kernel
theorem dX8_sells_0 : decode cX8_sells 0 = .ok (.aload_n 0, 1) := by decide +kernel
theorem dX8_sells_1 : decode cX8_sells 1 = .ok (.invokevirtual 135, 3) := by decide +kernel
theorem dX8_sells_4 : decode cX8_sells 4 = .ok (.aload_n 0, 1) := by decide +kernel
theorem dX8_sells_5 : decode cX8_sells 5 = .ok (.invokevirtual 138, 3) := by decide +kernel
theorem dX8_sells_8 : decode cX8_sells 8 = .ok (.iconst 0, 1) := by decide +kernel
theorem dX8_sells_9 : decode cX8_sells 9 = .ok (.istore_n 1, 1) := by decide +kernel
theorem dX8_sells_10 : decode cX8_sells 10 = .ok (.iload_n 1, 1) := by decide +kernel
theorem dX8_sells_11 : decode cX8_sells 11 = .ok (.aload_n 0, 1) := by decide +kernel
theorem dX8_sells_12 : decode cX8_sells 12 = .ok (.invokevirtual 73, 3) := by decide +kernel
theorem dX8_sells_15 : decode cX8_sells 15 = .ok (.if_icmp .ge 27, 3) := by decide +kernel
theorem dX8_sells_18 : decode cX8_sells 18 = .ok (.aload_n 0, 1) := by decide +kernel
theorem dX8_sells_19 : decode cX8_sells 19 = .ok (.getfield 48, 3) := by decide +kernel
theorem dX8_sells_22 : decode cX8_sells 22 = .ok (.iload_n 1, 1) := by decide +kernel
theorem dX8_sells_23 : decode cX8_sells 23 = .ok (.aload_n 0, 1) := by decide +kernel
theorem dX8_sells_24 : decode cX8_sells 24 = .ok (.iload_n 1, 1) := by decide +kernel
theorem dX8_sells_25 : decode cX8_sells 25 = .ok (.invokevirtual 115, 3) := by decide +kernel
theorem dX8_sells_28 : decode cX8_sells 28 = .ok (.bastore, 1) := by decide +kernel
theorem dX8_sells_29 : decode cX8_sells 29 = .ok (.aload_n 0, 1) := by decide +kernel
theorem dX8_sells_30 : decode cX8_sells 30 = .ok (.getfield 42, 3) := by decide +kernel
theorem dX8_sells_33 : decode cX8_sells 33 = .ok (.iload_n 1, 1) := by decide +kernel
theorem dX8_sells_34 : decode cX8_sells 34 = .ok (.iconst 0, 1) := by decide +kernel
theorem dX8_sells_35 : decode cX8_sells 35 = .ok (.iastore, 1) := by decide +kernel
theorem dX8_sells_36 : decode cX8_sells 36 = .ok (.iinc 1 1, 3) := by decide +kernel
theorem dX8_sells_39 : decode cX8_sells 39 = .ok (.goto (-29), 3) := by decide +kernel
theorem dX8_sells_42 : decode cX8_sells 42 = .ok (.aload_n 0, 1) := by decide +kernel
theorem dX8_sells_43 : decode cX8_sells 43 = .ok (.aload_n 0, 1) := by decide +kernel
theorem dX8_sells_44 : decode cX8_sells 44 = .ok (.getfield 13, 3) := by decide +kernel
theorem dX8_sells_47 : decode cX8_sells 47 = .ok (.iconst 2, 1) := by decide +kernel
theorem dX8_sells_48 : decode cX8_sells 48 = .ok (.iaload, 1) := by decide +kernel
theorem dX8_sells_49 : decode cX8_sells 49 = .ok (.aload_n 0, 1) := by decide +kernel
theorem dX8_sells_50 : decode cX8_sells 50 = .ok (.getfield 13, 3) := by decide +kernel
theorem dX8_sells_53 : decode cX8_sells 53 = .ok (.iconst 0, 1) := by decide +kernel
theorem dX8_sells_54 : decode cX8_sells 54 = .ok (.iaload, 1) := by decide +kernel
theorem dX8_sells_55 : decode cX8_sells 55 = .ok (.imul, 1) := by decide +kernel
theorem dX8_sells_56 : decode cX8_sells 56 = .ok (.bipush 100, 2) := by decide +kernel
theorem dX8_sells_58 : decode cX8_sells 58 = .ok (.idiv, 1) := by decide +kernel
theorem dX8_sells_59 : decode cX8_sells 59 = .ok (.putfield 141, 3) := by decide +kernel
theorem dX8_sells_62 : decode cX8_sells 62 = .ok (.aload_n 0, 1) := by decide +kernel
theorem dX8_sells_63 : decode cX8_sells 63 = .ok (.aload_n 0, 1) := by decide +kernel
theorem dX8_sells_64 : decode cX8_sells 64 = .ok (.getfield 141, 3) := by decide +kernel
theorem dX8_sells_67 : decode cX8_sells 67 = .ok (.invokevirtual 144, 3) := by decide +kernel
theorem dX8_sells_70 : decode cX8_sells 70 = .ok (.pop, 1) := by decide +kernel
theorem dX8_sells_71 : decode cX8_sells 71 = .ok (.aload_n 0, 1) := by decide +kernel
theorem dX8_sells_72 : decode cX8_sells 72 = .ok (.iconst 0, 1) := by decide +kernel
theorem dX8_sells_73 : decode cX8_sells 73 = .ok (.putfield 147, 3) := by decide +kernel
theorem dX8_sells_76 : decode cX8_sells 76 = .ok (.iconst 0, 1) := by decide +kernel
theorem dX8_sells_77 : decode cX8_sells 77 = .ok (.istore_n 1, 1) := by decide +kernel
theorem dX8_sells_78 : decode cX8_sells 78 = .ok (.iload_n 1, 1) := by decide +kernel
theorem dX8_sells_79 : decode cX8_sells 79 = .ok (.aload_n 0, 1) := by decide +kernel
theorem dX8_sells_80 : decode cX8_sells 80 = .ok (.invokevirtual 73, 3) := by decide +kernel
theorem dX8_sells_83 : decode cX8_sells 83 = .ok (.if_icmp .ge 24, 3) := by decide +kernel
theorem dX8_sells_86 : decode cX8_sells 86 = .ok (.aload_n 0, 1) := by decide +kernel
theorem dX8_sells_87 : decode cX8_sells 87 = .ok (.dup, 1) := by decide +kernel
theorem dX8_sells_88 : decode cX8_sells 88 = .ok (.getfield 147, 3) := by decide +kernel
theorem dX8_sells_91 : decode cX8_sells 91 = .ok (.aload_n 0, 1) := by decide +kernel
theorem dX8_sells_92 : decode cX8_sells 92 = .ok (.getfield 42, 3) := by decide +kernel
theorem dX8_sells_95 : decode cX8_sells 95 = .ok (.iload_n 1, 1) := by decide +kernel
theorem dX8_sells_96 : decode cX8_sells 96 = .ok (.iaload, 1) := by decide +kernel
theorem dX8_sells_97 : decode cX8_sells 97 = .ok (.iadd, 1) := by decide +kernel
theorem dX8_sells_98 : decode cX8_sells 98 = .ok (.putfield 147, 3) := by decide +kernel
theorem dX8_sells_101 : decode cX8_sells 101 = .ok (.iinc 1 1, 3) := by decide +kernel
theorem dX8_sells_104 : decode cX8_sells 104 = .ok (.goto (-26), 3) := by decide +kernel
theorem dX8_sells_107 : decode cX8_sells 107 = .ok (.aload_n 0, 1) := by decide +kernel
theorem dX8_sells_108 : decode cX8_sells 108 = .ok (.aload_n 0, 1) := by decide +kernel
theorem dX8_sells_109 : decode cX8_sells 109 = .ok (.getfield 13, 3) := by decide +kernel
theorem dX8_sells_112 : decode cX8_sells 112 = .ok (.iconst 0, 1) := by decide +kernel
theorem dX8_sells_113 : decode cX8_sells 113 = .ok (.iaload, 1) := by decide +kernel
theorem dX8_sells_114 : decode cX8_sells 114 = .ok (.aload_n 0, 1) := by decide +kernel
theorem dX8_sells_115 : decode cX8_sells 115 = .ok (.getfield 147, 3) := by decide +kernel
theorem dX8_sells_118 : decode cX8_sells 118 = .ok (.isub, 1) := by decide +kernel
theorem dX8_sells_119 : decode cX8_sells 119 = .ok (.putfield 150, 3) := by decide +kernel
theorem dX8_sells_122 : decode cX8_sells 122 = .ok (.aload_n 0, 1) := by decide +kernel
theorem dX8_sells_123 : decode cX8_sells 123 = .ok (.bipush (-2), 2) := by decide +kernel
theorem dX8_sells_125 : decode cX8_sells 125 = .ok (.putfield 153, 3) := by decide +kernel
theorem dX8_sells_128 : decode cX8_sells 128 = .ok (.aload_n 0, 1) := by decide +kernel
theorem dX8_sells_129 : decode cX8_sells 129 = .ok (.iconst 0, 1) := by decide +kernel
theorem dX8_sells_130 : decode cX8_sells 130 = .ok (.putfield 156, 3) := by decide +kernel
theorem dX8_sells_133 : decode cX8_sells 133 = .ok (.iconst 0, 1) := by decide +kernel
theorem dX8_sells_134 : decode cX8_sells 134 = .ok (.istore_n 1, 1) := by decide +kernel
theorem dX8_sells_135 : decode cX8_sells 135 = .ok (.iload_n 1, 1) := by decide +kernel
theorem dX8_sells_136 : decode cX8_sells 136 = .ok (.aload_n 0, 1) := by decide +kernel
theorem dX8_sells_137 : decode cX8_sells 137 = .ok (.invokevirtual 73, 3) := by decide +kernel
theorem dX8_sells_140 : decode cX8_sells 140 = .ok (.if_icmp .ge 76, 3) := by decide +kernel
theorem dX8_sells_143 : decode cX8_sells 143 = .ok (.aload_n 0, 1) := by decide +kernel
theorem dX8_sells_144 : decode cX8_sells 144 = .ok (.getfield 150, 3) := by decide +kernel
theorem dX8_sells_147 : decode cX8_sells 147 = .ok (.ifCond .le 69, 3) := by decide +kernel
theorem dX8_sells_150 : decode cX8_sells 150 = .ok (.aload_n 0, 1) := by decide +kernel
theorem dX8_sells_151 : decode cX8_sells 151 = .ok (.getfield 33, 3) := by decide +kernel
theorem dX8_sells_154 : decode cX8_sells 154 = .ok (.iload_n 1, 1) := by decide +kernel
theorem dX8_sells_155 : decode cX8_sells 155 = .ok (.iaload, 1) := by decide +kernel
theorem dX8_sells_156 : decode cX8_sells 156 = .ok (.istore_n 2, 1) := by decide +kernel
theorem dX8_sells_157 : decode cX8_sells 157 = .ok (.aload_n 0, 1) := by decide +kernel
theorem dX8_sells_158 : decode cX8_sells 158 = .ok (.iload_n 2, 1) := by decide +kernel
theorem dX8_sells_159 : decode cX8_sells 159 = .ok (.invokevirtual 115, 3) := by decide +kernel
theorem dX8_sells_162 : decode cX8_sells 162 = .ok (.ifCond .ne 48, 3) := by decide +kernel
theorem dX8_sells_165 : decode cX8_sells 165 = .ok (.aload_n 0, 1) := by decide +kernel
theorem dX8_sells_166 : decode cX8_sells 166 = .ok (.getfield 36, 3) := by decide +kernel
theorem dX8_sells_169 : decode cX8_sells 169 = .ok (.iload_n 2, 1) := by decide +kernel
theorem dX8_sells_170 : decode cX8_sells 170 = .ok (.iaload, 1) := by decide +kernel
theorem dX8_sells_171 : decode cX8_sells 171 = .ok (.ifCond .ne 6, 3) := by decide +kernel
theorem dX8_sells_174 : decode cX8_sells 174 = .ok (.goto 36, 3) := by decide +kernel
theorem dX8_sells_177 : decode cX8_sells 177 = .ok (.aload_n 0, 1) := by decide +kernel
theorem dX8_sells_178 : decode cX8_sells 178 = .ok (.getfield 153, 3) := by decide +kernel
theorem dX8_sells_181 : decode cX8_sells 181 = .ok (.bipush (-2), 2) := by decide +kernel
theorem dX8_sells_183 : decode cX8_sells 183 = .ok (.if_icmp .eq 18, 3) := by decide +kernel
theorem dX8_sells_186 : decode cX8_sells 186 = .ok (.aload_n 0, 1) := by decide +kernel
theorem dX8_sells_187 : decode cX8_sells 187 = .ok (.aload_n 0, 1) := by decide +kernel
theorem dX8_sells_188 : decode cX8_sells 188 = .ok (.getfield 153, 3) := by decide +kernel
theorem dX8_sells_191 : decode cX8_sells 191 = .ok (.invokevirtual 160, 3) := by decide +kernel
theorem dX8_sells_194 : decode cX8_sells 194 = .ok (.aload_n 0, 1) := by decide +kernel
theorem dX8_sells_195 : decode cX8_sells 195 = .ok (.getfield 150, 3) := by decide +kernel
theorem dX8_sells_198 : decode cX8_sells 198 = .ok (.if_icmp .ge 12, 3) := by decide +kernel
theorem dX8_sells_201 : decode cX8_sells 201 = .ok (.aload_n 0, 1) := by decide +kernel
theorem dX8_sells_202 : decode cX8_sells 202 = .ok (.aload_n 0, 1) := by decide +kernel
theorem dX8_sells_203 : decode cX8_sells 203 = .ok (.iload_n 2, 1) := by decide +kernel
theorem dX8_sells_204 : decode cX8_sells 204 = .ok (.invokevirtual 77, 3) := by decide +kernel
theorem dX8_sells_207 : decode cX8_sells 207 = .ok (.putfield 153, 3) := by decide +kernel
theorem dX8_sells_210 : decode cX8_sells 210 = .ok (.iinc 1 1, 3) := by decide +kernel
theorem dX8_sells_213 : decode cX8_sells 213 = .ok (.goto (-78), 3) := by decide +kernel
theorem dX8_sells_216 : decode cX8_sells 216 = .ok (.aload_n 0, 1) := by decide +kernel
theorem dX8_sells_217 : decode cX8_sells 217 = .ok (.getfield 150, 3) := by decide +kernel
theorem dX8_sells_220 : decode cX8_sells 220 = .ok (.istore_n 1, 1) := by decide +kernel
theorem dX8_sells_221 : decode cX8_sells 221 = .ok (.iconst 0, 1) := by decide +kernel
theorem dX8_sells_222 : decode cX8_sells 222 = .ok (.istore_n 2, 1) := by decide +kernel
theorem dX8_sells_223 : decode cX8_sells 223 = .ok (.iload_n 2, 1) := by decide +kernel
theorem dX8_sells_224 : decode cX8_sells 224 = .ok (.aload_n 0, 1) := by decide +kernel
theorem dX8_sells_225 : decode cX8_sells 225 = .ok (.invokevirtual 73, 3) := by decide +kernel
theorem dX8_sells_228 : decode cX8_sells 228 = .ok (.if_icmp .ge 84, 3) := by decide +kernel
theorem dX8_sells_231 : decode cX8_sells 231 = .ok (.aload_n 0, 1) := by decide +kernel
theorem dX8_sells_232 : decode cX8_sells 232 = .ok (.getfield 48, 3) := by decide +kernel
theorem dX8_sells_235 : decode cX8_sells 235 = .ok (.iload_n 2, 1) := by decide +kernel
theorem dX8_sells_236 : decode cX8_sells 236 = .ok (.aload_n 0, 1) := by decide +kernel
theorem dX8_sells_237 : decode cX8_sells 237 = .ok (.iload_n 2, 1) := by decide +kernel
theorem dX8_sells_238 : decode cX8_sells 238 = .ok (.invokevirtual 115, 3) := by decide +kernel
theorem dX8_sells_241 : decode cX8_sells 241 = .ok (.ifCond .ne 19, 3) := by decide +kernel
theorem dX8_sells_244 : decode cX8_sells 244 = .ok (.aload_n 0, 1) := by decide +kernel
theorem dX8_sells_245 : decode cX8_sells 245 = .ok (.iload_n 2, 1) := by decide +kernel
theorem dX8_sells_246 : decode cX8_sells 246 = .ok (.invokevirtual 77, 3) := by decide +kernel
theorem dX8_sells_249 : decode cX8_sells 249 = .ok (.aload_n 0, 1) := by decide +kernel
theorem dX8_sells_250 : decode cX8_sells 250 = .ok (.getfield 153, 3) := by decide +kernel
theorem dX8_sells_253 : decode cX8_sells 253 = .ok (.if_icmp .ne 7, 3) := by decide +kernel
theorem dX8_sells_256 : decode cX8_sells 256 = .ok (.iconst 1, 1) := by decide +kernel
theorem dX8_sells_257 : decode cX8_sells 257 = .ok (.goto 4, 3) := by decide +kernel
theorem dX8_sells_260 : decode cX8_sells 260 = .ok (.iconst 0, 1) := by decide +kernel
theorem dX8_sells_261 : decode cX8_sells 261 = .ok (.bastore, 1) := by decide +kernel
theorem dX8_sells_262 : decode cX8_sells 262 = .ok (.aload_n 0, 1) := by decide +kernel
theorem dX8_sells_263 : decode cX8_sells 263 = .ok (.iload_n 2, 1) := by decide +kernel
theorem dX8_sells_264 : decode cX8_sells 264 = .ok (.invokevirtual 115, 3) := by decide +kernel
theorem dX8_sells_267 : decode cX8_sells 267 = .ok (.ifCond .ne 39, 3) := by decide +kernel
theorem dX8_sells_270 : decode cX8_sells 270 = .ok (.aload_n 0, 1) := by decide +kernel
theorem dX8_sells_271 : decode cX8_sells 271 = .ok (.iload_n 2, 1) := by decide +kernel
theorem dX8_sells_272 : decode cX8_sells 272 = .ok (.invokevirtual 77, 3) := by decide +kernel
theorem dX8_sells_275 : decode cX8_sells 275 = .ok (.aload_n 0, 1) := by decide +kernel
theorem dX8_sells_276 : decode cX8_sells 276 = .ok (.getfield 153, 3) := by decide +kernel
theorem dX8_sells_279 : decode cX8_sells 279 = .ok (.if_icmp .lt 6, 3) := by decide +kernel
theorem dX8_sells_282 : decode cX8_sells 282 = .ok (.goto 24, 3) := by decide +kernel
theorem dX8_sells_285 : decode cX8_sells 285 = .ok (.aload_n 0, 1) := by decide +kernel
theorem dX8_sells_286 : decode cX8_sells 286 = .ok (.getfield 42, 3) := by decide +kernel
theorem dX8_sells_289 : decode cX8_sells 289 = .ok (.iload_n 2, 1) := by decide +kernel
theorem dX8_sells_290 : decode cX8_sells 290 = .ok (.aload_n 0, 1) := by decide +kernel
theorem dX8_sells_291 : decode cX8_sells 291 = .ok (.getfield 36, 3) := by decide +kernel
theorem dX8_sells_294 : decode cX8_sells 294 = .ok (.iload_n 2, 1) := by decide +kernel
theorem dX8_sells_295 : decode cX8_sells 295 = .ok (.iaload, 1) := by decide +kernel
theorem dX8_sells_296 : decode cX8_sells 296 = .ok (.iastore, 1) := by decide +kernel
theorem dX8_sells_297 : decode cX8_sells 297 = .ok (.iload_n 1, 1) := by decide +kernel
theorem dX8_sells_298 : decode cX8_sells 298 = .ok (.aload_n 0, 1) := by decide +kernel
theorem dX8_sells_299 : decode cX8_sells 299 = .ok (.getfield 42, 3) := by decide +kernel
theorem dX8_sells_302 : decode cX8_sells 302 = .ok (.iload_n 2, 1) := by decide +kernel
theorem dX8_sells_303 : decode cX8_sells 303 = .ok (.iaload, 1) := by decide +kernel
theorem dX8_sells_304 : decode cX8_sells 304 = .ok (.isub, 1) := by decide +kernel
theorem dX8_sells_305 : decode cX8_sells 305 = .ok (.istore_n 1, 1) := by decide +kernel
theorem dX8_sells_306 : decode cX8_sells 306 = .ok (.iinc 2 1, 3) := by decide +kernel
theorem dX8_sells_309 : decode cX8_sells 309 = .ok (.goto (-86), 3) := by decide +kernel
theorem dX8_sells_312 : decode cX8_sells 312 = .ok (.aload_n 0, 1) := by decide +kernel
theorem dX8_sells_313 : decode cX8_sells 313 = .ok (.getfield 153, 3) := by decide +kernel
theorem dX8_sells_316 : decode cX8_sells 316 = .ok (.bipush (-2), 2) := by decide +kernel
theorem dX8_sells_318 : decode cX8_sells 318 = .ok (.if_icmp .eq 12, 3) := by decide +kernel
theorem dX8_sells_321 : decode cX8_sells 321 = .ok (.aload_n 0, 1) := by decide +kernel
theorem dX8_sells_322 : decode cX8_sells 322 = .ok (.aload_n 0, 1) := by decide +kernel
theorem dX8_sells_323 : decode cX8_sells 323 = .ok (.iload_n 1, 1) := by decide +kernel
theorem dX8_sells_324 : decode cX8_sells 324 = .ok (.invokevirtual 144, 3) := by decide +kernel
theorem dX8_sells_327 : decode cX8_sells 327 = .ok (.putfield 156, 3) := by decide +kernel
theorem dX8_sells_330 : decode cX8_sells 330 = .ok (.iconst 0, 1) := by decide +kernel
theorem dX8_sells_331 : decode cX8_sells 331 = .ok (.istore_n 2, 1) := by decide +kernel
theorem dX8_sells_332 : decode cX8_sells 332 = .ok (.iconst 0, 1) := by decide +kernel
theorem dX8_sells_333 : decode cX8_sells 333 = .ok (.istore_n 3, 1) := by decide +kernel
theorem dX8_sells_334 : decode cX8_sells 334 = .ok (.iconst 0, 1) := by decide +kernel
theorem dX8_sells_335 : decode cX8_sells 335 = .ok (.istore 4, 2) := by decide +kernel
theorem dX8_sells_337 : decode cX8_sells 337 = .ok (.iload 4, 2) := by decide +kernel
theorem dX8_sells_339 : decode cX8_sells 339 = .ok (.aload_n 0, 1) := by decide +kernel
theorem dX8_sells_340 : decode cX8_sells 340 = .ok (.invokevirtual 73, 3) := by decide +kernel
theorem dX8_sells_343 : decode cX8_sells 343 = .ok (.if_icmp .ge 48, 3) := by decide +kernel
theorem dX8_sells_346 : decode cX8_sells 346 = .ok (.aload_n 0, 1) := by decide +kernel
theorem dX8_sells_347 : decode cX8_sells 347 = .ok (.iload 4, 2) := by decide +kernel
theorem dX8_sells_349 : decode cX8_sells 349 = .ok (.invokevirtual 115, 3) := by decide +kernel
theorem dX8_sells_352 : decode cX8_sells 352 = .ok (.ifCond .eq 6, 3) := by decide +kernel
theorem dX8_sells_355 : decode cX8_sells 355 = .ok (.goto 30, 3) := by decide +kernel
theorem dX8_sells_358 : decode cX8_sells 358 = .ok (.iload_n 2, 1) := by decide +kernel
theorem dX8_sells_359 : decode cX8_sells 359 = .ok (.aload_n 0, 1) := by decide +kernel
theorem dX8_sells_360 : decode cX8_sells 360 = .ok (.getfield 42, 3) := by decide +kernel
theorem dX8_sells_363 : decode cX8_sells 363 = .ok (.iload 4, 2) := by decide +kernel
theorem dX8_sells_365 : decode cX8_sells 365 = .ok (.iaload, 1) := by decide +kernel
theorem dX8_sells_366 : decode cX8_sells 366 = .ok (.iadd, 1) := by decide +kernel
theorem dX8_sells_367 : decode cX8_sells 367 = .ok (.istore_n 2, 1) := by decide +kernel
theorem dX8_sells_368 : decode cX8_sells 368 = .ok (.iload_n 3, 1) := by decide +kernel
theorem dX8_sells_369 : decode cX8_sells 369 = .ok (.aload_n 0, 1) := by decide +kernel
theorem dX8_sells_370 : decode cX8_sells 370 = .ok (.getfield 42, 3) := by decide +kernel
theorem dX8_sells_373 : decode cX8_sells 373 = .ok (.iload 4, 2) := by decide +kernel
theorem dX8_sells_375 : decode cX8_sells 375 = .ok (.iaload, 1) := by decide +kernel
theorem dX8_sells_376 : decode cX8_sells 376 = .ok (.aload_n 0, 1) := by decide +kernel
theorem dX8_sells_377 : decode cX8_sells 377 = .ok (.iload 4, 2) := by decide +kernel
theorem dX8_sells_379 : decode cX8_sells 379 = .ok (.invokevirtual 77, 3) := by decide +kernel
theorem dX8_sells_382 : decode cX8_sells 382 = .ok (.imul, 1) := by decide +kernel
theorem dX8_sells_383 : decode cX8_sells 383 = .ok (.iadd, 1) := by decide +kernel
theorem dX8_sells_384 : decode cX8_sells 384 = .ok (.istore_n 3, 1) := by decide +kernel
theorem dX8_sells_385 : decode cX8_sells 385 = .ok (.iinc 4 1, 3) := by decide +kernel
theorem dX8_sells_388 : decode cX8_sells 388 = .ok (.goto (-51), 3) := by decide +kernel
theorem dX8_sells_391 : decode cX8_sells 391 = .ok (.aload_n 0, 1) := by decide +kernel
theorem dX8_sells_392 : decode cX8_sells 392 = .ok (.iload_n 2, 1) := by decide +kernel
theorem dX8_sells_393 : decode cX8_sells 393 = .ok (.ifCond .ne 12, 3) := by decide +kernel
theorem dX8_sells_396 : decode cX8_sells 396 = .ok (.aload_n 0, 1) := by decide +kernel
theorem dX8_sells_397 : decode cX8_sells 397 = .ok (.getfield 13, 3) := by decide +kernel
theorem dX8_sells_400 : decode cX8_sells 400 = .ok (.iconst 3, 1) := by decide +kernel
theorem dX8_sells_401 : decode cX8_sells 401 = .ok (.iaload, 1) := by decide +kernel
theorem dX8_sells_402 : decode cX8_sells 402 = .ok (.goto 6, 3) := by decide +kernel
theorem dX8_sells_405 : decode cX8_sells 405 = .ok (.iload_n 3, 1) := by decide +kernel
theorem dX8_sells_406 : decode cX8_sells 406 = .ok (.iload_n 2, 1) := by decide +kernel
theorem dX8_sells_407 : decode cX8_sells 407 = .ok (.idiv, 1) := by decide +kernel
theorem dX8_sells_408 : decode cX8_sells 408 = .ok (.putfield 163, 3) := by decide +kernel
theorem dX8_sells_411 : decode cX8_sells 411 = .ok (.return_, 1) := by decide +kernel
theorem dX8_soldAll_0 : decode cX8_soldAll 0 = .ok (.iconst 0, 1) := by decide +kernel
theorem dX8_soldAll_1 : decode cX8_soldAll 1 = .ok (.istore_n 1, 1) := by decide +kernel
theorem dX8_soldAll_2 : decode cX8_soldAll 2 = .ok (.iconst 0, 1) := by decide +kernel
theorem dX8_soldAll_3 : decode cX8_soldAll 3 = .ok (.istore_n 2, 1) := by decide +kernel
theorem dX8_soldAll_4 : decode cX8_soldAll 4 = .ok (.iload_n 2, 1) := by decide +kernel
theorem dX8_soldAll_5 : decode cX8_soldAll 5 = .ok (.aload_n 0, 1) := by decide +kernel
theorem dX8_soldAll_6 : decode cX8_soldAll 6 = .ok (.invokevirtual 73, 3) := by decide +kernel
theorem dX8_soldAll_9 : decode cX8_soldAll 9 = .ok (.if_icmp .ge 18, 3) := by decide +kernel
theorem dX8_soldAll_12 : decode cX8_soldAll 12 = .ok (.iload_n 1, 1) := by decide +kernel
theorem dX8_soldAll_13 : decode cX8_soldAll 13 = .ok (.aload_n 0, 1) := by decide +kernel
theorem dX8_soldAll_14 : decode cX8_soldAll 14 = .ok (.getfield 42, 3) := by decide +kernel
theorem dX8_soldAll_17 : decode cX8_soldAll 17 = .ok (.iload_n 2, 1) := by decide +kernel
theorem dX8_soldAll_18 : decode cX8_soldAll 18 = .ok (.iaload, 1) := by decide +kernel
theorem dX8_soldAll_19 : decode cX8_soldAll 19 = .ok (.iadd, 1) := by decide +kernel
theorem dX8_soldAll_20 : decode cX8_soldAll 20 = .ok (.istore_n 1, 1) := by decide +kernel
theorem dX8_soldAll_21 : decode cX8_soldAll 21 = .ok (.iinc 2 1, 3) := by decide +kernel
theorem dX8_soldAll_24 : decode cX8_soldAll 24 = .ok (.goto (-20), 3) := by decide +kernel
theorem dX8_soldAll_27 : decode cX8_soldAll 27 = .ok (.iload_n 1, 1) := by decide +kernel
theorem dX8_soldAll_28 : decode cX8_soldAll 28 = .ok (.ireturn, 1) := by decide +kernel
theorem dX8_soldOf_0 : decode cX8_soldOf 0 = .ok (.iconst 0, 1) := by decide +kernel
theorem dX8_soldOf_1 : decode cX8_soldOf 1 = .ok (.istore_n 2, 1) := by decide +kernel
theorem dX8_soldOf_2 : decode cX8_soldOf 2 = .ok (.iconst 0, 1) := by decide +kernel
theorem dX8_soldOf_3 : decode cX8_soldOf 3 = .ok (.istore_n 3, 1) := by decide +kernel
theorem dX8_soldOf_4 : decode cX8_soldOf 4 = .ok (.iload_n 3, 1) := by decide +kernel
theorem dX8_soldOf_5 : decode cX8_soldOf 5 = .ok (.aload_n 0, 1) := by decide +kernel
theorem dX8_soldOf_6 : decode cX8_soldOf 6 = .ok (.invokevirtual 73, 3) := by decide +kernel
theorem dX8_soldOf_9 : decode cX8_soldOf 9 = .ok (.if_icmp .ge 27, 3) := by decide +kernel
theorem dX8_soldOf_12 : decode cX8_soldOf 12 = .ok (.aload_n 0, 1) := by decide +kernel
theorem dX8_soldOf_13 : decode cX8_soldOf 13 = .ok (.iload_n 3, 1) := by decide +kernel
theorem dX8_soldOf_14 : decode cX8_soldOf 14 = .ok (.invokevirtual 81, 3) := by decide +kernel
theorem dX8_soldOf_17 : decode cX8_soldOf 17 = .ok (.iload_n 1, 1) := by decide +kernel
theorem dX8_soldOf_18 : decode cX8_soldOf 18 = .ok (.if_icmp .ne 12, 3) := by decide +kernel
theorem dX8_soldOf_21 : decode cX8_soldOf 21 = .ok (.iload_n 2, 1) := by decide +kernel
theorem dX8_soldOf_22 : decode cX8_soldOf 22 = .ok (.aload_n 0, 1) := by decide +kernel
theorem dX8_soldOf_23 : decode cX8_soldOf 23 = .ok (.getfield 42, 3) := by decide +kernel
theorem dX8_soldOf_26 : decode cX8_soldOf 26 = .ok (.iload_n 3, 1) := by decide +kernel
theorem dX8_soldOf_27 : decode cX8_soldOf 27 = .ok (.iaload, 1) := by decide +kernel
theorem dX8_soldOf_28 : decode cX8_soldOf 28 = .ok (.iadd, 1) := by decide +kernel
theorem dX8_soldOf_29 : decode cX8_soldOf 29 = .ok (.istore_n 2, 1) := by decide +kernel
theorem dX8_soldOf_30 : decode cX8_soldOf 30 = .ok (.iinc 3 1, 3) := by decide +kernel
theorem dX8_soldOf_33 : decode cX8_soldOf 33 = .ok (.goto (-29), 3) := by decide +kernel
theorem dX8_soldOf_36 : decode cX8_soldOf 36 = .ok (.iload_n 2, 1) := by decide +kernel
theorem dX8_soldOf_37 : decode cX8_soldOf 37 = .ok (.ireturn, 1) := by decide +kernel
theorem dX8_admittedAll_0 : decode cX8_admittedAll 0 = .ok (.iconst 0, 1) := by decide +kernel
theorem dX8_admittedAll_1 : decode cX8_admittedAll 1 = .ok (.istore_n 1, 1) := by decide +kernel
theorem dX8_admittedAll_2 : decode cX8_admittedAll 2 = .ok (.iconst 0, 1) := by decide +kernel
theorem dX8_admittedAll_3 : decode cX8_admittedAll 3 = .ok (.istore_n 2, 1) := by decide +kernel
theorem dX8_admittedAll_4 : decode cX8_admittedAll 4 = .ok (.iload_n 2, 1) := by decide +kernel
theorem dX8_admittedAll_5 : decode cX8_admittedAll 5 = .ok (.aload_n 0, 1) := by decide +kernel
theorem dX8_admittedAll_6 : decode cX8_admittedAll 6 = .ok (.invokevirtual 73, 3) := by decide +kernel
theorem dX8_admittedAll_9 : decode cX8_admittedAll 9 = .ok (.if_icmp .ge 18, 3) := by decide +kernel
theorem dX8_admittedAll_12 : decode cX8_admittedAll 12 = .ok (.iload_n 1, 1) := by decide +kernel
theorem dX8_admittedAll_13 : decode cX8_admittedAll 13 = .ok (.aload_n 0, 1) := by decide +kernel
theorem dX8_admittedAll_14 : decode cX8_admittedAll 14 = .ok (.getfield 36, 3) := by decide +kernel
theorem dX8_admittedAll_17 : decode cX8_admittedAll 17 = .ok (.iload_n 2, 1) := by decide +kernel
theorem dX8_admittedAll_18 : decode cX8_admittedAll 18 = .ok (.iaload, 1) := by decide +kernel
theorem dX8_admittedAll_19 : decode cX8_admittedAll 19 = .ok (.iadd, 1) := by decide +kernel
theorem dX8_admittedAll_20 : decode cX8_admittedAll 20 = .ok (.istore_n 1, 1) := by decide +kernel
theorem dX8_admittedAll_21 : decode cX8_admittedAll 21 = .ok (.iinc 2 1, 3) := by decide +kernel
theorem dX8_admittedAll_24 : decode cX8_admittedAll 24 = .ok (.goto (-20), 3) := by decide +kernel
theorem dX8_admittedAll_27 : decode cX8_admittedAll 27 = .ok (.iload_n 1, 1) := by decide +kernel
theorem dX8_admittedAll_28 : decode cX8_admittedAll 28 = .ok (.ireturn, 1) := by decide +kernel
theorem dX8_priceOf_0 : decode cX8_priceOf 0 = .ok (.ldc 166, 2) := by decide +kernel
theorem dX8_priceOf_2 : decode cX8_priceOf 2 = .ok (.iload_n 1, 1) := by decide +kernel
theorem dX8_priceOf_3 : decode cX8_priceOf 3 = .ok (.aload_n 0, 1) := by decide +kernel
theorem dX8_priceOf_4 : decode cX8_priceOf 4 = .ok (.getfield 13, 3) := by decide +kernel
theorem dX8_priceOf_7 : decode cX8_priceOf 7 = .ok (.iconst 5, 1) := by decide +kernel
theorem dX8_priceOf_8 : decode cX8_priceOf 8 = .ok (.iaload, 1) := by decide +kernel
theorem dX8_priceOf_9 : decode cX8_priceOf 9 = .ok (.imul, 1) := by decide +kernel
theorem dX8_priceOf_10 : decode cX8_priceOf 10 = .ok (.bipush 100, 2) := by decide +kernel
theorem dX8_priceOf_12 : decode cX8_priceOf 12 = .ok (.imul, 1) := by decide +kernel
theorem dX8_priceOf_13 : decode cX8_priceOf 13 = .ok (.sipush 360, 3) := by decide +kernel
theorem dX8_priceOf_16 : decode cX8_priceOf 16 = .ok (.idiv, 1) := by decide +kernel
theorem dX8_priceOf_17 : decode cX8_priceOf 17 = .ok (.isub, 1) := by decide +kernel
theorem dX8_priceOf_18 : decode cX8_priceOf 18 = .ok (.ireturn, 1) := by decide +kernel
theorem dX8_paysOf_0 : decode cX8_paysOf 0 = .ok (.aload_n 0, 1) := by decide +kernel
theorem dX8_paysOf_1 : decode cX8_paysOf 1 = .ok (.getfield 13, 3) := by decide +kernel
theorem dX8_paysOf_4 : decode cX8_paysOf 4 = .ok (.bipush 6, 2) := by decide +kernel
theorem dX8_paysOf_6 : decode cX8_paysOf 6 = .ok (.iaload, 1) := by decide +kernel
theorem dX8_paysOf_7 : decode cX8_paysOf 7 = .ok (.ifCond .ne 28, 3) := by decide +kernel
theorem dX8_paysOf_10 : decode cX8_paysOf 10 = .ok (.aload_n 0, 1) := by decide +kernel
theorem dX8_paysOf_11 : decode cX8_paysOf 11 = .ok (.getfield 153, 3) := by decide +kernel
theorem dX8_paysOf_14 : decode cX8_paysOf 14 = .ok (.bipush (-2), 2) := by decide +kernel
theorem dX8_paysOf_16 : decode cX8_paysOf 16 = .ok (.if_icmp .ne 12, 3) := by decide +kernel
theorem dX8_paysOf_19 : decode cX8_paysOf 19 = .ok (.aload_n 0, 1) := by decide +kernel
theorem dX8_paysOf_20 : decode cX8_paysOf 20 = .ok (.getfield 13, 3) := by decide +kernel
theorem dX8_paysOf_23 : decode cX8_paysOf 23 = .ok (.iconst 3, 1) := by decide +kernel
theorem dX8_paysOf_24 : decode cX8_paysOf 24 = .ok (.iaload, 1) := by decide +kernel
theorem dX8_paysOf_25 : decode cX8_paysOf 25 = .ok (.goto 30, 3) := by decide +kernel
theorem dX8_paysOf_28 : decode cX8_paysOf 28 = .ok (.aload_n 0, 1) := by decide +kernel
theorem dX8_paysOf_29 : decode cX8_paysOf 29 = .ok (.getfield 153, 3) := by decide +kernel
theorem dX8_paysOf_32 : decode cX8_paysOf 32 = .ok (.goto 23, 3) := by decide +kernel
theorem dX8_paysOf_35 : decode cX8_paysOf 35 = .ok (.aload_n 0, 1) := by decide +kernel
theorem dX8_paysOf_36 : decode cX8_paysOf 36 = .ok (.iload_n 1, 1) := by decide +kernel
theorem dX8_paysOf_37 : decode cX8_paysOf 37 = .ok (.invokevirtual 115, 3) := by decide +kernel
theorem dX8_paysOf_40 : decode cX8_paysOf 40 = .ok (.ifCond .eq 10, 3) := by decide +kernel
theorem dX8_paysOf_43 : decode cX8_paysOf 43 = .ok (.aload_n 0, 1) := by decide +kernel
theorem dX8_paysOf_44 : decode cX8_paysOf 44 = .ok (.getfield 163, 3) := by decide +kernel
theorem dX8_paysOf_47 : decode cX8_paysOf 47 = .ok (.goto 8, 3) := by decide +kernel
theorem dX8_paysOf_50 : decode cX8_paysOf 50 = .ok (.aload_n 0, 1) := by decide +kernel
theorem dX8_paysOf_51 : decode cX8_paysOf 51 = .ok (.iload_n 1, 1) := by decide +kernel
theorem dX8_paysOf_52 : decode cX8_paysOf 52 = .ok (.invokevirtual 77, 3) := by decide +kernel
theorem dX8_paysOf_55 : decode cX8_paysOf 55 = .ok (.istore_n 2, 1) := by decide +kernel
theorem dX8_paysOf_56 : decode cX8_paysOf 56 = .ok (.aload_n 0, 1) := by decide +kernel
theorem dX8_paysOf_57 : decode cX8_paysOf 57 = .ok (.getfield 42, 3) := by decide +kernel
theorem dX8_paysOf_60 : decode cX8_paysOf 60 = .ok (.iload_n 1, 1) := by decide +kernel
theorem dX8_paysOf_61 : decode cX8_paysOf 61 = .ok (.iaload, 1) := by decide +kernel
theorem dX8_paysOf_62 : decode cX8_paysOf 62 = .ok (.i2l, 1) := by decide +kernel
theorem dX8_paysOf_63 : decode cX8_paysOf 63 = .ok (.aload_n 0, 1) := by decide +kernel
theorem dX8_paysOf_64 : decode cX8_paysOf 64 = .ok (.iload_n 2, 1) := by decide +kernel
theorem dX8_paysOf_65 : decode cX8_paysOf 65 = .ok (.invokevirtual 167, 3) := by decide +kernel
theorem dX8_paysOf_68 : decode cX8_paysOf 68 = .ok (.i2l, 1) := by decide +kernel
theorem dX8_paysOf_69 : decode cX8_paysOf 69 = .ok (.lmul, 1) := by decide +kernel
theorem dX8_paysOf_70 : decode cX8_paysOf 70 = .ok (.lreturn, 1) := by decide +kernel
theorem dX8_paidAll_0 : decode cX8_paidAll 0 = .ok (.lconst 0, 1) := by decide +kernel
theorem dX8_paidAll_1 : decode cX8_paidAll 1 = .ok (.lstore_n 1, 1) := by decide +kernel
theorem dX8_paidAll_2 : decode cX8_paidAll 2 = .ok (.iconst 0, 1) := by decide +kernel
theorem dX8_paidAll_3 : decode cX8_paidAll 3 = .ok (.istore_n 3, 1) := by decide +kernel
theorem dX8_paidAll_4 : decode cX8_paidAll 4 = .ok (.iload_n 3, 1) := by decide +kernel
theorem dX8_paidAll_5 : decode cX8_paidAll 5 = .ok (.aload_n 0, 1) := by decide +kernel
theorem dX8_paidAll_6 : decode cX8_paidAll 6 = .ok (.invokevirtual 73, 3) := by decide +kernel
theorem dX8_paidAll_9 : decode cX8_paidAll 9 = .ok (.if_icmp .ge 17, 3) := by decide +kernel
theorem dX8_paidAll_12 : decode cX8_paidAll 12 = .ok (.lload_n 1, 1) := by decide +kernel
theorem dX8_paidAll_13 : decode cX8_paidAll 13 = .ok (.aload_n 0, 1) := by decide +kernel
theorem dX8_paidAll_14 : decode cX8_paidAll 14 = .ok (.iload_n 3, 1) := by decide +kernel
theorem dX8_paidAll_15 : decode cX8_paidAll 15 = .ok (.invokevirtual 170, 3) := by decide +kernel
theorem dX8_paidAll_18 : decode cX8_paidAll 18 = .ok (.ladd, 1) := by decide +kernel
theorem dX8_paidAll_19 : decode cX8_paidAll 19 = .ok (.lstore_n 1, 1) := by decide +kernel
theorem dX8_paidAll_20 : decode cX8_paidAll 20 = .ok (.iinc 3 1, 3) := by decide +kernel
theorem dX8_paidAll_23 : decode cX8_paidAll 23 = .ok (.goto (-19), 3) := by decide +kernel
theorem dX8_paidAll_26 : decode cX8_paidAll 26 = .ok (.lload_n 1, 1) := by decide +kernel
theorem dX8_paidAll_27 : decode cX8_paidAll 27 = .ok (.lreturn, 1) := by decide +kernel
theorem dX8_settle_0 : decode cX8_settle 0 = .ok (.aload_n 0, 1) := by decide +kernel
theorem dX8_settle_1 : decode cX8_settle 1 = .ok (.invokevirtual 73, 3) := by decide +kernel
theorem dX8_settle_4 : decode cX8_settle 4 = .ok (.ifCond .ne 5, 3) := by decide +kernel
theorem dX8_settle_7 : decode cX8_settle 7 = .ok (.iconst (-1), 1) := by decide +kernel
theorem dX8_settle_8 : decode cX8_settle 8 = .ok (.ireturn, 1) := by decide +kernel
theorem dX8_settle_9 : decode cX8_settle 9 = .ok (.aload_n 0, 1) := by decide +kernel
theorem dX8_settle_10 : decode cX8_settle 10 = .ok (.invokevirtual 105, 3) := by decide +kernel
theorem dX8_settle_13 : decode cX8_settle 13 = .ok (.aload_n 0, 1) := by decide +kernel
theorem dX8_settle_14 : decode cX8_settle 14 = .ok (.invokevirtual 174, 3) := by decide +kernel
theorem dX8_settle_17 : decode cX8_settle 17 = .ok (.aload_n 0, 1) := by decide +kernel
theorem dX8_settle_18 : decode cX8_settle 18 = .ok (.invokevirtual 177, 3) := by decide +kernel
theorem dX8_settle_21 : decode cX8_settle 21 = .ok (.istore_n 1, 1) := by decide +kernel
theorem dX8_settle_22 : decode cX8_settle 22 = .ok (.aload_n 0, 1) := by decide +kernel
theorem dX8_settle_23 : decode cX8_settle 23 = .ok (.invokevirtual 180, 3) := by decide +kernel
theorem dX8_settle_26 : decode cX8_settle 26 = .ok (.lstore_n 2, 1) := by decide +kernel
theorem dX8_settle_27 : decode cX8_settle 27 = .ok (.iconst 0, 1) := by decide +kernel
theorem dX8_settle_28 : decode cX8_settle 28 = .ok (.istore 4, 2) := by decide +kernel
theorem dX8_settle_30 : decode cX8_settle 30 = .ok (.iload 4, 2) := by decide +kernel
theorem dX8_settle_32 : decode cX8_settle 32 = .ok (.bipush 8, 2) := by decide +kernel
theorem dX8_settle_34 : decode cX8_settle 34 = .ok (.if_icmp .ge 54, 3) := by decide +kernel
theorem dX8_settle_37 : decode cX8_settle 37 = .ok (.aload_n 0, 1) := by decide +kernel
theorem dX8_settle_38 : decode cX8_settle 38 = .ok (.getfield 13, 3) := by decide +kernel
theorem dX8_settle_41 : decode cX8_settle 41 = .ok (.bipush 7, 2) := by decide +kernel
theorem dX8_settle_43 : decode cX8_settle 43 = .ok (.iload 4, 2) := by decide +kernel
theorem dX8_settle_45 : decode cX8_settle 45 = .ok (.iadd, 1) := by decide +kernel
theorem dX8_settle_46 : decode cX8_settle 46 = .ok (.iaload, 1) := by decide +kernel
theorem dX8_settle_47 : decode cX8_settle 47 = .ok (.aload_n 0, 1) := by decide +kernel
theorem dX8_settle_48 : decode cX8_settle 48 = .ok (.iload 4, 2) := by decide +kernel
theorem dX8_settle_50 : decode cX8_settle 50 = .ok (.invokevirtual 184, 3) := by decide +kernel
theorem dX8_settle_53 : decode cX8_settle 53 = .ok (.iadd, 1) := by decide +kernel
theorem dX8_settle_54 : decode cX8_settle 54 = .ok (.istore 5, 2) := by decide +kernel
theorem dX8_settle_56 : decode cX8_settle 56 = .ok (.aload_n 0, 1) := by decide +kernel
theorem dX8_settle_57 : decode cX8_settle 57 = .ok (.getfield 13, 3) := by decide +kernel
theorem dX8_settle_60 : decode cX8_settle 60 = .ok (.bipush 7, 2) := by decide +kernel
theorem dX8_settle_62 : decode cX8_settle 62 = .ok (.iload 4, 2) := by decide +kernel
theorem dX8_settle_64 : decode cX8_settle 64 = .ok (.iadd, 1) := by decide +kernel
theorem dX8_settle_65 : decode cX8_settle 65 = .ok (.iload 5, 2) := by decide +kernel
theorem dX8_settle_67 : decode cX8_settle 67 = .ok (.sipush 9999, 3) := by decide +kernel
theorem dX8_settle_70 : decode cX8_settle 70 = .ok (.if_icmp .le 9, 3) := by decide +kernel
theorem dX8_settle_73 : decode cX8_settle 73 = .ok (.sipush 9999, 3) := by decide +kernel
theorem dX8_settle_76 : decode cX8_settle 76 = .ok (.goto 5, 3) := by decide +kernel
theorem dX8_settle_79 : decode cX8_settle 79 = .ok (.iload 5, 2) := by decide +kernel
theorem dX8_settle_81 : decode cX8_settle 81 = .ok (.iastore, 1) := by decide +kernel
theorem dX8_settle_82 : decode cX8_settle 82 = .ok (.iinc 4 1, 3) := by decide +kernel
theorem dX8_settle_85 : decode cX8_settle 85 = .ok (.goto (-55), 3) := by decide +kernel
theorem dX8_settle_88 : decode cX8_settle 88 = .ok (.aload_n 0, 1) := by decide +kernel
theorem dX8_settle_89 : decode cX8_settle 89 = .ok (.getfield 13, 3) := by decide +kernel
theorem dX8_settle_92 : decode cX8_settle 92 = .ok (.bipush 114, 2) := by decide +kernel
theorem dX8_settle_94 : decode cX8_settle 94 = .ok (.iaload, 1) := by decide +kernel
theorem dX8_settle_95 : decode cX8_settle 95 = .ok (.bipush 8, 2) := by decide +kernel
theorem dX8_settle_97 : decode cX8_settle 97 = .ok (.if_icmp .ne 84, 3) := by decide +kernel
theorem dX8_settle_100 : decode cX8_settle 100 = .ok (.iconst 3, 1) := by decide +kernel
theorem dX8_settle_101 : decode cX8_settle 101 = .ok (.istore 4, 2) := by decide +kernel
theorem dX8_settle_103 : decode cX8_settle 103 = .ok (.iload 4, 2) := by decide +kernel
theorem dX8_settle_105 : decode cX8_settle 105 = .ok (.bipush 24, 2) := by decide +kernel
theorem dX8_settle_107 : decode cX8_settle 107 = .ok (.if_icmp .ge 31, 3) := by decide +kernel
theorem dX8_settle_110 : decode cX8_settle 110 = .ok (.aload_n 0, 1) := by decide +kernel
theorem dX8_settle_111 : decode cX8_settle 111 = .ok (.getfield 13, 3) := by decide +kernel
theorem dX8_settle_114 : decode cX8_settle 114 = .ok (.bipush 115, 2) := by decide +kernel
theorem dX8_settle_116 : decode cX8_settle 116 = .ok (.iload 4, 2) := by decide +kernel
theorem dX8_settle_118 : decode cX8_settle 118 = .ok (.iadd, 1) := by decide +kernel
theorem dX8_settle_119 : decode cX8_settle 119 = .ok (.iconst 3, 1) := by decide +kernel
theorem dX8_settle_120 : decode cX8_settle 120 = .ok (.isub, 1) := by decide +kernel
theorem dX8_settle_121 : decode cX8_settle 121 = .ok (.aload_n 0, 1) := by decide +kernel
theorem dX8_settle_122 : decode cX8_settle 122 = .ok (.getfield 13, 3) := by decide +kernel
theorem dX8_settle_125 : decode cX8_settle 125 = .ok (.bipush 115, 2) := by decide +kernel
theorem dX8_settle_127 : decode cX8_settle 127 = .ok (.iload 4, 2) := by decide +kernel
theorem dX8_settle_129 : decode cX8_settle 129 = .ok (.iadd, 1) := by decide +kernel
theorem dX8_settle_130 : decode cX8_settle 130 = .ok (.iaload, 1) := by decide +kernel
theorem dX8_settle_131 : decode cX8_settle 131 = .ok (.iastore, 1) := by decide +kernel
theorem dX8_settle_132 : decode cX8_settle 132 = .ok (.iinc 4 1, 3) := by decide +kernel
theorem dX8_settle_135 : decode cX8_settle 135 = .ok (.goto (-32), 3) := by decide +kernel
theorem dX8_settle_138 : decode cX8_settle 138 = .ok (.iconst 1, 1) := by decide +kernel
theorem dX8_settle_139 : decode cX8_settle 139 = .ok (.istore 4, 2) := by decide +kernel
theorem dX8_settle_141 : decode cX8_settle 141 = .ok (.iload 4, 2) := by decide +kernel
theorem dX8_settle_143 : decode cX8_settle 143 = .ok (.bipush 8, 2) := by decide +kernel
theorem dX8_settle_145 : decode cX8_settle 145 = .ok (.if_icmp .ge 25, 3) := by decide +kernel
theorem dX8_settle_148 : decode cX8_settle 148 = .ok (.aload_n 0, 1) := by decide +kernel
theorem dX8_settle_149 : decode cX8_settle 149 = .ok (.getfield 17, 3) := by decide +kernel
theorem dX8_settle_152 : decode cX8_settle 152 = .ok (.iload 4, 2) := by decide +kernel
theorem dX8_settle_154 : decode cX8_settle 154 = .ok (.iconst 1, 1) := by decide +kernel
theorem dX8_settle_155 : decode cX8_settle 155 = .ok (.isub, 1) := by decide +kernel
theorem dX8_settle_156 : decode cX8_settle 156 = .ok (.aload_n 0, 1) := by decide +kernel
theorem dX8_settle_157 : decode cX8_settle 157 = .ok (.getfield 17, 3) := by decide +kernel
theorem dX8_settle_160 : decode cX8_settle 160 = .ok (.iload 4, 2) := by decide +kernel
theorem dX8_settle_162 : decode cX8_settle 162 = .ok (.laload, 1) := by decide +kernel
theorem dX8_settle_163 : decode cX8_settle 163 = .ok (.lastore, 1) := by decide +kernel
theorem dX8_settle_164 : decode cX8_settle 164 = .ok (.iinc 4 1, 3) := by decide +kernel
theorem dX8_settle_167 : decode cX8_settle 167 = .ok (.goto (-26), 3) := by decide +kernel
theorem dX8_settle_170 : decode cX8_settle 170 = .ok (.aload_n 0, 1) := by decide +kernel
theorem dX8_settle_171 : decode cX8_settle 171 = .ok (.getfield 13, 3) := by decide +kernel
theorem dX8_settle_174 : decode cX8_settle 174 = .ok (.bipush 114, 2) := by decide +kernel
theorem dX8_settle_176 : decode cX8_settle 176 = .ok (.dup2, 1) := by decide +kernel
theorem dX8_settle_177 : decode cX8_settle 177 = .ok (.iaload, 1) := by decide +kernel
theorem dX8_settle_178 : decode cX8_settle 178 = .ok (.iconst 1, 1) := by decide +kernel
theorem dX8_settle_179 : decode cX8_settle 179 = .ok (.isub, 1) := by decide +kernel
theorem dX8_settle_180 : decode cX8_settle 180 = .ok (.iastore, 1) := by decide +kernel
theorem dX8_settle_181 : decode cX8_settle 181 = .ok (.aload_n 0, 1) := by decide +kernel
theorem dX8_settle_182 : decode cX8_settle 182 = .ok (.getfield 13, 3) := by decide +kernel
theorem dX8_settle_185 : decode cX8_settle 185 = .ok (.bipush 114, 2) := by decide +kernel
theorem dX8_settle_187 : decode cX8_settle 187 = .ok (.iaload, 1) := by decide +kernel
theorem dX8_settle_188 : decode cX8_settle 188 = .ok (.istore 4, 2) := by decide +kernel
theorem dX8_settle_190 : decode cX8_settle 190 = .ok (.aload_n 0, 1) := by decide +kernel
theorem dX8_settle_191 : decode cX8_settle 191 = .ok (.getfield 13, 3) := by decide +kernel
theorem dX8_settle_194 : decode cX8_settle 194 = .ok (.bipush 115, 2) := by decide +kernel
theorem dX8_settle_196 : decode cX8_settle 196 = .ok (.iconst 3, 1) := by decide +kernel
theorem dX8_settle_197 : decode cX8_settle 197 = .ok (.iload 4, 2) := by decide +kernel
theorem dX8_settle_199 : decode cX8_settle 199 = .ok (.imul, 1) := by decide +kernel
theorem dX8_settle_200 : decode cX8_settle 200 = .ok (.iadd, 1) := by decide +kernel
theorem dX8_settle_201 : decode cX8_settle 201 = .ok (.aload_n 0, 1) := by decide +kernel
theorem dX8_settle_202 : decode cX8_settle 202 = .ok (.getfield 153, 3) := by decide +kernel
theorem dX8_settle_205 : decode cX8_settle 205 = .ok (.iastore, 1) := by decide +kernel
theorem dX8_settle_206 : decode cX8_settle 206 = .ok (.aload_n 0, 1) := by decide +kernel
theorem dX8_settle_207 : decode cX8_settle 207 = .ok (.getfield 13, 3) := by decide +kernel
theorem dX8_settle_210 : decode cX8_settle 210 = .ok (.bipush 115, 2) := by decide +kernel
theorem dX8_settle_212 : decode cX8_settle 212 = .ok (.iconst 3, 1) := by decide +kernel
theorem dX8_settle_213 : decode cX8_settle 213 = .ok (.iload 4, 2) := by decide +kernel
theorem dX8_settle_215 : decode cX8_settle 215 = .ok (.imul, 1) := by decide +kernel
theorem dX8_settle_216 : decode cX8_settle 216 = .ok (.iadd, 1) := by decide +kernel
theorem dX8_settle_217 : decode cX8_settle 217 = .ok (.iconst 1, 1) := by decide +kernel
theorem dX8_settle_218 : decode cX8_settle 218 = .ok (.iadd, 1) := by decide +kernel
theorem dX8_settle_219 : decode cX8_settle 219 = .ok (.aload_n 0, 1) := by decide +kernel
theorem dX8_settle_220 : decode cX8_settle 220 = .ok (.getfield 163, 3) := by decide +kernel
theorem dX8_settle_223 : decode cX8_settle 223 = .ok (.iastore, 1) := by decide +kernel
theorem dX8_settle_224 : decode cX8_settle 224 = .ok (.aload_n 0, 1) := by decide +kernel
theorem dX8_settle_225 : decode cX8_settle 225 = .ok (.getfield 13, 3) := by decide +kernel
theorem dX8_settle_228 : decode cX8_settle 228 = .ok (.bipush 115, 2) := by decide +kernel
theorem dX8_settle_230 : decode cX8_settle 230 = .ok (.iconst 3, 1) := by decide +kernel
theorem dX8_settle_231 : decode cX8_settle 231 = .ok (.iload 4, 2) := by decide +kernel
theorem dX8_settle_233 : decode cX8_settle 233 = .ok (.imul, 1) := by decide +kernel
theorem dX8_settle_234 : decode cX8_settle 234 = .ok (.iadd, 1) := by decide +kernel
theorem dX8_settle_235 : decode cX8_settle 235 = .ok (.iconst 2, 1) := by decide +kernel
theorem dX8_settle_236 : decode cX8_settle 236 = .ok (.iadd, 1) := by decide +kernel
theorem dX8_settle_237 : decode cX8_settle 237 = .ok (.iload_n 1, 1) := by decide +kernel
theorem dX8_settle_238 : decode cX8_settle 238 = .ok (.iastore, 1) := by decide +kernel
theorem dX8_settle_239 : decode cX8_settle 239 = .ok (.aload_n 0, 1) := by decide +kernel
theorem dX8_settle_240 : decode cX8_settle 240 = .ok (.getfield 17, 3) := by decide +kernel
theorem dX8_settle_243 : decode cX8_settle 243 = .ok (.iload 4, 2) := by decide +kernel
theorem dX8_settle_245 : decode cX8_settle 245 = .ok (.lload_n 2, 1) := by decide +kernel
theorem dX8_settle_246 : decode cX8_settle 246 = .ok (.lastore, 1) := by decide +kernel
theorem dX8_settle_247 : decode cX8_settle 247 = .ok (.aload_n 0, 1) := by decide +kernel
theorem dX8_settle_248 : decode cX8_settle 248 = .ok (.getfield 13, 3) := by decide +kernel
theorem dX8_settle_251 : decode cX8_settle 251 = .ok (.bipush 114, 2) := by decide +kernel
theorem dX8_settle_253 : decode cX8_settle 253 = .ok (.dup2, 1) := by decide +kernel
theorem dX8_settle_254 : decode cX8_settle 254 = .ok (.iaload, 1) := by decide +kernel
theorem dX8_settle_255 : decode cX8_settle 255 = .ok (.iconst 1, 1) := by decide +kernel
theorem dX8_settle_256 : decode cX8_settle 256 = .ok (.iadd, 1) := by decide +kernel
theorem dX8_settle_257 : decode cX8_settle 257 = .ok (.iastore, 1) := by decide +kernel
theorem dX8_settle_258 : decode cX8_settle 258 = .ok (.aload_n 0, 1) := by decide +kernel
theorem dX8_settle_259 : decode cX8_settle 259 = .ok (.getfield 13, 3) := by decide +kernel
theorem dX8_settle_262 : decode cX8_settle 262 = .ok (.bipush 23, 2) := by decide +kernel
theorem dX8_settle_264 : decode cX8_settle 264 = .ok (.iconst 0, 1) := by decide +kernel
theorem dX8_settle_265 : decode cX8_settle 265 = .ok (.iastore, 1) := by decide +kernel
theorem dX8_settle_266 : decode cX8_settle 266 = .ok (.iload_n 1, 1) := by decide +kernel
theorem dX8_settle_267 : decode cX8_settle 267 = .ok (.ireturn, 1) := by decide +kernel
theorem dX8_isLine_0 : decode cX8_isLine 0 = .ok (.iload_n 1, 1) := by decide +kernel
theorem dX8_isLine_1 : decode cX8_isLine 1 = .ok (.iconst 0, 1) := by decide +kernel
theorem dX8_isLine_2 : decode cX8_isLine 2 = .ok (.aload_n 0, 1) := by decide +kernel
theorem dX8_isLine_3 : decode cX8_isLine 3 = .ok (.getfield 13, 3) := by decide +kernel
theorem dX8_isLine_6 : decode cX8_isLine 6 = .ok (.bipush 114, 2) := by decide +kernel
theorem dX8_isLine_8 : decode cX8_isLine 8 = .ok (.iaload, 1) := by decide +kernel
theorem dX8_isLine_9 : decode cX8_isLine 9 = .ok (.iconst 1, 1) := by decide +kernel
theorem dX8_isLine_10 : decode cX8_isLine 10 = .ok (.isub, 1) := by decide +kernel
theorem dX8_isLine_11 : decode cX8_isLine 11 = .ok (.invokestatic 69, 3) := by decide +kernel
theorem dX8_isLine_14 : decode cX8_isLine 14 = .ok (.ireturn, 1) := by decide +kernel
theorem dX8_record_0 : decode cX8_record 0 = .ok (.aload_n 0, 1) := by decide +kernel
theorem dX8_record_1 : decode cX8_record 1 = .ok (.iload_n 1, 1) := by decide +kernel
theorem dX8_record_2 : decode cX8_record 2 = .ok (.invokevirtual 187, 3) := by decide +kernel
theorem dX8_record_5 : decode cX8_record 5 = .ok (.ifCond .eq 38, 3) := by decide +kernel
theorem dX8_record_8 : decode cX8_record 8 = .ok (.iload_n 2, 1) := by decide +kernel
theorem dX8_record_9 : decode cX8_record 9 = .ok (.iconst 0, 1) := by decide +kernel
theorem dX8_record_10 : decode cX8_record 10 = .ok (.iconst 2, 1) := by decide +kernel
theorem dX8_record_11 : decode cX8_record 11 = .ok (.invokestatic 69, 3) := by decide +kernel
theorem dX8_record_14 : decode cX8_record 14 = .ok (.ifCond .eq 29, 3) := by decide +kernel
theorem dX8_record_17 : decode cX8_record 17 = .ok (.aload_n 0, 1) := by decide +kernel
theorem dX8_record_18 : decode cX8_record 18 = .ok (.getfield 13, 3) := by decide +kernel
theorem dX8_record_21 : decode cX8_record 21 = .ok (.bipush 115, 2) := by decide +kernel
theorem dX8_record_23 : decode cX8_record 23 = .ok (.iconst 3, 1) := by decide +kernel
theorem dX8_record_24 : decode cX8_record 24 = .ok (.aload_n 0, 1) := by decide +kernel
theorem dX8_record_25 : decode cX8_record 25 = .ok (.getfield 13, 3) := by decide +kernel
theorem dX8_record_28 : decode cX8_record 28 = .ok (.bipush 114, 2) := by decide +kernel
theorem dX8_record_30 : decode cX8_record 30 = .ok (.iaload, 1) := by decide +kernel
theorem dX8_record_31 : decode cX8_record 31 = .ok (.iconst 1, 1) := by decide +kernel
theorem dX8_record_32 : decode cX8_record 32 = .ok (.isub, 1) := by decide +kernel
theorem dX8_record_33 : decode cX8_record 33 = .ok (.iload_n 1, 1) := by decide +kernel
theorem dX8_record_34 : decode cX8_record 34 = .ok (.isub, 1) := by decide +kernel
theorem dX8_record_35 : decode cX8_record 35 = .ok (.imul, 1) := by decide +kernel
theorem dX8_record_36 : decode cX8_record 36 = .ok (.iadd, 1) := by decide +kernel
theorem dX8_record_37 : decode cX8_record 37 = .ok (.iload_n 2, 1) := by decide +kernel
theorem dX8_record_38 : decode cX8_record 38 = .ok (.iadd, 1) := by decide +kernel
theorem dX8_record_39 : decode cX8_record 39 = .ok (.iaload, 1) := by decide +kernel
theorem dX8_record_40 : decode cX8_record 40 = .ok (.goto 4, 3) := by decide +kernel
theorem dX8_record_43 : decode cX8_record 43 = .ok (.iconst (-1), 1) := by decide +kernel
theorem dX8_record_44 : decode cX8_record 44 = .ok (.ireturn, 1) := by decide +kernel
theorem dX8_recordPaid_0 : decode cX8_recordPaid 0 = .ok (.aload_n 0, 1) := by decide +kernel
theorem dX8_recordPaid_1 : decode cX8_recordPaid 1 = .ok (.iload_n 1, 1) := by decide +kernel
theorem dX8_recordPaid_2 : decode cX8_recordPaid 2 = .ok (.invokevirtual 187, 3) := by decide +kernel
theorem dX8_recordPaid_5 : decode cX8_recordPaid 5 = .ok (.ifCond .eq 22, 3) := by decide +kernel
theorem dX8_recordPaid_8 : decode cX8_recordPaid 8 = .ok (.aload_n 0, 1) := by decide +kernel
theorem dX8_recordPaid_9 : decode cX8_recordPaid 9 = .ok (.getfield 17, 3) := by decide +kernel
theorem dX8_recordPaid_12 : decode cX8_recordPaid 12 = .ok (.aload_n 0, 1) := by decide +kernel
theorem dX8_recordPaid_13 : decode cX8_recordPaid 13 = .ok (.getfield 13, 3) := by decide +kernel
theorem dX8_recordPaid_16 : decode cX8_recordPaid 16 = .ok (.bipush 114, 2) := by decide +kernel
theorem dX8_recordPaid_18 : decode cX8_recordPaid 18 = .ok (.iaload, 1) := by decide +kernel
theorem dX8_recordPaid_19 : decode cX8_recordPaid 19 = .ok (.iconst 1, 1) := by decide +kernel
theorem dX8_recordPaid_20 : decode cX8_recordPaid 20 = .ok (.isub, 1) := by decide +kernel
theorem dX8_recordPaid_21 : decode cX8_recordPaid 21 = .ok (.iload_n 1, 1) := by decide +kernel
theorem dX8_recordPaid_22 : decode cX8_recordPaid 22 = .ok (.isub, 1) := by decide +kernel
theorem dX8_recordPaid_23 : decode cX8_recordPaid 23 = .ok (.laload, 1) := by decide +kernel
theorem dX8_recordPaid_24 : decode cX8_recordPaid 24 = .ok (.goto 6, 3) := by decide +kernel
theorem dX8_recordPaid_27 : decode cX8_recordPaid 27 = .ok (.ldc2_w 190, 3) := by decide +kernel
theorem dX8_recordPaid_30 : decode cX8_recordPaid 30 = .ok (.lreturn, 1) := by decide +kernel
theorem dX8_records_0 : decode cX8_records 0 = .ok (.iload_n 1, 1) := by decide +kernel
theorem dX8_records_1 : decode cX8_records 1 = .ok (.iconst 0, 1) := by decide +kernel
theorem dX8_records_2 : decode cX8_records 2 = .ok (.iconst 3, 1) := by decide +kernel
theorem dX8_records_3 : decode cX8_records 3 = .ok (.invokestatic 69, 3) := by decide +kernel
theorem dX8_records_6 : decode cX8_records 6 = .ok (.ifCond .ne 5, 3) := by decide +kernel
theorem dX8_records_9 : decode cX8_records 9 = .ok (.iconst (-1), 1) := by decide +kernel
theorem dX8_records_10 : decode cX8_records 10 = .ok (.ireturn, 1) := by decide +kernel
theorem dX8_records_11 : decode cX8_records 11 = .ok (.iconst 0, 1) := by decide +kernel
theorem dX8_records_12 : decode cX8_records 12 = .ok (.istore_n 2, 1) := by decide +kernel
theorem dX8_records_13 : decode cX8_records 13 = .ok (.iconst 0, 1) := by decide +kernel
theorem dX8_records_14 : decode cX8_records 14 = .ok (.istore_n 3, 1) := by decide +kernel
theorem dX8_records_15 : decode cX8_records 15 = .ok (.iconst 0, 1) := by decide +kernel
theorem dX8_records_16 : decode cX8_records 16 = .ok (.istore 4, 2) := by decide +kernel
theorem dX8_records_18 : decode cX8_records 18 = .ok (.bipush (-2), 2) := by decide +kernel
theorem dX8_records_20 : decode cX8_records 20 = .ok (.istore 5, 2) := by decide +kernel
theorem dX8_records_22 : decode cX8_records 22 = .ok (.bipush (-2), 2) := by decide +kernel
theorem dX8_records_24 : decode cX8_records 24 = .ok (.istore 6, 2) := by decide +kernel
theorem dX8_records_26 : decode cX8_records 26 = .ok (.iconst 0, 1) := by decide +kernel
theorem dX8_records_27 : decode cX8_records 27 = .ok (.istore 7, 2) := by decide +kernel
theorem dX8_records_29 : decode cX8_records 29 = .ok (.iload 7, 2) := by decide +kernel
theorem dX8_records_31 : decode cX8_records 31 = .ok (.aload_n 0, 1) := by decide +kernel
theorem dX8_records_32 : decode cX8_records 32 = .ok (.getfield 13, 3) := by decide +kernel
theorem dX8_records_35 : decode cX8_records 35 = .ok (.bipush 114, 2) := by decide +kernel
theorem dX8_records_37 : decode cX8_records 37 = .ok (.iaload, 1) := by decide +kernel
theorem dX8_records_38 : decode cX8_records 38 = .ok (.if_icmp .ge 87, 3) := by decide +kernel
theorem dX8_records_41 : decode cX8_records 41 = .ok (.aload_n 0, 1) := by decide +kernel
theorem dX8_records_42 : decode cX8_records 42 = .ok (.getfield 13, 3) := by decide +kernel
theorem dX8_records_45 : decode cX8_records 45 = .ok (.bipush 115, 2) := by decide +kernel
theorem dX8_records_47 : decode cX8_records 47 = .ok (.iconst 3, 1) := by decide +kernel
theorem dX8_records_48 : decode cX8_records 48 = .ok (.iload 7, 2) := by decide +kernel
theorem dX8_records_50 : decode cX8_records 50 = .ok (.imul, 1) := by decide +kernel
theorem dX8_records_51 : decode cX8_records 51 = .ok (.iadd, 1) := by decide +kernel
theorem dX8_records_52 : decode cX8_records 52 = .ok (.iaload, 1) := by decide +kernel
theorem dX8_records_53 : decode cX8_records 53 = .ok (.istore 8, 2) := by decide +kernel
theorem dX8_records_55 : decode cX8_records 55 = .ok (.iload_n 2, 1) := by decide +kernel
theorem dX8_records_56 : decode cX8_records 56 = .ok (.aload_n 0, 1) := by decide +kernel
theorem dX8_records_57 : decode cX8_records 57 = .ok (.getfield 13, 3) := by decide +kernel
theorem dX8_records_60 : decode cX8_records 60 = .ok (.bipush 115, 2) := by decide +kernel
theorem dX8_records_62 : decode cX8_records 62 = .ok (.iconst 3, 1) := by decide +kernel
theorem dX8_records_63 : decode cX8_records 63 = .ok (.iload 7, 2) := by decide +kernel
theorem dX8_records_65 : decode cX8_records 65 = .ok (.imul, 1) := by decide +kernel
theorem dX8_records_66 : decode cX8_records 66 = .ok (.iadd, 1) := by decide +kernel
theorem dX8_records_67 : decode cX8_records 67 = .ok (.iconst 2, 1) := by decide +kernel
theorem dX8_records_68 : decode cX8_records 68 = .ok (.iadd, 1) := by decide +kernel
theorem dX8_records_69 : decode cX8_records 69 = .ok (.iaload, 1) := by decide +kernel
theorem dX8_records_70 : decode cX8_records 70 = .ok (.iadd, 1) := by decide +kernel
theorem dX8_records_71 : decode cX8_records 71 = .ok (.istore_n 2, 1) := by decide +kernel
theorem dX8_records_72 : decode cX8_records 72 = .ok (.iload 8, 2) := by decide +kernel
theorem dX8_records_74 : decode cX8_records 74 = .ok (.bipush (-2), 2) := by decide +kernel
theorem dX8_records_76 : decode cX8_records 76 = .ok (.if_icmp .ne 6, 3) := by decide +kernel
theorem dX8_records_79 : decode cX8_records 79 = .ok (.goto 40, 3) := by decide +kernel
theorem dX8_records_82 : decode cX8_records 82 = .ok (.iload_n 3, 1) := by decide +kernel
theorem dX8_records_83 : decode cX8_records 83 = .ok (.iload 8, 2) := by decide +kernel
theorem dX8_records_85 : decode cX8_records 85 = .ok (.iadd, 1) := by decide +kernel
theorem dX8_records_86 : decode cX8_records 86 = .ok (.istore_n 3, 1) := by decide +kernel
theorem dX8_records_87 : decode cX8_records 87 = .ok (.iinc 4 1, 3) := by decide +kernel
theorem dX8_records_90 : decode cX8_records 90 = .ok (.iload 8, 2) := by decide +kernel
theorem dX8_records_92 : decode cX8_records 92 = .ok (.iload 5, 2) := by decide +kernel
theorem dX8_records_94 : decode cX8_records 94 = .ok (.if_icmp .le 7, 3) := by decide +kernel
theorem dX8_records_97 : decode cX8_records 97 = .ok (.iload 8, 2) := by decide +kernel
theorem dX8_records_99 : decode cX8_records 99 = .ok (.istore 5, 2) := by decide +kernel
theorem dX8_records_101 : decode cX8_records 101 = .ok (.iload 6, 2) := by decide +kernel
theorem dX8_records_103 : decode cX8_records 103 = .ok (.bipush (-2), 2) := by decide +kernel
theorem dX8_records_105 : decode cX8_records 105 = .ok (.if_icmp .eq 10, 3) := by decide +kernel
theorem dX8_records_108 : decode cX8_records 108 = .ok (.iload 8, 2) := by decide +kernel
theorem dX8_records_110 : decode cX8_records 110 = .ok (.iload 6, 2) := by decide +kernel
theorem dX8_records_112 : decode cX8_records 112 = .ok (.if_icmp .ge 7, 3) := by decide +kernel
theorem dX8_records_115 : decode cX8_records 115 = .ok (.iload 8, 2) := by decide +kernel
theorem dX8_records_117 : decode cX8_records 117 = .ok (.istore 6, 2) := by decide +kernel
theorem dX8_records_119 : decode cX8_records 119 = .ok (.iinc 7 1, 3) := by decide +kernel
theorem dX8_records_122 : decode cX8_records 122 = .ok (.goto (-93), 3) := by decide +kernel
theorem dX8_records_125 : decode cX8_records 125 = .ok (.iload_n 1, 1) := by decide +kernel
theorem dX8_records_126 : decode cX8_records 126 = .ok (.ifCond .ne 7, 3) := by decide +kernel
theorem dX8_records_129 : decode cX8_records 129 = .ok (.iload_n 2, 1) := by decide +kernel
theorem dX8_records_130 : decode cX8_records 130 = .ok (.goto 37, 3) := by decide +kernel
theorem dX8_records_133 : decode cX8_records 133 = .ok (.iload_n 1, 1) := by decide +kernel
theorem dX8_records_134 : decode cX8_records 134 = .ok (.iconst 2, 1) := by decide +kernel
theorem dX8_records_135 : decode cX8_records 135 = .ok (.if_icmp .ne 8, 3) := by decide +kernel
theorem dX8_records_138 : decode cX8_records 138 = .ok (.iload 5, 2) := by decide +kernel
theorem dX8_records_140 : decode cX8_records 140 = .ok (.goto 27, 3) := by decide +kernel
theorem dX8_records_143 : decode cX8_records 143 = .ok (.iload_n 1, 1) := by decide +kernel
theorem dX8_records_144 : decode cX8_records 144 = .ok (.iconst 3, 1) := by decide +kernel
theorem dX8_records_145 : decode cX8_records 145 = .ok (.if_icmp .ne 8, 3) := by decide +kernel
theorem dX8_records_148 : decode cX8_records 148 = .ok (.iload 6, 2) := by decide +kernel
theorem dX8_records_150 : decode cX8_records 150 = .ok (.goto 17, 3) := by decide +kernel
theorem dX8_records_153 : decode cX8_records 153 = .ok (.iload 4, 2) := by decide +kernel
theorem dX8_records_155 : decode cX8_records 155 = .ok (.ifCond .ne 8, 3) := by decide +kernel
theorem dX8_records_158 : decode cX8_records 158 = .ok (.bipush (-2), 2) := by decide +kernel
theorem dX8_records_160 : decode cX8_records 160 = .ok (.goto 7, 3) := by decide +kernel
theorem dX8_records_163 : decode cX8_records 163 = .ok (.iload_n 3, 1) := by decide +kernel
theorem dX8_records_164 : decode cX8_records 164 = .ok (.iload 4, 2) := by decide +kernel
theorem dX8_records_166 : decode cX8_records 166 = .ok (.idiv, 1) := by decide +kernel
theorem dX8_records_167 : decode cX8_records 167 = .ok (.ireturn, 1) := by decide +kernel
theorem dX8_asTerm_0 : decode cX8_asTerm 0 = .ok (.iload_n 1, 1) := by decide +kernel
theorem dX8_asTerm_1 : decode cX8_asTerm 1 = .ok (.iconst 0, 1) := by decide +kernel
theorem dX8_asTerm_2 : decode cX8_asTerm 2 = .ok (.bipush 6, 2) := by decide +kernel
theorem dX8_asTerm_4 : decode cX8_asTerm 4 = .ok (.invokestatic 69, 3) := by decide +kernel
theorem dX8_asTerm_7 : decode cX8_asTerm 7 = .ok (.ifCond .eq 12, 3) := by decide +kernel
theorem dX8_asTerm_10 : decode cX8_asTerm 10 = .ok (.aload_n 0, 1) := by decide +kernel
theorem dX8_asTerm_11 : decode cX8_asTerm 11 = .ok (.getfield 13, 3) := by decide +kernel
theorem dX8_asTerm_14 : decode cX8_asTerm 14 = .ok (.iload_n 1, 1) := by decide +kernel
theorem dX8_asTerm_15 : decode cX8_asTerm 15 = .ok (.iaload, 1) := by decide +kernel
theorem dX8_asTerm_16 : decode cX8_asTerm 16 = .ok (.goto 4, 3) := by decide +kernel
theorem dX8_asTerm_19 : decode cX8_asTerm 19 = .ok (.iconst (-1), 1) := by decide +kernel
theorem dX8_asTerm_20 : decode cX8_asTerm 20 = .ok (.ireturn, 1) := by decide +kernel
theorem dX8_of_0 : decode cX8_of 0 = .ok (.aload_n 0, 1) := by decide +kernel
theorem dX8_of_1 : decode cX8_of 1 = .ok (.iload_n 1, 1) := by decide +kernel
theorem dX8_of_2 : decode cX8_of 2 = .ok (.invokevirtual 108, 3) := by decide +kernel
theorem dX8_of_5 : decode cX8_of 5 = .ok (.ifCond .eq 12, 3) := by decide +kernel
theorem dX8_of_8 : decode cX8_of 8 = .ok (.iload_n 2, 1) := by decide +kernel
theorem dX8_of_9 : decode cX8_of 9 = .ok (.iconst 0, 1) := by decide +kernel
theorem dX8_of_10 : decode cX8_of 10 = .ok (.iconst 5, 1) := by decide +kernel
theorem dX8_of_11 : decode cX8_of 11 = .ok (.invokestatic 69, 3) := by decide +kernel
theorem dX8_of_14 : decode cX8_of 14 = .ok (.ifCond .ne 5, 3) := by decide +kernel
theorem dX8_of_17 : decode cX8_of 17 = .ok (.iconst (-1), 1) := by decide +kernel
theorem dX8_of_18 : decode cX8_of 18 = .ok (.ireturn, 1) := by decide +kernel
theorem dX8_of_19 : decode cX8_of 19 = .ok (.aload_n 0, 1) := by decide +kernel
theorem dX8_of_20 : decode cX8_of 20 = .ok (.invokevirtual 174, 3) := by decide +kernel
theorem dX8_of_23 : decode cX8_of 23 = .ok (.iload_n 2, 1) := by decide +kernel
theorem dX8_of_24 : decode cX8_of 24 = .ok (.tableswitch 81 0 4 #[36, 42, 61, 67, 74], 36) := by decide +kernel
theorem dX8_of_60 : decode cX8_of 60 = .ok (.aload_n 0, 1) := by decide +kernel
theorem dX8_of_61 : decode cX8_of 61 = .ok (.iload_n 1, 1) := by decide +kernel
theorem dX8_of_62 : decode cX8_of 62 = .ok (.invokevirtual 81, 3) := by decide +kernel
theorem dX8_of_65 : decode cX8_of 65 = .ok (.ireturn, 1) := by decide +kernel
theorem dX8_of_66 : decode cX8_of 66 = .ok (.aload_n 0, 1) := by decide +kernel
theorem dX8_of_67 : decode cX8_of 67 = .ok (.iload_n 1, 1) := by decide +kernel
theorem dX8_of_68 : decode cX8_of 68 = .ok (.invokevirtual 115, 3) := by decide +kernel
theorem dX8_of_71 : decode cX8_of 71 = .ok (.ifCond .eq 8, 3) := by decide +kernel
theorem dX8_of_74 : decode cX8_of 74 = .ok (.bipush (-2), 2) := by decide +kernel
theorem dX8_of_76 : decode cX8_of 76 = .ok (.goto 8, 3) := by decide +kernel
theorem dX8_of_79 : decode cX8_of 79 = .ok (.aload_n 0, 1) := by decide +kernel
theorem dX8_of_80 : decode cX8_of 80 = .ok (.iload_n 1, 1) := by decide +kernel
theorem dX8_of_81 : decode cX8_of 81 = .ok (.invokevirtual 77, 3) := by decide +kernel
theorem dX8_of_84 : decode cX8_of 84 = .ok (.ireturn, 1) := by decide +kernel
theorem dX8_of_85 : decode cX8_of 85 = .ok (.aload_n 0, 1) := by decide +kernel
theorem dX8_of_86 : decode cX8_of 86 = .ok (.iload_n 1, 1) := by decide +kernel
theorem dX8_of_87 : decode cX8_of 87 = .ok (.invokevirtual 84, 3) := by decide +kernel
theorem dX8_of_90 : decode cX8_of 90 = .ok (.ireturn, 1) := by decide +kernel
theorem dX8_of_91 : decode cX8_of 91 = .ok (.aload_n 0, 1) := by decide +kernel
theorem dX8_of_92 : decode cX8_of 92 = .ok (.getfield 36, 3) := by decide +kernel
theorem dX8_of_95 : decode cX8_of 95 = .ok (.iload_n 1, 1) := by decide +kernel
theorem dX8_of_96 : decode cX8_of 96 = .ok (.iaload, 1) := by decide +kernel
theorem dX8_of_97 : decode cX8_of 97 = .ok (.ireturn, 1) := by decide +kernel
theorem dX8_of_98 : decode cX8_of 98 = .ok (.aload_n 0, 1) := by decide +kernel
theorem dX8_of_99 : decode cX8_of 99 = .ok (.getfield 39, 3) := by decide +kernel
theorem dX8_of_102 : decode cX8_of 102 = .ok (.iload_n 1, 1) := by decide +kernel
theorem dX8_of_103 : decode cX8_of 103 = .ok (.iaload, 1) := by decide +kernel
theorem dX8_of_104 : decode cX8_of 104 = .ok (.ireturn, 1) := by decide +kernel
theorem dX8_of_105 : decode cX8_of 105 = .ok (.aload_n 0, 1) := by decide +kernel
theorem dX8_of_106 : decode cX8_of 106 = .ok (.getfield 42, 3) := by decide +kernel
theorem dX8_of_109 : decode cX8_of 109 = .ok (.iload_n 1, 1) := by decide +kernel
theorem dX8_of_110 : decode cX8_of 110 = .ok (.iaload, 1) := by decide +kernel
theorem dX8_of_111 : decode cX8_of 111 = .ok (.ireturn, 1) := by decide +kernel
theorem dX8_pays_0 : decode cX8_pays 0 = .ok (.aload_n 0, 1) := by decide +kernel
theorem dX8_pays_1 : decode cX8_pays 1 = .ok (.iload_n 1, 1) := by decide +kernel
theorem dX8_pays_2 : decode cX8_pays 2 = .ok (.invokevirtual 108, 3) := by decide +kernel
theorem dX8_pays_5 : decode cX8_pays 5 = .ok (.ifCond .ne 7, 3) := by decide +kernel
theorem dX8_pays_8 : decode cX8_pays 8 = .ok (.ldc2_w 190, 3) := by decide +kernel
theorem dX8_pays_11 : decode cX8_pays 11 = .ok (.lreturn, 1) := by decide +kernel
theorem dX8_pays_12 : decode cX8_pays 12 = .ok (.aload_n 0, 1) := by decide +kernel
theorem dX8_pays_13 : decode cX8_pays 13 = .ok (.invokevirtual 174, 3) := by decide +kernel
theorem dX8_pays_16 : decode cX8_pays 16 = .ok (.aload_n 0, 1) := by decide +kernel
theorem dX8_pays_17 : decode cX8_pays 17 = .ok (.iload_n 1, 1) := by decide +kernel
theorem dX8_pays_18 : decode cX8_pays 18 = .ok (.invokevirtual 170, 3) := by decide +kernel
theorem dX8_pays_21 : decode cX8_pays 21 = .ok (.lreturn, 1) := by decide +kernel
theorem dX8_ownedBy_0 : decode cX8_ownedBy 0 = .ok (.iconst 0, 1) := by decide +kernel
theorem dX8_ownedBy_1 : decode cX8_ownedBy 1 = .ok (.istore_n 2, 1) := by decide +kernel
theorem dX8_ownedBy_2 : decode cX8_ownedBy 2 = .ok (.iconst 0, 1) := by decide +kernel
theorem dX8_ownedBy_3 : decode cX8_ownedBy 3 = .ok (.istore_n 3, 1) := by decide +kernel
theorem dX8_ownedBy_4 : decode cX8_ownedBy 4 = .ok (.iload_n 3, 1) := by decide +kernel
theorem dX8_ownedBy_5 : decode cX8_ownedBy 5 = .ok (.bipush 8, 2) := by decide +kernel
theorem dX8_ownedBy_7 : decode cX8_ownedBy 7 = .ok (.if_icmp .ge 25, 3) := by decide +kernel
theorem dX8_ownedBy_10 : decode cX8_ownedBy 10 = .ok (.aload_n 0, 1) := by decide +kernel
theorem dX8_ownedBy_11 : decode cX8_ownedBy 11 = .ok (.getfield 13, 3) := by decide +kernel
theorem dX8_ownedBy_14 : decode cX8_ownedBy 14 = .ok (.bipush 15, 2) := by decide +kernel
theorem dX8_ownedBy_16 : decode cX8_ownedBy 16 = .ok (.iload_n 3, 1) := by decide +kernel
theorem dX8_ownedBy_17 : decode cX8_ownedBy 17 = .ok (.iadd, 1) := by decide +kernel
theorem dX8_ownedBy_18 : decode cX8_ownedBy 18 = .ok (.iaload, 1) := by decide +kernel
theorem dX8_ownedBy_19 : decode cX8_ownedBy 19 = .ok (.iload_n 1, 1) := by decide +kernel
theorem dX8_ownedBy_20 : decode cX8_ownedBy 20 = .ok (.if_icmp .ne 6, 3) := by decide +kernel
theorem dX8_ownedBy_23 : decode cX8_ownedBy 23 = .ok (.iinc 2 1, 3) := by decide +kernel
theorem dX8_ownedBy_26 : decode cX8_ownedBy 26 = .ok (.iinc 3 1, 3) := by decide +kernel
theorem dX8_ownedBy_29 : decode cX8_ownedBy 29 = .ok (.goto (-25), 3) := by decide +kernel
theorem dX8_ownedBy_32 : decode cX8_ownedBy 32 = .ok (.iload_n 2, 1) := by decide +kernel
theorem dX8_ownedBy_33 : decode cX8_ownedBy 33 = .ok (.ireturn, 1) := by decide +kernel
theorem dX8_house_0 : decode cX8_house 0 = .ok (.iload_n 1, 1) := by decide +kernel
theorem dX8_house_1 : decode cX8_house 1 = .ok (.invokestatic 95, 3) := by decide +kernel
theorem dX8_house_4 : decode cX8_house 4 = .ok (.ifCond .eq 13, 3) := by decide +kernel
theorem dX8_house_7 : decode cX8_house 7 = .ok (.iload_n 2, 1) := by decide +kernel
theorem dX8_house_8 : decode cX8_house 8 = .ok (.iconst 0, 1) := by decide +kernel
theorem dX8_house_9 : decode cX8_house 9 = .ok (.bipush 6, 2) := by decide +kernel
theorem dX8_house_11 : decode cX8_house 11 = .ok (.invokestatic 69, 3) := by decide +kernel
theorem dX8_house_14 : decode cX8_house 14 = .ok (.ifCond .ne 5, 3) := by decide +kernel
theorem dX8_house_17 : decode cX8_house 17 = .ok (.iconst (-1), 1) := by decide +kernel
theorem dX8_house_18 : decode cX8_house 18 = .ok (.ireturn, 1) := by decide +kernel
theorem dX8_house_19 : decode cX8_house 19 = .ok (.aload_n 0, 1) := by decide +kernel
theorem dX8_house_20 : decode cX8_house 20 = .ok (.invokevirtual 174, 3) := by decide +kernel
theorem dX8_house_23 : decode cX8_house 23 = .ok (.iconst 0, 1) := by decide +kernel
theorem dX8_house_24 : decode cX8_house 24 = .ok (.istore_n 3, 1) := by decide +kernel
theorem dX8_house_25 : decode cX8_house 25 = .ok (.iconst 0, 1) := by decide +kernel
theorem dX8_house_26 : decode cX8_house 26 = .ok (.istore 4, 2) := by decide +kernel
theorem dX8_house_28 : decode cX8_house 28 = .ok (.iload 4, 2) := by decide +kernel
theorem dX8_house_30 : decode cX8_house 30 = .ok (.aload_n 0, 1) := by decide +kernel
theorem dX8_house_31 : decode cX8_house 31 = .ok (.invokevirtual 73, 3) := by decide +kernel
theorem dX8_house_34 : decode cX8_house 34 = .ok (.if_icmp .ge 43, 3) := by decide +kernel
theorem dX8_house_37 : decode cX8_house 37 = .ok (.aload_n 0, 1) := by decide +kernel
theorem dX8_house_38 : decode cX8_house 38 = .ok (.iload 4, 2) := by decide +kernel
theorem dX8_house_40 : decode cX8_house 40 = .ok (.invokevirtual 81, 3) := by decide +kernel
theorem dX8_house_43 : decode cX8_house 43 = .ok (.iload_n 1, 1) := by decide +kernel
theorem dX8_house_44 : decode cX8_house 44 = .ok (.if_icmp .ne 27, 3) := by decide +kernel
theorem dX8_house_47 : decode cX8_house 47 = .ok (.iload_n 3, 1) := by decide +kernel
theorem dX8_house_48 : decode cX8_house 48 = .ok (.iload_n 2, 1) := by decide +kernel
theorem dX8_house_49 : decode cX8_house 49 = .ok (.iconst 2, 1) := by decide +kernel
theorem dX8_house_50 : decode cX8_house 50 = .ok (.if_icmp .ne 12, 3) := by decide +kernel
theorem dX8_house_53 : decode cX8_house 53 = .ok (.aload_n 0, 1) := by decide +kernel
theorem dX8_house_54 : decode cX8_house 54 = .ok (.iload 4, 2) := by decide +kernel
theorem dX8_house_56 : decode cX8_house 56 = .ok (.invokevirtual 84, 3) := by decide +kernel
theorem dX8_house_59 : decode cX8_house 59 = .ok (.goto 10, 3) := by decide +kernel
theorem dX8_house_62 : decode cX8_house 62 = .ok (.aload_n 0, 1) := by decide +kernel
theorem dX8_house_63 : decode cX8_house 63 = .ok (.getfield 36, 3) := by decide +kernel
theorem dX8_house_66 : decode cX8_house 66 = .ok (.iload 4, 2) := by decide +kernel
theorem dX8_house_68 : decode cX8_house 68 = .ok (.iaload, 1) := by decide +kernel
theorem dX8_house_69 : decode cX8_house 69 = .ok (.iadd, 1) := by decide +kernel
theorem dX8_house_70 : decode cX8_house 70 = .ok (.istore_n 3, 1) := by decide +kernel
theorem dX8_house_71 : decode cX8_house 71 = .ok (.iinc 4 1, 3) := by decide +kernel
theorem dX8_house_74 : decode cX8_house 74 = .ok (.goto (-46), 3) := by decide +kernel
theorem dX8_house_77 : decode cX8_house 77 = .ok (.iload_n 2, 1) := by decide +kernel
theorem dX8_house_78 : decode cX8_house 78 = .ok (.tableswitch 80 0 5 #[38, 48, 62, 62, 64, 70], 38) := by decide +kernel
theorem dX8_house_116 : decode cX8_house 116 = .ok (.aload_n 0, 1) := by decide +kernel
theorem dX8_house_117 : decode cX8_house 117 = .ok (.getfield 13, 3) := by decide +kernel
theorem dX8_house_120 : decode cX8_house 120 = .ok (.bipush 7, 2) := by decide +kernel
theorem dX8_house_122 : decode cX8_house 122 = .ok (.iload_n 1, 1) := by decide +kernel
theorem dX8_house_123 : decode cX8_house 123 = .ok (.iadd, 1) := by decide +kernel
theorem dX8_house_124 : decode cX8_house 124 = .ok (.iaload, 1) := by decide +kernel
theorem dX8_house_125 : decode cX8_house 125 = .ok (.ireturn, 1) := by decide +kernel
theorem dX8_house_126 : decode cX8_house 126 = .ok (.aload_n 0, 1) := by decide +kernel
theorem dX8_house_127 : decode cX8_house 127 = .ok (.aload_n 0, 1) := by decide +kernel
theorem dX8_house_128 : decode cX8_house 128 = .ok (.getfield 13, 3) := by decide +kernel
theorem dX8_house_131 : decode cX8_house 131 = .ok (.bipush 15, 2) := by decide +kernel
theorem dX8_house_133 : decode cX8_house 133 = .ok (.iload_n 1, 1) := by decide +kernel
theorem dX8_house_134 : decode cX8_house 134 = .ok (.iadd, 1) := by decide +kernel
theorem dX8_house_135 : decode cX8_house 135 = .ok (.iaload, 1) := by decide +kernel
theorem dX8_house_136 : decode cX8_house 136 = .ok (.invokevirtual 132, 3) := by decide +kernel
theorem dX8_house_139 : decode cX8_house 139 = .ok (.ireturn, 1) := by decide +kernel
theorem dX8_house_140 : decode cX8_house 140 = .ok (.iload_n 3, 1) := by decide +kernel
theorem dX8_house_141 : decode cX8_house 141 = .ok (.ireturn, 1) := by decide +kernel
theorem dX8_house_142 : decode cX8_house 142 = .ok (.aload_n 0, 1) := by decide +kernel
theorem dX8_house_143 : decode cX8_house 143 = .ok (.iload_n 1, 1) := by decide +kernel
theorem dX8_house_144 : decode cX8_house 144 = .ok (.invokevirtual 184, 3) := by decide +kernel
theorem dX8_house_147 : decode cX8_house 147 = .ok (.ireturn, 1) := by decide +kernel
theorem dX8_house_148 : decode cX8_house 148 = .ok (.aload_n 0, 1) := by decide +kernel
theorem dX8_house_149 : decode cX8_house 149 = .ok (.getfield 13, 3) := by decide +kernel
theorem dX8_house_152 : decode cX8_house 152 = .ok (.bipush 15, 2) := by decide +kernel
theorem dX8_house_154 : decode cX8_house 154 = .ok (.iload_n 1, 1) := by decide +kernel
theorem dX8_house_155 : decode cX8_house 155 = .ok (.iadd, 1) := by decide +kernel
theorem dX8_house_156 : decode cX8_house 156 = .ok (.iaload, 1) := by decide +kernel
theorem dX8_house_157 : decode cX8_house 157 = .ok (.ireturn, 1) := by decide +kernel
theorem dX8_house_158 : decode cX8_house 158 = .ok (.aload_n 0, 1) := by decide +kernel
theorem dX8_house_159 : decode cX8_house 159 = .ok (.iload_n 1, 1) := by decide +kernel
theorem dX8_house_160 : decode cX8_house 160 = .ok (.invokevirtual 192, 3) := by decide +kernel
theorem dX8_house_163 : decode cX8_house 163 = .ok (.ireturn, 1) := by decide +kernel
theorem dX8_paidBySold_0 : decode cX8_paidBySold 0 = .ok (.lconst 0, 1) := by decide +kernel
theorem dX8_paidBySold_1 : decode cX8_paidBySold 1 = .ok (.lstore_n 2, 1) := by decide +kernel
theorem dX8_paidBySold_2 : decode cX8_paidBySold 2 = .ok (.iconst 0, 1) := by decide +kernel
theorem dX8_paidBySold_3 : decode cX8_paidBySold 3 = .ok (.istore 4, 2) := by decide +kernel
theorem dX8_paidBySold_5 : decode cX8_paidBySold 5 = .ok (.iload 4, 2) := by decide +kernel
theorem dX8_paidBySold_7 : decode cX8_paidBySold 7 = .ok (.aload_n 0, 1) := by decide +kernel
theorem dX8_paidBySold_8 : decode cX8_paidBySold 8 = .ok (.invokevirtual 73, 3) := by decide +kernel
theorem dX8_paidBySold_11 : decode cX8_paidBySold 11 = .ok (.if_icmp .ge 28, 3) := by decide +kernel
theorem dX8_paidBySold_14 : decode cX8_paidBySold 14 = .ok (.aload_n 0, 1) := by decide +kernel
theorem dX8_paidBySold_15 : decode cX8_paidBySold 15 = .ok (.iload 4, 2) := by decide +kernel
theorem dX8_paidBySold_17 : decode cX8_paidBySold 17 = .ok (.invokevirtual 81, 3) := by decide +kernel
theorem dX8_paidBySold_20 : decode cX8_paidBySold 20 = .ok (.iload_n 1, 1) := by decide +kernel
theorem dX8_paidBySold_21 : decode cX8_paidBySold 21 = .ok (.if_icmp .ne 12, 3) := by decide +kernel
theorem dX8_paidBySold_24 : decode cX8_paidBySold 24 = .ok (.lload_n 2, 1) := by decide +kernel
theorem dX8_paidBySold_25 : decode cX8_paidBySold 25 = .ok (.aload_n 0, 1) := by decide +kernel
theorem dX8_paidBySold_26 : decode cX8_paidBySold 26 = .ok (.iload 4, 2) := by decide +kernel
theorem dX8_paidBySold_28 : decode cX8_paidBySold 28 = .ok (.invokevirtual 170, 3) := by decide +kernel
theorem dX8_paidBySold_31 : decode cX8_paidBySold 31 = .ok (.ladd, 1) := by decide +kernel
theorem dX8_paidBySold_32 : decode cX8_paidBySold 32 = .ok (.lstore_n 2, 1) := by decide +kernel
theorem dX8_paidBySold_33 : decode cX8_paidBySold 33 = .ok (.iinc 4 1, 3) := by decide +kernel
theorem dX8_paidBySold_36 : decode cX8_paidBySold 36 = .ok (.goto (-31), 3) := by decide +kernel
theorem dX8_paidBySold_39 : decode cX8_paidBySold 39 = .ok (.lload_n 2, 1) := by decide +kernel
theorem dX8_paidBySold_40 : decode cX8_paidBySold 40 = .ok (.lreturn, 1) := by decide +kernel
theorem dX8_housePays_0 : decode cX8_housePays 0 = .ok (.iload_n 1, 1) := by decide +kernel
theorem dX8_housePays_1 : decode cX8_housePays 1 = .ok (.invokestatic 95, 3) := by decide +kernel
theorem dX8_housePays_4 : decode cX8_housePays 4 = .ok (.ifCond .ne 7, 3) := by decide +kernel
theorem dX8_housePays_7 : decode cX8_housePays 7 = .ok (.ldc2_w 190, 3) := by decide +kernel
theorem dX8_housePays_10 : decode cX8_housePays 10 = .ok (.lreturn, 1) := by decide +kernel
theorem dX8_housePays_11 : decode cX8_housePays 11 = .ok (.aload_n 0, 1) := by decide +kernel
theorem dX8_housePays_12 : decode cX8_housePays 12 = .ok (.invokevirtual 174, 3) := by decide +kernel
theorem dX8_housePays_15 : decode cX8_housePays 15 = .ok (.aload_n 0, 1) := by decide +kernel
theorem dX8_housePays_16 : decode cX8_housePays 16 = .ok (.iload_n 1, 1) := by decide +kernel
theorem dX8_housePays_17 : decode cX8_housePays 17 = .ok (.invokevirtual 195, 3) := by decide +kernel
theorem dX8_housePays_20 : decode cX8_housePays 20 = .ok (.lreturn, 1) := by decide +kernel
theorem dX8_told_0 : decode cX8_told 0 = .ok (.aload_n 0, 1) := by decide +kernel
theorem dX8_told_1 : decode cX8_told 1 = .ok (.invokevirtual 174, 3) := by decide +kernel
theorem dX8_told_4 : decode cX8_told 4 = .ok (.aload_n 0, 1) := by decide +kernel
theorem dX8_told_5 : decode cX8_told 5 = .ok (.invokevirtual 177, 3) := by decide +kernel
theorem dX8_told_8 : decode cX8_told 8 = .ok (.istore_n 2, 1) := by decide +kernel
theorem dX8_told_9 : decode cX8_told 9 = .ok (.iconst 0, 1) := by decide +kernel
theorem dX8_told_10 : decode cX8_told 10 = .ok (.istore_n 3, 1) := by decide +kernel
theorem dX8_told_11 : decode cX8_told 11 = .ok (.iconst 0, 1) := by decide +kernel
theorem dX8_told_12 : decode cX8_told 12 = .ok (.istore 4, 2) := by decide +kernel
theorem dX8_told_14 : decode cX8_told 14 = .ok (.iload 4, 2) := by decide +kernel
theorem dX8_told_16 : decode cX8_told 16 = .ok (.aload_n 0, 1) := by decide +kernel
theorem dX8_told_17 : decode cX8_told 17 = .ok (.invokevirtual 73, 3) := by decide +kernel
theorem dX8_told_20 : decode cX8_told 20 = .ok (.if_icmp .ge 44, 3) := by decide +kernel
theorem dX8_told_23 : decode cX8_told 23 = .ok (.aload_n 0, 1) := by decide +kernel
theorem dX8_told_24 : decode cX8_told 24 = .ok (.iload 4, 2) := by decide +kernel
theorem dX8_told_26 : decode cX8_told 26 = .ok (.invokevirtual 115, 3) := by decide +kernel
theorem dX8_told_29 : decode cX8_told 29 = .ok (.ifCond .ne 29, 3) := by decide +kernel
theorem dX8_told_32 : decode cX8_told 32 = .ok (.aload_n 0, 1) := by decide +kernel
theorem dX8_told_33 : decode cX8_told 33 = .ok (.iload 4, 2) := by decide +kernel
theorem dX8_told_35 : decode cX8_told 35 = .ok (.invokevirtual 77, 3) := by decide +kernel
theorem dX8_told_38 : decode cX8_told 38 = .ok (.aload_n 0, 1) := by decide +kernel
theorem dX8_told_39 : decode cX8_told 39 = .ok (.getfield 153, 3) := by decide +kernel
theorem dX8_told_42 : decode cX8_told 42 = .ok (.if_icmp .ne 16, 3) := by decide +kernel
theorem dX8_told_45 : decode cX8_told 45 = .ok (.aload_n 0, 1) := by decide +kernel
theorem dX8_told_46 : decode cX8_told 46 = .ok (.getfield 36, 3) := by decide +kernel
theorem dX8_told_49 : decode cX8_told 49 = .ok (.iload 4, 2) := by decide +kernel
theorem dX8_told_51 : decode cX8_told 51 = .ok (.iaload, 1) := by decide +kernel
theorem dX8_told_52 : decode cX8_told 52 = .ok (.ifCond .le 6, 3) := by decide +kernel
theorem dX8_told_55 : decode cX8_told 55 = .ok (.iinc 3 1, 3) := by decide +kernel
theorem dX8_told_58 : decode cX8_told 58 = .ok (.iinc 4 1, 3) := by decide +kernel
theorem dX8_told_61 : decode cX8_told 61 = .ok (.goto (-47), 3) := by decide +kernel
theorem dX8_told_64 : decode cX8_told 64 = .ok (.iload_n 1, 1) := by decide +kernel
theorem dX8_told_65 : decode cX8_told 65 = .ok (.tableswitch 148 0 10 #[59, 64, 69, 93, 95, 100, 105, 110, 118, 133, 135], 59) := by decide +kernel
theorem dX8_told_124 : decode cX8_told 124 = .ok (.aload_n 0, 1) := by decide +kernel
theorem dX8_told_125 : decode cX8_told 125 = .ok (.getfield 153, 3) := by decide +kernel
theorem dX8_told_128 : decode cX8_told 128 = .ok (.ireturn, 1) := by decide +kernel
theorem dX8_told_129 : decode cX8_told 129 = .ok (.aload_n 0, 1) := by decide +kernel
theorem dX8_told_130 : decode cX8_told 130 = .ok (.getfield 163, 3) := by decide +kernel
theorem dX8_told_133 : decode cX8_told 133 = .ok (.ireturn, 1) := by decide +kernel
theorem dX8_told_134 : decode cX8_told 134 = .ok (.aload_n 0, 1) := by decide +kernel
theorem dX8_told_135 : decode cX8_told 135 = .ok (.getfield 153, 3) := by decide +kernel
theorem dX8_told_138 : decode cX8_told 138 = .ok (.bipush (-2), 2) := by decide +kernel
theorem dX8_told_140 : decode cX8_told 140 = .ok (.if_icmp .ne 8, 3) := by decide +kernel
theorem dX8_told_143 : decode cX8_told 143 = .ok (.bipush (-2), 2) := by decide +kernel
theorem dX8_told_145 : decode cX8_told 145 = .ok (.goto 12, 3) := by decide +kernel
theorem dX8_told_148 : decode cX8_told 148 = .ok (.aload_n 0, 1) := by decide +kernel
theorem dX8_told_149 : decode cX8_told 149 = .ok (.getfield 153, 3) := by decide +kernel
theorem dX8_told_152 : decode cX8_told 152 = .ok (.aload_n 0, 1) := by decide +kernel
theorem dX8_told_153 : decode cX8_told 153 = .ok (.getfield 163, 3) := by decide +kernel
theorem dX8_told_156 : decode cX8_told 156 = .ok (.isub, 1) := by decide +kernel
theorem dX8_told_157 : decode cX8_told 157 = .ok (.ireturn, 1) := by decide +kernel
theorem dX8_told_158 : decode cX8_told 158 = .ok (.iload_n 2, 1) := by decide +kernel
theorem dX8_told_159 : decode cX8_told 159 = .ok (.ireturn, 1) := by decide +kernel
theorem dX8_told_160 : decode cX8_told 160 = .ok (.aload_n 0, 1) := by decide +kernel
theorem dX8_told_161 : decode cX8_told 161 = .ok (.getfield 147, 3) := by decide +kernel
theorem dX8_told_164 : decode cX8_told 164 = .ok (.ireturn, 1) := by decide +kernel
theorem dX8_told_165 : decode cX8_told 165 = .ok (.aload_n 0, 1) := by decide +kernel
theorem dX8_told_166 : decode cX8_told 166 = .ok (.getfield 141, 3) := by decide +kernel
theorem dX8_told_169 : decode cX8_told 169 = .ok (.ireturn, 1) := by decide +kernel
theorem dX8_told_170 : decode cX8_told 170 = .ok (.aload_n 0, 1) := by decide +kernel
theorem dX8_told_171 : decode cX8_told 171 = .ok (.getfield 150, 3) := by decide +kernel
theorem dX8_told_174 : decode cX8_told 174 = .ok (.ireturn, 1) := by decide +kernel
theorem dX8_told_175 : decode cX8_told 175 = .ok (.aload_n 0, 1) := by decide +kernel
theorem dX8_told_176 : decode cX8_told 176 = .ok (.sipush 999, 3) := by decide +kernel
theorem dX8_told_179 : decode cX8_told 179 = .ok (.invokevirtual 160, 3) := by decide +kernel
theorem dX8_told_182 : decode cX8_told 182 = .ok (.ireturn, 1) := by decide +kernel
theorem dX8_told_183 : decode cX8_told 183 = .ok (.aload_n 0, 1) := by decide +kernel
theorem dX8_told_184 : decode cX8_told 184 = .ok (.invokevirtual 198, 3) := by decide +kernel
theorem dX8_told_187 : decode cX8_told 187 = .ok (.bipush 100, 2) := by decide +kernel
theorem dX8_told_189 : decode cX8_told 189 = .ok (.imul, 1) := by decide +kernel
theorem dX8_told_190 : decode cX8_told 190 = .ok (.aload_n 0, 1) := by decide +kernel
theorem dX8_told_191 : decode cX8_told 191 = .ok (.getfield 13, 3) := by decide +kernel
theorem dX8_told_194 : decode cX8_told 194 = .ok (.iconst 0, 1) := by decide +kernel
theorem dX8_told_195 : decode cX8_told 195 = .ok (.iaload, 1) := by decide +kernel
theorem dX8_told_196 : decode cX8_told 196 = .ok (.idiv, 1) := by decide +kernel
theorem dX8_told_197 : decode cX8_told 197 = .ok (.ireturn, 1) := by decide +kernel
theorem dX8_told_198 : decode cX8_told 198 = .ok (.iload_n 3, 1) := by decide +kernel
theorem dX8_told_199 : decode cX8_told 199 = .ok (.ireturn, 1) := by decide +kernel
theorem dX8_told_200 : decode cX8_told 200 = .ok (.aload_n 0, 1) := by decide +kernel
theorem dX8_told_201 : decode cX8_told 201 = .ok (.getfield 156, 3) := by decide +kernel
theorem dX8_told_204 : decode cX8_told 204 = .ok (.ifCond .eq 7, 3) := by decide +kernel
theorem dX8_told_207 : decode cX8_told 207 = .ok (.iconst 1, 1) := by decide +kernel
theorem dX8_told_208 : decode cX8_told 208 = .ok (.goto 4, 3) := by decide +kernel
theorem dX8_told_211 : decode cX8_told 211 = .ok (.iconst 0, 1) := by decide +kernel
theorem dX8_told_212 : decode cX8_told 212 = .ok (.ireturn, 1) := by decide +kernel
theorem dX8_told_213 : decode cX8_told 213 = .ok (.aload_n 0, 1) := by decide +kernel
theorem dX8_told_214 : decode cX8_told 214 = .ok (.getfield 13, 3) := by decide +kernel
theorem dX8_told_217 : decode cX8_told 217 = .ok (.iconst 0, 1) := by decide +kernel
theorem dX8_told_218 : decode cX8_told 218 = .ok (.iaload, 1) := by decide +kernel
theorem dX8_told_219 : decode cX8_told 219 = .ok (.iload_n 2, 1) := by decide +kernel
theorem dX8_told_220 : decode cX8_told 220 = .ok (.isub, 1) := by decide +kernel
theorem dX8_told_221 : decode cX8_told 221 = .ok (.ireturn, 1) := by decide +kernel
theorem dX8_isResult_0 : decode cX8_isResult 0 = .ok (.iload_n 0, 1) := by decide +kernel
theorem dX8_isResult_1 : decode cX8_isResult 1 = .ok (.iconst 0, 1) := by decide +kernel
theorem dX8_isResult_2 : decode cX8_isResult 2 = .ok (.bipush 11, 2) := by decide +kernel
theorem dX8_isResult_4 : decode cX8_isResult 4 = .ok (.invokestatic 69, 3) := by decide +kernel
theorem dX8_isResult_7 : decode cX8_isResult 7 = .ok (.ireturn, 1) := by decide +kernel
theorem dX8_result_0 : decode cX8_result 0 = .ok (.iload_n 1, 1) := by decide +kernel
theorem dX8_result_1 : decode cX8_result 1 = .ok (.invokestatic 201, 3) := by decide +kernel
theorem dX8_result_4 : decode cX8_result 4 = .ok (.ifCond .eq 11, 3) := by decide +kernel
theorem dX8_result_7 : decode cX8_result 7 = .ok (.aload_n 0, 1) := by decide +kernel
theorem dX8_result_8 : decode cX8_result 8 = .ok (.iload_n 1, 1) := by decide +kernel
theorem dX8_result_9 : decode cX8_result 9 = .ok (.invokevirtual 204, 3) := by decide +kernel
theorem dX8_result_12 : decode cX8_result 12 = .ok (.goto 4, 3) := by decide +kernel
theorem dX8_result_15 : decode cX8_result 15 = .ok (.iconst (-1), 1) := by decide +kernel
theorem dX8_result_16 : decode cX8_result 16 = .ok (.ireturn, 1) := by decide +kernel
theorem dX8_paid_0 : decode cX8_paid 0 = .ok (.aload_n 0, 1) := by decide +kernel
theorem dX8_paid_1 : decode cX8_paid 1 = .ok (.invokevirtual 174, 3) := by decide +kernel
theorem dX8_paid_4 : decode cX8_paid 4 = .ok (.aload_n 0, 1) := by decide +kernel
theorem dX8_paid_5 : decode cX8_paid 5 = .ok (.invokevirtual 180, 3) := by decide +kernel
theorem dX8_paid_8 : decode cX8_paid 8 = .ok (.lreturn, 1) := by decide +kernel
theorem dX8_mean_0 : decode cX8_mean 0 = .ok (.iload_n 1, 1) := by decide +kernel
theorem dX8_mean_1 : decode cX8_mean 1 = .ok (.invokestatic 95, 3) := by decide +kernel
theorem dX8_mean_4 : decode cX8_mean 4 = .ok (.ifCond .ne 7, 3) := by decide +kernel
theorem dX8_mean_7 : decode cX8_mean 7 = .ok (.ldc2_w 190, 3) := by decide +kernel
theorem dX8_mean_10 : decode cX8_mean 10 = .ok (.lreturn, 1) := by decide +kernel
theorem dX8_mean_11 : decode cX8_mean 11 = .ok (.aload_n 0, 1) := by decide +kernel
theorem dX8_mean_12 : decode cX8_mean 12 = .ok (.invokevirtual 174, 3) := by decide +kernel
theorem dX8_mean_15 : decode cX8_mean 15 = .ok (.aload_n 0, 1) := by decide +kernel
theorem dX8_mean_16 : decode cX8_mean 16 = .ok (.iload_n 1, 1) := by decide +kernel
theorem dX8_mean_17 : decode cX8_mean 17 = .ok (.invokevirtual 184, 3) := by decide +kernel
theorem dX8_mean_20 : decode cX8_mean 20 = .ok (.istore_n 2, 1) := by decide +kernel
theorem dX8_mean_21 : decode cX8_mean 21 = .ok (.iload_n 2, 1) := by decide +kernel
theorem dX8_mean_22 : decode cX8_mean 22 = .ok (.ifCond .ne 9, 3) := by decide +kernel
theorem dX8_mean_25 : decode cX8_mean 25 = .ok (.ldc2_w 207, 3) := by decide +kernel
theorem dX8_mean_28 : decode cX8_mean 28 = .ok (.goto 11, 3) := by decide +kernel
theorem dX8_mean_31 : decode cX8_mean 31 = .ok (.aload_n 0, 1) := by decide +kernel
theorem dX8_mean_32 : decode cX8_mean 32 = .ok (.iload_n 1, 1) := by decide +kernel
theorem dX8_mean_33 : decode cX8_mean 33 = .ok (.invokevirtual 195, 3) := by decide +kernel
theorem dX8_mean_36 : decode cX8_mean 36 = .ok (.iload_n 2, 1) := by decide +kernel
theorem dX8_mean_37 : decode cX8_mean 37 = .ok (.i2l, 1) := by decide +kernel
theorem dX8_mean_38 : decode cX8_mean 38 = .ok (.ldiv, 1) := by decide +kernel
theorem dX8_mean_39 : decode cX8_mean 39 = .ok (.lreturn, 1) := by decide +kernel
theorem dX8_filled_0 : decode cX8_filled 0 = .ok (.aload_n 0, 1) := by decide +kernel
theorem dX8_filled_1 : decode cX8_filled 1 = .ok (.iload_n 1, 1) := by decide +kernel
theorem dX8_filled_2 : decode cX8_filled 2 = .ok (.invokevirtual 108, 3) := by decide +kernel
theorem dX8_filled_5 : decode cX8_filled 5 = .ok (.ifCond .ne 5, 3) := by decide +kernel
theorem dX8_filled_8 : decode cX8_filled 8 = .ok (.iconst (-1), 1) := by decide +kernel
theorem dX8_filled_9 : decode cX8_filled 9 = .ok (.ireturn, 1) := by decide +kernel
theorem dX8_filled_10 : decode cX8_filled 10 = .ok (.aload_n 0, 1) := by decide +kernel
theorem dX8_filled_11 : decode cX8_filled 11 = .ok (.invokevirtual 174, 3) := by decide +kernel
theorem dX8_filled_14 : decode cX8_filled 14 = .ok (.aload_n 0, 1) := by decide +kernel
theorem dX8_filled_15 : decode cX8_filled 15 = .ok (.getfield 42, 3) := by decide +kernel
theorem dX8_filled_18 : decode cX8_filled 18 = .ok (.iload_n 1, 1) := by decide +kernel
theorem dX8_filled_19 : decode cX8_filled 19 = .ok (.iaload, 1) := by decide +kernel
theorem dX8_filled_20 : decode cX8_filled 20 = .ok (.bipush 100, 2) := by decide +kernel
theorem dX8_filled_22 : decode cX8_filled 22 = .ok (.imul, 1) := by decide +kernel
theorem dX8_filled_23 : decode cX8_filled 23 = .ok (.aload_n 0, 1) := by decide +kernel
theorem dX8_filled_24 : decode cX8_filled 24 = .ok (.iload_n 1, 1) := by decide +kernel
theorem dX8_filled_25 : decode cX8_filled 25 = .ok (.invokevirtual 84, 3) := by decide +kernel
theorem dX8_filled_28 : decode cX8_filled 28 = .ok (.idiv, 1) := by decide +kernel
theorem dX8_filled_29 : decode cX8_filled 29 = .ok (.ireturn, 1) := by decide +kernel
theorem dX8_dearest_0 : decode cX8_dearest 0 = .ok (.aload_n 0, 1) := by decide +kernel
theorem dX8_dearest_1 : decode cX8_dearest 1 = .ok (.invokevirtual 174, 3) := by decide +kernel
theorem dX8_dearest_4 : decode cX8_dearest 4 = .ok (.bipush (-2), 2) := by decide +kernel
theorem dX8_dearest_6 : decode cX8_dearest 6 = .ok (.istore_n 1, 1) := by decide +kernel
theorem dX8_dearest_7 : decode cX8_dearest 7 = .ok (.ldc2_w 190, 3) := by decide +kernel
theorem dX8_dearest_10 : decode cX8_dearest 10 = .ok (.lstore_n 2, 1) := by decide +kernel
theorem dX8_dearest_11 : decode cX8_dearest 11 = .ok (.iconst 0, 1) := by decide +kernel
theorem dX8_dearest_12 : decode cX8_dearest 12 = .ok (.istore 4, 2) := by decide +kernel
theorem dX8_dearest_14 : decode cX8_dearest 14 = .ok (.iload 4, 2) := by decide +kernel
theorem dX8_dearest_16 : decode cX8_dearest 16 = .ok (.aload_n 0, 1) := by decide +kernel
theorem dX8_dearest_17 : decode cX8_dearest 17 = .ok (.invokevirtual 73, 3) := by decide +kernel
theorem dX8_dearest_20 : decode cX8_dearest 20 = .ok (.if_icmp .ge 33, 3) := by decide +kernel
theorem dX8_dearest_23 : decode cX8_dearest 23 = .ok (.aload_n 0, 1) := by decide +kernel
theorem dX8_dearest_24 : decode cX8_dearest 24 = .ok (.iload 4, 2) := by decide +kernel
theorem dX8_dearest_26 : decode cX8_dearest 26 = .ok (.invokevirtual 170, 3) := by decide +kernel
theorem dX8_dearest_29 : decode cX8_dearest 29 = .ok (.lload_n 2, 1) := by decide +kernel
theorem dX8_dearest_30 : decode cX8_dearest 30 = .ok (.lcmp, 1) := by decide +kernel
theorem dX8_dearest_31 : decode cX8_dearest 31 = .ok (.ifCond .gt 6, 3) := by decide +kernel
theorem dX8_dearest_34 : decode cX8_dearest 34 = .ok (.goto 13, 3) := by decide +kernel
theorem dX8_dearest_37 : decode cX8_dearest 37 = .ok (.aload_n 0, 1) := by decide +kernel
theorem dX8_dearest_38 : decode cX8_dearest 38 = .ok (.iload 4, 2) := by decide +kernel
theorem dX8_dearest_40 : decode cX8_dearest 40 = .ok (.invokevirtual 170, 3) := by decide +kernel
theorem dX8_dearest_43 : decode cX8_dearest 43 = .ok (.lstore_n 2, 1) := by decide +kernel
theorem dX8_dearest_44 : decode cX8_dearest 44 = .ok (.iload 4, 2) := by decide +kernel
theorem dX8_dearest_46 : decode cX8_dearest 46 = .ok (.istore_n 1, 1) := by decide +kernel
theorem dX8_dearest_47 : decode cX8_dearest 47 = .ok (.iinc 4 1, 3) := by decide +kernel
theorem dX8_dearest_50 : decode cX8_dearest 50 = .ok (.goto (-36), 3) := by decide +kernel
theorem dX8_dearest_53 : decode cX8_dearest 53 = .ok (.iload_n 1, 1) := by decide +kernel
theorem dX8_dearest_54 : decode cX8_dearest 54 = .ok (.ireturn, 1) := by decide +kernel
theorem dX8_price_0 : decode cX8_price 0 = .ok (.iload_n 1, 1) := by decide +kernel
theorem dX8_price_1 : decode cX8_price 1 = .ok (.invokestatic 99, 3) := by decide +kernel
theorem dX8_price_4 : decode cX8_price 4 = .ok (.ifCond .eq 11, 3) := by decide +kernel
theorem dX8_price_7 : decode cX8_price 7 = .ok (.aload_n 0, 1) := by decide +kernel
theorem dX8_price_8 : decode cX8_price 8 = .ok (.iload_n 1, 1) := by decide +kernel
theorem dX8_price_9 : decode cX8_price 9 = .ok (.invokevirtual 167, 3) := by decide +kernel
theorem dX8_price_12 : decode cX8_price 12 = .ok (.goto 4, 3) := by decide +kernel
theorem dX8_price_15 : decode cX8_price 15 = .ok (.iconst (-1), 1) := by decide +kernel
theorem dX8_price_16 : decode cX8_price 16 = .ok (.ireturn, 1) := by decide +kernel
theorem dX8_upTo_0 : decode cX8_upTo 0 = .ok (.iload_n 1, 1) := by decide +kernel
theorem dX8_upTo_1 : decode cX8_upTo 1 = .ok (.invokestatic 99, 3) := by decide +kernel
theorem dX8_upTo_4 : decode cX8_upTo 4 = .ok (.ifCond .ne 5, 3) := by decide +kernel
theorem dX8_upTo_7 : decode cX8_upTo 7 = .ok (.iconst (-1), 1) := by decide +kernel
theorem dX8_upTo_8 : decode cX8_upTo 8 = .ok (.ireturn, 1) := by decide +kernel
theorem dX8_upTo_9 : decode cX8_upTo 9 = .ok (.aload_n 0, 1) := by decide +kernel
theorem dX8_upTo_10 : decode cX8_upTo 10 = .ok (.invokevirtual 174, 3) := by decide +kernel
theorem dX8_upTo_13 : decode cX8_upTo 13 = .ok (.aload_n 0, 1) := by decide +kernel
theorem dX8_upTo_14 : decode cX8_upTo 14 = .ok (.iload_n 1, 1) := by decide +kernel
theorem dX8_upTo_15 : decode cX8_upTo 15 = .ok (.invokevirtual 160, 3) := by decide +kernel
theorem dX8_upTo_18 : decode cX8_upTo 18 = .ok (.ireturn, 1) := by decide +kernel
theorem dX8_ranked_0 : decode cX8_ranked 0 = .ok (.aload_n 0, 1) := by decide +kernel
theorem dX8_ranked_1 : decode cX8_ranked 1 = .ok (.iload_n 1, 1) := by decide +kernel
theorem dX8_ranked_2 : decode cX8_ranked 2 = .ok (.invokevirtual 108, 3) := by decide +kernel
theorem dX8_ranked_5 : decode cX8_ranked 5 = .ok (.ifCond .ne 5, 3) := by decide +kernel
theorem dX8_ranked_8 : decode cX8_ranked 8 = .ok (.iconst (-1), 1) := by decide +kernel
theorem dX8_ranked_9 : decode cX8_ranked 9 = .ok (.ireturn, 1) := by decide +kernel
theorem dX8_ranked_10 : decode cX8_ranked 10 = .ok (.aload_n 0, 1) := by decide +kernel
theorem dX8_ranked_11 : decode cX8_ranked 11 = .ok (.invokevirtual 135, 3) := by decide +kernel
theorem dX8_ranked_14 : decode cX8_ranked 14 = .ok (.aload_n 0, 1) := by decide +kernel
theorem dX8_ranked_15 : decode cX8_ranked 15 = .ok (.getfield 33, 3) := by decide +kernel
theorem dX8_ranked_18 : decode cX8_ranked 18 = .ok (.iload_n 1, 1) := by decide +kernel
theorem dX8_ranked_19 : decode cX8_ranked 19 = .ok (.iaload, 1) := by decide +kernel
theorem dX8_ranked_20 : decode cX8_ranked 20 = .ok (.ireturn, 1) := by decide +kernel
theorem dX8_full_0 : decode cX8_full 0 = .ok (.aload_n 0, 1) := by decide +kernel
theorem dX8_full_1 : decode cX8_full 1 = .ok (.invokevirtual 174, 3) := by decide +kernel
theorem dX8_full_4 : decode cX8_full 4 = .ok (.iconst 0, 1) := by decide +kernel
theorem dX8_full_5 : decode cX8_full 5 = .ok (.istore_n 1, 1) := by decide +kernel
theorem dX8_full_6 : decode cX8_full 6 = .ok (.iconst 0, 1) := by decide +kernel
theorem dX8_full_7 : decode cX8_full 7 = .ok (.istore_n 2, 1) := by decide +kernel
theorem dX8_full_8 : decode cX8_full 8 = .ok (.iload_n 2, 1) := by decide +kernel
theorem dX8_full_9 : decode cX8_full 9 = .ok (.bipush 8, 2) := by decide +kernel
theorem dX8_full_11 : decode cX8_full 11 = .ok (.if_icmp .ge 66, 3) := by decide +kernel
theorem dX8_full_14 : decode cX8_full 14 = .ok (.iconst 0, 1) := by decide +kernel
theorem dX8_full_15 : decode cX8_full 15 = .ok (.istore_n 3, 1) := by decide +kernel
theorem dX8_full_16 : decode cX8_full 16 = .ok (.iconst 0, 1) := by decide +kernel
theorem dX8_full_17 : decode cX8_full 17 = .ok (.istore 4, 2) := by decide +kernel
theorem dX8_full_19 : decode cX8_full 19 = .ok (.iload 4, 2) := by decide +kernel
theorem dX8_full_21 : decode cX8_full 21 = .ok (.bipush 8, 2) := by decide +kernel
theorem dX8_full_23 : decode cX8_full 23 = .ok (.if_icmp .ge 32, 3) := by decide +kernel
theorem dX8_full_26 : decode cX8_full 26 = .ok (.aload_n 0, 1) := by decide +kernel
theorem dX8_full_27 : decode cX8_full 27 = .ok (.getfield 13, 3) := by decide +kernel
theorem dX8_full_30 : decode cX8_full 30 = .ok (.bipush 15, 2) := by decide +kernel
theorem dX8_full_32 : decode cX8_full 32 = .ok (.iload 4, 2) := by decide +kernel
theorem dX8_full_34 : decode cX8_full 34 = .ok (.iadd, 1) := by decide +kernel
theorem dX8_full_35 : decode cX8_full 35 = .ok (.iaload, 1) := by decide +kernel
theorem dX8_full_36 : decode cX8_full 36 = .ok (.iload_n 2, 1) := by decide +kernel
theorem dX8_full_37 : decode cX8_full 37 = .ok (.if_icmp .ne 12, 3) := by decide +kernel
theorem dX8_full_40 : decode cX8_full 40 = .ok (.iload_n 3, 1) := by decide +kernel
theorem dX8_full_41 : decode cX8_full 41 = .ok (.aload_n 0, 1) := by decide +kernel
theorem dX8_full_42 : decode cX8_full 42 = .ok (.iload 4, 2) := by decide +kernel
theorem dX8_full_44 : decode cX8_full 44 = .ok (.invokevirtual 184, 3) := by decide +kernel
theorem dX8_full_47 : decode cX8_full 47 = .ok (.iadd, 1) := by decide +kernel
theorem dX8_full_48 : decode cX8_full 48 = .ok (.istore_n 3, 1) := by decide +kernel
theorem dX8_full_49 : decode cX8_full 49 = .ok (.iinc 4 1, 3) := by decide +kernel
theorem dX8_full_52 : decode cX8_full 52 = .ok (.goto (-33), 3) := by decide +kernel
theorem dX8_full_55 : decode cX8_full 55 = .ok (.iload_n 3, 1) := by decide +kernel
theorem dX8_full_56 : decode cX8_full 56 = .ok (.ifCond .le 15, 3) := by decide +kernel
theorem dX8_full_59 : decode cX8_full 59 = .ok (.iload_n 3, 1) := by decide +kernel
theorem dX8_full_60 : decode cX8_full 60 = .ok (.aload_n 0, 1) := by decide +kernel
theorem dX8_full_61 : decode cX8_full 61 = .ok (.iload_n 2, 1) := by decide +kernel
theorem dX8_full_62 : decode cX8_full 62 = .ok (.invokevirtual 132, 3) := by decide +kernel
theorem dX8_full_65 : decode cX8_full 65 = .ok (.if_icmp .ne 6, 3) := by decide +kernel
theorem dX8_full_68 : decode cX8_full 68 = .ok (.iinc 1 1, 3) := by decide +kernel
theorem dX8_full_71 : decode cX8_full 71 = .ok (.iinc 2 1, 3) := by decide +kernel
theorem dX8_full_74 : decode cX8_full 74 = .ok (.goto (-66), 3) := by decide +kernel
theorem dX8_full_77 : decode cX8_full 77 = .ok (.iload_n 1, 1) := by decide +kernel
theorem dX8_full_78 : decode cX8_full 78 = .ok (.ireturn, 1) := by decide +kernel
theorem dX8_crowded_0 : decode cX8_crowded 0 = .ok (.aload_n 0, 1) := by decide +kernel
theorem dX8_crowded_1 : decode cX8_crowded 1 = .ok (.invokevirtual 174, 3) := by decide +kernel
theorem dX8_crowded_4 : decode cX8_crowded 4 = .ok (.aload_n 0, 1) := by decide +kernel
theorem dX8_crowded_5 : decode cX8_crowded 5 = .ok (.invokevirtual 177, 3) := by decide +kernel
theorem dX8_crowded_8 : decode cX8_crowded 8 = .ok (.istore_n 1, 1) := by decide +kernel
theorem dX8_crowded_9 : decode cX8_crowded 9 = .ok (.iconst 0, 1) := by decide +kernel
theorem dX8_crowded_10 : decode cX8_crowded 10 = .ok (.istore_n 2, 1) := by decide +kernel
theorem dX8_crowded_11 : decode cX8_crowded 11 = .ok (.iconst 0, 1) := by decide +kernel
theorem dX8_crowded_12 : decode cX8_crowded 12 = .ok (.istore_n 3, 1) := by decide +kernel
theorem dX8_crowded_13 : decode cX8_crowded 13 = .ok (.iload_n 3, 1) := by decide +kernel
theorem dX8_crowded_14 : decode cX8_crowded 14 = .ok (.bipush 8, 2) := by decide +kernel
theorem dX8_crowded_16 : decode cX8_crowded 16 = .ok (.if_icmp .ge 33, 3) := by decide +kernel
theorem dX8_crowded_19 : decode cX8_crowded 19 = .ok (.iload_n 1, 1) := by decide +kernel
theorem dX8_crowded_20 : decode cX8_crowded 20 = .ok (.ifCond .le 29, 3) := by decide +kernel
theorem dX8_crowded_23 : decode cX8_crowded 23 = .ok (.aload_n 0, 1) := by decide +kernel
theorem dX8_crowded_24 : decode cX8_crowded 24 = .ok (.iload_n 3, 1) := by decide +kernel
theorem dX8_crowded_25 : decode cX8_crowded 25 = .ok (.invokevirtual 184, 3) := by decide +kernel
theorem dX8_crowded_28 : decode cX8_crowded 28 = .ok (.bipush 100, 2) := by decide +kernel
theorem dX8_crowded_30 : decode cX8_crowded 30 = .ok (.imul, 1) := by decide +kernel
theorem dX8_crowded_31 : decode cX8_crowded 31 = .ok (.iload_n 1, 1) := by decide +kernel
theorem dX8_crowded_32 : decode cX8_crowded 32 = .ok (.idiv, 1) := by decide +kernel
theorem dX8_crowded_33 : decode cX8_crowded 33 = .ok (.istore 4, 2) := by decide +kernel
theorem dX8_crowded_35 : decode cX8_crowded 35 = .ok (.iload_n 2, 1) := by decide +kernel
theorem dX8_crowded_36 : decode cX8_crowded 36 = .ok (.iload 4, 2) := by decide +kernel
theorem dX8_crowded_38 : decode cX8_crowded 38 = .ok (.iload 4, 2) := by decide +kernel
theorem dX8_crowded_40 : decode cX8_crowded 40 = .ok (.imul, 1) := by decide +kernel
theorem dX8_crowded_41 : decode cX8_crowded 41 = .ok (.iadd, 1) := by decide +kernel
theorem dX8_crowded_42 : decode cX8_crowded 42 = .ok (.istore_n 2, 1) := by decide +kernel
theorem dX8_crowded_43 : decode cX8_crowded 43 = .ok (.iinc 3 1, 3) := by decide +kernel
theorem dX8_crowded_46 : decode cX8_crowded 46 = .ok (.goto (-33), 3) := by decide +kernel
theorem dX8_crowded_49 : decode cX8_crowded 49 = .ok (.iload_n 2, 1) := by decide +kernel
theorem dX8_crowded_50 : decode cX8_crowded 50 = .ok (.ireturn, 1) := by decide +kernel
theorem dX8_rateAbove_0 : decode cX8_rateAbove 0 = .ok (.iconst (-1), 1) := by decide +kernel
theorem dX8_rateAbove_1 : decode cX8_rateAbove 1 = .ok (.istore_n 2, 1) := by decide +kernel
theorem dX8_rateAbove_2 : decode cX8_rateAbove 2 = .ok (.iconst 0, 1) := by decide +kernel
theorem dX8_rateAbove_3 : decode cX8_rateAbove 3 = .ok (.istore_n 3, 1) := by decide +kernel
theorem dX8_rateAbove_4 : decode cX8_rateAbove 4 = .ok (.iload_n 3, 1) := by decide +kernel
theorem dX8_rateAbove_5 : decode cX8_rateAbove 5 = .ok (.aload_n 0, 1) := by decide +kernel
theorem dX8_rateAbove_6 : decode cX8_rateAbove 6 = .ok (.invokevirtual 73, 3) := by decide +kernel
theorem dX8_rateAbove_9 : decode cX8_rateAbove 9 = .ok (.if_icmp .ge 47, 3) := by decide +kernel
theorem dX8_rateAbove_12 : decode cX8_rateAbove 12 = .ok (.aload_n 0, 1) := by decide +kernel
theorem dX8_rateAbove_13 : decode cX8_rateAbove 13 = .ok (.getfield 36, 3) := by decide +kernel
theorem dX8_rateAbove_16 : decode cX8_rateAbove 16 = .ok (.iload_n 3, 1) := by decide +kernel
theorem dX8_rateAbove_17 : decode cX8_rateAbove 17 = .ok (.iaload, 1) := by decide +kernel
theorem dX8_rateAbove_18 : decode cX8_rateAbove 18 = .ok (.ifCond .le 32, 3) := by decide +kernel
theorem dX8_rateAbove_21 : decode cX8_rateAbove 21 = .ok (.aload_n 0, 1) := by decide +kernel
theorem dX8_rateAbove_22 : decode cX8_rateAbove 22 = .ok (.iload_n 3, 1) := by decide +kernel
theorem dX8_rateAbove_23 : decode cX8_rateAbove 23 = .ok (.invokevirtual 77, 3) := by decide +kernel
theorem dX8_rateAbove_26 : decode cX8_rateAbove 26 = .ok (.iload_n 1, 1) := by decide +kernel
theorem dX8_rateAbove_27 : decode cX8_rateAbove 27 = .ok (.if_icmp .le 23, 3) := by decide +kernel
theorem dX8_rateAbove_30 : decode cX8_rateAbove 30 = .ok (.iload_n 2, 1) := by decide +kernel
theorem dX8_rateAbove_31 : decode cX8_rateAbove 31 = .ok (.iconst (-1), 1) := by decide +kernel
theorem dX8_rateAbove_32 : decode cX8_rateAbove 32 = .ok (.if_icmp .eq 12, 3) := by decide +kernel
theorem dX8_rateAbove_35 : decode cX8_rateAbove 35 = .ok (.aload_n 0, 1) := by decide +kernel
theorem dX8_rateAbove_36 : decode cX8_rateAbove 36 = .ok (.iload_n 3, 1) := by decide +kernel
theorem dX8_rateAbove_37 : decode cX8_rateAbove 37 = .ok (.invokevirtual 77, 3) := by decide +kernel
theorem dX8_rateAbove_40 : decode cX8_rateAbove 40 = .ok (.iload_n 2, 1) := by decide +kernel
theorem dX8_rateAbove_41 : decode cX8_rateAbove 41 = .ok (.if_icmp .ge 9, 3) := by decide +kernel
theorem dX8_rateAbove_44 : decode cX8_rateAbove 44 = .ok (.aload_n 0, 1) := by decide +kernel
theorem dX8_rateAbove_45 : decode cX8_rateAbove 45 = .ok (.iload_n 3, 1) := by decide +kernel
theorem dX8_rateAbove_46 : decode cX8_rateAbove 46 = .ok (.invokevirtual 77, 3) := by decide +kernel
theorem dX8_rateAbove_49 : decode cX8_rateAbove 49 = .ok (.istore_n 2, 1) := by decide +kernel
theorem dX8_rateAbove_50 : decode cX8_rateAbove 50 = .ok (.iinc 3 1, 3) := by decide +kernel
theorem dX8_rateAbove_53 : decode cX8_rateAbove 53 = .ok (.goto (-49), 3) := by decide +kernel
theorem dX8_rateAbove_56 : decode cX8_rateAbove 56 = .ok (.iload_n 2, 1) := by decide +kernel
theorem dX8_rateAbove_57 : decode cX8_rateAbove 57 = .ok (.ireturn, 1) := by decide +kernel
theorem dX8_step_0 : decode cX8_step 0 = .ok (.iload_n 1, 1) := by decide +kernel
theorem dX8_step_1 : decode cX8_step 1 = .ok (.ifCond .lt 12, 3) := by decide +kernel
theorem dX8_step_4 : decode cX8_step 4 = .ok (.iload_n 2, 1) := by decide +kernel
theorem dX8_step_5 : decode cX8_step 5 = .ok (.iconst 0, 1) := by decide +kernel
theorem dX8_step_6 : decode cX8_step 6 = .ok (.iconst 4, 1) := by decide +kernel
theorem dX8_step_7 : decode cX8_step 7 = .ok (.invokestatic 69, 3) := by decide +kernel
theorem dX8_step_10 : decode cX8_step 10 = .ok (.ifCond .ne 5, 3) := by decide +kernel
theorem dX8_step_13 : decode cX8_step 13 = .ok (.iconst (-1), 1) := by decide +kernel
theorem dX8_step_14 : decode cX8_step 14 = .ok (.ireturn, 1) := by decide +kernel
theorem dX8_step_15 : decode cX8_step 15 = .ok (.aload_n 0, 1) := by decide +kernel
theorem dX8_step_16 : decode cX8_step 16 = .ok (.invokevirtual 174, 3) := by decide +kernel
theorem dX8_step_19 : decode cX8_step 19 = .ok (.aload_n 0, 1) := by decide +kernel
theorem dX8_step_20 : decode cX8_step 20 = .ok (.iconst (-1), 1) := by decide +kernel
theorem dX8_step_21 : decode cX8_step 21 = .ok (.invokevirtual 209, 3) := by decide +kernel
theorem dX8_step_24 : decode cX8_step 24 = .ok (.istore_n 3, 1) := by decide +kernel
theorem dX8_step_25 : decode cX8_step 25 = .ok (.iconst 0, 1) := by decide +kernel
theorem dX8_step_26 : decode cX8_step 26 = .ok (.istore 4, 2) := by decide +kernel
theorem dX8_step_28 : decode cX8_step 28 = .ok (.iload 4, 2) := by decide +kernel
theorem dX8_step_30 : decode cX8_step 30 = .ok (.iload_n 1, 1) := by decide +kernel
theorem dX8_step_31 : decode cX8_step 31 = .ok (.if_icmp .ge 20, 3) := by decide +kernel
theorem dX8_step_34 : decode cX8_step 34 = .ok (.iload_n 3, 1) := by decide +kernel
theorem dX8_step_35 : decode cX8_step 35 = .ok (.iconst (-1), 1) := by decide +kernel
theorem dX8_step_36 : decode cX8_step 36 = .ok (.if_icmp .eq 15, 3) := by decide +kernel
theorem dX8_step_39 : decode cX8_step 39 = .ok (.aload_n 0, 1) := by decide +kernel
theorem dX8_step_40 : decode cX8_step 40 = .ok (.iload_n 3, 1) := by decide +kernel
theorem dX8_step_41 : decode cX8_step 41 = .ok (.invokevirtual 209, 3) := by decide +kernel
theorem dX8_step_44 : decode cX8_step 44 = .ok (.istore_n 3, 1) := by decide +kernel
theorem dX8_step_45 : decode cX8_step 45 = .ok (.iinc 4 1, 3) := by decide +kernel
theorem dX8_step_48 : decode cX8_step 48 = .ok (.goto (-20), 3) := by decide +kernel
theorem dX8_step_51 : decode cX8_step 51 = .ok (.iload_n 3, 1) := by decide +kernel
theorem dX8_step_52 : decode cX8_step 52 = .ok (.iconst (-1), 1) := by decide +kernel
theorem dX8_step_53 : decode cX8_step 53 = .ok (.if_icmp .ne 5, 3) := by decide +kernel
theorem dX8_step_56 : decode cX8_step 56 = .ok (.iconst (-1), 1) := by decide +kernel
theorem dX8_step_57 : decode cX8_step 57 = .ok (.ireturn, 1) := by decide +kernel
theorem dX8_step_58 : decode cX8_step 58 = .ok (.iconst 0, 1) := by decide +kernel
theorem dX8_step_59 : decode cX8_step 59 = .ok (.istore 4, 2) := by decide +kernel
theorem dX8_step_61 : decode cX8_step 61 = .ok (.iconst 0, 1) := by decide +kernel
theorem dX8_step_62 : decode cX8_step 62 = .ok (.istore 5, 2) := by decide +kernel
theorem dX8_step_64 : decode cX8_step 64 = .ok (.iconst 0, 1) := by decide +kernel
theorem dX8_step_65 : decode cX8_step 65 = .ok (.istore 6, 2) := by decide +kernel
theorem dX8_step_67 : decode cX8_step 67 = .ok (.iconst 0, 1) := by decide +kernel
theorem dX8_step_68 : decode cX8_step 68 = .ok (.istore 7, 2) := by decide +kernel
theorem dX8_step_70 : decode cX8_step 70 = .ok (.iload 7, 2) := by decide +kernel
theorem dX8_step_72 : decode cX8_step 72 = .ok (.aload_n 0, 1) := by decide +kernel
theorem dX8_step_73 : decode cX8_step 73 = .ok (.invokevirtual 73, 3) := by decide +kernel
theorem dX8_step_76 : decode cX8_step 76 = .ok (.if_icmp .ge 59, 3) := by decide +kernel
theorem dX8_step_79 : decode cX8_step 79 = .ok (.aload_n 0, 1) := by decide +kernel
theorem dX8_step_80 : decode cX8_step 80 = .ok (.iload 7, 2) := by decide +kernel
theorem dX8_step_82 : decode cX8_step 82 = .ok (.invokevirtual 77, 3) := by decide +kernel
theorem dX8_step_85 : decode cX8_step 85 = .ok (.iload_n 3, 1) := by decide +kernel
theorem dX8_step_86 : decode cX8_step 86 = .ok (.if_icmp .ne 43, 3) := by decide +kernel
theorem dX8_step_89 : decode cX8_step 89 = .ok (.aload_n 0, 1) := by decide +kernel
theorem dX8_step_90 : decode cX8_step 90 = .ok (.getfield 36, 3) := by decide +kernel
theorem dX8_step_93 : decode cX8_step 93 = .ok (.iload 7, 2) := by decide +kernel
theorem dX8_step_95 : decode cX8_step 95 = .ok (.iaload, 1) := by decide +kernel
theorem dX8_step_96 : decode cX8_step 96 = .ok (.ifCond .ne 6, 3) := by decide +kernel
theorem dX8_step_99 : decode cX8_step 99 = .ok (.goto 30, 3) := by decide +kernel
theorem dX8_step_102 : decode cX8_step 102 = .ok (.iload 4, 2) := by decide +kernel
theorem dX8_step_104 : decode cX8_step 104 = .ok (.aload_n 0, 1) := by decide +kernel
theorem dX8_step_105 : decode cX8_step 105 = .ok (.getfield 36, 3) := by decide +kernel
theorem dX8_step_108 : decode cX8_step 108 = .ok (.iload 7, 2) := by decide +kernel
theorem dX8_step_110 : decode cX8_step 110 = .ok (.iaload, 1) := by decide +kernel
theorem dX8_step_111 : decode cX8_step 111 = .ok (.iadd, 1) := by decide +kernel
theorem dX8_step_112 : decode cX8_step 112 = .ok (.istore 4, 2) := by decide +kernel
theorem dX8_step_114 : decode cX8_step 114 = .ok (.iload 5, 2) := by decide +kernel
theorem dX8_step_116 : decode cX8_step 116 = .ok (.aload_n 0, 1) := by decide +kernel
theorem dX8_step_117 : decode cX8_step 117 = .ok (.getfield 42, 3) := by decide +kernel
theorem dX8_step_120 : decode cX8_step 120 = .ok (.iload 7, 2) := by decide +kernel
theorem dX8_step_122 : decode cX8_step 122 = .ok (.iaload, 1) := by decide +kernel
theorem dX8_step_123 : decode cX8_step 123 = .ok (.iadd, 1) := by decide +kernel
theorem dX8_step_124 : decode cX8_step 124 = .ok (.istore 5, 2) := by decide +kernel
theorem dX8_step_126 : decode cX8_step 126 = .ok (.iinc 6 1, 3) := by decide +kernel
theorem dX8_step_129 : decode cX8_step 129 = .ok (.iinc 7 1, 3) := by decide +kernel
theorem dX8_step_132 : decode cX8_step 132 = .ok (.goto (-62), 3) := by decide +kernel
theorem dX8_step_135 : decode cX8_step 135 = .ok (.iload_n 2, 1) := by decide +kernel
theorem dX8_step_136 : decode cX8_step 136 = .ok (.ifCond .ne 7, 3) := by decide +kernel
theorem dX8_step_139 : decode cX8_step 139 = .ok (.iload_n 3, 1) := by decide +kernel
theorem dX8_step_140 : decode cX8_step 140 = .ok (.goto 38, 3) := by decide +kernel
theorem dX8_step_143 : decode cX8_step 143 = .ok (.iload_n 2, 1) := by decide +kernel
theorem dX8_step_144 : decode cX8_step 144 = .ok (.iconst 1, 1) := by decide +kernel
theorem dX8_step_145 : decode cX8_step 145 = .ok (.if_icmp .ne 8, 3) := by decide +kernel
theorem dX8_step_148 : decode cX8_step 148 = .ok (.iload 4, 2) := by decide +kernel
theorem dX8_step_150 : decode cX8_step 150 = .ok (.goto 28, 3) := by decide +kernel
theorem dX8_step_153 : decode cX8_step 153 = .ok (.iload_n 2, 1) := by decide +kernel
theorem dX8_step_154 : decode cX8_step 154 = .ok (.iconst 2, 1) := by decide +kernel
theorem dX8_step_155 : decode cX8_step 155 = .ok (.if_icmp .ne 11, 3) := by decide +kernel
theorem dX8_step_158 : decode cX8_step 158 = .ok (.aload_n 0, 1) := by decide +kernel
theorem dX8_step_159 : decode cX8_step 159 = .ok (.iload_n 3, 1) := by decide +kernel
theorem dX8_step_160 : decode cX8_step 160 = .ok (.invokevirtual 160, 3) := by decide +kernel
theorem dX8_step_163 : decode cX8_step 163 = .ok (.goto 15, 3) := by decide +kernel
theorem dX8_step_166 : decode cX8_step 166 = .ok (.iload_n 2, 1) := by decide +kernel
theorem dX8_step_167 : decode cX8_step 167 = .ok (.iconst 3, 1) := by decide +kernel
theorem dX8_step_168 : decode cX8_step 168 = .ok (.if_icmp .ne 8, 3) := by decide +kernel
theorem dX8_step_171 : decode cX8_step 171 = .ok (.iload 5, 2) := by decide +kernel
theorem dX8_step_173 : decode cX8_step 173 = .ok (.goto 5, 3) := by decide +kernel
theorem dX8_step_176 : decode cX8_step 176 = .ok (.iload 6, 2) := by decide +kernel
theorem dX8_step_178 : decode cX8_step 178 = .ok (.ireturn, 1) := by decide +kernel
theorem dX8_toldBy_0 : decode cX8_toldBy 0 = .ok (.aload_n 0, 1) := by decide +kernel
theorem dX8_toldBy_1 : decode cX8_toldBy 1 = .ok (.getfield 13, 3) := by decide +kernel
theorem dX8_toldBy_4 : decode cX8_toldBy 4 = .ok (.iload_n 1, 1) := by decide +kernel
theorem dX8_toldBy_5 : decode cX8_toldBy 5 = .ok (.iaload, 1) := by decide +kernel
theorem dX8_toldBy_6 : decode cX8_toldBy 6 = .ok (.istore 4, 2) := by decide +kernel
theorem dX8_toldBy_8 : decode cX8_toldBy 8 = .ok (.aload_n 0, 1) := by decide +kernel
theorem dX8_toldBy_9 : decode cX8_toldBy 9 = .ok (.getfield 13, 3) := by decide +kernel
theorem dX8_toldBy_12 : decode cX8_toldBy 12 = .ok (.iload_n 1, 1) := by decide +kernel
theorem dX8_toldBy_13 : decode cX8_toldBy 13 = .ok (.iload_n 2, 1) := by decide +kernel
theorem dX8_toldBy_14 : decode cX8_toldBy 14 = .ok (.iastore, 1) := by decide +kernel
theorem dX8_toldBy_15 : decode cX8_toldBy 15 = .ok (.aload_n 0, 1) := by decide +kernel
theorem dX8_toldBy_16 : decode cX8_toldBy 16 = .ok (.iload_n 3, 1) := by decide +kernel
theorem dX8_toldBy_17 : decode cX8_toldBy 17 = .ok (.invokevirtual 204, 3) := by decide +kernel
theorem dX8_toldBy_20 : decode cX8_toldBy 20 = .ok (.istore 5, 2) := by decide +kernel
theorem dX8_toldBy_22 : decode cX8_toldBy 22 = .ok (.aload_n 0, 1) := by decide +kernel
theorem dX8_toldBy_23 : decode cX8_toldBy 23 = .ok (.getfield 13, 3) := by decide +kernel
theorem dX8_toldBy_26 : decode cX8_toldBy 26 = .ok (.iload_n 1, 1) := by decide +kernel
theorem dX8_toldBy_27 : decode cX8_toldBy 27 = .ok (.iload 4, 2) := by decide +kernel
theorem dX8_toldBy_29 : decode cX8_toldBy 29 = .ok (.iastore, 1) := by decide +kernel
theorem dX8_toldBy_30 : decode cX8_toldBy 30 = .ok (.iload 5, 2) := by decide +kernel
theorem dX8_toldBy_32 : decode cX8_toldBy 32 = .ok (.ireturn, 1) := by decide +kernel
theorem dX8_byOffer_0 : decode cX8_byOffer 0 = .ok (.iload_n 1, 1) := by decide +kernel
theorem dX8_byOffer_1 : decode cX8_byOffer 1 = .ok (.iconst 1, 1) := by decide +kernel
theorem dX8_byOffer_2 : decode cX8_byOffer 2 = .ok (.sipush 2000, 3) := by decide +kernel
theorem dX8_byOffer_5 : decode cX8_byOffer 5 = .ok (.invokestatic 69, 3) := by decide +kernel
theorem dX8_byOffer_8 : decode cX8_byOffer 8 = .ok (.ifCond .eq 20, 3) := by decide +kernel
theorem dX8_byOffer_11 : decode cX8_byOffer 11 = .ok (.iload_n 2, 1) := by decide +kernel
theorem dX8_byOffer_12 : decode cX8_byOffer 12 = .ok (.invokestatic 201, 3) := by decide +kernel
theorem dX8_byOffer_15 : decode cX8_byOffer 15 = .ok (.ifCond .eq 13, 3) := by decide +kernel
theorem dX8_byOffer_18 : decode cX8_byOffer 18 = .ok (.aload_n 0, 1) := by decide +kernel
theorem dX8_byOffer_19 : decode cX8_byOffer 19 = .ok (.iconst 0, 1) := by decide +kernel
theorem dX8_byOffer_20 : decode cX8_byOffer 20 = .ok (.iload_n 1, 1) := by decide +kernel
theorem dX8_byOffer_21 : decode cX8_byOffer 21 = .ok (.iload_n 2, 1) := by decide +kernel
theorem dX8_byOffer_22 : decode cX8_byOffer 22 = .ok (.invokevirtual 212, 3) := by decide +kernel
theorem dX8_byOffer_25 : decode cX8_byOffer 25 = .ok (.goto 4, 3) := by decide +kernel
theorem dX8_byOffer_28 : decode cX8_byOffer 28 = .ok (.iconst (-1), 1) := by decide +kernel
theorem dX8_byOffer_29 : decode cX8_byOffer 29 = .ok (.ireturn, 1) := by decide +kernel
theorem dX8_offerFor_0 : decode cX8_offerFor 0 = .ok (.iload_n 1, 1) := by decide +kernel
theorem dX8_offerFor_1 : decode cX8_offerFor 1 = .ok (.invokestatic 99, 3) := by decide +kernel
theorem dX8_offerFor_4 : decode cX8_offerFor 4 = .ok (.ifCond .ne 5, 3) := by decide +kernel
theorem dX8_offerFor_7 : decode cX8_offerFor 7 = .ok (.iconst (-1), 1) := by decide +kernel
theorem dX8_offerFor_8 : decode cX8_offerFor 8 = .ok (.ireturn, 1) := by decide +kernel
theorem dX8_offerFor_9 : decode cX8_offerFor 9 = .ok (.iconst 1, 1) := by decide +kernel
theorem dX8_offerFor_10 : decode cX8_offerFor 10 = .ok (.istore_n 2, 1) := by decide +kernel
theorem dX8_offerFor_11 : decode cX8_offerFor 11 = .ok (.iload_n 2, 1) := by decide +kernel
theorem dX8_offerFor_12 : decode cX8_offerFor 12 = .ok (.sipush 2000, 3) := by decide +kernel
theorem dX8_offerFor_15 : decode cX8_offerFor 15 = .ok (.if_icmp .gt 22, 3) := by decide +kernel
theorem dX8_offerFor_18 : decode cX8_offerFor 18 = .ok (.aload_n 0, 1) := by decide +kernel
theorem dX8_offerFor_19 : decode cX8_offerFor 19 = .ok (.iconst 0, 1) := by decide +kernel
theorem dX8_offerFor_20 : decode cX8_offerFor 20 = .ok (.iload_n 2, 1) := by decide +kernel
theorem dX8_offerFor_21 : decode cX8_offerFor 21 = .ok (.iconst 0, 1) := by decide +kernel
theorem dX8_offerFor_22 : decode cX8_offerFor 22 = .ok (.invokevirtual 212, 3) := by decide +kernel
theorem dX8_offerFor_25 : decode cX8_offerFor 25 = .ok (.iload_n 1, 1) := by decide +kernel
theorem dX8_offerFor_26 : decode cX8_offerFor 26 = .ok (.if_icmp .lt 5, 3) := by decide +kernel
theorem dX8_offerFor_29 : decode cX8_offerFor 29 = .ok (.iload_n 2, 1) := by decide +kernel
theorem dX8_offerFor_30 : decode cX8_offerFor 30 = .ok (.ireturn, 1) := by decide +kernel
theorem dX8_offerFor_31 : decode cX8_offerFor 31 = .ok (.iinc 2 1, 3) := by decide +kernel
theorem dX8_offerFor_34 : decode cX8_offerFor 34 = .ok (.goto (-23), 3) := by decide +kernel
theorem dX8_offerFor_37 : decode cX8_offerFor 37 = .ok (.bipush (-2), 2) := by decide +kernel
theorem dX8_offerFor_39 : decode cX8_offerFor 39 = .ok (.ireturn, 1) := by decide +kernel
theorem dX8_byTerm_0 : decode cX8_byTerm 0 = .ok (.aload_n 0, 1) := by decide +kernel
theorem dX8_byTerm_1 : decode cX8_byTerm 1 = .ok (.iload_n 1, 1) := by decide +kernel
theorem dX8_byTerm_2 : decode cX8_byTerm 2 = .ok (.iload_n 2, 1) := by decide +kernel
theorem dX8_byTerm_3 : decode cX8_byTerm 3 = .ok (.invokevirtual 122, 3) := by decide +kernel
theorem dX8_byTerm_6 : decode cX8_byTerm 6 = .ok (.ifCond .eq 20, 3) := by decide +kernel
theorem dX8_byTerm_9 : decode cX8_byTerm 9 = .ok (.iload_n 3, 1) := by decide +kernel
theorem dX8_byTerm_10 : decode cX8_byTerm 10 = .ok (.invokestatic 201, 3) := by decide +kernel
theorem dX8_byTerm_13 : decode cX8_byTerm 13 = .ok (.ifCond .eq 13, 3) := by decide +kernel
theorem dX8_byTerm_16 : decode cX8_byTerm 16 = .ok (.aload_n 0, 1) := by decide +kernel
theorem dX8_byTerm_17 : decode cX8_byTerm 17 = .ok (.iload_n 1, 1) := by decide +kernel
theorem dX8_byTerm_18 : decode cX8_byTerm 18 = .ok (.iload_n 2, 1) := by decide +kernel
theorem dX8_byTerm_19 : decode cX8_byTerm 19 = .ok (.iload_n 3, 1) := by decide +kernel
theorem dX8_byTerm_20 : decode cX8_byTerm 20 = .ok (.invokevirtual 212, 3) := by decide +kernel
theorem dX8_byTerm_23 : decode cX8_byTerm 23 = .ok (.goto 4, 3) := by decide +kernel
theorem dX8_byTerm_26 : decode cX8_byTerm 26 = .ok (.iconst (-1), 1) := by decide +kernel
theorem dX8_byTerm_27 : decode cX8_byTerm 27 = .ok (.ireturn, 1) := by decide +kernel
theorem dX8_limitFor_0 : decode cX8_limitFor 0 = .ok (.iload_n 1, 1) := by decide +kernel
theorem dX8_limitFor_1 : decode cX8_limitFor 1 = .ok (.invokestatic 95, 3) := by decide +kernel
theorem dX8_limitFor_4 : decode cX8_limitFor 4 = .ok (.ifCond .eq 8, 3) := by decide +kernel
theorem dX8_limitFor_7 : decode cX8_limitFor 7 = .ok (.iload_n 2, 1) := by decide +kernel
theorem dX8_limitFor_8 : decode cX8_limitFor 8 = .ok (.iconst 1, 1) := by decide +kernel
theorem dX8_limitFor_9 : decode cX8_limitFor 9 = .ok (.if_icmp .ge 5, 3) := by decide +kernel
theorem dX8_limitFor_12 : decode cX8_limitFor 12 = .ok (.iconst (-1), 1) := by decide +kernel
theorem dX8_limitFor_13 : decode cX8_limitFor 13 = .ok (.ireturn, 1) := by decide +kernel
theorem dX8_limitFor_14 : decode cX8_limitFor 14 = .ok (.aload_n 0, 1) := by decide +kernel
theorem dX8_limitFor_15 : decode cX8_limitFor 15 = .ok (.getfield 13, 3) := by decide +kernel
theorem dX8_limitFor_18 : decode cX8_limitFor 18 = .ok (.iconst 1, 1) := by decide +kernel
theorem dX8_limitFor_19 : decode cX8_limitFor 19 = .ok (.iaload, 1) := by decide +kernel
theorem dX8_limitFor_20 : decode cX8_limitFor 20 = .ok (.istore_n 3, 1) := by decide +kernel
theorem dX8_limitFor_21 : decode cX8_limitFor 21 = .ok (.bipush (-2), 2) := by decide +kernel
theorem dX8_limitFor_23 : decode cX8_limitFor 23 = .ok (.istore 4, 2) := by decide +kernel
theorem dX8_limitFor_25 : decode cX8_limitFor 25 = .ok (.iconst 1, 1) := by decide +kernel
theorem dX8_limitFor_26 : decode cX8_limitFor 26 = .ok (.istore 5, 2) := by decide +kernel
theorem dX8_limitFor_28 : decode cX8_limitFor 28 = .ok (.iload 5, 2) := by decide +kernel
theorem dX8_limitFor_30 : decode cX8_limitFor 30 = .ok (.bipush 100, 2) := by decide +kernel
theorem dX8_limitFor_32 : decode cX8_limitFor 32 = .ok (.if_icmp .gt 41, 3) := by decide +kernel
theorem dX8_limitFor_35 : decode cX8_limitFor 35 = .ok (.iload 4, 2) := by decide +kernel
theorem dX8_limitFor_37 : decode cX8_limitFor 37 = .ok (.bipush (-2), 2) := by decide +kernel
theorem dX8_limitFor_39 : decode cX8_limitFor 39 = .ok (.if_icmp .ne 34, 3) := by decide +kernel
theorem dX8_limitFor_42 : decode cX8_limitFor 42 = .ok (.aload_n 0, 1) := by decide +kernel
theorem dX8_limitFor_43 : decode cX8_limitFor 43 = .ok (.getfield 13, 3) := by decide +kernel
theorem dX8_limitFor_46 : decode cX8_limitFor 46 = .ok (.iconst 1, 1) := by decide +kernel
theorem dX8_limitFor_47 : decode cX8_limitFor 47 = .ok (.iload 5, 2) := by decide +kernel
theorem dX8_limitFor_49 : decode cX8_limitFor 49 = .ok (.iastore, 1) := by decide +kernel
theorem dX8_limitFor_50 : decode cX8_limitFor 50 = .ok (.aload_n 0, 1) := by decide +kernel
theorem dX8_limitFor_51 : decode cX8_limitFor 51 = .ok (.invokevirtual 174, 3) := by decide +kernel
theorem dX8_limitFor_54 : decode cX8_limitFor 54 = .ok (.aload_n 0, 1) := by decide +kernel
theorem dX8_limitFor_55 : decode cX8_limitFor 55 = .ok (.iload_n 1, 1) := by decide +kernel
theorem dX8_limitFor_56 : decode cX8_limitFor 56 = .ok (.invokevirtual 184, 3) := by decide +kernel
theorem dX8_limitFor_59 : decode cX8_limitFor 59 = .ok (.iload_n 2, 1) := by decide +kernel
theorem dX8_limitFor_60 : decode cX8_limitFor 60 = .ok (.if_icmp .lt 7, 3) := by decide +kernel
theorem dX8_limitFor_63 : decode cX8_limitFor 63 = .ok (.iload 5, 2) := by decide +kernel
theorem dX8_limitFor_65 : decode cX8_limitFor 65 = .ok (.istore 4, 2) := by decide +kernel
theorem dX8_limitFor_67 : decode cX8_limitFor 67 = .ok (.iinc 5 1, 3) := by decide +kernel
theorem dX8_limitFor_70 : decode cX8_limitFor 70 = .ok (.goto (-42), 3) := by decide +kernel
theorem dX8_limitFor_73 : decode cX8_limitFor 73 = .ok (.aload_n 0, 1) := by decide +kernel
theorem dX8_limitFor_74 : decode cX8_limitFor 74 = .ok (.getfield 13, 3) := by decide +kernel
theorem dX8_limitFor_77 : decode cX8_limitFor 77 = .ok (.iconst 1, 1) := by decide +kernel
theorem dX8_limitFor_78 : decode cX8_limitFor 78 = .ok (.iload_n 3, 1) := by decide +kernel
theorem dX8_limitFor_79 : decode cX8_limitFor 79 = .ok (.iastore, 1) := by decide +kernel
theorem dX8_limitFor_80 : decode cX8_limitFor 80 = .ok (.iload 4, 2) := by decide +kernel
theorem dX8_limitFor_82 : decode cX8_limitFor 82 = .ok (.ireturn, 1) := by decide +kernel
theorem dX8_shareFor_0 : decode cX8_shareFor 0 = .ok (.iload_n 1, 1) := by decide +kernel
theorem dX8_shareFor_1 : decode cX8_shareFor 1 = .ok (.iconst 1, 1) := by decide +kernel
theorem dX8_shareFor_2 : decode cX8_shareFor 2 = .ok (.if_icmp .ge 5, 3) := by decide +kernel
theorem dX8_shareFor_5 : decode cX8_shareFor 5 = .ok (.iconst (-1), 1) := by decide +kernel
theorem dX8_shareFor_6 : decode cX8_shareFor 6 = .ok (.ireturn, 1) := by decide +kernel
theorem dX8_shareFor_7 : decode cX8_shareFor 7 = .ok (.iconst 0, 1) := by decide +kernel
theorem dX8_shareFor_8 : decode cX8_shareFor 8 = .ok (.istore_n 2, 1) := by decide +kernel
theorem dX8_shareFor_9 : decode cX8_shareFor 9 = .ok (.iload_n 2, 1) := by decide +kernel
theorem dX8_shareFor_10 : decode cX8_shareFor 10 = .ok (.bipush 100, 2) := by decide +kernel
theorem dX8_shareFor_12 : decode cX8_shareFor 12 = .ok (.if_icmp .gt 22, 3) := by decide +kernel
theorem dX8_shareFor_15 : decode cX8_shareFor 15 = .ok (.aload_n 0, 1) := by decide +kernel
theorem dX8_shareFor_16 : decode cX8_shareFor 16 = .ok (.iconst 2, 1) := by decide +kernel
theorem dX8_shareFor_17 : decode cX8_shareFor 17 = .ok (.iload_n 2, 1) := by decide +kernel
theorem dX8_shareFor_18 : decode cX8_shareFor 18 = .ok (.iconst 4, 1) := by decide +kernel
theorem dX8_shareFor_19 : decode cX8_shareFor 19 = .ok (.invokevirtual 212, 3) := by decide +kernel
theorem dX8_shareFor_22 : decode cX8_shareFor 22 = .ok (.iload_n 1, 1) := by decide +kernel
theorem dX8_shareFor_23 : decode cX8_shareFor 23 = .ok (.if_icmp .lt 5, 3) := by decide +kernel
theorem dX8_shareFor_26 : decode cX8_shareFor 26 = .ok (.iload_n 2, 1) := by decide +kernel
theorem dX8_shareFor_27 : decode cX8_shareFor 27 = .ok (.ireturn, 1) := by decide +kernel
theorem dX8_shareFor_28 : decode cX8_shareFor 28 = .ok (.iinc 2 1, 3) := by decide +kernel
theorem dX8_shareFor_31 : decode cX8_shareFor 31 = .ok (.goto (-22), 3) := by decide +kernel
theorem dX8_shareFor_34 : decode cX8_shareFor 34 = .ok (.bipush (-2), 2) := by decide +kernel
theorem dX8_shareFor_36 : decode cX8_shareFor 36 = .ok (.ireturn, 1) := by decide +kernel
theorem dX8_soldBy_0 : decode cX8_soldBy 0 = .ok (.bipush 24, 2) := by decide +kernel
theorem dX8_soldBy_2 : decode cX8_soldBy 2 = .ok (.iconst 3, 1) := by decide +kernel
theorem dX8_soldBy_3 : decode cX8_soldBy 3 = .ok (.iload_n 1, 1) := by decide +kernel
theorem dX8_soldBy_4 : decode cX8_soldBy 4 = .ok (.imul, 1) := by decide +kernel
theorem dX8_soldBy_5 : decode cX8_soldBy 5 = .ok (.iadd, 1) := by decide +kernel
theorem dX8_soldBy_6 : decode cX8_soldBy 6 = .ok (.iload_n 2, 1) := by decide +kernel
theorem dX8_soldBy_7 : decode cX8_soldBy 7 = .ok (.iadd, 1) := by decide +kernel
theorem dX8_soldBy_8 : decode cX8_soldBy 8 = .ok (.istore 4, 2) := by decide +kernel
theorem dX8_soldBy_10 : decode cX8_soldBy 10 = .ok (.aload_n 0, 1) := by decide +kernel
theorem dX8_soldBy_11 : decode cX8_soldBy 11 = .ok (.getfield 13, 3) := by decide +kernel
theorem dX8_soldBy_14 : decode cX8_soldBy 14 = .ok (.iload 4, 2) := by decide +kernel
theorem dX8_soldBy_16 : decode cX8_soldBy 16 = .ok (.iaload, 1) := by decide +kernel
theorem dX8_soldBy_17 : decode cX8_soldBy 17 = .ok (.istore 5, 2) := by decide +kernel
theorem dX8_soldBy_19 : decode cX8_soldBy 19 = .ok (.aload_n 0, 1) := by decide +kernel
theorem dX8_soldBy_20 : decode cX8_soldBy 20 = .ok (.getfield 13, 3) := by decide +kernel
theorem dX8_soldBy_23 : decode cX8_soldBy 23 = .ok (.iload 4, 2) := by decide +kernel
theorem dX8_soldBy_25 : decode cX8_soldBy 25 = .ok (.iload_n 3, 1) := by decide +kernel
theorem dX8_soldBy_26 : decode cX8_soldBy 26 = .ok (.iastore, 1) := by decide +kernel
theorem dX8_soldBy_27 : decode cX8_soldBy 27 = .ok (.aload_n 0, 1) := by decide +kernel
theorem dX8_soldBy_28 : decode cX8_soldBy 28 = .ok (.invokevirtual 174, 3) := by decide +kernel
theorem dX8_soldBy_31 : decode cX8_soldBy 31 = .ok (.aload_n 0, 1) := by decide +kernel
theorem dX8_soldBy_32 : decode cX8_soldBy 32 = .ok (.getfield 13, 3) := by decide +kernel
theorem dX8_soldBy_35 : decode cX8_soldBy 35 = .ok (.iload 4, 2) := by decide +kernel
theorem dX8_soldBy_37 : decode cX8_soldBy 37 = .ok (.iload 5, 2) := by decide +kernel
theorem dX8_soldBy_39 : decode cX8_soldBy 39 = .ok (.iastore, 1) := by decide +kernel
