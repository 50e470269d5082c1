theorem dX3_init_0 : decode cX3_init 0 = .ok (.aload_n 0, 1) := by decide +kernel
theorem dX3_init_1 : decode cX3_init 1 = .ok (.invokespecial 3, 3) := by decide +kernel
theorem dX3_init_4 : decode cX3_init 4 = .ok (.aload_n 0, 1) := by decide +kernel
theorem dX3_init_5 : decode cX3_init 5 = .ok (.aload_n 1, 1) := by decide +kernel
theorem dX3_init_6 : decode cX3_init 6 = .ok (.putfield 9, 3) := by decide +kernel
theorem dX3_init_9 : decode cX3_init 9 = .ok (.aload_n 0, 1) := by decide +kernel
theorem dX3_init_10 : decode cX3_init 10 = .ok (.aload_n 2, 1) := by decide +kernel
theorem dX3_init_11 : decode cX3_init 11 = .ok (.putfield 15, 3) := by decide +kernel
theorem dX3_init_14 : decode cX3_init 14 = .ok (.return_, 1) := by decide +kernel
theorem dX3_readAll_0 : decode cX3_readAll 0 = .ok (.aload_n 0, 1) := by decide +kernel
theorem dX3_readAll_1 : decode cX3_readAll 1 = .ok (.getfield 15, 3) := by decide +kernel
theorem dX3_readAll_4 : decode cX3_readAll 4 = .ok (.invokevirtual 19, 3) := by decide +kernel
theorem dX3_readAll_7 : decode cX3_readAll 7 = .ok (.aload_n 0, 1) := by decide +kernel
theorem dX3_readAll_8 : decode cX3_readAll 8 = .ok (.iconst 0, 1) := by decide +kernel
theorem dX3_readAll_9 : decode cX3_readAll 9 = .ok (.putfield 24, 3) := by decide +kernel
theorem dX3_readAll_12 : decode cX3_readAll 12 = .ok (.aload_n 0, 1) := by decide +kernel
theorem dX3_readAll_13 : decode cX3_readAll 13 = .ok (.iconst (-1), 1) := by decide +kernel
theorem dX3_readAll_14 : decode cX3_readAll 14 = .ok (.putfield 28, 3) := by decide +kernel
theorem dX3_readAll_17 : decode cX3_readAll 17 = .ok (.aload_n 0, 1) := by decide +kernel
theorem dX3_readAll_18 : decode cX3_readAll 18 = .ok (.invokevirtual 31, 3) := by decide +kernel
theorem dX3_readAll_21 : decode cX3_readAll 21 = .ok (.iconst 0, 1) := by decide +kernel
theorem dX3_readAll_22 : decode cX3_readAll 22 = .ok (.istore_n 1, 1) := by decide +kernel
theorem dX3_readAll_23 : decode cX3_readAll 23 = .ok (.iload_n 1, 1) := by decide +kernel
theorem dX3_readAll_24 : decode cX3_readAll 24 = .ok (.sipush 700, 3) := by decide +kernel
theorem dX3_readAll_27 : decode cX3_readAll 27 = .ok (.if_icmp .ge 43, 3) := by decide +kernel
theorem dX3_readAll_30 : decode cX3_readAll 30 = .ok (.aload_n 0, 1) := by decide +kernel
theorem dX3_readAll_31 : decode cX3_readAll 31 = .ok (.getfield 24, 3) := by decide +kernel
theorem dX3_readAll_34 : decode cX3_readAll 34 = .ok (.aload_n 0, 1) := by decide +kernel
theorem dX3_readAll_35 : decode cX3_readAll 35 = .ok (.getfield 9, 3) := by decide +kernel
theorem dX3_readAll_38 : decode cX3_readAll 38 = .ok (.getfield 34, 3) := by decide +kernel
theorem dX3_readAll_41 : decode cX3_readAll 41 = .ok (.if_icmp .ge 29, 3) := by decide +kernel
theorem dX3_readAll_44 : decode cX3_readAll 44 = .ok (.aload_n 0, 1) := by decide +kernel
theorem dX3_readAll_45 : decode cX3_readAll 45 = .ok (.getfield 28, 3) := by decide +kernel
theorem dX3_readAll_48 : decode cX3_readAll 48 = .ok (.iconst (-1), 1) := by decide +kernel
theorem dX3_readAll_49 : decode cX3_readAll 49 = .ok (.if_icmp .ne 21, 3) := by decide +kernel
theorem dX3_readAll_52 : decode cX3_readAll 52 = .ok (.aload_n 0, 1) := by decide +kernel
theorem dX3_readAll_53 : decode cX3_readAll 53 = .ok (.invokevirtual 39, 3) := by decide +kernel
theorem dX3_readAll_56 : decode cX3_readAll 56 = .ok (.aload_n 0, 1) := by decide +kernel
theorem dX3_readAll_57 : decode cX3_readAll 57 = .ok (.invokevirtual 42, 3) := by decide +kernel
theorem dX3_readAll_60 : decode cX3_readAll 60 = .ok (.aload_n 0, 1) := by decide +kernel
theorem dX3_readAll_61 : decode cX3_readAll 61 = .ok (.invokevirtual 31, 3) := by decide +kernel
theorem dX3_readAll_64 : decode cX3_readAll 64 = .ok (.iinc 1 1, 3) := by decide +kernel
theorem dX3_readAll_67 : decode cX3_readAll 67 = .ok (.goto (-44), 3) := by decide +kernel
theorem dX3_readAll_70 : decode cX3_readAll 70 = .ok (.aload_n 0, 1) := by decide +kernel
theorem dX3_readAll_71 : decode cX3_readAll 71 = .ok (.getfield 28, 3) := by decide +kernel
theorem dX3_readAll_74 : decode cX3_readAll 74 = .ok (.ireturn, 1) := by decide +kernel
theorem dX3_readStatement_0 : decode cX3_readStatement 0 = .ok (.aload_n 0, 1) := by decide +kernel
theorem dX3_readStatement_1 : decode cX3_readStatement 1 = .ok (.invokevirtual 45, 3) := by decide +kernel
theorem dX3_readStatement_4 : decode cX3_readStatement 4 = .ok (.aload_n 0, 1) := by decide +kernel
theorem dX3_readStatement_5 : decode cX3_readStatement 5 = .ok (.ldc 48, 2) := by decide +kernel
theorem dX3_readStatement_7 : decode cX3_readStatement 7 = .ok (.invokevirtual 50, 3) := by decide +kernel
theorem dX3_readStatement_10 : decode cX3_readStatement 10 = .ok (.ifCond .eq 11, 3) := by decide +kernel
theorem dX3_readStatement_13 : decode cX3_readStatement 13 = .ok (.aload_n 0, 1) := by decide +kernel
theorem dX3_readStatement_14 : decode cX3_readStatement 14 = .ok (.iconst 0, 1) := by decide +kernel
theorem dX3_readStatement_15 : decode cX3_readStatement 15 = .ok (.invokevirtual 54, 3) := by decide +kernel
theorem dX3_readStatement_18 : decode cX3_readStatement 18 = .ok (.goto 233, 3) := by decide +kernel
theorem dX3_readStatement_21 : decode cX3_readStatement 21 = .ok (.aload_n 0, 1) := by decide +kernel
theorem dX3_readStatement_22 : decode cX3_readStatement 22 = .ok (.ldc 58, 2) := by decide +kernel
theorem dX3_readStatement_24 : decode cX3_readStatement 24 = .ok (.invokevirtual 50, 3) := by decide +kernel
theorem dX3_readStatement_27 : decode cX3_readStatement 27 = .ok (.ifCond .eq 11, 3) := by decide +kernel
theorem dX3_readStatement_30 : decode cX3_readStatement 30 = .ok (.aload_n 0, 1) := by decide +kernel
theorem dX3_readStatement_31 : decode cX3_readStatement 31 = .ok (.iconst 1, 1) := by decide +kernel
theorem dX3_readStatement_32 : decode cX3_readStatement 32 = .ok (.invokevirtual 54, 3) := by decide +kernel
theorem dX3_readStatement_35 : decode cX3_readStatement 35 = .ok (.goto 216, 3) := by decide +kernel
theorem dX3_readStatement_38 : decode cX3_readStatement 38 = .ok (.aload_n 0, 1) := by decide +kernel
theorem dX3_readStatement_39 : decode cX3_readStatement 39 = .ok (.ldc 60, 2) := by decide +kernel
theorem dX3_readStatement_41 : decode cX3_readStatement 41 = .ok (.invokevirtual 50, 3) := by decide +kernel
theorem dX3_readStatement_44 : decode cX3_readStatement 44 = .ok (.ifCond .eq 11, 3) := by decide +kernel
theorem dX3_readStatement_47 : decode cX3_readStatement 47 = .ok (.aload_n 0, 1) := by decide +kernel
theorem dX3_readStatement_48 : decode cX3_readStatement 48 = .ok (.iconst 2, 1) := by decide +kernel
theorem dX3_readStatement_49 : decode cX3_readStatement 49 = .ok (.invokevirtual 54, 3) := by decide +kernel
theorem dX3_readStatement_52 : decode cX3_readStatement 52 = .ok (.goto 199, 3) := by decide +kernel
theorem dX3_readStatement_55 : decode cX3_readStatement 55 = .ok (.aload_n 0, 1) := by decide +kernel
theorem dX3_readStatement_56 : decode cX3_readStatement 56 = .ok (.ldc 62, 2) := by decide +kernel
theorem dX3_readStatement_58 : decode cX3_readStatement 58 = .ok (.invokevirtual 50, 3) := by decide +kernel
theorem dX3_readStatement_61 : decode cX3_readStatement 61 = .ok (.ifCond .eq 10, 3) := by decide +kernel
theorem dX3_readStatement_64 : decode cX3_readStatement 64 = .ok (.aload_n 0, 1) := by decide +kernel
theorem dX3_readStatement_65 : decode cX3_readStatement 65 = .ok (.invokevirtual 64, 3) := by decide +kernel
theorem dX3_readStatement_68 : decode cX3_readStatement 68 = .ok (.goto 183, 3) := by decide +kernel
theorem dX3_readStatement_71 : decode cX3_readStatement 71 = .ok (.aload_n 0, 1) := by decide +kernel
theorem dX3_readStatement_72 : decode cX3_readStatement 72 = .ok (.ldc 67, 2) := by decide +kernel
theorem dX3_readStatement_74 : decode cX3_readStatement 74 = .ok (.invokevirtual 50, 3) := by decide +kernel
theorem dX3_readStatement_77 : decode cX3_readStatement 77 = .ok (.ifCond .eq 11, 3) := by decide +kernel
theorem dX3_readStatement_80 : decode cX3_readStatement 80 = .ok (.aload_n 0, 1) := by decide +kernel
theorem dX3_readStatement_81 : decode cX3_readStatement 81 = .ok (.iconst 5, 1) := by decide +kernel
theorem dX3_readStatement_82 : decode cX3_readStatement 82 = .ok (.invokevirtual 54, 3) := by decide +kernel
theorem dX3_readStatement_85 : decode cX3_readStatement 85 = .ok (.goto 166, 3) := by decide +kernel
theorem dX3_readStatement_88 : decode cX3_readStatement 88 = .ok (.aload_n 0, 1) := by decide +kernel
theorem dX3_readStatement_89 : decode cX3_readStatement 89 = .ok (.ldc 69, 2) := by decide +kernel
theorem dX3_readStatement_91 : decode cX3_readStatement 91 = .ok (.invokevirtual 50, 3) := by decide +kernel
theorem dX3_readStatement_94 : decode cX3_readStatement 94 = .ok (.ifCond .eq 17, 3) := by decide +kernel
theorem dX3_readStatement_97 : decode cX3_readStatement 97 = .ok (.aload_n 0, 1) := by decide +kernel
theorem dX3_readStatement_98 : decode cX3_readStatement 98 = .ok (.getfield 15, 3) := by decide +kernel
theorem dX3_readStatement_101 : decode cX3_readStatement 101 = .ok (.getfield 71, 3) := by decide +kernel
theorem dX3_readStatement_104 : decode cX3_readStatement 104 = .ok (.bipush 6, 2) := by decide +kernel
theorem dX3_readStatement_106 : decode cX3_readStatement 106 = .ok (.iconst 0, 1) := by decide +kernel
theorem dX3_readStatement_107 : decode cX3_readStatement 107 = .ok (.iastore, 1) := by decide +kernel
theorem dX3_readStatement_108 : decode cX3_readStatement 108 = .ok (.goto 143, 3) := by decide +kernel
theorem dX3_readStatement_111 : decode cX3_readStatement 111 = .ok (.aload_n 0, 1) := by decide +kernel
theorem dX3_readStatement_112 : decode cX3_readStatement 112 = .ok (.ldc 75, 2) := by decide +kernel
theorem dX3_readStatement_114 : decode cX3_readStatement 114 = .ok (.invokevirtual 50, 3) := by decide +kernel
theorem dX3_readStatement_117 : decode cX3_readStatement 117 = .ok (.ifCond .eq 17, 3) := by decide +kernel
theorem dX3_readStatement_120 : decode cX3_readStatement 120 = .ok (.aload_n 0, 1) := by decide +kernel
theorem dX3_readStatement_121 : decode cX3_readStatement 121 = .ok (.getfield 15, 3) := by decide +kernel
theorem dX3_readStatement_124 : decode cX3_readStatement 124 = .ok (.getfield 71, 3) := by decide +kernel
theorem dX3_readStatement_127 : decode cX3_readStatement 127 = .ok (.bipush 6, 2) := by decide +kernel
theorem dX3_readStatement_129 : decode cX3_readStatement 129 = .ok (.iconst 1, 1) := by decide +kernel
theorem dX3_readStatement_130 : decode cX3_readStatement 130 = .ok (.iastore, 1) := by decide +kernel
theorem dX3_readStatement_131 : decode cX3_readStatement 131 = .ok (.goto 120, 3) := by decide +kernel
theorem dX3_readStatement_134 : decode cX3_readStatement 134 = .ok (.aload_n 0, 1) := by decide +kernel
theorem dX3_readStatement_135 : decode cX3_readStatement 135 = .ok (.ldc 77, 2) := by decide +kernel
theorem dX3_readStatement_137 : decode cX3_readStatement 137 = .ok (.invokevirtual 50, 3) := by decide +kernel
theorem dX3_readStatement_140 : decode cX3_readStatement 140 = .ok (.ifCond .eq 20, 3) := by decide +kernel
theorem dX3_readStatement_143 : decode cX3_readStatement 143 = .ok (.aload_n 0, 1) := by decide +kernel
theorem dX3_readStatement_144 : decode cX3_readStatement 144 = .ok (.aload_n 0, 1) := by decide +kernel
theorem dX3_readStatement_145 : decode cX3_readStatement 145 = .ok (.getfield 15, 3) := by decide +kernel
theorem dX3_readStatement_148 : decode cX3_readStatement 148 = .ok (.getfield 79, 3) := by decide +kernel
theorem dX3_readStatement_151 : decode cX3_readStatement 151 = .ok (.sipush 9999, 3) := by decide +kernel
theorem dX3_readStatement_154 : decode cX3_readStatement 154 = .ok (.invokevirtual 81, 3) := by decide +kernel
theorem dX3_readStatement_157 : decode cX3_readStatement 157 = .ok (.goto 94, 3) := by decide +kernel
theorem dX3_readStatement_160 : decode cX3_readStatement 160 = .ok (.aload_n 0, 1) := by decide +kernel
theorem dX3_readStatement_161 : decode cX3_readStatement 161 = .ok (.ldc 85, 2) := by decide +kernel
theorem dX3_readStatement_163 : decode cX3_readStatement 163 = .ok (.invokevirtual 50, 3) := by decide +kernel
theorem dX3_readStatement_166 : decode cX3_readStatement 166 = .ok (.ifCond .eq 19, 3) := by decide +kernel
theorem dX3_readStatement_169 : decode cX3_readStatement 169 = .ok (.aload_n 0, 1) := by decide +kernel
theorem dX3_readStatement_170 : decode cX3_readStatement 170 = .ok (.aload_n 0, 1) := by decide +kernel
theorem dX3_readStatement_171 : decode cX3_readStatement 171 = .ok (.getfield 15, 3) := by decide +kernel
theorem dX3_readStatement_174 : decode cX3_readStatement 174 = .ok (.getfield 87, 3) := by decide +kernel
theorem dX3_readStatement_177 : decode cX3_readStatement 177 = .ok (.bipush 7, 2) := by decide +kernel
theorem dX3_readStatement_179 : decode cX3_readStatement 179 = .ok (.invokevirtual 81, 3) := by decide +kernel
theorem dX3_readStatement_182 : decode cX3_readStatement 182 = .ok (.goto 69, 3) := by decide +kernel
theorem dX3_readStatement_185 : decode cX3_readStatement 185 = .ok (.aload_n 0, 1) := by decide +kernel
theorem dX3_readStatement_186 : decode cX3_readStatement 186 = .ok (.ldc 90, 2) := by decide +kernel
theorem dX3_readStatement_188 : decode cX3_readStatement 188 = .ok (.invokevirtual 50, 3) := by decide +kernel
theorem dX3_readStatement_191 : decode cX3_readStatement 191 = .ok (.ifCond .eq 23, 3) := by decide +kernel
theorem dX3_readStatement_194 : decode cX3_readStatement 194 = .ok (.aload_n 0, 1) := by decide +kernel
theorem dX3_readStatement_195 : decode cX3_readStatement 195 = .ok (.getfield 15, 3) := by decide +kernel
theorem dX3_readStatement_198 : decode cX3_readStatement 198 = .ok (.getfield 92, 3) := by decide +kernel
theorem dX3_readStatement_201 : decode cX3_readStatement 201 = .ok (.bipush 30, 2) := by decide +kernel
theorem dX3_readStatement_203 : decode cX3_readStatement 203 = .ok (.if_icmp .ge 11, 3) := by decide +kernel
theorem dX3_readStatement_206 : decode cX3_readStatement 206 = .ok (.aload_n 0, 1) := by decide +kernel
theorem dX3_readStatement_207 : decode cX3_readStatement 207 = .ok (.iconst 1, 1) := by decide +kernel
theorem dX3_readStatement_208 : decode cX3_readStatement 208 = .ok (.invokevirtual 95, 3) := by decide +kernel
theorem dX3_readStatement_211 : decode cX3_readStatement 211 = .ok (.goto 40, 3) := by decide +kernel
theorem dX3_readStatement_214 : decode cX3_readStatement 214 = .ok (.aload_n 0, 1) := by decide +kernel
theorem dX3_readStatement_215 : decode cX3_readStatement 215 = .ok (.ldc 99, 2) := by decide +kernel
theorem dX3_readStatement_217 : decode cX3_readStatement 217 = .ok (.invokevirtual 50, 3) := by decide +kernel
theorem dX3_readStatement_220 : decode cX3_readStatement 220 = .ok (.ifCond .eq 23, 3) := by decide +kernel
theorem dX3_readStatement_223 : decode cX3_readStatement 223 = .ok (.aload_n 0, 1) := by decide +kernel
theorem dX3_readStatement_224 : decode cX3_readStatement 224 = .ok (.getfield 15, 3) := by decide +kernel
theorem dX3_readStatement_227 : decode cX3_readStatement 227 = .ok (.getfield 92, 3) := by decide +kernel
theorem dX3_readStatement_230 : decode cX3_readStatement 230 = .ok (.bipush 30, 2) := by decide +kernel
theorem dX3_readStatement_232 : decode cX3_readStatement 232 = .ok (.if_icmp .ge 11, 3) := by decide +kernel
theorem dX3_readStatement_235 : decode cX3_readStatement 235 = .ok (.aload_n 0, 1) := by decide +kernel
theorem dX3_readStatement_236 : decode cX3_readStatement 236 = .ok (.iconst 0, 1) := by decide +kernel
theorem dX3_readStatement_237 : decode cX3_readStatement 237 = .ok (.invokevirtual 95, 3) := by decide +kernel
theorem dX3_readStatement_240 : decode cX3_readStatement 240 = .ok (.goto 11, 3) := by decide +kernel
theorem dX3_readStatement_243 : decode cX3_readStatement 243 = .ok (.aload_n 0, 1) := by decide +kernel
theorem dX3_readStatement_244 : decode cX3_readStatement 244 = .ok (.aload_n 0, 1) := by decide +kernel
theorem dX3_readStatement_245 : decode cX3_readStatement 245 = .ok (.getfield 101, 3) := by decide +kernel
theorem dX3_readStatement_248 : decode cX3_readStatement 248 = .ok (.invokevirtual 104, 3) := by decide +kernel
theorem dX3_readStatement_251 : decode cX3_readStatement 251 = .ok (.return_, 1) := by decide +kernel
theorem dX3_readTerm_0 : decode cX3_readTerm 0 = .ok (.iload_n 1, 1) := by decide +kernel
theorem dX3_readTerm_1 : decode cX3_readTerm 1 = .ok (.ifCond .lt 32, 3) := by decide +kernel
theorem dX3_readTerm_4 : decode cX3_readTerm 4 = .ok (.iload_n 1, 1) := by decide +kernel
theorem dX3_readTerm_5 : decode cX3_readTerm 5 = .ok (.bipush 7, 2) := by decide +kernel
theorem dX3_readTerm_7 : decode cX3_readTerm 7 = .ok (.if_icmp .ge 26, 3) := by decide +kernel
theorem dX3_readTerm_10 : decode cX3_readTerm 10 = .ok (.aload_n 0, 1) := by decide +kernel
theorem dX3_readTerm_11 : decode cX3_readTerm 11 = .ok (.getfield 15, 3) := by decide +kernel
theorem dX3_readTerm_14 : decode cX3_readTerm 14 = .ok (.getfield 71, 3) := by decide +kernel
theorem dX3_readTerm_17 : decode cX3_readTerm 17 = .ok (.iload_n 1, 1) := by decide +kernel
theorem dX3_readTerm_18 : decode cX3_readTerm 18 = .ok (.aload_n 0, 1) := by decide +kernel
theorem dX3_readTerm_19 : decode cX3_readTerm 19 = .ok (.getstatic 107, 3) := by decide +kernel
theorem dX3_readTerm_22 : decode cX3_readTerm 22 = .ok (.iload_n 1, 1) := by decide +kernel
theorem dX3_readTerm_23 : decode cX3_readTerm 23 = .ok (.iaload, 1) := by decide +kernel
theorem dX3_readTerm_24 : decode cX3_readTerm 24 = .ok (.getstatic 110, 3) := by decide +kernel
theorem dX3_readTerm_27 : decode cX3_readTerm 27 = .ok (.iload_n 1, 1) := by decide +kernel
theorem dX3_readTerm_28 : decode cX3_readTerm 28 = .ok (.iaload, 1) := by decide +kernel
theorem dX3_readTerm_29 : decode cX3_readTerm 29 = .ok (.invokevirtual 113, 3) := by decide +kernel
theorem dX3_readTerm_32 : decode cX3_readTerm 32 = .ok (.iastore, 1) := by decide +kernel
theorem dX3_readTerm_33 : decode cX3_readTerm 33 = .ok (.return_, 1) := by decide +kernel
theorem dX3_readYields_0 : decode cX3_readYields 0 = .ok (.aload_n 0, 1) := by decide +kernel
theorem dX3_readYields_1 : decode cX3_readYields 1 = .ok (.iconst 0, 1) := by decide +kernel
theorem dX3_readYields_2 : decode cX3_readYields 2 = .ok (.sipush 999, 3) := by decide +kernel
theorem dX3_readYields_5 : decode cX3_readYields 5 = .ok (.invokevirtual 113, 3) := by decide +kernel
theorem dX3_readYields_8 : decode cX3_readYields 8 = .ok (.istore_n 1, 1) := by decide +kernel
theorem dX3_readYields_9 : decode cX3_readYields 9 = .ok (.aload_n 0, 1) := by decide +kernel
theorem dX3_readYields_10 : decode cX3_readYields 10 = .ok (.ldc 117, 2) := by decide +kernel
theorem dX3_readYields_12 : decode cX3_readYields 12 = .ok (.invokevirtual 119, 3) := by decide +kernel
theorem dX3_readYields_15 : decode cX3_readYields 15 = .ok (.aload_n 0, 1) := by decide +kernel
theorem dX3_readYields_16 : decode cX3_readYields 16 = .ok (.getfield 15, 3) := by decide +kernel
theorem dX3_readYields_19 : decode cX3_readYields 19 = .ok (.getfield 71, 3) := by decide +kernel
theorem dX3_readYields_22 : decode cX3_readYields 22 = .ok (.iconst 4, 1) := by decide +kernel
theorem dX3_readYields_23 : decode cX3_readYields 23 = .ok (.aload_n 0, 1) := by decide +kernel
theorem dX3_readYields_24 : decode cX3_readYields 24 = .ok (.iload_n 1, 1) := by decide +kernel
theorem dX3_readYields_25 : decode cX3_readYields 25 = .ok (.sipush 999, 3) := by decide +kernel
theorem dX3_readYields_28 : decode cX3_readYields 28 = .ok (.invokevirtual 113, 3) := by decide +kernel
theorem dX3_readYields_31 : decode cX3_readYields 31 = .ok (.iastore, 1) := by decide +kernel
theorem dX3_readYields_32 : decode cX3_readYields 32 = .ok (.aload_n 0, 1) := by decide +kernel
theorem dX3_readYields_33 : decode cX3_readYields 33 = .ok (.getfield 15, 3) := by decide +kernel
theorem dX3_readYields_36 : decode cX3_readYields 36 = .ok (.getfield 71, 3) := by decide +kernel
theorem dX3_readYields_39 : decode cX3_readYields 39 = .ok (.iconst 3, 1) := by decide +kernel
theorem dX3_readYields_40 : decode cX3_readYields 40 = .ok (.iload_n 1, 1) := by decide +kernel
theorem dX3_readYields_41 : decode cX3_readYields 41 = .ok (.iastore, 1) := by decide +kernel
theorem dX3_readYields_42 : decode cX3_readYields 42 = .ok (.return_, 1) := by decide +kernel
theorem dX3_readPair_0 : decode cX3_readPair 0 = .ok (.aload_n 0, 1) := by decide +kernel
theorem dX3_readPair_1 : decode cX3_readPair 1 = .ok (.iconst 0, 1) := by decide +kernel
theorem dX3_readPair_2 : decode cX3_readPair 2 = .ok (.bipush 7, 2) := by decide +kernel
theorem dX3_readPair_4 : decode cX3_readPair 4 = .ok (.invokevirtual 113, 3) := by decide +kernel
theorem dX3_readPair_7 : decode cX3_readPair 7 = .ok (.istore_n 3, 1) := by decide +kernel
theorem dX3_readPair_8 : decode cX3_readPair 8 = .ok (.aload_n 0, 1) := by decide +kernel
theorem dX3_readPair_9 : decode cX3_readPair 9 = .ok (.iconst 0, 1) := by decide +kernel
theorem dX3_readPair_10 : decode cX3_readPair 10 = .ok (.iload_n 2, 1) := by decide +kernel
theorem dX3_readPair_11 : decode cX3_readPair 11 = .ok (.invokevirtual 113, 3) := by decide +kernel
theorem dX3_readPair_14 : decode cX3_readPair 14 = .ok (.istore 4, 2) := by decide +kernel
theorem dX3_readPair_16 : decode cX3_readPair 16 = .ok (.iload_n 3, 1) := by decide +kernel
theorem dX3_readPair_17 : decode cX3_readPair 17 = .ok (.ifCond .lt 22, 3) := by decide +kernel
theorem dX3_readPair_20 : decode cX3_readPair 20 = .ok (.iload_n 3, 1) := by decide +kernel
theorem dX3_readPair_21 : decode cX3_readPair 21 = .ok (.aload_n 1, 1) := by decide +kernel
theorem dX3_readPair_22 : decode cX3_readPair 22 = .ok (.arraylength, 1) := by decide +kernel
theorem dX3_readPair_23 : decode cX3_readPair 23 = .ok (.if_icmp .ge 16, 3) := by decide +kernel
theorem dX3_readPair_26 : decode cX3_readPair 26 = .ok (.aload_n 0, 1) := by decide +kernel
theorem dX3_readPair_27 : decode cX3_readPair 27 = .ok (.getfield 28, 3) := by decide +kernel
theorem dX3_readPair_30 : decode cX3_readPair 30 = .ok (.iconst (-1), 1) := by decide +kernel
theorem dX3_readPair_31 : decode cX3_readPair 31 = .ok (.if_icmp .ne 8, 3) := by decide +kernel
theorem dX3_readPair_34 : decode cX3_readPair 34 = .ok (.aload_n 1, 1) := by decide +kernel
theorem dX3_readPair_35 : decode cX3_readPair 35 = .ok (.iload_n 3, 1) := by decide +kernel
theorem dX3_readPair_36 : decode cX3_readPair 36 = .ok (.iload 4, 2) := by decide +kernel
theorem dX3_readPair_38 : decode cX3_readPair 38 = .ok (.iastore, 1) := by decide +kernel
theorem dX3_readPair_39 : decode cX3_readPair 39 = .ok (.return_, 1) := by decide +kernel
theorem dX3_readBid_0 : decode cX3_readBid 0 = .ok (.aload_n 0, 1) := by decide +kernel
theorem dX3_readBid_1 : decode cX3_readBid 1 = .ok (.iconst 0, 1) := by decide +kernel
theorem dX3_readBid_2 : decode cX3_readBid 2 = .ok (.bipush 7, 2) := by decide +kernel
theorem dX3_readBid_4 : decode cX3_readBid 4 = .ok (.invokevirtual 113, 3) := by decide +kernel
theorem dX3_readBid_7 : decode cX3_readBid 7 = .ok (.istore_n 2, 1) := by decide +kernel
theorem dX3_readBid_8 : decode cX3_readBid 8 = .ok (.iload_n 1, 1) := by decide +kernel
theorem dX3_readBid_9 : decode cX3_readBid 9 = .ok (.ifCond .eq 14, 3) := by decide +kernel
theorem dX3_readBid_12 : decode cX3_readBid 12 = .ok (.aload_n 0, 1) := by decide +kernel
theorem dX3_readBid_13 : decode cX3_readBid 13 = .ok (.iconst 0, 1) := by decide +kernel
theorem dX3_readBid_14 : decode cX3_readBid 14 = .ok (.sipush 999, 3) := by decide +kernel
theorem dX3_readBid_17 : decode cX3_readBid 17 = .ok (.invokevirtual 113, 3) := by decide +kernel
theorem dX3_readBid_20 : decode cX3_readBid 20 = .ok (.goto 4, 3) := by decide +kernel
theorem dX3_readBid_23 : decode cX3_readBid 23 = .ok (.iconst (-1), 1) := by decide +kernel
theorem dX3_readBid_24 : decode cX3_readBid 24 = .ok (.istore_n 3, 1) := by decide +kernel
theorem dX3_readBid_25 : decode cX3_readBid 25 = .ok (.aload_n 0, 1) := by decide +kernel
theorem dX3_readBid_26 : decode cX3_readBid 26 = .ok (.ldc 123, 2) := by decide +kernel
theorem dX3_readBid_28 : decode cX3_readBid 28 = .ok (.invokevirtual 119, 3) := by decide +kernel
theorem dX3_readBid_31 : decode cX3_readBid 31 = .ok (.aload_n 0, 1) := by decide +kernel
theorem dX3_readBid_32 : decode cX3_readBid 32 = .ok (.iconst 1, 1) := by decide +kernel
theorem dX3_readBid_33 : decode cX3_readBid 33 = .ok (.sipush 1000, 3) := by decide +kernel
theorem dX3_readBid_36 : decode cX3_readBid 36 = .ok (.invokevirtual 113, 3) := by decide +kernel
theorem dX3_readBid_39 : decode cX3_readBid 39 = .ok (.istore 4, 2) := by decide +kernel
theorem dX3_readBid_41 : decode cX3_readBid 41 = .ok (.aload_n 0, 1) := by decide +kernel
theorem dX3_readBid_42 : decode cX3_readBid 42 = .ok (.getfield 15, 3) := by decide +kernel
theorem dX3_readBid_45 : decode cX3_readBid 45 = .ok (.aload_n 0, 1) := by decide +kernel
theorem dX3_readBid_46 : decode cX3_readBid 46 = .ok (.getfield 15, 3) := by decide +kernel
theorem dX3_readBid_49 : decode cX3_readBid 49 = .ok (.getfield 92, 3) := by decide +kernel
theorem dX3_readBid_52 : decode cX3_readBid 52 = .ok (.iload_n 2, 1) := by decide +kernel
theorem dX3_readBid_53 : decode cX3_readBid 53 = .ok (.iload_n 3, 1) := by decide +kernel
theorem dX3_readBid_54 : decode cX3_readBid 54 = .ok (.iload 4, 2) := by decide +kernel
theorem dX3_readBid_56 : decode cX3_readBid 56 = .ok (.invokevirtual 125, 3) := by decide +kernel
theorem dX3_readBid_59 : decode cX3_readBid 59 = .ok (.return_, 1) := by decide +kernel
theorem dX3_expectWord_0 : decode cX3_expectWord 0 = .ok (.aload_n 0, 1) := by decide +kernel
theorem dX3_expectWord_1 : decode cX3_expectWord 1 = .ok (.invokevirtual 45, 3) := by decide +kernel
theorem dX3_expectWord_4 : decode cX3_expectWord 4 = .ok (.aload_n 0, 1) := by decide +kernel
theorem dX3_expectWord_5 : decode cX3_expectWord 5 = .ok (.aload_n 1, 1) := by decide +kernel
theorem dX3_expectWord_6 : decode cX3_expectWord 6 = .ok (.invokevirtual 50, 3) := by decide +kernel
theorem dX3_expectWord_9 : decode cX3_expectWord 9 = .ok (.ifCond .ne 11, 3) := by decide +kernel
theorem dX3_expectWord_12 : decode cX3_expectWord 12 = .ok (.aload_n 0, 1) := by decide +kernel
theorem dX3_expectWord_13 : decode cX3_expectWord 13 = .ok (.aload_n 0, 1) := by decide +kernel
theorem dX3_expectWord_14 : decode cX3_expectWord 14 = .ok (.getfield 101, 3) := by decide +kernel
theorem dX3_expectWord_17 : decode cX3_expectWord 17 = .ok (.invokevirtual 104, 3) := by decide +kernel
theorem dX3_expectWord_20 : decode cX3_expectWord 20 = .ok (.return_, 1) := by decide +kernel
theorem dX3_readSemicolon_0 : decode cX3_readSemicolon 0 = .ok (.aload_n 0, 1) := by decide +kernel
theorem dX3_readSemicolon_1 : decode cX3_readSemicolon 1 = .ok (.invokevirtual 31, 3) := by decide +kernel
theorem dX3_readSemicolon_4 : decode cX3_readSemicolon 4 = .ok (.aload_n 0, 1) := by decide +kernel
theorem dX3_readSemicolon_5 : decode cX3_readSemicolon 5 = .ok (.getfield 9, 3) := by decide +kernel
theorem dX3_readSemicolon_8 : decode cX3_readSemicolon 8 = .ok (.aload_n 0, 1) := by decide +kernel
theorem dX3_readSemicolon_9 : decode cX3_readSemicolon 9 = .ok (.getfield 24, 3) := by decide +kernel
theorem dX3_readSemicolon_12 : decode cX3_readSemicolon 12 = .ok (.invokevirtual 129, 3) := by decide +kernel
theorem dX3_readSemicolon_15 : decode cX3_readSemicolon 15 = .ok (.bipush 59, 2) := by decide +kernel
theorem dX3_readSemicolon_17 : decode cX3_readSemicolon 17 = .ok (.if_icmp .ne 16, 3) := by decide +kernel
theorem dX3_readSemicolon_20 : decode cX3_readSemicolon 20 = .ok (.aload_n 0, 1) := by decide +kernel
theorem dX3_readSemicolon_21 : decode cX3_readSemicolon 21 = .ok (.dup, 1) := by decide +kernel
theorem dX3_readSemicolon_22 : decode cX3_readSemicolon 22 = .ok (.getfield 24, 3) := by decide +kernel
theorem dX3_readSemicolon_25 : decode cX3_readSemicolon 25 = .ok (.iconst 1, 1) := by decide +kernel
theorem dX3_readSemicolon_26 : decode cX3_readSemicolon 26 = .ok (.iadd, 1) := by decide +kernel
theorem dX3_readSemicolon_27 : decode cX3_readSemicolon 27 = .ok (.putfield 24, 3) := by decide +kernel
theorem dX3_readSemicolon_30 : decode cX3_readSemicolon 30 = .ok (.goto 11, 3) := by decide +kernel
theorem dX3_readSemicolon_33 : decode cX3_readSemicolon 33 = .ok (.aload_n 0, 1) := by decide +kernel
theorem dX3_readSemicolon_34 : decode cX3_readSemicolon 34 = .ok (.aload_n 0, 1) := by decide +kernel
theorem dX3_readSemicolon_35 : decode cX3_readSemicolon 35 = .ok (.getfield 24, 3) := by decide +kernel
theorem dX3_readSemicolon_38 : decode cX3_readSemicolon 38 = .ok (.invokevirtual 104, 3) := by decide +kernel
theorem dX3_readSemicolon_41 : decode cX3_readSemicolon 41 = .ok (.return_, 1) := by decide +kernel
theorem dX3_readNumber_0 : decode cX3_readNumber 0 = .ok (.aload_n 0, 1) := by decide +kernel
theorem dX3_readNumber_1 : decode cX3_readNumber 1 = .ok (.invokevirtual 31, 3) := by decide +kernel
theorem dX3_readNumber_4 : decode cX3_readNumber 4 = .ok (.aload_n 0, 1) := by decide +kernel
theorem dX3_readNumber_5 : decode cX3_readNumber 5 = .ok (.getfield 24, 3) := by decide +kernel
theorem dX3_readNumber_8 : decode cX3_readNumber 8 = .ok (.istore_n 3, 1) := by decide +kernel
theorem dX3_readNumber_9 : decode cX3_readNumber 9 = .ok (.iconst 0, 1) := by decide +kernel
theorem dX3_readNumber_10 : decode cX3_readNumber 10 = .ok (.istore 4, 2) := by decide +kernel
theorem dX3_readNumber_12 : decode cX3_readNumber 12 = .ok (.aload_n 0, 1) := by decide +kernel
theorem dX3_readNumber_13 : decode cX3_readNumber 13 = .ok (.getfield 24, 3) := by decide +kernel
theorem dX3_readNumber_16 : decode cX3_readNumber 16 = .ok (.aload_n 0, 1) := by decide +kernel
theorem dX3_readNumber_17 : decode cX3_readNumber 17 = .ok (.getfield 9, 3) := by decide +kernel
theorem dX3_readNumber_20 : decode cX3_readNumber 20 = .ok (.getfield 34, 3) := by decide +kernel
theorem dX3_readNumber_23 : decode cX3_readNumber 23 = .ok (.if_icmp .ge 65, 3) := by decide +kernel
theorem dX3_readNumber_26 : decode cX3_readNumber 26 = .ok (.aload_n 0, 1) := by decide +kernel
theorem dX3_readNumber_27 : decode cX3_readNumber 27 = .ok (.getfield 9, 3) := by decide +kernel
theorem dX3_readNumber_30 : decode cX3_readNumber 30 = .ok (.aload_n 0, 1) := by decide +kernel
theorem dX3_readNumber_31 : decode cX3_readNumber 31 = .ok (.getfield 24, 3) := by decide +kernel
theorem dX3_readNumber_34 : decode cX3_readNumber 34 = .ok (.invokevirtual 129, 3) := by decide +kernel
theorem dX3_readNumber_37 : decode cX3_readNumber 37 = .ok (.invokestatic 133, 3) := by decide +kernel
theorem dX3_readNumber_40 : decode cX3_readNumber 40 = .ok (.ifCond .eq 48, 3) := by decide +kernel
theorem dX3_readNumber_43 : decode cX3_readNumber 43 = .ok (.aload_n 0, 1) := by decide +kernel
theorem dX3_readNumber_44 : decode cX3_readNumber 44 = .ok (.getfield 24, 3) := by decide +kernel
theorem dX3_readNumber_47 : decode cX3_readNumber 47 = .ok (.iload_n 3, 1) := by decide +kernel
theorem dX3_readNumber_48 : decode cX3_readNumber 48 = .ok (.isub, 1) := by decide +kernel
theorem dX3_readNumber_49 : decode cX3_readNumber 49 = .ok (.iconst 5, 1) := by decide +kernel
theorem dX3_readNumber_50 : decode cX3_readNumber 50 = .ok (.if_icmp .ge 25, 3) := by decide +kernel
theorem dX3_readNumber_53 : decode cX3_readNumber 53 = .ok (.iload 4, 2) := by decide +kernel
theorem dX3_readNumber_55 : decode cX3_readNumber 55 = .ok (.bipush 10, 2) := by decide +kernel
theorem dX3_readNumber_57 : decode cX3_readNumber 57 = .ok (.imul, 1) := by decide +kernel
theorem dX3_readNumber_58 : decode cX3_readNumber 58 = .ok (.aload_n 0, 1) := by decide +kernel
theorem dX3_readNumber_59 : decode cX3_readNumber 59 = .ok (.getfield 9, 3) := by decide +kernel
theorem dX3_readNumber_62 : decode cX3_readNumber 62 = .ok (.aload_n 0, 1) := by decide +kernel
theorem dX3_readNumber_63 : decode cX3_readNumber 63 = .ok (.getfield 24, 3) := by decide +kernel
theorem dX3_readNumber_66 : decode cX3_readNumber 66 = .ok (.invokevirtual 129, 3) := by decide +kernel
theorem dX3_readNumber_69 : decode cX3_readNumber 69 = .ok (.iadd, 1) := by decide +kernel
theorem dX3_readNumber_70 : decode cX3_readNumber 70 = .ok (.bipush 48, 2) := by decide +kernel
theorem dX3_readNumber_72 : decode cX3_readNumber 72 = .ok (.isub, 1) := by decide +kernel
theorem dX3_readNumber_73 : decode cX3_readNumber 73 = .ok (.istore 4, 2) := by decide +kernel
theorem dX3_readNumber_75 : decode cX3_readNumber 75 = .ok (.aload_n 0, 1) := by decide +kernel
theorem dX3_readNumber_76 : decode cX3_readNumber 76 = .ok (.dup, 1) := by decide +kernel
theorem dX3_readNumber_77 : decode cX3_readNumber 77 = .ok (.getfield 24, 3) := by decide +kernel
theorem dX3_readNumber_80 : decode cX3_readNumber 80 = .ok (.iconst 1, 1) := by decide +kernel
theorem dX3_readNumber_81 : decode cX3_readNumber 81 = .ok (.iadd, 1) := by decide +kernel
theorem dX3_readNumber_82 : decode cX3_readNumber 82 = .ok (.putfield 24, 3) := by decide +kernel
theorem dX3_readNumber_85 : decode cX3_readNumber 85 = .ok (.goto (-73), 3) := by decide +kernel
theorem dX3_readNumber_88 : decode cX3_readNumber 88 = .ok (.aload_n 0, 1) := by decide +kernel
theorem dX3_readNumber_89 : decode cX3_readNumber 89 = .ok (.getfield 24, 3) := by decide +kernel
theorem dX3_readNumber_92 : decode cX3_readNumber 92 = .ok (.iload_n 3, 1) := by decide +kernel
theorem dX3_readNumber_93 : decode cX3_readNumber 93 = .ok (.isub, 1) := by decide +kernel
theorem dX3_readNumber_94 : decode cX3_readNumber 94 = .ok (.istore 5, 2) := by decide +kernel
theorem dX3_readNumber_96 : decode cX3_readNumber 96 = .ok (.iload 5, 2) := by decide +kernel
theorem dX3_readNumber_98 : decode cX3_readNumber 98 = .ok (.iconst 1, 1) := by decide +kernel
theorem dX3_readNumber_99 : decode cX3_readNumber 99 = .ok (.if_icmp .lt 21, 3) := by decide +kernel
theorem dX3_readNumber_102 : decode cX3_readNumber 102 = .ok (.iload 5, 2) := by decide +kernel
theorem dX3_readNumber_104 : decode cX3_readNumber 104 = .ok (.iconst 5, 1) := by decide +kernel
theorem dX3_readNumber_105 : decode cX3_readNumber 105 = .ok (.if_icmp .gt 15, 3) := by decide +kernel
theorem dX3_readNumber_108 : decode cX3_readNumber 108 = .ok (.aload_n 0, 1) := by decide +kernel
theorem dX3_readNumber_109 : decode cX3_readNumber 109 = .ok (.iload_n 3, 1) := by decide +kernel
theorem dX3_readNumber_110 : decode cX3_readNumber 110 = .ok (.invokevirtual 137, 3) := by decide +kernel
theorem dX3_readNumber_113 : decode cX3_readNumber 113 = .ok (.ifCond .ne 7, 3) := by decide +kernel
theorem dX3_readNumber_116 : decode cX3_readNumber 116 = .ok (.iconst 1, 1) := by decide +kernel
theorem dX3_readNumber_117 : decode cX3_readNumber 117 = .ok (.goto 4, 3) := by decide +kernel
theorem dX3_readNumber_120 : decode cX3_readNumber 120 = .ok (.iconst 0, 1) := by decide +kernel
theorem dX3_readNumber_121 : decode cX3_readNumber 121 = .ok (.istore 6, 2) := by decide +kernel
theorem dX3_readNumber_123 : decode cX3_readNumber 123 = .ok (.iload 6, 2) := by decide +kernel
theorem dX3_readNumber_125 : decode cX3_readNumber 125 = .ok (.ifCond .eq 15, 3) := by decide +kernel
theorem dX3_readNumber_128 : decode cX3_readNumber 128 = .ok (.iload 4, 2) := by decide +kernel
theorem dX3_readNumber_130 : decode cX3_readNumber 130 = .ok (.iload_n 1, 1) := by decide +kernel
theorem dX3_readNumber_131 : decode cX3_readNumber 131 = .ok (.if_icmp .lt 9, 3) := by decide +kernel
theorem dX3_readNumber_134 : decode cX3_readNumber 134 = .ok (.iload 4, 2) := by decide +kernel
theorem dX3_readNumber_136 : decode cX3_readNumber 136 = .ok (.iload_n 2, 1) := by decide +kernel
theorem dX3_readNumber_137 : decode cX3_readNumber 137 = .ok (.if_icmp .le 10, 3) := by decide +kernel
theorem dX3_readNumber_140 : decode cX3_readNumber 140 = .ok (.aload_n 0, 1) := by decide +kernel
theorem dX3_readNumber_141 : decode cX3_readNumber 141 = .ok (.iload_n 3, 1) := by decide +kernel
theorem dX3_readNumber_142 : decode cX3_readNumber 142 = .ok (.invokevirtual 104, 3) := by decide +kernel
theorem dX3_readNumber_145 : decode cX3_readNumber 145 = .ok (.iload_n 1, 1) := by decide +kernel
theorem dX3_readNumber_146 : decode cX3_readNumber 146 = .ok (.ireturn, 1) := by decide +kernel
theorem dX3_readNumber_147 : decode cX3_readNumber 147 = .ok (.iload 4, 2) := by decide +kernel
theorem dX3_readNumber_149 : decode cX3_readNumber 149 = .ok (.ireturn, 1) := by decide +kernel
theorem dX3_takeWord_0 : decode cX3_takeWord 0 = .ok (.aload_n 0, 1) := by decide +kernel
theorem dX3_takeWord_1 : decode cX3_takeWord 1 = .ok (.invokevirtual 31, 3) := by decide +kernel
theorem dX3_takeWord_4 : decode cX3_takeWord 4 = .ok (.aload_n 0, 1) := by decide +kernel
theorem dX3_takeWord_5 : decode cX3_takeWord 5 = .ok (.aload_n 0, 1) := by decide +kernel
theorem dX3_takeWord_6 : decode cX3_takeWord 6 = .ok (.getfield 24, 3) := by decide +kernel
theorem dX3_takeWord_9 : decode cX3_takeWord 9 = .ok (.putfield 101, 3) := by decide +kernel
theorem dX3_takeWord_12 : decode cX3_takeWord 12 = .ok (.aload_n 0, 1) := by decide +kernel
theorem dX3_takeWord_13 : decode cX3_takeWord 13 = .ok (.aload_n 0, 1) := by decide +kernel
theorem dX3_takeWord_14 : decode cX3_takeWord 14 = .ok (.getfield 24, 3) := by decide +kernel
theorem dX3_takeWord_17 : decode cX3_takeWord 17 = .ok (.invokevirtual 137, 3) := by decide +kernel
theorem dX3_takeWord_20 : decode cX3_takeWord 20 = .ok (.ifCond .eq 4, 3) := by decide +kernel
theorem dX3_takeWord_23 : decode cX3_takeWord 23 = .ok (.return_, 1) := by decide +kernel
theorem dX3_takeWord_24 : decode cX3_takeWord 24 = .ok (.aload_n 0, 1) := by decide +kernel
theorem dX3_takeWord_25 : decode cX3_takeWord 25 = .ok (.getfield 24, 3) := by decide +kernel
theorem dX3_takeWord_28 : decode cX3_takeWord 28 = .ok (.aload_n 0, 1) := by decide +kernel
theorem dX3_takeWord_29 : decode cX3_takeWord 29 = .ok (.getfield 9, 3) := by decide +kernel
theorem dX3_takeWord_32 : decode cX3_takeWord 32 = .ok (.getfield 34, 3) := by decide +kernel
theorem dX3_takeWord_35 : decode cX3_takeWord 35 = .ok (.if_icmp .ge 33, 3) := by decide +kernel
theorem dX3_takeWord_38 : decode cX3_takeWord 38 = .ok (.aload_n 0, 1) := by decide +kernel
theorem dX3_takeWord_39 : decode cX3_takeWord 39 = .ok (.getfield 9, 3) := by decide +kernel
theorem dX3_takeWord_42 : decode cX3_takeWord 42 = .ok (.aload_n 0, 1) := by decide +kernel
theorem dX3_takeWord_43 : decode cX3_takeWord 43 = .ok (.getfield 24, 3) := by decide +kernel
theorem dX3_takeWord_46 : decode cX3_takeWord 46 = .ok (.invokevirtual 129, 3) := by decide +kernel
theorem dX3_takeWord_49 : decode cX3_takeWord 49 = .ok (.invokestatic 140, 3) := by decide +kernel
theorem dX3_takeWord_52 : decode cX3_takeWord 52 = .ok (.ifCond .eq 16, 3) := by decide +kernel
theorem dX3_takeWord_55 : decode cX3_takeWord 55 = .ok (.aload_n 0, 1) := by decide +kernel
theorem dX3_takeWord_56 : decode cX3_takeWord 56 = .ok (.dup, 1) := by decide +kernel
theorem dX3_takeWord_57 : decode cX3_takeWord 57 = .ok (.getfield 24, 3) := by decide +kernel
theorem dX3_takeWord_60 : decode cX3_takeWord 60 = .ok (.iconst 1, 1) := by decide +kernel
theorem dX3_takeWord_61 : decode cX3_takeWord 61 = .ok (.iadd, 1) := by decide +kernel
theorem dX3_takeWord_62 : decode cX3_takeWord 62 = .ok (.putfield 24, 3) := by decide +kernel
theorem dX3_takeWord_65 : decode cX3_takeWord 65 = .ok (.goto (-41), 3) := by decide +kernel
theorem dX3_takeWord_68 : decode cX3_takeWord 68 = .ok (.return_, 1) := by decide +kernel
theorem dX3_wordIs_0 : decode cX3_wordIs 0 = .ok (.aload_n 0, 1) := by decide +kernel
theorem dX3_wordIs_1 : decode cX3_wordIs 1 = .ok (.getfield 24, 3) := by decide +kernel
theorem dX3_wordIs_4 : decode cX3_wordIs 4 = .ok (.aload_n 0, 1) := by decide +kernel
theorem dX3_wordIs_5 : decode cX3_wordIs 5 = .ok (.getfield 101, 3) := by decide +kernel
theorem dX3_wordIs_8 : decode cX3_wordIs 8 = .ok (.isub, 1) := by decide +kernel
theorem dX3_wordIs_9 : decode cX3_wordIs 9 = .ok (.aload_n 1, 1) := by decide +kernel
theorem dX3_wordIs_10 : decode cX3_wordIs 10 = .ok (.invokevirtual 143, 3) := by decide +kernel
theorem dX3_wordIs_13 : decode cX3_wordIs 13 = .ok (.if_icmp .eq 5, 3) := by decide +kernel
theorem dX3_wordIs_16 : decode cX3_wordIs 16 = .ok (.iconst 0, 1) := by decide +kernel
theorem dX3_wordIs_17 : decode cX3_wordIs 17 = .ok (.ireturn, 1) := by decide +kernel
theorem dX3_wordIs_18 : decode cX3_wordIs 18 = .ok (.iconst 0, 1) := by decide +kernel
theorem dX3_wordIs_19 : decode cX3_wordIs 19 = .ok (.istore_n 2, 1) := by decide +kernel
theorem dX3_wordIs_20 : decode cX3_wordIs 20 = .ok (.iload_n 2, 1) := by decide +kernel
theorem dX3_wordIs_21 : decode cX3_wordIs 21 = .ok (.aload_n 1, 1) := by decide +kernel
theorem dX3_wordIs_22 : decode cX3_wordIs 22 = .ok (.invokevirtual 143, 3) := by decide +kernel
theorem dX3_wordIs_25 : decode cX3_wordIs 25 = .ok (.if_icmp .ge 32, 3) := by decide +kernel
theorem dX3_wordIs_28 : decode cX3_wordIs 28 = .ok (.aload_n 0, 1) := by decide +kernel
theorem dX3_wordIs_29 : decode cX3_wordIs 29 = .ok (.getfield 9, 3) := by decide +kernel
theorem dX3_wordIs_32 : decode cX3_wordIs 32 = .ok (.aload_n 0, 1) := by decide +kernel
theorem dX3_wordIs_33 : decode cX3_wordIs 33 = .ok (.getfield 101, 3) := by decide +kernel
theorem dX3_wordIs_36 : decode cX3_wordIs 36 = .ok (.iload_n 2, 1) := by decide +kernel
theorem dX3_wordIs_37 : decode cX3_wordIs 37 = .ok (.iadd, 1) := by decide +kernel
theorem dX3_wordIs_38 : decode cX3_wordIs 38 = .ok (.invokevirtual 129, 3) := by decide +kernel
theorem dX3_wordIs_41 : decode cX3_wordIs 41 = .ok (.aload_n 1, 1) := by decide +kernel
theorem dX3_wordIs_42 : decode cX3_wordIs 42 = .ok (.iload_n 2, 1) := by decide +kernel
theorem dX3_wordIs_43 : decode cX3_wordIs 43 = .ok (.invokevirtual 148, 3) := by decide +kernel
theorem dX3_wordIs_46 : decode cX3_wordIs 46 = .ok (.if_icmp .eq 5, 3) := by decide +kernel
theorem dX3_wordIs_49 : decode cX3_wordIs 49 = .ok (.iconst 0, 1) := by decide +kernel
theorem dX3_wordIs_50 : decode cX3_wordIs 50 = .ok (.ireturn, 1) := by decide +kernel
theorem dX3_wordIs_51 : decode cX3_wordIs 51 = .ok (.iinc 2 1, 3) := by decide +kernel
theorem dX3_wordIs_54 : decode cX3_wordIs 54 = .ok (.goto (-34), 3) := by decide +kernel
theorem dX3_wordIs_57 : decode cX3_wordIs 57 = .ok (.iconst 1, 1) := by decide +kernel
theorem dX3_wordIs_58 : decode cX3_wordIs 58 = .ok (.ireturn, 1) := by decide +kernel
theorem dX3_isGlued_0 : decode cX3_isGlued 0 = .ok (.aload_n 0, 1) := by decide +kernel
theorem dX3_isGlued_1 : decode cX3_isGlued 1 = .ok (.getfield 9, 3) := by decide +kernel
theorem dX3_isGlued_4 : decode cX3_isGlued 4 = .ok (.iload_n 1, 1) := by decide +kernel
theorem dX3_isGlued_5 : decode cX3_isGlued 5 = .ok (.iconst 1, 1) := by decide +kernel
theorem dX3_isGlued_6 : decode cX3_isGlued 6 = .ok (.isub, 1) := by decide +kernel
theorem dX3_isGlued_7 : decode cX3_isGlued 7 = .ok (.invokevirtual 129, 3) := by decide +kernel
theorem dX3_isGlued_10 : decode cX3_isGlued 10 = .ok (.istore_n 2, 1) := by decide +kernel
theorem dX3_isGlued_11 : decode cX3_isGlued 11 = .ok (.iload_n 2, 1) := by decide +kernel
theorem dX3_isGlued_12 : decode cX3_isGlued 12 = .ok (.invokestatic 140, 3) := by decide +kernel
theorem dX3_isGlued_15 : decode cX3_isGlued 15 = .ok (.ifCond .ne 10, 3) := by decide +kernel
theorem dX3_isGlued_18 : decode cX3_isGlued 18 = .ok (.iload_n 2, 1) := by decide +kernel
theorem dX3_isGlued_19 : decode cX3_isGlued 19 = .ok (.invokestatic 133, 3) := by decide +kernel
theorem dX3_isGlued_22 : decode cX3_isGlued 22 = .ok (.ifCond .eq 7, 3) := by decide +kernel
theorem dX3_isGlued_25 : decode cX3_isGlued 25 = .ok (.iconst 1, 1) := by decide +kernel
theorem dX3_isGlued_26 : decode cX3_isGlued 26 = .ok (.goto 4, 3) := by decide +kernel
theorem dX3_isGlued_29 : decode cX3_isGlued 29 = .ok (.iconst 0, 1) := by decide +kernel
theorem dX3_isGlued_30 : decode cX3_isGlued 30 = .ok (.ireturn, 1) := by decide +kernel
theorem dX3_skipBlanks_0 : decode cX3_skipBlanks 0 = .ok (.aload_n 0, 1) := by decide +kernel
theorem dX3_skipBlanks_1 : decode cX3_skipBlanks 1 = .ok (.getfield 24, 3) := by decide +kernel
theorem dX3_skipBlanks_4 : decode cX3_skipBlanks 4 = .ok (.aload_n 0, 1) := by decide +kernel
theorem dX3_skipBlanks_5 : decode cX3_skipBlanks 5 = .ok (.getfield 9, 3) := by decide +kernel
theorem dX3_skipBlanks_8 : decode cX3_skipBlanks 8 = .ok (.getfield 34, 3) := by decide +kernel
theorem dX3_skipBlanks_11 : decode cX3_skipBlanks 11 = .ok (.if_icmp .ge 33, 3) := by decide +kernel
theorem dX3_skipBlanks_14 : decode cX3_skipBlanks 14 = .ok (.aload_n 0, 1) := by decide +kernel
theorem dX3_skipBlanks_15 : decode cX3_skipBlanks 15 = .ok (.getfield 9, 3) := by decide +kernel
theorem dX3_skipBlanks_18 : decode cX3_skipBlanks 18 = .ok (.aload_n 0, 1) := by decide +kernel
theorem dX3_skipBlanks_19 : decode cX3_skipBlanks 19 = .ok (.getfield 24, 3) := by decide +kernel
theorem dX3_skipBlanks_22 : decode cX3_skipBlanks 22 = .ok (.invokevirtual 129, 3) := by decide +kernel
theorem dX3_skipBlanks_25 : decode cX3_skipBlanks 25 = .ok (.invokestatic 152, 3) := by decide +kernel
theorem dX3_skipBlanks_28 : decode cX3_skipBlanks 28 = .ok (.ifCond .eq 16, 3) := by decide +kernel
theorem dX3_skipBlanks_31 : decode cX3_skipBlanks 31 = .ok (.aload_n 0, 1) := by decide +kernel
theorem dX3_skipBlanks_32 : decode cX3_skipBlanks 32 = .ok (.dup, 1) := by decide +kernel
theorem dX3_skipBlanks_33 : decode cX3_skipBlanks 33 = .ok (.getfield 24, 3) := by decide +kernel
theorem dX3_skipBlanks_36 : decode cX3_skipBlanks 36 = .ok (.iconst 1, 1) := by decide +kernel
theorem dX3_skipBlanks_37 : decode cX3_skipBlanks 37 = .ok (.iadd, 1) := by decide +kernel
theorem dX3_skipBlanks_38 : decode cX3_skipBlanks 38 = .ok (.putfield 24, 3) := by decide +kernel
theorem dX3_skipBlanks_41 : decode cX3_skipBlanks 41 = .ok (.goto (-41), 3) := by decide +kernel
theorem dX3_skipBlanks_44 : decode cX3_skipBlanks 44 = .ok (.return_, 1) := by decide +kernel
theorem dX3_fail_0 : decode cX3_fail 0 = .ok (.aload_n 0, 1) := by decide +kernel
theorem dX3_fail_1 : decode cX3_fail 1 = .ok (.getfield 28, 3) := by decide +kernel
theorem dX3_fail_4 : decode cX3_fail 4 = .ok (.iconst (-1), 1) := by decide +kernel
theorem dX3_fail_5 : decode cX3_fail 5 = .ok (.if_icmp .ne 8, 3) := by decide +kernel
theorem dX3_fail_8 : decode cX3_fail 8 = .ok (.aload_n 0, 1) := by decide +kernel
theorem dX3_fail_9 : decode cX3_fail 9 = .ok (.iload_n 1, 1) := by decide +kernel
theorem dX3_fail_10 : decode cX3_fail 10 = .ok (.putfield 28, 3) := by decide +kernel
theorem dX3_fail_13 : decode cX3_fail 13 = .ok (.return_, 1) := by decide +kernel
