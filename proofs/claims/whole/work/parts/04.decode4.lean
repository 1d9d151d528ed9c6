theorem dT_prove_50 : decode cT_prove 50 = .ok (.ifCond .le 5, 3) := by decide +kernel
theorem dT_prove_53 : decode cT_prove 53 = .ok (.iconst 0, 1) := by decide +kernel
theorem dT_prove_54 : decode cT_prove 54 = .ok (.ireturn, 1) := by decide +kernel
theorem dT_prove_55 : decode cT_prove 55 = .ok (.aload_n 0, 1) := by decide +kernel
theorem dT_prove_56 : decode cT_prove 56 = .ok (.iconst 0, 1) := by decide +kernel
theorem dT_prove_57 : decode cT_prove 57 = .ok (.invokevirtual 108, 3) := by decide +kernel
theorem dT_prove_60 : decode cT_prove 60 = .ok (.aload_n 0, 1) := by decide +kernel
theorem dT_prove_61 : decode cT_prove 61 = .ok (.iconst 1, 1) := by decide +kernel
theorem dT_prove_62 : decode cT_prove 62 = .ok (.invokevirtual 108, 3) := by decide +kernel
theorem dT_prove_65 : decode cT_prove 65 = .ok (.aload_n 0, 1) := by decide +kernel
theorem dT_prove_66 : decode cT_prove 66 = .ok (.iconst 2, 1) := by decide +kernel
theorem dT_prove_67 : decode cT_prove 67 = .ok (.invokevirtual 108, 3) := by decide +kernel
theorem dT_prove_70 : decode cT_prove 70 = .ok (.aload_n 0, 1) := by decide +kernel
theorem dT_prove_71 : decode cT_prove 71 = .ok (.invokevirtual 112, 3) := by decide +kernel
theorem dT_prove_74 : decode cT_prove 74 = .ok (.lconst 0, 1) := by decide +kernel
theorem dT_prove_75 : decode cT_prove 75 = .ok (.lstore_n 3, 1) := by decide +kernel
theorem dT_prove_76 : decode cT_prove 76 = .ok (.iconst 0, 1) := by decide +kernel
theorem dT_prove_77 : decode cT_prove 77 = .ok (.istore 5, 2) := by decide +kernel
theorem dT_prove_79 : decode cT_prove 79 = .ok (.iload 5, 2) := by decide +kernel
theorem dT_prove_81 : decode cT_prove 81 = .ok (.bipush 16, 2) := by decide +kernel
theorem dT_prove_83 : decode cT_prove 83 = .ok (.if_icmp .ge 34, 3) := by decide +kernel
theorem dT_prove_86 : decode cT_prove 86 = .ok (.lload_n 3, 1) := by decide +kernel
theorem dT_prove_87 : decode cT_prove 87 = .ok (.aload_n 0, 1) := by decide +kernel
theorem dT_prove_88 : decode cT_prove 88 = .ok (.getfield 25, 3) := by decide +kernel
theorem dT_prove_91 : decode cT_prove 91 = .ok (.iload 5, 2) := by decide +kernel
theorem dT_prove_93 : decode cT_prove 93 = .ok (.laload, 1) := by decide +kernel
theorem dT_prove_94 : decode cT_prove 94 = .ok (.aload_n 0, 1) := by decide +kernel
theorem dT_prove_95 : decode cT_prove 95 = .ok (.getfield 83, 3) := by decide +kernel
theorem dT_prove_98 : decode cT_prove 98 = .ok (.iload 5, 2) := by decide +kernel
theorem dT_prove_100 : decode cT_prove 100 = .ok (.i2l, 1) := by decide +kernel
theorem dT_prove_101 : decode cT_prove 101 = .ok (.invokestatic 42, 3) := by decide +kernel
theorem dT_prove_104 : decode cT_prove 104 = .ok (.lmul, 1) := by decide +kernel
theorem dT_prove_105 : decode cT_prove 105 = .ok (.ladd, 1) := by decide +kernel
theorem dT_prove_106 : decode cT_prove 106 = .ok (.ldc2_w 38, 3) := by decide +kernel
theorem dT_prove_109 : decode cT_prove 109 = .ok (.lrem, 1) := by decide +kernel
theorem dT_prove_110 : decode cT_prove 110 = .ok (.lstore_n 3, 1) := by decide +kernel
theorem dT_prove_111 : decode cT_prove 111 = .ok (.iinc 5 1, 3) := by decide +kernel
theorem dT_prove_114 : decode cT_prove 114 = .ok (.goto (-35), 3) := by decide +kernel
theorem dT_prove_117 : decode cT_prove 117 = .ok (.aload_n 0, 1) := by decide +kernel
theorem dT_prove_118 : decode cT_prove 118 = .ok (.getfield 90, 3) := by decide +kernel
theorem dT_prove_121 : decode cT_prove 121 = .ok (.aload_n 0, 1) := by decide +kernel
theorem dT_prove_122 : decode cT_prove 122 = .ok (.iconst 0, 1) := by decide +kernel
theorem dT_prove_123 : decode cT_prove 123 = .ok (.invokevirtual 115, 3) := by decide +kernel
theorem dT_prove_126 : decode cT_prove 126 = .ok (.ladd, 1) := by decide +kernel
theorem dT_prove_127 : decode cT_prove 127 = .ok (.iload_n 1, 1) := by decide +kernel
theorem dT_prove_128 : decode cT_prove 128 = .ok (.i2l, 1) := by decide +kernel
theorem dT_prove_129 : decode cT_prove 129 = .ok (.aload_n 0, 1) := by decide +kernel
theorem dT_prove_130 : decode cT_prove 130 = .ok (.getfield 99, 3) := by decide +kernel
theorem dT_prove_133 : decode cT_prove 133 = .ok (.lmul, 1) := by decide +kernel
theorem dT_prove_134 : decode cT_prove 134 = .ok (.ladd, 1) := by decide +kernel
theorem dT_prove_135 : decode cT_prove 135 = .ok (.ldc2_w 38, 3) := by decide +kernel
theorem dT_prove_138 : decode cT_prove 138 = .ok (.lrem, 1) := by decide +kernel
theorem dT_prove_139 : decode cT_prove 139 = .ok (.lstore 5, 2) := by decide +kernel
theorem dT_prove_141 : decode cT_prove 141 = .ok (.aload_n 0, 1) := by decide +kernel
theorem dT_prove_142 : decode cT_prove 142 = .ok (.getfield 93, 3) := by decide +kernel
theorem dT_prove_145 : decode cT_prove 145 = .ok (.aload_n 0, 1) := by decide +kernel
theorem dT_prove_146 : decode cT_prove 146 = .ok (.iconst 1, 1) := by decide +kernel
theorem dT_prove_147 : decode cT_prove 147 = .ok (.invokevirtual 115, 3) := by decide +kernel
theorem dT_prove_150 : decode cT_prove 150 = .ok (.ladd, 1) := by decide +kernel
theorem dT_prove_151 : decode cT_prove 151 = .ok (.iload_n 2, 1) := by decide +kernel
theorem dT_prove_152 : decode cT_prove 152 = .ok (.i2l, 1) := by decide +kernel
theorem dT_prove_153 : decode cT_prove 153 = .ok (.aload_n 0, 1) := by decide +kernel
theorem dT_prove_154 : decode cT_prove 154 = .ok (.getfield 99, 3) := by decide +kernel
theorem dT_prove_157 : decode cT_prove 157 = .ok (.lmul, 1) := by decide +kernel
theorem dT_prove_158 : decode cT_prove 158 = .ok (.ladd, 1) := by decide +kernel
theorem dT_prove_159 : decode cT_prove 159 = .ok (.ldc2_w 38, 3) := by decide +kernel
theorem dT_prove_162 : decode cT_prove 162 = .ok (.lrem, 1) := by decide +kernel
theorem dT_prove_163 : decode cT_prove 163 = .ok (.lstore 7, 2) := by decide +kernel
theorem dT_prove_165 : decode cT_prove 165 = .ok (.lload_n 3, 1) := by decide +kernel
theorem dT_prove_166 : decode cT_prove 166 = .ok (.aload_n 0, 1) := by decide +kernel
theorem dT_prove_167 : decode cT_prove 167 = .ok (.getfield 102, 3) := by decide +kernel
theorem dT_prove_170 : decode cT_prove 170 = .ok (.lmul, 1) := by decide +kernel
theorem dT_prove_171 : decode cT_prove 171 = .ok (.ldc2_w 38, 3) := by decide +kernel
theorem dT_prove_174 : decode cT_prove 174 = .ok (.lrem, 1) := by decide +kernel
theorem dT_prove_175 : decode cT_prove 175 = .ok (.lstore 9, 2) := by decide +kernel
theorem dT_prove_177 : decode cT_prove 177 = .ok (.aload_n 0, 1) := by decide +kernel
theorem dT_prove_178 : decode cT_prove 178 = .ok (.getfield 57, 3) := by decide +kernel
theorem dT_prove_181 : decode cT_prove 181 = .ok (.iconst 1, 1) := by decide +kernel
theorem dT_prove_182 : decode cT_prove 182 = .ok (.iadd, 1) := by decide +kernel
theorem dT_prove_183 : decode cT_prove 183 = .ok (.istore 11, 2) := by decide +kernel
theorem dT_prove_185 : decode cT_prove 185 = .ok (.iload 11, 2) := by decide +kernel
theorem dT_prove_187 : decode cT_prove 187 = .ok (.bipush 16, 2) := by decide +kernel
theorem dT_prove_189 : decode cT_prove 189 = .ok (.if_icmp .ge 33, 3) := by decide +kernel
theorem dT_prove_192 : decode cT_prove 192 = .ok (.lload 9, 2) := by decide +kernel
theorem dT_prove_194 : decode cT_prove 194 = .ok (.aload_n 0, 1) := by decide +kernel
theorem dT_prove_195 : decode cT_prove 195 = .ok (.getfield 13, 3) := by decide +kernel
theorem dT_prove_198 : decode cT_prove 198 = .ok (.iload 11, 2) := by decide +kernel
theorem dT_prove_200 : decode cT_prove 200 = .ok (.laload, 1) := by decide +kernel
theorem dT_prove_201 : decode cT_prove 201 = .ok (.aload_n 0, 1) := by decide +kernel
theorem dT_prove_202 : decode cT_prove 202 = .ok (.getfield 19, 3) := by decide +kernel
theorem dT_prove_205 : decode cT_prove 205 = .ok (.iload 11, 2) := by decide +kernel
theorem dT_prove_207 : decode cT_prove 207 = .ok (.laload, 1) := by decide +kernel
theorem dT_prove_208 : decode cT_prove 208 = .ok (.lmul, 1) := by decide +kernel
theorem dT_prove_209 : decode cT_prove 209 = .ok (.ladd, 1) := by decide +kernel
theorem dT_prove_210 : decode cT_prove 210 = .ok (.ldc2_w 38, 3) := by decide +kernel
theorem dT_prove_213 : decode cT_prove 213 = .ok (.lrem, 1) := by decide +kernel
theorem dT_prove_214 : decode cT_prove 214 = .ok (.lstore 9, 2) := by decide +kernel
theorem dT_prove_216 : decode cT_prove 216 = .ok (.iinc 11 1, 3) := by decide +kernel
theorem dT_prove_219 : decode cT_prove 219 = .ok (.goto (-34), 3) := by decide +kernel
theorem dT_prove_222 : decode cT_prove 222 = .ok (.lload 9, 2) := by decide +kernel
theorem dT_prove_224 : decode cT_prove 224 = .ok (.aload_n 0, 1) := by decide +kernel
theorem dT_prove_225 : decode cT_prove 225 = .ok (.getfield 99, 3) := by decide +kernel
theorem dT_prove_228 : decode cT_prove 228 = .ok (.invokestatic 75, 3) := by decide +kernel
theorem dT_prove_231 : decode cT_prove 231 = .ok (.lmul, 1) := by decide +kernel
theorem dT_prove_232 : decode cT_prove 232 = .ok (.ldc2_w 38, 3) := by decide +kernel
theorem dT_prove_235 : decode cT_prove 235 = .ok (.lrem, 1) := by decide +kernel
theorem dT_prove_236 : decode cT_prove 236 = .ok (.lstore 9, 2) := by decide +kernel
theorem dT_prove_238 : decode cT_prove 238 = .ok (.lload 9, 2) := by decide +kernel
theorem dT_prove_240 : decode cT_prove 240 = .ok (.lload 5, 2) := by decide +kernel
theorem dT_prove_242 : decode cT_prove 242 = .ok (.iload_n 2, 1) := by decide +kernel
theorem dT_prove_243 : decode cT_prove 243 = .ok (.i2l, 1) := by decide +kernel
theorem dT_prove_244 : decode cT_prove 244 = .ok (.lmul, 1) := by decide +kernel
theorem dT_prove_245 : decode cT_prove 245 = .ok (.ldc2_w 38, 3) := by decide +kernel
theorem dT_prove_248 : decode cT_prove 248 = .ok (.lrem, 1) := by decide +kernel
theorem dT_prove_249 : decode cT_prove 249 = .ok (.ladd, 1) := by decide +kernel
theorem dT_prove_250 : decode cT_prove 250 = .ok (.lload 7, 2) := by decide +kernel
theorem dT_prove_252 : decode cT_prove 252 = .ok (.iload_n 1, 1) := by decide +kernel
theorem dT_prove_253 : decode cT_prove 253 = .ok (.i2l, 1) := by decide +kernel
theorem dT_prove_254 : decode cT_prove 254 = .ok (.lmul, 1) := by decide +kernel
theorem dT_prove_255 : decode cT_prove 255 = .ok (.ldc2_w 38, 3) := by decide +kernel
theorem dT_prove_258 : decode cT_prove 258 = .ok (.lrem, 1) := by decide +kernel
theorem dT_prove_259 : decode cT_prove 259 = .ok (.ladd, 1) := by decide +kernel
theorem dT_prove_260 : decode cT_prove 260 = .ok (.ldc2_w 38, 3) := by decide +kernel
theorem dT_prove_263 : decode cT_prove 263 = .ok (.lrem, 1) := by decide +kernel
theorem dT_prove_264 : decode cT_prove 264 = .ok (.lstore 9, 2) := by decide +kernel
theorem dT_prove_266 : decode cT_prove 266 = .ok (.lload 9, 2) := by decide +kernel
theorem dT_prove_268 : decode cT_prove 268 = .ok (.iload_n 1, 1) := by decide +kernel
theorem dT_prove_269 : decode cT_prove 269 = .ok (.i2l, 1) := by decide +kernel
theorem dT_prove_270 : decode cT_prove 270 = .ok (.iload_n 2, 1) := by decide +kernel
theorem dT_prove_271 : decode cT_prove 271 = .ok (.i2l, 1) := by decide +kernel
theorem dT_prove_272 : decode cT_prove 272 = .ok (.lmul, 1) := by decide +kernel
theorem dT_prove_273 : decode cT_prove 273 = .ok (.ldc2_w 38, 3) := by decide +kernel
theorem dT_prove_276 : decode cT_prove 276 = .ok (.lrem, 1) := by decide +kernel
theorem dT_prove_277 : decode cT_prove 277 = .ok (.aload_n 0, 1) := by decide +kernel
theorem dT_prove_278 : decode cT_prove 278 = .ok (.getfield 99, 3) := by decide +kernel
theorem dT_prove_281 : decode cT_prove 281 = .ok (.lmul, 1) := by decide +kernel
theorem dT_prove_282 : decode cT_prove 282 = .ok (.ldc2_w 38, 3) := by decide +kernel
theorem dT_prove_285 : decode cT_prove 285 = .ok (.lrem, 1) := by decide +kernel
theorem dT_prove_286 : decode cT_prove 286 = .ok (.invokestatic 87, 3) := by decide +kernel
theorem dT_prove_289 : decode cT_prove 289 = .ok (.lstore 9, 2) := by decide +kernel
theorem dT_prove_291 : decode cT_prove 291 = .ok (.aload_n 0, 1) := by decide +kernel
theorem dT_prove_292 : decode cT_prove 292 = .ok (.getfield 22, 3) := by decide +kernel
theorem dT_prove_295 : decode cT_prove 295 = .ok (.iconst 0, 1) := by decide +kernel
theorem dT_prove_296 : decode cT_prove 296 = .ok (.lload 5, 2) := by decide +kernel
theorem dT_prove_298 : decode cT_prove 298 = .ok (.lastore, 1) := by decide +kernel
theorem dT_prove_299 : decode cT_prove 299 = .ok (.aload_n 0, 1) := by decide +kernel
theorem dT_prove_300 : decode cT_prove 300 = .ok (.getfield 22, 3) := by decide +kernel
theorem dT_prove_303 : decode cT_prove 303 = .ok (.iconst 1, 1) := by decide +kernel
theorem dT_prove_304 : decode cT_prove 304 = .ok (.lload 7, 2) := by decide +kernel
theorem dT_prove_306 : decode cT_prove 306 = .ok (.lastore, 1) := by decide +kernel
theorem dT_prove_307 : decode cT_prove 307 = .ok (.aload_n 0, 1) := by decide +kernel
theorem dT_prove_308 : decode cT_prove 308 = .ok (.getfield 22, 3) := by decide +kernel
theorem dT_prove_311 : decode cT_prove 311 = .ok (.iconst 2, 1) := by decide +kernel
theorem dT_prove_312 : decode cT_prove 312 = .ok (.lload 9, 2) := by decide +kernel
theorem dT_prove_314 : decode cT_prove 314 = .ok (.lastore, 1) := by decide +kernel
theorem dT_prove_315 : decode cT_prove 315 = .ok (.aload_n 0, 1) := by decide +kernel
theorem dT_prove_316 : decode cT_prove 316 = .ok (.iconst 1, 1) := by decide +kernel
theorem dT_prove_317 : decode cT_prove 317 = .ok (.putfield 119, 3) := by decide +kernel
theorem dT_prove_320 : decode cT_prove 320 = .ok (.iconst 1, 1) := by decide +kernel
theorem dT_prove_321 : decode cT_prove 321 = .ok (.ireturn, 1) := by decide +kernel
theorem dT_publics_0 : decode cT_publics 0 = .ok (.aload_n 0, 1) := by decide +kernel
theorem dT_publics_1 : decode cT_publics 1 = .ok (.iload_n 1, 1) := by decide +kernel
theorem dT_publics_2 : decode cT_publics 2 = .ok (.ifCond .lt 9, 3) := by decide +kernel
theorem dT_publics_5 : decode cT_publics 5 = .ok (.iload_n 1, 1) := by decide +kernel
theorem dT_publics_6 : decode cT_publics 6 = .ok (.bipush 6, 2) := by decide +kernel
theorem dT_publics_8 : decode cT_publics 8 = .ok (.if_icmp .le 7, 3) := by decide +kernel
theorem dT_publics_11 : decode cT_publics 11 = .ok (.iconst 1, 1) := by decide +kernel
theorem dT_publics_12 : decode cT_publics 12 = .ok (.goto 4, 3) := by decide +kernel
theorem dT_publics_15 : decode cT_publics 15 = .ok (.iconst 0, 1) := by decide +kernel
theorem dT_publics_16 : decode cT_publics 16 = .ok (.putfield 34, 3) := by decide +kernel
theorem dT_publics_19 : decode cT_publics 19 = .ok (.aload_n 0, 1) := by decide +kernel
theorem dT_publics_20 : decode cT_publics 20 = .ok (.getfield 34, 3) := by decide +kernel
theorem dT_publics_23 : decode cT_publics 23 = .ok (.ifCond .le 5, 3) := by decide +kernel
theorem dT_publics_26 : decode cT_publics 26 = .ok (.iconst 0, 1) := by decide +kernel
theorem dT_publics_27 : decode cT_publics 27 = .ok (.ireturn, 1) := by decide +kernel
theorem dT_publics_28 : decode cT_publics 28 = .ok (.aload_n 0, 1) := by decide +kernel
theorem dT_publics_29 : decode cT_publics 29 = .ok (.iload_n 1, 1) := by decide +kernel
theorem dT_publics_30 : decode cT_publics 30 = .ok (.putfield 57, 3) := by decide +kernel
theorem dT_publics_33 : decode cT_publics 33 = .ok (.aload_n 0, 1) := by decide +kernel
theorem dT_publics_34 : decode cT_publics 34 = .ok (.iconst 0, 1) := by decide +kernel
theorem dT_publics_35 : decode cT_publics 35 = .ok (.putfield 53, 3) := by decide +kernel
theorem dT_publics_38 : decode cT_publics 38 = .ok (.iconst 1, 1) := by decide +kernel
theorem dT_publics_39 : decode cT_publics 39 = .ok (.ireturn, 1) := by decide +kernel
theorem dT_quotient_0 : decode cT_quotient 0 = .ok (.aload_n 0, 1) := by decide +kernel
theorem dT_quotient_1 : decode cT_quotient 1 = .ok (.iconst 0, 1) := by decide +kernel
theorem dT_quotient_2 : decode cT_quotient 2 = .ok (.putfield 34, 3) := by decide +kernel
theorem dT_quotient_5 : decode cT_quotient 5 = .ok (.aload_n 0, 1) := by decide +kernel
theorem dT_quotient_6 : decode cT_quotient 6 = .ok (.getfield 119, 3) := by decide +kernel
theorem dT_quotient_9 : decode cT_quotient 9 = .ok (.ifCond .eq 13, 3) := by decide +kernel
theorem dT_quotient_12 : decode cT_quotient 12 = .ok (.iload_n 1, 1) := by decide +kernel
theorem dT_quotient_13 : decode cT_quotient 13 = .ok (.ifCond .lt 9, 3) := by decide +kernel
theorem dT_quotient_16 : decode cT_quotient 16 = .ok (.iload_n 1, 1) := by decide +kernel
theorem dT_quotient_17 : decode cT_quotient 17 = .ok (.bipush 15, 2) := by decide +kernel
theorem dT_quotient_19 : decode cT_quotient 19 = .ok (.if_icmp .le 7, 3) := by decide +kernel
theorem dT_quotient_22 : decode cT_quotient 22 = .ok (.iconst (-1), 1) := by decide +kernel
theorem dT_quotient_23 : decode cT_quotient 23 = .ok (.goto 10, 3) := by decide +kernel
theorem dT_quotient_26 : decode cT_quotient 26 = .ok (.aload_n 0, 1) := by decide +kernel
theorem dT_quotient_27 : decode cT_quotient 27 = .ok (.getfield 25, 3) := by decide +kernel
theorem dT_quotient_30 : decode cT_quotient 30 = .ok (.iload_n 1, 1) := by decide +kernel
theorem dT_quotient_31 : decode cT_quotient 31 = .ok (.laload, 1) := by decide +kernel
theorem dT_quotient_32 : decode cT_quotient 32 = .ok (.l2i, 1) := by decide +kernel
theorem dT_quotient_33 : decode cT_quotient 33 = .ok (.ireturn, 1) := by decide +kernel
theorem dT_setup_0 : decode cT_setup 0 = .ok (.iload_n 1, 1) := by decide +kernel
theorem dT_setup_1 : decode cT_setup 1 = .ok (.invokestatic 49, 3) := by decide +kernel
theorem dT_setup_4 : decode cT_setup 4 = .ok (.ifCond .eq 59, 3) := by decide +kernel
theorem dT_setup_7 : decode cT_setup 7 = .ok (.iload_n 2, 1) := by decide +kernel
theorem dT_setup_8 : decode cT_setup 8 = .ok (.invokestatic 49, 3) := by decide +kernel
theorem dT_setup_11 : decode cT_setup 11 = .ok (.ifCond .eq 52, 3) := by decide +kernel
theorem dT_setup_14 : decode cT_setup 14 = .ok (.iload_n 3, 1) := by decide +kernel
theorem dT_setup_15 : decode cT_setup 15 = .ok (.invokestatic 49, 3) := by decide +kernel
theorem dT_setup_18 : decode cT_setup 18 = .ok (.ifCond .eq 45, 3) := by decide +kernel
theorem dT_setup_21 : decode cT_setup 21 = .ok (.iload 4, 2) := by decide +kernel
theorem dT_setup_23 : decode cT_setup 23 = .ok (.invokestatic 49, 3) := by decide +kernel
theorem dT_setup_26 : decode cT_setup 26 = .ok (.ifCond .eq 37, 3) := by decide +kernel
theorem dT_setup_29 : decode cT_setup 29 = .ok (.iload 5, 2) := by decide +kernel
theorem dT_setup_31 : decode cT_setup 31 = .ok (.invokestatic 49, 3) := by decide +kernel
theorem dT_setup_34 : decode cT_setup 34 = .ok (.ifCond .eq 29, 3) := by decide +kernel
theorem dT_setup_37 : decode cT_setup 37 = .ok (.iload_n 1, 1) := by decide +kernel
theorem dT_setup_38 : decode cT_setup 38 = .ok (.ifCond .le 25, 3) := by decide +kernel
theorem dT_setup_41 : decode cT_setup 41 = .ok (.iload_n 2, 1) := by decide +kernel
theorem dT_setup_42 : decode cT_setup 42 = .ok (.ifCond .le 21, 3) := by decide +kernel
theorem dT_setup_45 : decode cT_setup 45 = .ok (.iload_n 3, 1) := by decide +kernel
theorem dT_setup_46 : decode cT_setup 46 = .ok (.ifCond .le 17, 3) := by decide +kernel
theorem dT_setup_49 : decode cT_setup 49 = .ok (.iload 4, 2) := by decide +kernel
theorem dT_setup_51 : decode cT_setup 51 = .ok (.ifCond .le 12, 3) := by decide +kernel
theorem dT_setup_54 : decode cT_setup 54 = .ok (.iload 5, 2) := by decide +kernel
theorem dT_setup_56 : decode cT_setup 56 = .ok (.ifCond .le 7, 3) := by decide +kernel
theorem dT_setup_59 : decode cT_setup 59 = .ok (.iconst 1, 1) := by decide +kernel
theorem dT_setup_60 : decode cT_setup 60 = .ok (.goto 4, 3) := by decide +kernel
theorem dT_setup_63 : decode cT_setup 63 = .ok (.iconst 0, 1) := by decide +kernel
theorem dT_setup_64 : decode cT_setup 64 = .ok (.istore 6, 2) := by decide +kernel
theorem dT_setup_66 : decode cT_setup 66 = .ok (.iload 6, 2) := by decide +kernel
theorem dT_setup_68 : decode cT_setup 68 = .ok (.ifCond .eq 20, 3) := by decide +kernel
theorem dT_setup_71 : decode cT_setup 71 = .ok (.iload_n 1, 1) := by decide +kernel
theorem dT_setup_72 : decode cT_setup 72 = .ok (.i2l, 1) := by decide +kernel
theorem dT_setup_73 : decode cT_setup 73 = .ok (.aload_n 0, 1) := by decide +kernel
theorem dT_setup_74 : decode cT_setup 74 = .ok (.invokevirtual 68, 3) := by decide +kernel
theorem dT_setup_77 : decode cT_setup 77 = .ok (.i2l, 1) := by decide +kernel
theorem dT_setup_78 : decode cT_setup 78 = .ok (.invokestatic 42, 3) := by decide +kernel
theorem dT_setup_81 : decode cT_setup 81 = .ok (.lconst 1, 1) := by decide +kernel
theorem dT_setup_82 : decode cT_setup 82 = .ok (.invokestatic 87, 3) := by decide +kernel
theorem dT_setup_85 : decode cT_setup 85 = .ok (.goto 4, 3) := by decide +kernel
theorem dT_setup_88 : decode cT_setup 88 = .ok (.lconst 0, 1) := by decide +kernel
theorem dT_setup_89 : decode cT_setup 89 = .ok (.lstore 7, 2) := by decide +kernel
theorem dT_setup_91 : decode cT_setup 91 = .ok (.aload_n 0, 1) := by decide +kernel
theorem dT_setup_92 : decode cT_setup 92 = .ok (.iload 6, 2) := by decide +kernel
theorem dT_setup_94 : decode cT_setup 94 = .ok (.ifCond .ne 7, 3) := by decide +kernel
theorem dT_setup_97 : decode cT_setup 97 = .ok (.iconst 1, 1) := by decide +kernel
theorem dT_setup_98 : decode cT_setup 98 = .ok (.goto 15, 3) := by decide +kernel
theorem dT_setup_101 : decode cT_setup 101 = .ok (.lload 7, 2) := by decide +kernel
theorem dT_setup_103 : decode cT_setup 103 = .ok (.lconst 0, 1) := by decide +kernel
theorem dT_setup_104 : decode cT_setup 104 = .ok (.lcmp, 1) := by decide +kernel
theorem dT_setup_105 : decode cT_setup 105 = .ok (.ifCond .ne 7, 3) := by decide +kernel
theorem dT_setup_108 : decode cT_setup 108 = .ok (.iconst 2, 1) := by decide +kernel
theorem dT_setup_109 : decode cT_setup 109 = .ok (.goto 4, 3) := by decide +kernel
theorem dT_setup_112 : decode cT_setup 112 = .ok (.iconst 0, 1) := by decide +kernel
theorem dT_setup_113 : decode cT_setup 113 = .ok (.putfield 34, 3) := by decide +kernel
theorem dT_setup_116 : decode cT_setup 116 = .ok (.aload_n 0, 1) := by decide +kernel
theorem dT_setup_117 : decode cT_setup 117 = .ok (.getfield 34, 3) := by decide +kernel
theorem dT_setup_120 : decode cT_setup 120 = .ok (.ifCond .le 5, 3) := by decide +kernel
theorem dT_setup_123 : decode cT_setup 123 = .ok (.iconst 0, 1) := by decide +kernel
theorem dT_setup_124 : decode cT_setup 124 = .ok (.ireturn, 1) := by decide +kernel
theorem dT_setup_125 : decode cT_setup 125 = .ok (.aload_n 0, 1) := by decide +kernel
theorem dT_setup_126 : decode cT_setup 126 = .ok (.iconst 1, 1) := by decide +kernel
theorem dT_setup_127 : decode cT_setup 127 = .ok (.putfield 53, 3) := by decide +kernel
theorem dT_setup_130 : decode cT_setup 130 = .ok (.aload_n 0, 1) := by decide +kernel
theorem dT_setup_131 : decode cT_setup 131 = .ok (.iload_n 1, 1) := by decide +kernel
theorem dT_setup_132 : decode cT_setup 132 = .ok (.i2l, 1) := by decide +kernel
theorem dT_setup_133 : decode cT_setup 133 = .ok (.putfield 83, 3) := by decide +kernel
theorem dT_setup_136 : decode cT_setup 136 = .ok (.aload_n 0, 1) := by decide +kernel
theorem dT_setup_137 : decode cT_setup 137 = .ok (.iload_n 2, 1) := by decide +kernel
theorem dT_setup_138 : decode cT_setup 138 = .ok (.i2l, 1) := by decide +kernel
theorem dT_setup_139 : decode cT_setup 139 = .ok (.putfield 90, 3) := by decide +kernel
theorem dT_setup_142 : decode cT_setup 142 = .ok (.aload_n 0, 1) := by decide +kernel
theorem dT_setup_143 : decode cT_setup 143 = .ok (.iload_n 3, 1) := by decide +kernel
theorem dT_setup_144 : decode cT_setup 144 = .ok (.i2l, 1) := by decide +kernel
theorem dT_setup_145 : decode cT_setup 145 = .ok (.putfield 93, 3) := by decide +kernel
theorem dT_setup_148 : decode cT_setup 148 = .ok (.aload_n 0, 1) := by decide +kernel
theorem dT_setup_149 : decode cT_setup 149 = .ok (.iload 4, 2) := by decide +kernel
theorem dT_setup_151 : decode cT_setup 151 = .ok (.i2l, 1) := by decide +kernel
theorem dT_setup_152 : decode cT_setup 152 = .ok (.putfield 96, 3) := by decide +kernel
theorem dT_setup_155 : decode cT_setup 155 = .ok (.aload_n 0, 1) := by decide +kernel
theorem dT_setup_156 : decode cT_setup 156 = .ok (.iload 5, 2) := by decide +kernel
theorem dT_setup_158 : decode cT_setup 158 = .ok (.i2l, 1) := by decide +kernel
theorem dT_setup_159 : decode cT_setup 159 = .ok (.putfield 99, 3) := by decide +kernel
theorem dT_setup_162 : decode cT_setup 162 = .ok (.aload_n 0, 1) := by decide +kernel
theorem dT_setup_163 : decode cT_setup 163 = .ok (.lload 7, 2) := by decide +kernel
theorem dT_setup_165 : decode cT_setup 165 = .ok (.putfield 102, 3) := by decide +kernel
theorem dT_setup_168 : decode cT_setup 168 = .ok (.iconst 0, 1) := by decide +kernel
theorem dT_setup_169 : decode cT_setup 169 = .ok (.istore 9, 2) := by decide +kernel
theorem dT_setup_171 : decode cT_setup 171 = .ok (.iload 9, 2) := by decide +kernel
theorem dT_setup_173 : decode cT_setup 173 = .ok (.bipush 16, 2) := by decide +kernel
theorem dT_setup_175 : decode cT_setup 175 = .ok (.if_icmp .ge 69, 3) := by decide +kernel
theorem dT_setup_178 : decode cT_setup 178 = .ok (.aload_n 0, 1) := by decide +kernel
theorem dT_setup_179 : decode cT_setup 179 = .ok (.getfield 93, 3) := by decide +kernel
theorem dT_setup_182 : decode cT_setup 182 = .ok (.aload_n 0, 1) := by decide +kernel
theorem dT_setup_183 : decode cT_setup 183 = .ok (.iconst 0, 1) := by decide +kernel
theorem dT_setup_184 : decode cT_setup 184 = .ok (.iload 9, 2) := by decide +kernel
theorem dT_setup_186 : decode cT_setup 186 = .ok (.invokevirtual 105, 3) := by decide +kernel
theorem dT_setup_189 : decode cT_setup 189 = .ok (.lmul, 1) := by decide +kernel
theorem dT_setup_190 : decode cT_setup 190 = .ok (.ldc2_w 38, 3) := by decide +kernel
theorem dT_setup_193 : decode cT_setup 193 = .ok (.lrem, 1) := by decide +kernel
theorem dT_setup_194 : decode cT_setup 194 = .ok (.lstore 10, 2) := by decide +kernel
theorem dT_setup_196 : decode cT_setup 196 = .ok (.aload_n 0, 1) := by decide +kernel
theorem dT_setup_197 : decode cT_setup 197 = .ok (.getfield 90, 3) := by decide +kernel
theorem dT_setup_200 : decode cT_setup 200 = .ok (.aload_n 0, 1) := by decide +kernel
theorem dT_setup_201 : decode cT_setup 201 = .ok (.iconst 1, 1) := by decide +kernel
theorem dT_setup_202 : decode cT_setup 202 = .ok (.iload 9, 2) := by decide +kernel
theorem dT_setup_204 : decode cT_setup 204 = .ok (.invokevirtual 105, 3) := by decide +kernel
theorem dT_setup_207 : decode cT_setup 207 = .ok (.lmul, 1) := by decide +kernel
theorem dT_setup_208 : decode cT_setup 208 = .ok (.ldc2_w 38, 3) := by decide +kernel
theorem dT_setup_211 : decode cT_setup 211 = .ok (.lrem, 1) := by decide +kernel
theorem dT_setup_212 : decode cT_setup 212 = .ok (.lstore 12, 2) := by decide +kernel
theorem dT_setup_214 : decode cT_setup 214 = .ok (.aload_n 0, 1) := by decide +kernel
theorem dT_setup_215 : decode cT_setup 215 = .ok (.getfield 19, 3) := by decide +kernel
theorem dT_setup_218 : decode cT_setup 218 = .ok (.iload 9, 2) := by decide +kernel
theorem dT_setup_220 : decode cT_setup 220 = .ok (.lload 10, 2) := by decide +kernel
theorem dT_setup_222 : decode cT_setup 222 = .ok (.lload 12, 2) := by decide +kernel
theorem dT_setup_224 : decode cT_setup 224 = .ok (.ladd, 1) := by decide +kernel
theorem dT_setup_225 : decode cT_setup 225 = .ok (.aload_n 0, 1) := by decide +kernel
theorem dT_setup_226 : decode cT_setup 226 = .ok (.iconst 2, 1) := by decide +kernel
theorem dT_setup_227 : decode cT_setup 227 = .ok (.iload 9, 2) := by decide +kernel
theorem dT_setup_229 : decode cT_setup 229 = .ok (.invokevirtual 105, 3) := by decide +kernel
theorem dT_setup_232 : decode cT_setup 232 = .ok (.ladd, 1) := by decide +kernel
theorem dT_setup_233 : decode cT_setup 233 = .ok (.ldc2_w 38, 3) := by decide +kernel
theorem dT_setup_236 : decode cT_setup 236 = .ok (.lrem, 1) := by decide +kernel
theorem dT_setup_237 : decode cT_setup 237 = .ok (.lastore, 1) := by decide +kernel
theorem dT_setup_238 : decode cT_setup 238 = .ok (.iinc 9 1, 3) := by decide +kernel
theorem dT_setup_241 : decode cT_setup 241 = .ok (.goto (-70), 3) := by decide +kernel
theorem dT_setup_244 : decode cT_setup 244 = .ok (.aload_n 0, 1) := by decide +kernel
theorem dT_setup_245 : decode cT_setup 245 = .ok (.invokevirtual 68, 3) := by decide +kernel
theorem dT_setup_248 : decode cT_setup 248 = .ok (.ireturn, 1) := by decide +kernel
theorem dT_size_0 : decode cT_size 0 = .ok (.aload_n 0, 1) := by decide +kernel
theorem dT_size_1 : decode cT_size 1 = .ok (.getfield 46, 3) := by decide +kernel
theorem dT_size_4 : decode cT_size 4 = .ok (.iconst 2, 1) := by decide +kernel
theorem dT_size_5 : decode cT_size 5 = .ok (.if_icmp .gt 7, 3) := by decide +kernel
theorem dT_size_8 : decode cT_size 8 = .ok (.iconst 2, 1) := by decide +kernel
theorem dT_size_9 : decode cT_size 9 = .ok (.goto 31, 3) := by decide +kernel
theorem dT_size_12 : decode cT_size 12 = .ok (.aload_n 0, 1) := by decide +kernel
theorem dT_size_13 : decode cT_size 13 = .ok (.getfield 46, 3) := by decide +kernel
theorem dT_size_16 : decode cT_size 16 = .ok (.iconst 4, 1) := by decide +kernel
theorem dT_size_17 : decode cT_size 17 = .ok (.if_icmp .gt 7, 3) := by decide +kernel
theorem dT_size_20 : decode cT_size 20 = .ok (.iconst 4, 1) := by decide +kernel
theorem dT_size_21 : decode cT_size 21 = .ok (.goto 19, 3) := by decide +kernel
theorem dT_size_24 : decode cT_size 24 = .ok (.aload_n 0, 1) := by decide +kernel
theorem dT_size_25 : decode cT_size 25 = .ok (.getfield 46, 3) := by decide +kernel
theorem dT_size_28 : decode cT_size 28 = .ok (.bipush 8, 2) := by decide +kernel
theorem dT_size_30 : decode cT_size 30 = .ok (.if_icmp .gt 8, 3) := by decide +kernel
theorem dT_size_33 : decode cT_size 33 = .ok (.bipush 8, 2) := by decide +kernel
theorem dT_size_35 : decode cT_size 35 = .ok (.goto 5, 3) := by decide +kernel
theorem dT_size_38 : decode cT_size 38 = .ok (.bipush 16, 2) := by decide +kernel
theorem dT_size_40 : decode cT_size 40 = .ok (.ireturn, 1) := by decide +kernel
theorem dT_sum_0 : decode cT_sum 0 = .ok (.iconst 0, 1) := by decide +kernel
theorem dT_sum_1 : decode cT_sum 1 = .ok (.istore_n 2, 1) := by decide +kernel
theorem dT_sum_2 : decode cT_sum 2 = .ok (.iload_n 2, 1) := by decide +kernel
theorem dT_sum_3 : decode cT_sum 3 = .ok (.bipush 16, 2) := by decide +kernel
theorem dT_sum_5 : decode cT_sum 5 = .ok (.if_icmp .ge 70, 3) := by decide +kernel
theorem dT_sum_8 : decode cT_sum 8 = .ok (.lconst 0, 1) := by decide +kernel
theorem dT_sum_9 : decode cT_sum 9 = .ok (.lstore_n 3, 1) := by decide +kernel
theorem dT_sum_10 : decode cT_sum 10 = .ok (.iconst 0, 1) := by decide +kernel
theorem dT_sum_11 : decode cT_sum 11 = .ok (.istore 5, 2) := by decide +kernel
theorem dT_sum_13 : decode cT_sum 13 = .ok (.iload 5, 2) := by decide +kernel
theorem dT_sum_15 : decode cT_sum 15 = .ok (.bipush 16, 2) := by decide +kernel
theorem dT_sum_17 : decode cT_sum 17 = .ok (.if_icmp .ge 40, 3) := by decide +kernel
theorem dT_sum_20 : decode cT_sum 20 = .ok (.iload_n 2, 1) := by decide +kernel
theorem dT_sum_21 : decode cT_sum 21 = .ok (.aload_n 0, 1) := by decide +kernel
theorem dT_sum_22 : decode cT_sum 22 = .ok (.invokevirtual 68, 3) := by decide +kernel
theorem dT_sum_25 : decode cT_sum 25 = .ok (.if_icmp .ge 32, 3) := by decide +kernel
theorem dT_sum_28 : decode cT_sum 28 = .ok (.lload_n 3, 1) := by decide +kernel
theorem dT_sum_29 : decode cT_sum 29 = .ok (.aload_n 0, 1) := by decide +kernel
theorem dT_sum_30 : decode cT_sum 30 = .ok (.getfield 13, 3) := by decide +kernel
theorem dT_sum_33 : decode cT_sum 33 = .ok (.iload 5, 2) := by decide +kernel
theorem dT_sum_35 : decode cT_sum 35 = .ok (.laload, 1) := by decide +kernel
theorem dT_sum_36 : decode cT_sum 36 = .ok (.aload_n 0, 1) := by decide +kernel
theorem dT_sum_37 : decode cT_sum 37 = .ok (.iload_n 1, 1) := by decide +kernel
theorem dT_sum_38 : decode cT_sum 38 = .ok (.iload 5, 2) := by decide +kernel
theorem dT_sum_40 : decode cT_sum 40 = .ok (.iload_n 2, 1) := by decide +kernel
theorem dT_sum_41 : decode cT_sum 41 = .ok (.invokevirtual 79, 3) := by decide +kernel
theorem dT_sum_44 : decode cT_sum 44 = .ok (.lmul, 1) := by decide +kernel
theorem dT_sum_45 : decode cT_sum 45 = .ok (.ladd, 1) := by decide +kernel
theorem dT_sum_46 : decode cT_sum 46 = .ok (.ldc2_w 38, 3) := by decide +kernel
theorem dT_sum_49 : decode cT_sum 49 = .ok (.lrem, 1) := by decide +kernel
theorem dT_sum_50 : decode cT_sum 50 = .ok (.lstore_n 3, 1) := by decide +kernel
theorem dT_sum_51 : decode cT_sum 51 = .ok (.iinc 5 1, 3) := by decide +kernel
theorem dT_sum_54 : decode cT_sum 54 = .ok (.goto (-41), 3) := by decide +kernel
theorem dT_sum_57 : decode cT_sum 57 = .ok (.aload_n 0, 1) := by decide +kernel
theorem dT_sum_58 : decode cT_sum 58 = .ok (.getfield 28, 3) := by decide +kernel
theorem dT_sum_61 : decode cT_sum 61 = .ok (.bipush 16, 2) := by decide +kernel
theorem dT_sum_63 : decode cT_sum 63 = .ok (.iload_n 1, 1) := by decide +kernel
theorem dT_sum_64 : decode cT_sum 64 = .ok (.imul, 1) := by decide +kernel
theorem dT_sum_65 : decode cT_sum 65 = .ok (.iload_n 2, 1) := by decide +kernel
theorem dT_sum_66 : decode cT_sum 66 = .ok (.iadd, 1) := by decide +kernel
theorem dT_sum_67 : decode cT_sum 67 = .ok (.lload_n 3, 1) := by decide +kernel
theorem dT_sum_68 : decode cT_sum 68 = .ok (.lastore, 1) := by decide +kernel
theorem dT_sum_69 : decode cT_sum 69 = .ok (.iinc 2 1, 3) := by decide +kernel
theorem dT_sum_72 : decode cT_sum 72 = .ok (.goto (-70), 3) := by decide +kernel
theorem dT_sum_75 : decode cT_sum 75 = .ok (.return_, 1) := by decide +kernel
theorem dT_sumAtTau_0 : decode cT_sumAtTau 0 = .ok (.lconst 0, 1) := by decide +kernel
theorem dT_sumAtTau_1 : decode cT_sumAtTau 1 = .ok (.lstore_n 2, 1) := by decide +kernel
theorem dT_sumAtTau_2 : decode cT_sumAtTau 2 = .ok (.iconst 0, 1) := by decide +kernel
theorem dT_sumAtTau_3 : decode cT_sumAtTau 3 = .ok (.istore 4, 2) := by decide +kernel
theorem dT_sumAtTau_5 : decode cT_sumAtTau 5 = .ok (.iload 4, 2) := by decide +kernel
theorem dT_sumAtTau_7 : decode cT_sumAtTau 7 = .ok (.aload_n 0, 1) := by decide +kernel
theorem dT_sumAtTau_8 : decode cT_sumAtTau 8 = .ok (.invokevirtual 68, 3) := by decide +kernel
theorem dT_sumAtTau_11 : decode cT_sumAtTau 11 = .ok (.if_icmp .ge 39, 3) := by decide +kernel
theorem dT_sumAtTau_14 : decode cT_sumAtTau 14 = .ok (.lload_n 2, 1) := by decide +kernel
theorem dT_sumAtTau_15 : decode cT_sumAtTau 15 = .ok (.aload_n 0, 1) := by decide +kernel
theorem dT_sumAtTau_16 : decode cT_sumAtTau 16 = .ok (.getfield 28, 3) := by decide +kernel
theorem dT_sumAtTau_19 : decode cT_sumAtTau 19 = .ok (.bipush 16, 2) := by decide +kernel
theorem dT_sumAtTau_21 : decode cT_sumAtTau 21 = .ok (.iload_n 1, 1) := by decide +kernel
theorem dT_sumAtTau_22 : decode cT_sumAtTau 22 = .ok (.imul, 1) := by decide +kernel
theorem dT_sumAtTau_23 : decode cT_sumAtTau 23 = .ok (.iload 4, 2) := by decide +kernel
theorem dT_sumAtTau_25 : decode cT_sumAtTau 25 = .ok (.iadd, 1) := by decide +kernel
theorem dT_sumAtTau_26 : decode cT_sumAtTau 26 = .ok (.laload, 1) := by decide +kernel
theorem dT_sumAtTau_27 : decode cT_sumAtTau 27 = .ok (.aload_n 0, 1) := by decide +kernel
theorem dT_sumAtTau_28 : decode cT_sumAtTau 28 = .ok (.getfield 83, 3) := by decide +kernel
theorem dT_sumAtTau_31 : decode cT_sumAtTau 31 = .ok (.iload 4, 2) := by decide +kernel
theorem dT_sumAtTau_33 : decode cT_sumAtTau 33 = .ok (.i2l, 1) := by decide +kernel
theorem dT_sumAtTau_34 : decode cT_sumAtTau 34 = .ok (.invokestatic 42, 3) := by decide +kernel
theorem dT_sumAtTau_37 : decode cT_sumAtTau 37 = .ok (.lmul, 1) := by decide +kernel
theorem dT_sumAtTau_38 : decode cT_sumAtTau 38 = .ok (.ladd, 1) := by decide +kernel
theorem dT_sumAtTau_39 : decode cT_sumAtTau 39 = .ok (.ldc2_w 38, 3) := by decide +kernel
theorem dT_sumAtTau_42 : decode cT_sumAtTau 42 = .ok (.lrem, 1) := by decide +kernel
theorem dT_sumAtTau_43 : decode cT_sumAtTau 43 = .ok (.lstore_n 2, 1) := by decide +kernel
theorem dT_sumAtTau_44 : decode cT_sumAtTau 44 = .ok (.iinc 4 1, 3) := by decide +kernel
theorem dT_sumAtTau_47 : decode cT_sumAtTau 47 = .ok (.goto (-42), 3) := by decide +kernel
theorem dT_sumAtTau_50 : decode cT_sumAtTau 50 = .ok (.lload_n 2, 1) := by decide +kernel
theorem dT_sumAtTau_51 : decode cT_sumAtTau 51 = .ok (.lreturn, 1) := by decide +kernel
theorem dT_sumOf_0 : decode cT_sumOf 0 = .ok (.lconst 0, 1) := by decide +kernel
theorem dT_sumOf_1 : decode cT_sumOf 1 = .ok (.lstore_n 3, 1) := by decide +kernel
theorem dT_sumOf_2 : decode cT_sumOf 2 = .ok (.iconst 0, 1) := by decide +kernel
theorem dT_sumOf_3 : decode cT_sumOf 3 = .ok (.istore 5, 2) := by decide +kernel
theorem dT_sumOf_5 : decode cT_sumOf 5 = .ok (.iload 5, 2) := by decide +kernel
theorem dT_sumOf_7 : decode cT_sumOf 7 = .ok (.bipush 16, 2) := by decide +kernel
theorem dT_sumOf_9 : decode cT_sumOf 9 = .ok (.if_icmp .ge 41, 3) := by decide +kernel
theorem dT_sumOf_12 : decode cT_sumOf 12 = .ok (.lload_n 3, 1) := by decide +kernel
theorem dT_sumOf_13 : decode cT_sumOf 13 = .ok (.aload_n 0, 1) := by decide +kernel
theorem dT_sumOf_14 : decode cT_sumOf 14 = .ok (.getfield 7, 3) := by decide +kernel
theorem dT_sumOf_17 : decode cT_sumOf 17 = .ok (.bipush 48, 2) := by decide +kernel
theorem dT_sumOf_19 : decode cT_sumOf 19 = .ok (.iload_n 1, 1) := by decide +kernel
theorem dT_sumOf_20 : decode cT_sumOf 20 = .ok (.imul, 1) := by decide +kernel
theorem dT_sumOf_21 : decode cT_sumOf 21 = .ok (.bipush 16, 2) := by decide +kernel
theorem dT_sumOf_23 : decode cT_sumOf 23 = .ok (.iload_n 2, 1) := by decide +kernel
theorem dT_sumOf_24 : decode cT_sumOf 24 = .ok (.imul, 1) := by decide +kernel
theorem dT_sumOf_25 : decode cT_sumOf 25 = .ok (.iadd, 1) := by decide +kernel
theorem dT_sumOf_26 : decode cT_sumOf 26 = .ok (.iload 5, 2) := by decide +kernel
theorem dT_sumOf_28 : decode cT_sumOf 28 = .ok (.iadd, 1) := by decide +kernel
theorem dT_sumOf_29 : decode cT_sumOf 29 = .ok (.laload, 1) := by decide +kernel
theorem dT_sumOf_30 : decode cT_sumOf 30 = .ok (.aload_n 0, 1) := by decide +kernel
theorem dT_sumOf_31 : decode cT_sumOf 31 = .ok (.getfield 13, 3) := by decide +kernel
theorem dT_sumOf_34 : decode cT_sumOf 34 = .ok (.iload 5, 2) := by decide +kernel
theorem dT_sumOf_36 : decode cT_sumOf 36 = .ok (.laload, 1) := by decide +kernel
theorem dT_sumOf_37 : decode cT_sumOf 37 = .ok (.lmul, 1) := by decide +kernel
theorem dT_sumOf_38 : decode cT_sumOf 38 = .ok (.ladd, 1) := by decide +kernel
theorem dT_sumOf_39 : decode cT_sumOf 39 = .ok (.ldc2_w 38, 3) := by decide +kernel
theorem dT_sumOf_42 : decode cT_sumOf 42 = .ok (.lrem, 1) := by decide +kernel
theorem dT_sumOf_43 : decode cT_sumOf 43 = .ok (.lstore_n 3, 1) := by decide +kernel
theorem dT_sumOf_44 : decode cT_sumOf 44 = .ok (.iinc 5 1, 3) := by decide +kernel
theorem dT_sumOf_47 : decode cT_sumOf 47 = .ok (.goto (-42), 3) := by decide +kernel
theorem dT_sumOf_50 : decode cT_sumOf 50 = .ok (.lload_n 3, 1) := by decide +kernel
theorem dT_sumOf_51 : decode cT_sumOf 51 = .ok (.lreturn, 1) := by decide +kernel
theorem dT_term_0 : decode cT_term 0 = .ok (.aload_n 0, 1) := by decide +kernel
theorem dT_term_1 : decode cT_term 1 = .ok (.iload_n 1, 1) := by decide +kernel
theorem dT_term_2 : decode cT_term 2 = .ok (.ifCond .lt 25, 3) := by decide +kernel
theorem dT_term_5 : decode cT_term 5 = .ok (.iload_n 1, 1) := by decide +kernel
theorem dT_term_6 : decode cT_term 6 = .ok (.iconst 2, 1) := by decide +kernel
theorem dT_term_7 : decode cT_term 7 = .ok (.if_icmp .gt 20, 3) := by decide +kernel
theorem dT_term_10 : decode cT_term 10 = .ok (.iload_n 2, 1) := by decide +kernel
theorem dT_term_11 : decode cT_term 11 = .ok (.ifCond .lt 16, 3) := by decide +kernel
theorem dT_term_14 : decode cT_term 14 = .ok (.iload_n 2, 1) := by decide +kernel
theorem dT_term_15 : decode cT_term 15 = .ok (.bipush 15, 2) := by decide +kernel
theorem dT_term_17 : decode cT_term 17 = .ok (.if_icmp .gt 10, 3) := by decide +kernel
theorem dT_term_20 : decode cT_term 20 = .ok (.iload_n 3, 1) := by decide +kernel
theorem dT_term_21 : decode cT_term 21 = .ok (.invokestatic 49, 3) := by decide +kernel
theorem dT_term_24 : decode cT_term 24 = .ok (.ifCond .ne 7, 3) := by decide +kernel
theorem dT_term_27 : decode cT_term 27 = .ok (.iconst 1, 1) := by decide +kernel
theorem dT_term_28 : decode cT_term 28 = .ok (.goto 4, 3) := by decide +kernel
theorem dT_term_31 : decode cT_term 31 = .ok (.iconst 0, 1) := by decide +kernel
theorem dT_term_32 : decode cT_term 32 = .ok (.putfield 34, 3) := by decide +kernel
theorem dT_term_35 : decode cT_term 35 = .ok (.aload_n 0, 1) := by decide +kernel
theorem dT_term_36 : decode cT_term 36 = .ok (.getfield 34, 3) := by decide +kernel
theorem dT_term_39 : decode cT_term 39 = .ok (.ifCond .le 5, 3) := by decide +kernel
theorem dT_term_42 : decode cT_term 42 = .ok (.iconst 0, 1) := by decide +kernel
theorem dT_term_43 : decode cT_term 43 = .ok (.ireturn, 1) := by decide +kernel
theorem dT_term_44 : decode cT_term 44 = .ok (.bipush 48, 2) := by decide +kernel
theorem dT_term_46 : decode cT_term 46 = .ok (.aload_n 0, 1) := by decide +kernel
theorem dT_term_47 : decode cT_term 47 = .ok (.getfield 46, 3) := by decide +kernel
theorem dT_term_50 : decode cT_term 50 = .ok (.imul, 1) := by decide +kernel
theorem dT_term_51 : decode cT_term 51 = .ok (.bipush 16, 2) := by decide +kernel
theorem dT_term_53 : decode cT_term 53 = .ok (.iload_n 1, 1) := by decide +kernel
theorem dT_term_54 : decode cT_term 54 = .ok (.imul, 1) := by decide +kernel
theorem dT_term_55 : decode cT_term 55 = .ok (.iadd, 1) := by decide +kernel
theorem dT_term_56 : decode cT_term 56 = .ok (.iload_n 2, 1) := by decide +kernel
theorem dT_term_57 : decode cT_term 57 = .ok (.iadd, 1) := by decide +kernel
theorem dT_term_58 : decode cT_term 58 = .ok (.istore 4, 2) := by decide +kernel
theorem dT_term_60 : decode cT_term 60 = .ok (.aload_n 0, 1) := by decide +kernel
theorem dT_term_61 : decode cT_term 61 = .ok (.getfield 7, 3) := by decide +kernel
theorem dT_term_64 : decode cT_term 64 = .ok (.iload 4, 2) := by decide +kernel
theorem dT_term_66 : decode cT_term 66 = .ok (.aload_n 0, 1) := by decide +kernel
theorem dT_term_67 : decode cT_term 67 = .ok (.getfield 7, 3) := by decide +kernel
theorem dT_term_70 : decode cT_term 70 = .ok (.iload 4, 2) := by decide +kernel
theorem dT_term_72 : decode cT_term 72 = .ok (.laload, 1) := by decide +kernel
theorem dT_term_73 : decode cT_term 73 = .ok (.iload_n 3, 1) := by decide +kernel
theorem dT_term_74 : decode cT_term 74 = .ok (.i2l, 1) := by decide +kernel
theorem dT_term_75 : decode cT_term 75 = .ok (.ladd, 1) := by decide +kernel
theorem dT_term_76 : decode cT_term 76 = .ok (.ldc2_w 38, 3) := by decide +kernel
theorem dT_term_79 : decode cT_term 79 = .ok (.lrem, 1) := by decide +kernel
theorem dT_term_80 : decode cT_term 80 = .ok (.lastore, 1) := by decide +kernel
theorem dT_term_81 : decode cT_term 81 = .ok (.aload_n 0, 1) := by decide +kernel
theorem dT_term_82 : decode cT_term 82 = .ok (.getfield 7, 3) := by decide +kernel
theorem dT_term_85 : decode cT_term 85 = .ok (.iload 4, 2) := by decide +kernel
theorem dT_term_87 : decode cT_term 87 = .ok (.laload, 1) := by decide +kernel
theorem dT_term_88 : decode cT_term 88 = .ok (.l2i, 1) := by decide +kernel
theorem dT_term_89 : decode cT_term 89 = .ok (.ireturn, 1) := by decide +kernel
theorem dT_thrown_0 : decode cT_thrown 0 = .ok (.aload_n 0, 1) := by decide +kernel
theorem dT_thrown_1 : decode cT_thrown 1 = .ok (.getfield 34, 3) := by decide +kernel
theorem dT_thrown_4 : decode cT_thrown 4 = .ok (.ireturn, 1) := by decide +kernel
theorem dT_value_0 : decode cT_value 0 = .ok (.aload_n 0, 1) := by decide +kernel
theorem dT_value_1 : decode cT_value 1 = .ok (.iload_n 1, 1) := by decide +kernel
theorem dT_value_2 : decode cT_value 2 = .ok (.iconst 1, 1) := by decide +kernel
theorem dT_value_3 : decode cT_value 3 = .ok (.if_icmp .lt 16, 3) := by decide +kernel
theorem dT_value_6 : decode cT_value 6 = .ok (.iload_n 1, 1) := by decide +kernel
theorem dT_value_7 : decode cT_value 7 = .ok (.bipush 15, 2) := by decide +kernel
theorem dT_value_9 : decode cT_value 9 = .ok (.if_icmp .gt 10, 3) := by decide +kernel
theorem dT_value_12 : decode cT_value 12 = .ok (.iload_n 2, 1) := by decide +kernel
theorem dT_value_13 : decode cT_value 13 = .ok (.invokestatic 49, 3) := by decide +kernel
theorem dT_value_16 : decode cT_value 16 = .ok (.ifCond .ne 7, 3) := by decide +kernel
theorem dT_value_19 : decode cT_value 19 = .ok (.iconst 1, 1) := by decide +kernel
theorem dT_value_20 : decode cT_value 20 = .ok (.goto 4, 3) := by decide +kernel
theorem dT_value_23 : decode cT_value 23 = .ok (.iconst 0, 1) := by decide +kernel
theorem dT_value_24 : decode cT_value 24 = .ok (.putfield 34, 3) := by decide +kernel
theorem dT_value_27 : decode cT_value 27 = .ok (.aload_n 0, 1) := by decide +kernel
theorem dT_value_28 : decode cT_value 28 = .ok (.getfield 34, 3) := by decide +kernel
theorem dT_value_31 : decode cT_value 31 = .ok (.ifCond .le 5, 3) := by decide +kernel
theorem dT_value_34 : decode cT_value 34 = .ok (.iconst 0, 1) := by decide +kernel
theorem dT_value_35 : decode cT_value 35 = .ok (.ireturn, 1) := by decide +kernel
theorem dT_value_36 : decode cT_value 36 = .ok (.aload_n 0, 1) := by decide +kernel
theorem dT_value_37 : decode cT_value 37 = .ok (.getfield 13, 3) := by decide +kernel
theorem dT_value_40 : decode cT_value 40 = .ok (.iload_n 1, 1) := by decide +kernel
theorem dT_value_41 : decode cT_value 41 = .ok (.iload_n 2, 1) := by decide +kernel
theorem dT_value_42 : decode cT_value 42 = .ok (.i2l, 1) := by decide +kernel
theorem dT_value_43 : decode cT_value 43 = .ok (.lastore, 1) := by decide +kernel
theorem dT_value_44 : decode cT_value 44 = .ok (.iconst 1, 1) := by decide +kernel
theorem dT_value_45 : decode cT_value 45 = .ok (.ireturn, 1) := by decide +kernel
theorem dT_verify_0 : decode cT_verify 0 = .ok (.aload_n 0, 1) := by decide +kernel
theorem dT_verify_1 : decode cT_verify 1 = .ok (.aload_n 0, 1) := by decide +kernel
theorem dT_verify_2 : decode cT_verify 2 = .ok (.getfield 53, 3) := by decide +kernel
theorem dT_verify_5 : decode cT_verify 5 = .ok (.ifCond .eq 10, 3) := by decide +kernel
theorem dT_verify_8 : decode cT_verify 8 = .ok (.aload_n 0, 1) := by decide +kernel
theorem dT_verify_9 : decode cT_verify 9 = .ok (.getfield 119, 3) := by decide +kernel
theorem dT_verify_12 : decode cT_verify 12 = .ok (.ifCond .ne 7, 3) := by decide +kernel
theorem dT_verify_15 : decode cT_verify 15 = .ok (.iconst 1, 1) := by decide +kernel
theorem dT_verify_16 : decode cT_verify 16 = .ok (.goto 4, 3) := by decide +kernel
theorem dT_verify_19 : decode cT_verify 19 = .ok (.iconst 0, 1) := by decide +kernel
theorem dT_verify_20 : decode cT_verify 20 = .ok (.putfield 34, 3) := by decide +kernel
theorem dT_verify_23 : decode cT_verify 23 = .ok (.aload_n 0, 1) := by decide +kernel
theorem dT_verify_24 : decode cT_verify 24 = .ok (.getfield 34, 3) := by decide +kernel
theorem dT_verify_27 : decode cT_verify 27 = .ok (.ifCond .le 5, 3) := by decide +kernel
theorem dT_verify_30 : decode cT_verify 30 = .ok (.iconst 0, 1) := by decide +kernel
theorem dT_verify_31 : decode cT_verify 31 = .ok (.ireturn, 1) := by decide +kernel
theorem dT_verify_32 : decode cT_verify 32 = .ok (.aload_n 0, 1) := by decide +kernel
theorem dT_verify_33 : decode cT_verify 33 = .ok (.getfield 90, 3) := by decide +kernel
theorem dT_verify_36 : decode cT_verify 36 = .ok (.aload_n 0, 1) := by decide +kernel
theorem dT_verify_37 : decode cT_verify 37 = .ok (.getfield 93, 3) := by decide +kernel
theorem dT_verify_40 : decode cT_verify 40 = .ok (.lmul, 1) := by decide +kernel
theorem dT_verify_41 : decode cT_verify 41 = .ok (.ldc2_w 38, 3) := by decide +kernel
theorem dT_verify_44 : decode cT_verify 44 = .ok (.lrem, 1) := by decide +kernel
theorem dT_verify_45 : decode cT_verify 45 = .ok (.lstore_n 1, 1) := by decide +kernel
theorem dT_verify_46 : decode cT_verify 46 = .ok (.iconst 0, 1) := by decide +kernel
theorem dT_verify_47 : decode cT_verify 47 = .ok (.istore_n 3, 1) := by decide +kernel
theorem dT_verify_48 : decode cT_verify 48 = .ok (.iload_n 3, 1) := by decide +kernel
theorem dT_verify_49 : decode cT_verify 49 = .ok (.aload_n 0, 1) := by decide +kernel
theorem dT_verify_50 : decode cT_verify 50 = .ok (.getfield 57, 3) := by decide +kernel
theorem dT_verify_53 : decode cT_verify 53 = .ok (.if_icmp .gt 29, 3) := by decide +kernel
theorem dT_verify_56 : decode cT_verify 56 = .ok (.lload_n 1, 1) := by decide +kernel
theorem dT_verify_57 : decode cT_verify 57 = .ok (.aload_n 0, 1) := by decide +kernel
theorem dT_verify_58 : decode cT_verify 58 = .ok (.getfield 16, 3) := by decide +kernel
theorem dT_verify_61 : decode cT_verify 61 = .ok (.iload_n 3, 1) := by decide +kernel
theorem dT_verify_62 : decode cT_verify 62 = .ok (.laload, 1) := by decide +kernel
theorem dT_verify_63 : decode cT_verify 63 = .ok (.aload_n 0, 1) := by decide +kernel
theorem dT_verify_64 : decode cT_verify 64 = .ok (.getfield 19, 3) := by decide +kernel
theorem dT_verify_67 : decode cT_verify 67 = .ok (.iload_n 3, 1) := by decide +kernel
theorem dT_verify_68 : decode cT_verify 68 = .ok (.laload, 1) := by decide +kernel
theorem dT_verify_69 : decode cT_verify 69 = .ok (.lmul, 1) := by decide +kernel
theorem dT_verify_70 : decode cT_verify 70 = .ok (.ladd, 1) := by decide +kernel
theorem dT_verify_71 : decode cT_verify 71 = .ok (.ldc2_w 38, 3) := by decide +kernel
theorem dT_verify_74 : decode cT_verify 74 = .ok (.lrem, 1) := by decide +kernel
theorem dT_verify_75 : decode cT_verify 75 = .ok (.lstore_n 1, 1) := by decide +kernel
theorem dT_verify_76 : decode cT_verify 76 = .ok (.iinc 3 1, 3) := by decide +kernel
theorem dT_verify_79 : decode cT_verify 79 = .ok (.goto (-31), 3) := by decide +kernel
theorem dT_verify_82 : decode cT_verify 82 = .ok (.lload_n 1, 1) := by decide +kernel
theorem dT_verify_83 : decode cT_verify 83 = .ok (.aload_n 0, 1) := by decide +kernel
theorem dT_verify_84 : decode cT_verify 84 = .ok (.getfield 22, 3) := by decide +kernel
theorem dT_verify_87 : decode cT_verify 87 = .ok (.iconst 2, 1) := by decide +kernel
theorem dT_verify_88 : decode cT_verify 88 = .ok (.laload, 1) := by decide +kernel
theorem dT_verify_89 : decode cT_verify 89 = .ok (.aload_n 0, 1) := by decide +kernel
theorem dT_verify_90 : decode cT_verify 90 = .ok (.getfield 99, 3) := by decide +kernel
theorem dT_verify_93 : decode cT_verify 93 = .ok (.lmul, 1) := by decide +kernel
theorem dT_verify_94 : decode cT_verify 94 = .ok (.ladd, 1) := by decide +kernel
theorem dT_verify_95 : decode cT_verify 95 = .ok (.ldc2_w 38, 3) := by decide +kernel
theorem dT_verify_98 : decode cT_verify 98 = .ok (.lrem, 1) := by decide +kernel
theorem dT_verify_99 : decode cT_verify 99 = .ok (.lstore_n 1, 1) := by decide +kernel
theorem dT_verify_100 : decode cT_verify 100 = .ok (.aload_n 0, 1) := by decide +kernel
theorem dT_verify_101 : decode cT_verify 101 = .ok (.getfield 22, 3) := by decide +kernel
theorem dT_verify_104 : decode cT_verify 104 = .ok (.iconst 0, 1) := by decide +kernel
theorem dT_verify_105 : decode cT_verify 105 = .ok (.laload, 1) := by decide +kernel
theorem dT_verify_106 : decode cT_verify 106 = .ok (.aload_n 0, 1) := by decide +kernel
theorem dT_verify_107 : decode cT_verify 107 = .ok (.getfield 22, 3) := by decide +kernel
theorem dT_verify_110 : decode cT_verify 110 = .ok (.iconst 1, 1) := by decide +kernel
theorem dT_verify_111 : decode cT_verify 111 = .ok (.laload, 1) := by decide +kernel
theorem dT_verify_112 : decode cT_verify 112 = .ok (.lmul, 1) := by decide +kernel
theorem dT_verify_113 : decode cT_verify 113 = .ok (.ldc2_w 38, 3) := by decide +kernel
theorem dT_verify_116 : decode cT_verify 116 = .ok (.lrem, 1) := by decide +kernel
theorem dT_verify_117 : decode cT_verify 117 = .ok (.lload_n 1, 1) := by decide +kernel
theorem dT_verify_118 : decode cT_verify 118 = .ok (.lcmp, 1) := by decide +kernel
theorem dT_verify_119 : decode cT_verify 119 = .ok (.ifCond .ne 7, 3) := by decide +kernel
theorem dT_verify_122 : decode cT_verify 122 = .ok (.iconst 1, 1) := by decide +kernel
theorem dT_verify_123 : decode cT_verify 123 = .ok (.goto 4, 3) := by decide +kernel
theorem dT_verify_126 : decode cT_verify 126 = .ok (.iconst 0, 1) := by decide +kernel
theorem dT_verify_127 : decode cT_verify 127 = .ok (.ireturn, 1) := by decide +kernel
