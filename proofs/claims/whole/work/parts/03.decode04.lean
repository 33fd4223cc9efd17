theorem dX10_isName_11 : decode cX10_isName 11 = .ok (.ldc2_w 132, 3) := by decide +kernel
theorem dX10_isName_14 : decode cX10_isName 14 = .ok (.invokevirtual 122, 3) := by decide +kernel
theorem dX10_isName_17 : decode cX10_isName 17 = .ok (.ifCond .ne 43, 3) := by decide +kernel
theorem dX10_isName_20 : decode cX10_isName 20 = .ok (.aload_n 0, 1) := by decide +kernel
theorem dX10_isName_21 : decode cX10_isName 21 = .ok (.ldc2_w 134, 3) := by decide +kernel
theorem dX10_isName_24 : decode cX10_isName 24 = .ok (.invokevirtual 122, 3) := by decide +kernel
theorem dX10_isName_27 : decode cX10_isName 27 = .ok (.ifCond .ne 33, 3) := by decide +kernel
theorem dX10_isName_30 : decode cX10_isName 30 = .ok (.aload_n 0, 1) := by decide +kernel
theorem dX10_isName_31 : decode cX10_isName 31 = .ok (.ldc2_w 136, 3) := by decide +kernel
theorem dX10_isName_34 : decode cX10_isName 34 = .ok (.invokevirtual 122, 3) := by decide +kernel
theorem dX10_isName_37 : decode cX10_isName 37 = .ok (.ifCond .ne 23, 3) := by decide +kernel
theorem dX10_isName_40 : decode cX10_isName 40 = .ok (.aload_n 0, 1) := by decide +kernel
theorem dX10_isName_41 : decode cX10_isName 41 = .ok (.ldc2_w 138, 3) := by decide +kernel
theorem dX10_isName_44 : decode cX10_isName 44 = .ok (.invokevirtual 122, 3) := by decide +kernel
theorem dX10_isName_47 : decode cX10_isName 47 = .ok (.ifCond .ne 13, 3) := by decide +kernel
theorem dX10_isName_50 : decode cX10_isName 50 = .ok (.aload_n 0, 1) := by decide +kernel
theorem dX10_isName_51 : decode cX10_isName 51 = .ok (.ldc2_w 140, 3) := by decide +kernel
theorem dX10_isName_54 : decode cX10_isName 54 = .ok (.invokevirtual 122, 3) := by decide +kernel
theorem dX10_isName_57 : decode cX10_isName 57 = .ok (.ifCond .eq 7, 3) := by decide +kernel
theorem dX10_isName_60 : decode cX10_isName 60 = .ok (.iconst 1, 1) := by decide +kernel
theorem dX10_isName_61 : decode cX10_isName 61 = .ok (.goto 4, 3) := by decide +kernel
theorem dX10_isName_64 : decode cX10_isName 64 = .ok (.iconst 0, 1) := by decide +kernel
theorem dX10_isName_65 : decode cX10_isName 65 = .ok (.istore_n 1, 1) := by decide +kernel
theorem dX10_isName_66 : decode cX10_isName 66 = .ok (.iload_n 1, 1) := by decide +kernel
theorem dX10_isName_67 : decode cX10_isName 67 = .ok (.ifCond .ne 63, 3) := by decide +kernel
theorem dX10_isName_70 : decode cX10_isName 70 = .ok (.aload_n 0, 1) := by decide +kernel
theorem dX10_isName_71 : decode cX10_isName 71 = .ok (.ldc2_w 142, 3) := by decide +kernel
theorem dX10_isName_74 : decode cX10_isName 74 = .ok (.invokevirtual 122, 3) := by decide +kernel
theorem dX10_isName_77 : decode cX10_isName 77 = .ok (.ifCond .ne 53, 3) := by decide +kernel
theorem dX10_isName_80 : decode cX10_isName 80 = .ok (.aload_n 0, 1) := by decide +kernel
theorem dX10_isName_81 : decode cX10_isName 81 = .ok (.ldc2_w 144, 3) := by decide +kernel
theorem dX10_isName_84 : decode cX10_isName 84 = .ok (.invokevirtual 122, 3) := by decide +kernel
theorem dX10_isName_87 : decode cX10_isName 87 = .ok (.ifCond .ne 43, 3) := by decide +kernel
theorem dX10_isName_90 : decode cX10_isName 90 = .ok (.aload_n 0, 1) := by decide +kernel
theorem dX10_isName_91 : decode cX10_isName 91 = .ok (.ldc2_w 146, 3) := by decide +kernel
theorem dX10_isName_94 : decode cX10_isName 94 = .ok (.invokevirtual 122, 3) := by decide +kernel
theorem dX10_isName_97 : decode cX10_isName 97 = .ok (.ifCond .ne 33, 3) := by decide +kernel
theorem dX10_isName_100 : decode cX10_isName 100 = .ok (.aload_n 0, 1) := by decide +kernel
theorem dX10_isName_101 : decode cX10_isName 101 = .ok (.ldc2_w 148, 3) := by decide +kernel
theorem dX10_isName_104 : decode cX10_isName 104 = .ok (.invokevirtual 122, 3) := by decide +kernel
theorem dX10_isName_107 : decode cX10_isName 107 = .ok (.ifCond .ne 23, 3) := by decide +kernel
theorem dX10_isName_110 : decode cX10_isName 110 = .ok (.aload_n 0, 1) := by decide +kernel
theorem dX10_isName_111 : decode cX10_isName 111 = .ok (.ldc2_w 150, 3) := by decide +kernel
theorem dX10_isName_114 : decode cX10_isName 114 = .ok (.invokevirtual 122, 3) := by decide +kernel
theorem dX10_isName_117 : decode cX10_isName 117 = .ok (.ifCond .ne 13, 3) := by decide +kernel
theorem dX10_isName_120 : decode cX10_isName 120 = .ok (.aload_n 0, 1) := by decide +kernel
theorem dX10_isName_121 : decode cX10_isName 121 = .ok (.ldc2_w 152, 3) := by decide +kernel
theorem dX10_isName_124 : decode cX10_isName 124 = .ok (.invokevirtual 122, 3) := by decide +kernel
theorem dX10_isName_127 : decode cX10_isName 127 = .ok (.ifCond .eq 7, 3) := by decide +kernel
theorem dX10_isName_130 : decode cX10_isName 130 = .ok (.iconst 1, 1) := by decide +kernel
theorem dX10_isName_131 : decode cX10_isName 131 = .ok (.goto 4, 3) := by decide +kernel
theorem dX10_isName_134 : decode cX10_isName 134 = .ok (.iconst 0, 1) := by decide +kernel
theorem dX10_isName_135 : decode cX10_isName 135 = .ok (.istore_n 1, 1) := by decide +kernel
theorem dX10_isName_136 : decode cX10_isName 136 = .ok (.iload_n 1, 1) := by decide +kernel
theorem dX10_isName_137 : decode cX10_isName 137 = .ok (.ifCond .ne 63, 3) := by decide +kernel
theorem dX10_isName_140 : decode cX10_isName 140 = .ok (.aload_n 0, 1) := by decide +kernel
theorem dX10_isName_141 : decode cX10_isName 141 = .ok (.ldc2_w 154, 3) := by decide +kernel
theorem dX10_isName_144 : decode cX10_isName 144 = .ok (.invokevirtual 122, 3) := by decide +kernel
theorem dX10_isName_147 : decode cX10_isName 147 = .ok (.ifCond .ne 53, 3) := by decide +kernel
theorem dX10_isName_150 : decode cX10_isName 150 = .ok (.aload_n 0, 1) := by decide +kernel
theorem dX10_isName_151 : decode cX10_isName 151 = .ok (.ldc2_w 156, 3) := by decide +kernel
theorem dX10_isName_154 : decode cX10_isName 154 = .ok (.invokevirtual 122, 3) := by decide +kernel
theorem dX10_isName_157 : decode cX10_isName 157 = .ok (.ifCond .ne 43, 3) := by decide +kernel
theorem dX10_isName_160 : decode cX10_isName 160 = .ok (.aload_n 0, 1) := by decide +kernel
theorem dX10_isName_161 : decode cX10_isName 161 = .ok (.ldc2_w 158, 3) := by decide +kernel
theorem dX10_isName_164 : decode cX10_isName 164 = .ok (.invokevirtual 122, 3) := by decide +kernel
theorem dX10_isName_167 : decode cX10_isName 167 = .ok (.ifCond .ne 33, 3) := by decide +kernel
theorem dX10_isName_170 : decode cX10_isName 170 = .ok (.aload_n 0, 1) := by decide +kernel
theorem dX10_isName_171 : decode cX10_isName 171 = .ok (.ldc2_w 160, 3) := by decide +kernel
theorem dX10_isName_174 : decode cX10_isName 174 = .ok (.invokevirtual 122, 3) := by decide +kernel
theorem dX10_isName_177 : decode cX10_isName 177 = .ok (.ifCond .ne 23, 3) := by decide +kernel
theorem dX10_isName_180 : decode cX10_isName 180 = .ok (.aload_n 0, 1) := by decide +kernel
theorem dX10_isName_181 : decode cX10_isName 181 = .ok (.ldc2_w 162, 3) := by decide +kernel
theorem dX10_isName_184 : decode cX10_isName 184 = .ok (.invokevirtual 122, 3) := by decide +kernel
theorem dX10_isName_187 : decode cX10_isName 187 = .ok (.ifCond .ne 13, 3) := by decide +kernel
theorem dX10_isName_190 : decode cX10_isName 190 = .ok (.aload_n 0, 1) := by decide +kernel
theorem dX10_isName_191 : decode cX10_isName 191 = .ok (.ldc2_w 164, 3) := by decide +kernel
theorem dX10_isName_194 : decode cX10_isName 194 = .ok (.invokevirtual 122, 3) := by decide +kernel
theorem dX10_isName_197 : decode cX10_isName 197 = .ok (.ifCond .eq 7, 3) := by decide +kernel
theorem dX10_isName_200 : decode cX10_isName 200 = .ok (.iconst 1, 1) := by decide +kernel
theorem dX10_isName_201 : decode cX10_isName 201 = .ok (.goto 4, 3) := by decide +kernel
theorem dX10_isName_204 : decode cX10_isName 204 = .ok (.iconst 0, 1) := by decide +kernel
theorem dX10_isName_205 : decode cX10_isName 205 = .ok (.istore_n 1, 1) := by decide +kernel
theorem dX10_isName_206 : decode cX10_isName 206 = .ok (.iload_n 1, 1) := by decide +kernel
theorem dX10_isName_207 : decode cX10_isName 207 = .ok (.ifCond .ne 63, 3) := by decide +kernel
theorem dX10_isName_210 : decode cX10_isName 210 = .ok (.aload_n 0, 1) := by decide +kernel
theorem dX10_isName_211 : decode cX10_isName 211 = .ok (.ldc2_w 166, 3) := by decide +kernel
theorem dX10_isName_214 : decode cX10_isName 214 = .ok (.invokevirtual 122, 3) := by decide +kernel
theorem dX10_isName_217 : decode cX10_isName 217 = .ok (.ifCond .ne 53, 3) := by decide +kernel
theorem dX10_isName_220 : decode cX10_isName 220 = .ok (.aload_n 0, 1) := by decide +kernel
theorem dX10_isName_221 : decode cX10_isName 221 = .ok (.ldc2_w 168, 3) := by decide +kernel
theorem dX10_isName_224 : decode cX10_isName 224 = .ok (.invokevirtual 122, 3) := by decide +kernel
theorem dX10_isName_227 : decode cX10_isName 227 = .ok (.ifCond .ne 43, 3) := by decide +kernel
theorem dX10_isName_230 : decode cX10_isName 230 = .ok (.aload_n 0, 1) := by decide +kernel
theorem dX10_isName_231 : decode cX10_isName 231 = .ok (.ldc2_w 170, 3) := by decide +kernel
theorem dX10_isName_234 : decode cX10_isName 234 = .ok (.invokevirtual 122, 3) := by decide +kernel
theorem dX10_isName_237 : decode cX10_isName 237 = .ok (.ifCond .ne 33, 3) := by decide +kernel
theorem dX10_isName_240 : decode cX10_isName 240 = .ok (.aload_n 0, 1) := by decide +kernel
theorem dX10_isName_241 : decode cX10_isName 241 = .ok (.ldc2_w 172, 3) := by decide +kernel
theorem dX10_isName_244 : decode cX10_isName 244 = .ok (.invokevirtual 122, 3) := by decide +kernel
theorem dX10_isName_247 : decode cX10_isName 247 = .ok (.ifCond .ne 23, 3) := by decide +kernel
theorem dX10_isName_250 : decode cX10_isName 250 = .ok (.aload_n 0, 1) := by decide +kernel
theorem dX10_isName_251 : decode cX10_isName 251 = .ok (.ldc2_w 174, 3) := by decide +kernel
theorem dX10_isName_254 : decode cX10_isName 254 = .ok (.invokevirtual 122, 3) := by decide +kernel
theorem dX10_isName_257 : decode cX10_isName 257 = .ok (.ifCond .ne 13, 3) := by decide +kernel
theorem dX10_isName_260 : decode cX10_isName 260 = .ok (.aload_n 0, 1) := by decide +kernel
theorem dX10_isName_261 : decode cX10_isName 261 = .ok (.ldc2_w 176, 3) := by decide +kernel
theorem dX10_isName_264 : decode cX10_isName 264 = .ok (.invokevirtual 122, 3) := by decide +kernel
theorem dX10_isName_267 : decode cX10_isName 267 = .ok (.ifCond .eq 7, 3) := by decide +kernel
theorem dX10_isName_270 : decode cX10_isName 270 = .ok (.iconst 1, 1) := by decide +kernel
theorem dX10_isName_271 : decode cX10_isName 271 = .ok (.goto 4, 3) := by decide +kernel
theorem dX10_isName_274 : decode cX10_isName 274 = .ok (.iconst 0, 1) := by decide +kernel
theorem dX10_isName_275 : decode cX10_isName 275 = .ok (.istore_n 1, 1) := by decide +kernel
theorem dX10_isName_276 : decode cX10_isName 276 = .ok (.iload_n 1, 1) := by decide +kernel
theorem dX10_isName_277 : decode cX10_isName 277 = .ok (.ifCond .ne 63, 3) := by decide +kernel
theorem dX10_isName_280 : decode cX10_isName 280 = .ok (.aload_n 0, 1) := by decide +kernel
theorem dX10_isName_281 : decode cX10_isName 281 = .ok (.ldc2_w 178, 3) := by decide +kernel
theorem dX10_isName_284 : decode cX10_isName 284 = .ok (.invokevirtual 122, 3) := by decide +kernel
theorem dX10_isName_287 : decode cX10_isName 287 = .ok (.ifCond .ne 53, 3) := by decide +kernel
theorem dX10_isName_290 : decode cX10_isName 290 = .ok (.aload_n 0, 1) := by decide +kernel
theorem dX10_isName_291 : decode cX10_isName 291 = .ok (.ldc2_w 180, 3) := by decide +kernel
theorem dX10_isName_294 : decode cX10_isName 294 = .ok (.invokevirtual 122, 3) := by decide +kernel
theorem dX10_isName_297 : decode cX10_isName 297 = .ok (.ifCond .ne 43, 3) := by decide +kernel
theorem dX10_isName_300 : decode cX10_isName 300 = .ok (.aload_n 0, 1) := by decide +kernel
theorem dX10_isName_301 : decode cX10_isName 301 = .ok (.ldc2_w 182, 3) := by decide +kernel
theorem dX10_isName_304 : decode cX10_isName 304 = .ok (.invokevirtual 122, 3) := by decide +kernel
theorem dX10_isName_307 : decode cX10_isName 307 = .ok (.ifCond .ne 33, 3) := by decide +kernel
theorem dX10_isName_310 : decode cX10_isName 310 = .ok (.aload_n 0, 1) := by decide +kernel
theorem dX10_isName_311 : decode cX10_isName 311 = .ok (.ldc2_w 184, 3) := by decide +kernel
theorem dX10_isName_314 : decode cX10_isName 314 = .ok (.invokevirtual 122, 3) := by decide +kernel
theorem dX10_isName_317 : decode cX10_isName 317 = .ok (.ifCond .ne 23, 3) := by decide +kernel
theorem dX10_isName_320 : decode cX10_isName 320 = .ok (.aload_n 0, 1) := by decide +kernel
theorem dX10_isName_321 : decode cX10_isName 321 = .ok (.ldc2_w 186, 3) := by decide +kernel
theorem dX10_isName_324 : decode cX10_isName 324 = .ok (.invokevirtual 122, 3) := by decide +kernel
theorem dX10_isName_327 : decode cX10_isName 327 = .ok (.ifCond .ne 13, 3) := by decide +kernel
theorem dX10_isName_330 : decode cX10_isName 330 = .ok (.aload_n 0, 1) := by decide +kernel
theorem dX10_isName_331 : decode cX10_isName 331 = .ok (.ldc2_w 188, 3) := by decide +kernel
theorem dX10_isName_334 : decode cX10_isName 334 = .ok (.invokevirtual 122, 3) := by decide +kernel
theorem dX10_isName_337 : decode cX10_isName 337 = .ok (.ifCond .eq 7, 3) := by decide +kernel
theorem dX10_isName_340 : decode cX10_isName 340 = .ok (.iconst 1, 1) := by decide +kernel
theorem dX10_isName_341 : decode cX10_isName 341 = .ok (.goto 4, 3) := by decide +kernel
theorem dX10_isName_344 : decode cX10_isName 344 = .ok (.iconst 0, 1) := by decide +kernel
theorem dX10_isName_345 : decode cX10_isName 345 = .ok (.istore_n 1, 1) := by decide +kernel
theorem dX10_isName_346 : decode cX10_isName 346 = .ok (.aload_n 0, 1) := by decide +kernel
theorem dX10_isName_347 : decode cX10_isName 347 = .ok (.getfield 90, 3) := by decide +kernel
theorem dX10_isName_350 : decode cX10_isName 350 = .ok (.iconst 1, 1) := by decide +kernel
theorem dX10_isName_351 : decode cX10_isName 351 = .ok (.if_icmp .ne 11, 3) := by decide +kernel
theorem dX10_isName_354 : decode cX10_isName 354 = .ok (.iload_n 1, 1) := by decide +kernel
theorem dX10_isName_355 : decode cX10_isName 355 = .ok (.ifCond .ne 7, 3) := by decide +kernel
theorem dX10_isName_358 : decode cX10_isName 358 = .ok (.iconst 1, 1) := by decide +kernel
theorem dX10_isName_359 : decode cX10_isName 359 = .ok (.goto 4, 3) := by decide +kernel
theorem dX10_isName_362 : decode cX10_isName 362 = .ok (.iconst 0, 1) := by decide +kernel
theorem dX10_isName_363 : decode cX10_isName 363 = .ok (.ireturn, 1) := by decide +kernel
theorem dX10_name_0 : decode cX10_name 0 = .ok (.aload_n 0, 1) := by decide +kernel
theorem dX10_name_1 : decode cX10_name 1 = .ok (.invokevirtual 190, 3) := by decide +kernel
theorem dX10_name_4 : decode cX10_name 4 = .ok (.ifCond .ne 9, 3) := by decide +kernel
theorem dX10_name_7 : decode cX10_name 7 = .ok (.aload_n 0, 1) := by decide +kernel
theorem dX10_name_8 : decode cX10_name 8 = .ok (.iconst 1, 1) := by decide +kernel
theorem dX10_name_9 : decode cX10_name 9 = .ok (.invokevirtual 112, 3) := by decide +kernel
theorem dX10_name_12 : decode cX10_name 12 = .ok (.ireturn, 1) := by decide +kernel
theorem dX10_name_13 : decode cX10_name 13 = .ok (.iconst 0, 1) := by decide +kernel
theorem dX10_name_14 : decode cX10_name 14 = .ok (.istore_n 2, 1) := by decide +kernel
theorem dX10_name_15 : decode cX10_name 15 = .ok (.iload_n 2, 1) := by decide +kernel
theorem dX10_name_16 : decode cX10_name 16 = .ok (.aload_n 0, 1) := by decide +kernel
theorem dX10_name_17 : decode cX10_name 17 = .ok (.getfield 194, 3) := by decide +kernel
theorem dX10_name_20 : decode cX10_name 20 = .ok (.if_icmp .ge 29, 3) := by decide +kernel
theorem dX10_name_23 : decode cX10_name 23 = .ok (.aload_n 0, 1) := by decide +kernel
theorem dX10_name_24 : decode cX10_name 24 = .ok (.getfield 34, 3) := by decide +kernel
theorem dX10_name_27 : decode cX10_name 27 = .ok (.iload_n 2, 1) := by decide +kernel
theorem dX10_name_28 : decode cX10_name 28 = .ok (.laload, 1) := by decide +kernel
theorem dX10_name_29 : decode cX10_name 29 = .ok (.aload_n 0, 1) := by decide +kernel
theorem dX10_name_30 : decode cX10_name 30 = .ok (.getfield 86, 3) := by decide +kernel
theorem dX10_name_33 : decode cX10_name 33 = .ok (.lcmp, 1) := by decide +kernel
theorem dX10_name_34 : decode cX10_name 34 = .ok (.ifCond .ne 9, 3) := by decide +kernel
theorem dX10_name_37 : decode cX10_name 37 = .ok (.aload_n 0, 1) := by decide +kernel
theorem dX10_name_38 : decode cX10_name 38 = .ok (.iconst 2, 1) := by decide +kernel
theorem dX10_name_39 : decode cX10_name 39 = .ok (.invokevirtual 112, 3) := by decide +kernel
theorem dX10_name_42 : decode cX10_name 42 = .ok (.ireturn, 1) := by decide +kernel
theorem dX10_name_43 : decode cX10_name 43 = .ok (.iinc 2 1, 3) := by decide +kernel
theorem dX10_name_46 : decode cX10_name 46 = .ok (.goto (-31), 3) := by decide +kernel
theorem dX10_name_49 : decode cX10_name 49 = .ok (.aload_n 0, 1) := by decide +kernel
theorem dX10_name_50 : decode cX10_name 50 = .ok (.getfield 34, 3) := by decide +kernel
theorem dX10_name_53 : decode cX10_name 53 = .ok (.aload_n 0, 1) := by decide +kernel
theorem dX10_name_54 : decode cX10_name 54 = .ok (.getfield 194, 3) := by decide +kernel
theorem dX10_name_57 : decode cX10_name 57 = .ok (.aload_n 0, 1) := by decide +kernel
theorem dX10_name_58 : decode cX10_name 58 = .ok (.getfield 86, 3) := by decide +kernel
theorem dX10_name_61 : decode cX10_name 61 = .ok (.lastore, 1) := by decide +kernel
theorem dX10_name_62 : decode cX10_name 62 = .ok (.aload_n 0, 1) := by decide +kernel
theorem dX10_name_63 : decode cX10_name 63 = .ok (.getfield 38, 3) := by decide +kernel
theorem dX10_name_66 : decode cX10_name 66 = .ok (.aload_n 0, 1) := by decide +kernel
theorem dX10_name_67 : decode cX10_name 67 = .ok (.getfield 194, 3) := by decide +kernel
theorem dX10_name_70 : decode cX10_name 70 = .ok (.iload_n 1, 1) := by decide +kernel
theorem dX10_name_71 : decode cX10_name 71 = .ok (.iastore, 1) := by decide +kernel
theorem dX10_name_72 : decode cX10_name 72 = .ok (.aload_n 0, 1) := by decide +kernel
theorem dX10_name_73 : decode cX10_name 73 = .ok (.getfield 41, 3) := by decide +kernel
theorem dX10_name_76 : decode cX10_name 76 = .ok (.aload_n 0, 1) := by decide +kernel
theorem dX10_name_77 : decode cX10_name 77 = .ok (.getfield 194, 3) := by decide +kernel
theorem dX10_name_80 : decode cX10_name 80 = .ok (.aload_n 0, 1) := by decide +kernel
theorem dX10_name_81 : decode cX10_name 81 = .ok (.getfield 17, 3) := by decide +kernel
theorem dX10_name_84 : decode cX10_name 84 = .ok (.iload_n 1, 1) := by decide +kernel
theorem dX10_name_85 : decode cX10_name 85 = .ok (.iaload, 1) := by decide +kernel
theorem dX10_name_86 : decode cX10_name 86 = .ok (.iastore, 1) := by decide +kernel
theorem dX10_name_87 : decode cX10_name 87 = .ok (.aload_n 0, 1) := by decide +kernel
theorem dX10_name_88 : decode cX10_name 88 = .ok (.dup, 1) := by decide +kernel
theorem dX10_name_89 : decode cX10_name 89 = .ok (.getfield 194, 3) := by decide +kernel
theorem dX10_name_92 : decode cX10_name 92 = .ok (.iconst 1, 1) := by decide +kernel
theorem dX10_name_93 : decode cX10_name 93 = .ok (.iadd, 1) := by decide +kernel
theorem dX10_name_94 : decode cX10_name 94 = .ok (.putfield 194, 3) := by decide +kernel
theorem dX10_name_97 : decode cX10_name 97 = .ok (.aload_n 0, 1) := by decide +kernel
theorem dX10_name_98 : decode cX10_name 98 = .ok (.invokevirtual 119, 3) := by decide +kernel
theorem dX10_name_101 : decode cX10_name 101 = .ok (.iconst 1, 1) := by decide +kernel
theorem dX10_name_102 : decode cX10_name 102 = .ok (.ireturn, 1) := by decide +kernel
theorem dX10_isHere_0 : decode cX10_isHere 0 = .ok (.aload_n 0, 1) := by decide +kernel
theorem dX10_isHere_1 : decode cX10_isHere 1 = .ok (.invokevirtual 190, 3) := by decide +kernel
theorem dX10_isHere_4 : decode cX10_isHere 4 = .ok (.ifCond .ne 9, 3) := by decide +kernel
theorem dX10_isHere_7 : decode cX10_isHere 7 = .ok (.aload_n 0, 1) := by decide +kernel
theorem dX10_isHere_8 : decode cX10_isHere 8 = .ok (.iconst 1, 1) := by decide +kernel
theorem dX10_isHere_9 : decode cX10_isHere 9 = .ok (.invokevirtual 112, 3) := by decide +kernel
theorem dX10_isHere_12 : decode cX10_isHere 12 = .ok (.ireturn, 1) := by decide +kernel
theorem dX10_isHere_13 : decode cX10_isHere 13 = .ok (.iconst 0, 1) := by decide +kernel
theorem dX10_isHere_14 : decode cX10_isHere 14 = .ok (.istore_n 2, 1) := by decide +kernel
theorem dX10_isHere_15 : decode cX10_isHere 15 = .ok (.iload_n 2, 1) := by decide +kernel
theorem dX10_isHere_16 : decode cX10_isHere 16 = .ok (.aload_n 0, 1) := by decide +kernel
theorem dX10_isHere_17 : decode cX10_isHere 17 = .ok (.getfield 194, 3) := by decide +kernel
theorem dX10_isHere_20 : decode cX10_isHere 20 = .ok (.if_icmp .ge 45, 3) := by decide +kernel
theorem dX10_isHere_23 : decode cX10_isHere 23 = .ok (.aload_n 0, 1) := by decide +kernel
theorem dX10_isHere_24 : decode cX10_isHere 24 = .ok (.getfield 34, 3) := by decide +kernel
theorem dX10_isHere_27 : decode cX10_isHere 27 = .ok (.iload_n 2, 1) := by decide +kernel
theorem dX10_isHere_28 : decode cX10_isHere 28 = .ok (.laload, 1) := by decide +kernel
theorem dX10_isHere_29 : decode cX10_isHere 29 = .ok (.aload_n 0, 1) := by decide +kernel
theorem dX10_isHere_30 : decode cX10_isHere 30 = .ok (.getfield 86, 3) := by decide +kernel
theorem dX10_isHere_33 : decode cX10_isHere 33 = .ok (.lcmp, 1) := by decide +kernel
theorem dX10_isHere_34 : decode cX10_isHere 34 = .ok (.ifCond .ne 25, 3) := by decide +kernel
theorem dX10_isHere_37 : decode cX10_isHere 37 = .ok (.aload_n 0, 1) := by decide +kernel
theorem dX10_isHere_38 : decode cX10_isHere 38 = .ok (.getfield 38, 3) := by decide +kernel
theorem dX10_isHere_41 : decode cX10_isHere 41 = .ok (.iload_n 2, 1) := by decide +kernel
theorem dX10_isHere_42 : decode cX10_isHere 42 = .ok (.iaload, 1) := by decide +kernel
theorem dX10_isHere_43 : decode cX10_isHere 43 = .ok (.iload_n 1, 1) := by decide +kernel
theorem dX10_isHere_44 : decode cX10_isHere 44 = .ok (.if_icmp .ne 15, 3) := by decide +kernel
theorem dX10_isHere_47 : decode cX10_isHere 47 = .ok (.aload_n 0, 1) := by decide +kernel
theorem dX10_isHere_48 : decode cX10_isHere 48 = .ok (.aload_n 0, 1) := by decide +kernel
theorem dX10_isHere_49 : decode cX10_isHere 49 = .ok (.getfield 41, 3) := by decide +kernel
theorem dX10_isHere_52 : decode cX10_isHere 52 = .ok (.iload_n 2, 1) := by decide +kernel
theorem dX10_isHere_53 : decode cX10_isHere 53 = .ok (.iaload, 1) := by decide +kernel
theorem dX10_isHere_54 : decode cX10_isHere 54 = .ok (.putfield 116, 3) := by decide +kernel
theorem dX10_isHere_57 : decode cX10_isHere 57 = .ok (.iconst 1, 1) := by decide +kernel
theorem dX10_isHere_58 : decode cX10_isHere 58 = .ok (.ireturn, 1) := by decide +kernel
theorem dX10_isHere_59 : decode cX10_isHere 59 = .ok (.iinc 2 1, 3) := by decide +kernel
theorem dX10_isHere_62 : decode cX10_isHere 62 = .ok (.goto (-47), 3) := by decide +kernel
theorem dX10_isHere_65 : decode cX10_isHere 65 = .ok (.aload_n 0, 1) := by decide +kernel
theorem dX10_isHere_66 : decode cX10_isHere 66 = .ok (.iconst 3, 1) := by decide +kernel
theorem dX10_isHere_67 : decode cX10_isHere 67 = .ok (.invokevirtual 112, 3) := by decide +kernel
theorem dX10_isHere_70 : decode cX10_isHere 70 = .ok (.ireturn, 1) := by decide +kernel
theorem dX10_known_0 : decode cX10_known 0 = .ok (.aload_n 0, 1) := by decide +kernel
theorem dX10_known_1 : decode cX10_known 1 = .ok (.iload_n 1, 1) := by decide +kernel
theorem dX10_known_2 : decode cX10_known 2 = .ok (.invokevirtual 197, 3) := by decide +kernel
theorem dX10_known_5 : decode cX10_known 5 = .ok (.ifCond .ne 5, 3) := by decide +kernel
theorem dX10_known_8 : decode cX10_known 8 = .ok (.iconst 0, 1) := by decide +kernel
theorem dX10_known_9 : decode cX10_known 9 = .ok (.ireturn, 1) := by decide +kernel
theorem dX10_known_10 : decode cX10_known 10 = .ok (.aload_n 0, 1) := by decide +kernel
theorem dX10_known_11 : decode cX10_known 11 = .ok (.invokevirtual 119, 3) := by decide +kernel
theorem dX10_known_14 : decode cX10_known 14 = .ok (.iconst 1, 1) := by decide +kernel
theorem dX10_known_15 : decode cX10_known 15 = .ok (.ireturn, 1) := by decide +kernel
theorem dX10_begins_0 : decode cX10_begins 0 = .ok (.aload_n 0, 1) := by decide +kernel
theorem dX10_begins_1 : decode cX10_begins 1 = .ok (.getfield 17, 3) := by decide +kernel
theorem dX10_begins_4 : decode cX10_begins 4 = .ok (.iload_n 1, 1) := by decide +kernel
theorem dX10_begins_5 : decode cX10_begins 5 = .ok (.iaload, 1) := by decide +kernel
theorem dX10_begins_6 : decode cX10_begins 6 = .ok (.iload_n 2, 1) := by decide +kernel
theorem dX10_begins_7 : decode cX10_begins 7 = .ok (.if_icmp .ne 9, 3) := by decide +kernel
theorem dX10_begins_10 : decode cX10_begins 10 = .ok (.aload_n 0, 1) := by decide +kernel
theorem dX10_begins_11 : decode cX10_begins 11 = .ok (.iconst 5, 1) := by decide +kernel
theorem dX10_begins_12 : decode cX10_begins 12 = .ok (.invokevirtual 112, 3) := by decide +kernel
theorem dX10_begins_15 : decode cX10_begins 15 = .ok (.ireturn, 1) := by decide +kernel
theorem dX10_begins_16 : decode cX10_begins 16 = .ok (.aload_n 0, 1) := by decide +kernel
theorem dX10_begins_17 : decode cX10_begins 17 = .ok (.invokevirtual 119, 3) := by decide +kernel
theorem dX10_begins_20 : decode cX10_begins 20 = .ok (.iconst 1, 1) := by decide +kernel
theorem dX10_begins_21 : decode cX10_begins 21 = .ok (.ireturn, 1) := by decide +kernel
theorem dX10_partyLine_0 : decode cX10_partyLine 0 = .ok (.aload_n 0, 1) := by decide +kernel
theorem dX10_partyLine_1 : decode cX10_partyLine 1 = .ok (.iconst 0, 1) := by decide +kernel
theorem dX10_partyLine_2 : decode cX10_partyLine 2 = .ok (.bipush 6, 2) := by decide +kernel
theorem dX10_partyLine_4 : decode cX10_partyLine 4 = .ok (.invokevirtual 200, 3) := by decide +kernel
theorem dX10_partyLine_7 : decode cX10_partyLine 7 = .ok (.ifCond .eq 11, 3) := by decide +kernel
theorem dX10_partyLine_10 : decode cX10_partyLine 10 = .ok (.aload_n 0, 1) := by decide +kernel
theorem dX10_partyLine_11 : decode cX10_partyLine 11 = .ok (.iconst 0, 1) := by decide +kernel
theorem dX10_partyLine_12 : decode cX10_partyLine 12 = .ok (.invokevirtual 203, 3) := by decide +kernel
theorem dX10_partyLine_15 : decode cX10_partyLine 15 = .ok (.ifCond .ne 5, 3) := by decide +kernel
theorem dX10_partyLine_18 : decode cX10_partyLine 18 = .ok (.iconst 0, 1) := by decide +kernel
theorem dX10_partyLine_19 : decode cX10_partyLine 19 = .ok (.ireturn, 1) := by decide +kernel
theorem dX10_partyLine_20 : decode cX10_partyLine 20 = .ok (.aload_n 0, 1) := by decide +kernel
theorem dX10_partyLine_21 : decode cX10_partyLine 21 = .ok (.getfield 17, 3) := by decide +kernel
theorem dX10_partyLine_24 : decode cX10_partyLine 24 = .ok (.iconst 0, 1) := by decide +kernel
theorem dX10_partyLine_25 : decode cX10_partyLine 25 = .ok (.dup2, 1) := by decide +kernel
theorem dX10_partyLine_26 : decode cX10_partyLine 26 = .ok (.iaload, 1) := by decide +kernel
theorem dX10_partyLine_27 : decode cX10_partyLine 27 = .ok (.iconst 1, 1) := by decide +kernel
theorem dX10_partyLine_28 : decode cX10_partyLine 28 = .ok (.iadd, 1) := by decide +kernel
theorem dX10_partyLine_29 : decode cX10_partyLine 29 = .ok (.iastore, 1) := by decide +kernel
theorem dX10_partyLine_30 : decode cX10_partyLine 30 = .ok (.iconst 1, 1) := by decide +kernel
theorem dX10_partyLine_31 : decode cX10_partyLine 31 = .ok (.ireturn, 1) := by decide +kernel
theorem dX10_pairOf_0 : decode cX10_pairOf 0 = .ok (.iconst 0, 1) := by decide +kernel
theorem dX10_pairOf_1 : decode cX10_pairOf 1 = .ok (.istore_n 3, 1) := by decide +kernel
theorem dX10_pairOf_2 : decode cX10_pairOf 2 = .ok (.iload_n 3, 1) := by decide +kernel
theorem dX10_pairOf_3 : decode cX10_pairOf 3 = .ok (.aload_n 0, 1) := by decide +kernel
theorem dX10_pairOf_4 : decode cX10_pairOf 4 = .ok (.bipush 11, 2) := by decide +kernel
theorem dX10_pairOf_6 : decode cX10_pairOf 6 = .ok (.iaload, 1) := by decide +kernel
theorem dX10_pairOf_7 : decode cX10_pairOf 7 = .ok (.if_icmp .ge 57, 3) := by decide +kernel
theorem dX10_pairOf_10 : decode cX10_pairOf 10 = .ok (.aload_n 0, 1) := by decide +kernel
theorem dX10_pairOf_11 : decode cX10_pairOf 11 = .ok (.bipush 12, 2) := by decide +kernel
theorem dX10_pairOf_13 : decode cX10_pairOf 13 = .ok (.iconst 2, 1) := by decide +kernel
theorem dX10_pairOf_14 : decode cX10_pairOf 14 = .ok (.iload_n 3, 1) := by decide +kernel
theorem dX10_pairOf_15 : decode cX10_pairOf 15 = .ok (.imul, 1) := by decide +kernel
theorem dX10_pairOf_16 : decode cX10_pairOf 16 = .ok (.iadd, 1) := by decide +kernel
theorem dX10_pairOf_17 : decode cX10_pairOf 17 = .ok (.iaload, 1) := by decide +kernel
theorem dX10_pairOf_18 : decode cX10_pairOf 18 = .ok (.istore 4, 2) := by decide +kernel
theorem dX10_pairOf_20 : decode cX10_pairOf 20 = .ok (.aload_n 0, 1) := by decide +kernel
theorem dX10_pairOf_21 : decode cX10_pairOf 21 = .ok (.bipush 12, 2) := by decide +kernel
theorem dX10_pairOf_23 : decode cX10_pairOf 23 = .ok (.iconst 2, 1) := by decide +kernel
theorem dX10_pairOf_24 : decode cX10_pairOf 24 = .ok (.iload_n 3, 1) := by decide +kernel
theorem dX10_pairOf_25 : decode cX10_pairOf 25 = .ok (.imul, 1) := by decide +kernel
theorem dX10_pairOf_26 : decode cX10_pairOf 26 = .ok (.iadd, 1) := by decide +kernel
theorem dX10_pairOf_27 : decode cX10_pairOf 27 = .ok (.iconst 1, 1) := by decide +kernel
theorem dX10_pairOf_28 : decode cX10_pairOf 28 = .ok (.iadd, 1) := by decide +kernel
theorem dX10_pairOf_29 : decode cX10_pairOf 29 = .ok (.iaload, 1) := by decide +kernel
theorem dX10_pairOf_30 : decode cX10_pairOf 30 = .ok (.istore 5, 2) := by decide +kernel
theorem dX10_pairOf_32 : decode cX10_pairOf 32 = .ok (.iload 4, 2) := by decide +kernel
theorem dX10_pairOf_34 : decode cX10_pairOf 34 = .ok (.iload_n 1, 1) := by decide +kernel
theorem dX10_pairOf_35 : decode cX10_pairOf 35 = .ok (.if_icmp .ne 9, 3) := by decide +kernel
theorem dX10_pairOf_38 : decode cX10_pairOf 38 = .ok (.iload 5, 2) := by decide +kernel
theorem dX10_pairOf_40 : decode cX10_pairOf 40 = .ok (.iload_n 2, 1) := by decide +kernel
theorem dX10_pairOf_41 : decode cX10_pairOf 41 = .ok (.if_icmp .eq 15, 3) := by decide +kernel
theorem dX10_pairOf_44 : decode cX10_pairOf 44 = .ok (.iload 4, 2) := by decide +kernel
theorem dX10_pairOf_46 : decode cX10_pairOf 46 = .ok (.iload_n 2, 1) := by decide +kernel
theorem dX10_pairOf_47 : decode cX10_pairOf 47 = .ok (.if_icmp .ne 11, 3) := by decide +kernel
theorem dX10_pairOf_50 : decode cX10_pairOf 50 = .ok (.iload 5, 2) := by decide +kernel
theorem dX10_pairOf_52 : decode cX10_pairOf 52 = .ok (.iload_n 1, 1) := by decide +kernel
theorem dX10_pairOf_53 : decode cX10_pairOf 53 = .ok (.if_icmp .ne 5, 3) := by decide +kernel
theorem dX10_pairOf_56 : decode cX10_pairOf 56 = .ok (.iload_n 3, 1) := by decide +kernel
theorem dX10_pairOf_57 : decode cX10_pairOf 57 = .ok (.ireturn, 1) := by decide +kernel
theorem dX10_pairOf_58 : decode cX10_pairOf 58 = .ok (.iinc 3 1, 3) := by decide +kernel
theorem dX10_pairOf_61 : decode cX10_pairOf 61 = .ok (.goto (-59), 3) := by decide +kernel
theorem dX10_pairOf_64 : decode cX10_pairOf 64 = .ok (.iconst (-1), 1) := by decide +kernel
theorem dX10_pairOf_65 : decode cX10_pairOf 65 = .ok (.ireturn, 1) := by decide +kernel
theorem dX10_kinLine_0 : decode cX10_kinLine 0 = .ok (.aload_n 0, 1) := by decide +kernel
theorem dX10_kinLine_1 : decode cX10_kinLine 1 = .ok (.bipush 11, 2) := by decide +kernel
theorem dX10_kinLine_3 : decode cX10_kinLine 3 = .ok (.bipush 6, 2) := by decide +kernel
theorem dX10_kinLine_5 : decode cX10_kinLine 5 = .ok (.invokevirtual 200, 3) := by decide +kernel
theorem dX10_kinLine_8 : decode cX10_kinLine 8 = .ok (.ifCond .eq 11, 3) := by decide +kernel
theorem dX10_kinLine_11 : decode cX10_kinLine 11 = .ok (.aload_n 0, 1) := by decide +kernel
theorem dX10_kinLine_12 : decode cX10_kinLine 12 = .ok (.iconst 0, 1) := by decide +kernel
theorem dX10_kinLine_13 : decode cX10_kinLine 13 = .ok (.invokevirtual 206, 3) := by decide +kernel
theorem dX10_kinLine_16 : decode cX10_kinLine 16 = .ok (.ifCond .ne 5, 3) := by decide +kernel
theorem dX10_kinLine_19 : decode cX10_kinLine 19 = .ok (.iconst 0, 1) := by decide +kernel
theorem dX10_kinLine_20 : decode cX10_kinLine 20 = .ok (.ireturn, 1) := by decide +kernel
theorem dX10_kinLine_21 : decode cX10_kinLine 21 = .ok (.aload_n 0, 1) := by decide +kernel
theorem dX10_kinLine_22 : decode cX10_kinLine 22 = .ok (.getfield 116, 3) := by decide +kernel
theorem dX10_kinLine_25 : decode cX10_kinLine 25 = .ok (.istore_n 1, 1) := by decide +kernel
theorem dX10_kinLine_26 : decode cX10_kinLine 26 = .ok (.aload_n 0, 1) := by decide +kernel
theorem dX10_kinLine_27 : decode cX10_kinLine 27 = .ok (.iconst 0, 1) := by decide +kernel
theorem dX10_kinLine_28 : decode cX10_kinLine 28 = .ok (.invokevirtual 197, 3) := by decide +kernel
theorem dX10_kinLine_31 : decode cX10_kinLine 31 = .ok (.ifCond .ne 5, 3) := by decide +kernel
theorem dX10_kinLine_34 : decode cX10_kinLine 34 = .ok (.iconst 0, 1) := by decide +kernel
theorem dX10_kinLine_35 : decode cX10_kinLine 35 = .ok (.ireturn, 1) := by decide +kernel
theorem dX10_kinLine_36 : decode cX10_kinLine 36 = .ok (.aload_n 0, 1) := by decide +kernel
theorem dX10_kinLine_37 : decode cX10_kinLine 37 = .ok (.getfield 116, 3) := by decide +kernel
theorem dX10_kinLine_40 : decode cX10_kinLine 40 = .ok (.iload_n 1, 1) := by decide +kernel
theorem dX10_kinLine_41 : decode cX10_kinLine 41 = .ok (.if_icmp .ne 9, 3) := by decide +kernel
theorem dX10_kinLine_44 : decode cX10_kinLine 44 = .ok (.aload_n 0, 1) := by decide +kernel
theorem dX10_kinLine_45 : decode cX10_kinLine 45 = .ok (.iconst 4, 1) := by decide +kernel
theorem dX10_kinLine_46 : decode cX10_kinLine 46 = .ok (.invokevirtual 112, 3) := by decide +kernel
theorem dX10_kinLine_49 : decode cX10_kinLine 49 = .ok (.ireturn, 1) := by decide +kernel
theorem dX10_kinLine_50 : decode cX10_kinLine 50 = .ok (.aload_n 0, 1) := by decide +kernel
theorem dX10_kinLine_51 : decode cX10_kinLine 51 = .ok (.getfield 17, 3) := by decide +kernel
theorem dX10_kinLine_54 : decode cX10_kinLine 54 = .ok (.iload_n 1, 1) := by decide +kernel
theorem dX10_kinLine_55 : decode cX10_kinLine 55 = .ok (.aload_n 0, 1) := by decide +kernel
theorem dX10_kinLine_56 : decode cX10_kinLine 56 = .ok (.getfield 116, 3) := by decide +kernel
theorem dX10_kinLine_59 : decode cX10_kinLine 59 = .ok (.invokestatic 209, 3) := by decide +kernel
theorem dX10_kinLine_62 : decode cX10_kinLine 62 = .ok (.iconst (-1), 1) := by decide +kernel
theorem dX10_kinLine_63 : decode cX10_kinLine 63 = .ok (.if_icmp .eq 9, 3) := by decide +kernel
theorem dX10_kinLine_66 : decode cX10_kinLine 66 = .ok (.aload_n 0, 1) := by decide +kernel
theorem dX10_kinLine_67 : decode cX10_kinLine 67 = .ok (.iconst 2, 1) := by decide +kernel
theorem dX10_kinLine_68 : decode cX10_kinLine 68 = .ok (.invokevirtual 112, 3) := by decide +kernel
theorem dX10_kinLine_71 : decode cX10_kinLine 71 = .ok (.ireturn, 1) := by decide +kernel
theorem dX10_kinLine_72 : decode cX10_kinLine 72 = .ok (.aload_n 0, 1) := by decide +kernel
theorem dX10_kinLine_73 : decode cX10_kinLine 73 = .ok (.invokevirtual 119, 3) := by decide +kernel
theorem dX10_kinLine_76 : decode cX10_kinLine 76 = .ok (.aload_n 0, 1) := by decide +kernel
theorem dX10_kinLine_77 : decode cX10_kinLine 77 = .ok (.getfield 17, 3) := by decide +kernel
theorem dX10_kinLine_80 : decode cX10_kinLine 80 = .ok (.bipush 12, 2) := by decide +kernel
theorem dX10_kinLine_82 : decode cX10_kinLine 82 = .ok (.iconst 2, 1) := by decide +kernel
theorem dX10_kinLine_83 : decode cX10_kinLine 83 = .ok (.aload_n 0, 1) := by decide +kernel
theorem dX10_kinLine_84 : decode cX10_kinLine 84 = .ok (.getfield 17, 3) := by decide +kernel
theorem dX10_kinLine_87 : decode cX10_kinLine 87 = .ok (.bipush 11, 2) := by decide +kernel
theorem dX10_kinLine_89 : decode cX10_kinLine 89 = .ok (.iaload, 1) := by decide +kernel
theorem dX10_kinLine_90 : decode cX10_kinLine 90 = .ok (.imul, 1) := by decide +kernel
theorem dX10_kinLine_91 : decode cX10_kinLine 91 = .ok (.iadd, 1) := by decide +kernel
theorem dX10_kinLine_92 : decode cX10_kinLine 92 = .ok (.iload_n 1, 1) := by decide +kernel
theorem dX10_kinLine_93 : decode cX10_kinLine 93 = .ok (.iastore, 1) := by decide +kernel
theorem dX10_kinLine_94 : decode cX10_kinLine 94 = .ok (.aload_n 0, 1) := by decide +kernel
theorem dX10_kinLine_95 : decode cX10_kinLine 95 = .ok (.getfield 17, 3) := by decide +kernel
theorem dX10_kinLine_98 : decode cX10_kinLine 98 = .ok (.bipush 12, 2) := by decide +kernel
theorem dX10_kinLine_100 : decode cX10_kinLine 100 = .ok (.iconst 2, 1) := by decide +kernel
theorem dX10_kinLine_101 : decode cX10_kinLine 101 = .ok (.aload_n 0, 1) := by decide +kernel
theorem dX10_kinLine_102 : decode cX10_kinLine 102 = .ok (.getfield 17, 3) := by decide +kernel
theorem dX10_kinLine_105 : decode cX10_kinLine 105 = .ok (.bipush 11, 2) := by decide +kernel
theorem dX10_kinLine_107 : decode cX10_kinLine 107 = .ok (.iaload, 1) := by decide +kernel
theorem dX10_kinLine_108 : decode cX10_kinLine 108 = .ok (.imul, 1) := by decide +kernel
theorem dX10_kinLine_109 : decode cX10_kinLine 109 = .ok (.iadd, 1) := by decide +kernel
theorem dX10_kinLine_110 : decode cX10_kinLine 110 = .ok (.iconst 1, 1) := by decide +kernel
theorem dX10_kinLine_111 : decode cX10_kinLine 111 = .ok (.iadd, 1) := by decide +kernel
theorem dX10_kinLine_112 : decode cX10_kinLine 112 = .ok (.aload_n 0, 1) := by decide +kernel
theorem dX10_kinLine_113 : decode cX10_kinLine 113 = .ok (.getfield 116, 3) := by decide +kernel
theorem dX10_kinLine_116 : decode cX10_kinLine 116 = .ok (.iastore, 1) := by decide +kernel
theorem dX10_kinLine_117 : decode cX10_kinLine 117 = .ok (.aload_n 0, 1) := by decide +kernel
theorem dX10_kinLine_118 : decode cX10_kinLine 118 = .ok (.getfield 17, 3) := by decide +kernel
theorem dX10_kinLine_121 : decode cX10_kinLine 121 = .ok (.bipush 11, 2) := by decide +kernel
theorem dX10_kinLine_123 : decode cX10_kinLine 123 = .ok (.dup2, 1) := by decide +kernel
theorem dX10_kinLine_124 : decode cX10_kinLine 124 = .ok (.iaload, 1) := by decide +kernel
theorem dX10_kinLine_125 : decode cX10_kinLine 125 = .ok (.iconst 1, 1) := by decide +kernel
theorem dX10_kinLine_126 : decode cX10_kinLine 126 = .ok (.iadd, 1) := by decide +kernel
theorem dX10_kinLine_127 : decode cX10_kinLine 127 = .ok (.iastore, 1) := by decide +kernel
theorem dX10_kinLine_128 : decode cX10_kinLine 128 = .ok (.iconst 1, 1) := by decide +kernel
theorem dX10_kinLine_129 : decode cX10_kinLine 129 = .ok (.ireturn, 1) := by decide +kernel
theorem dX10_goodLine_0 : decode cX10_goodLine 0 = .ok (.aload_n 0, 1) := by decide +kernel
theorem dX10_goodLine_1 : decode cX10_goodLine 1 = .ok (.iconst 1, 1) := by decide +kernel
theorem dX10_goodLine_2 : decode cX10_goodLine 2 = .ok (.bipush 6, 2) := by decide +kernel
theorem dX10_goodLine_4 : decode cX10_goodLine 4 = .ok (.invokevirtual 200, 3) := by decide +kernel
theorem dX10_goodLine_7 : decode cX10_goodLine 7 = .ok (.ifCond .eq 11, 3) := by decide +kernel
theorem dX10_goodLine_10 : decode cX10_goodLine 10 = .ok (.aload_n 0, 1) := by decide +kernel
theorem dX10_goodLine_11 : decode cX10_goodLine 11 = .ok (.iconst 1, 1) := by decide +kernel
theorem dX10_goodLine_12 : decode cX10_goodLine 12 = .ok (.invokevirtual 203, 3) := by decide +kernel
theorem dX10_goodLine_15 : decode cX10_goodLine 15 = .ok (.ifCond .ne 5, 3) := by decide +kernel
theorem dX10_goodLine_18 : decode cX10_goodLine 18 = .ok (.iconst 0, 1) := by decide +kernel
theorem dX10_goodLine_19 : decode cX10_goodLine 19 = .ok (.ireturn, 1) := by decide +kernel
theorem dX10_goodLine_20 : decode cX10_goodLine 20 = .ok (.bipush 24, 2) := by decide +kernel
theorem dX10_goodLine_22 : decode cX10_goodLine 22 = .ok (.iconst 4, 1) := by decide +kernel
theorem dX10_goodLine_23 : decode cX10_goodLine 23 = .ok (.aload_n 0, 1) := by decide +kernel
theorem dX10_goodLine_24 : decode cX10_goodLine 24 = .ok (.getfield 17, 3) := by decide +kernel
theorem dX10_goodLine_27 : decode cX10_goodLine 27 = .ok (.iconst 1, 1) := by decide +kernel
theorem dX10_goodLine_28 : decode cX10_goodLine 28 = .ok (.iaload, 1) := by decide +kernel
theorem dX10_goodLine_29 : decode cX10_goodLine 29 = .ok (.imul, 1) := by decide +kernel
theorem dX10_goodLine_30 : decode cX10_goodLine 30 = .ok (.iadd, 1) := by decide +kernel
theorem dX10_goodLine_31 : decode cX10_goodLine 31 = .ok (.istore_n 1, 1) := by decide +kernel
theorem dX10_goodLine_32 : decode cX10_goodLine 32 = .ok (.aload_n 0, 1) := by decide +kernel
theorem dX10_goodLine_33 : decode cX10_goodLine 33 = .ok (.ldc2_w 136, 3) := by decide +kernel
theorem dX10_goodLine_36 : decode cX10_goodLine 36 = .ok (.iconst 0, 1) := by decide +kernel
theorem dX10_goodLine_37 : decode cX10_goodLine 37 = .ok (.bipush 9, 2) := by decide +kernel
theorem dX10_goodLine_39 : decode cX10_goodLine 39 = .ok (.invokevirtual 213, 3) := by decide +kernel
theorem dX10_goodLine_42 : decode cX10_goodLine 42 = .ok (.ifCond .ne 5, 3) := by decide +kernel
theorem dX10_goodLine_45 : decode cX10_goodLine 45 = .ok (.iconst 0, 1) := by decide +kernel
theorem dX10_goodLine_46 : decode cX10_goodLine 46 = .ok (.ireturn, 1) := by decide +kernel
theorem dX10_goodLine_47 : decode cX10_goodLine 47 = .ok (.aload_n 0, 1) := by decide +kernel
theorem dX10_goodLine_48 : decode cX10_goodLine 48 = .ok (.getfield 17, 3) := by decide +kernel
theorem dX10_goodLine_51 : decode cX10_goodLine 51 = .ok (.iload_n 1, 1) := by decide +kernel
theorem dX10_goodLine_52 : decode cX10_goodLine 52 = .ok (.iconst 0, 1) := by decide +kernel
theorem dX10_goodLine_53 : decode cX10_goodLine 53 = .ok (.iadd, 1) := by decide +kernel
theorem dX10_goodLine_54 : decode cX10_goodLine 54 = .ok (.aload_n 0, 1) := by decide +kernel
theorem dX10_goodLine_55 : decode cX10_goodLine 55 = .ok (.getfield 116, 3) := by decide +kernel
theorem dX10_goodLine_58 : decode cX10_goodLine 58 = .ok (.iastore, 1) := by decide +kernel
theorem dX10_goodLine_59 : decode cX10_goodLine 59 = .ok (.aload_n 0, 1) := by decide +kernel
theorem dX10_goodLine_60 : decode cX10_goodLine 60 = .ok (.ldc2_w 138, 3) := by decide +kernel
theorem dX10_goodLine_63 : decode cX10_goodLine 63 = .ok (.iconst 0, 1) := by decide +kernel
theorem dX10_goodLine_64 : decode cX10_goodLine 64 = .ok (.bipush 9, 2) := by decide +kernel
theorem dX10_goodLine_66 : decode cX10_goodLine 66 = .ok (.invokevirtual 213, 3) := by decide +kernel
theorem dX10_goodLine_69 : decode cX10_goodLine 69 = .ok (.ifCond .ne 5, 3) := by decide +kernel
theorem dX10_goodLine_72 : decode cX10_goodLine 72 = .ok (.iconst 0, 1) := by decide +kernel
theorem dX10_goodLine_73 : decode cX10_goodLine 73 = .ok (.ireturn, 1) := by decide +kernel
theorem dX10_goodLine_74 : decode cX10_goodLine 74 = .ok (.aload_n 0, 1) := by decide +kernel
theorem dX10_goodLine_75 : decode cX10_goodLine 75 = .ok (.getfield 17, 3) := by decide +kernel
theorem dX10_goodLine_78 : decode cX10_goodLine 78 = .ok (.iload_n 1, 1) := by decide +kernel
theorem dX10_goodLine_79 : decode cX10_goodLine 79 = .ok (.iconst 1, 1) := by decide +kernel
theorem dX10_goodLine_80 : decode cX10_goodLine 80 = .ok (.iadd, 1) := by decide +kernel
theorem dX10_goodLine_81 : decode cX10_goodLine 81 = .ok (.aload_n 0, 1) := by decide +kernel
theorem dX10_goodLine_82 : decode cX10_goodLine 82 = .ok (.getfield 116, 3) := by decide +kernel
theorem dX10_goodLine_85 : decode cX10_goodLine 85 = .ok (.iastore, 1) := by decide +kernel
theorem dX10_goodLine_86 : decode cX10_goodLine 86 = .ok (.aload_n 0, 1) := by decide +kernel
theorem dX10_goodLine_87 : decode cX10_goodLine 87 = .ok (.getfield 17, 3) := by decide +kernel
theorem dX10_goodLine_90 : decode cX10_goodLine 90 = .ok (.iconst 1, 1) := by decide +kernel
theorem dX10_goodLine_91 : decode cX10_goodLine 91 = .ok (.dup2, 1) := by decide +kernel
theorem dX10_goodLine_92 : decode cX10_goodLine 92 = .ok (.iaload, 1) := by decide +kernel
theorem dX10_goodLine_93 : decode cX10_goodLine 93 = .ok (.iconst 1, 1) := by decide +kernel
theorem dX10_goodLine_94 : decode cX10_goodLine 94 = .ok (.iadd, 1) := by decide +kernel
theorem dX10_goodLine_95 : decode cX10_goodLine 95 = .ok (.iastore, 1) := by decide +kernel
theorem dX10_goodLine_96 : decode cX10_goodLine 96 = .ok (.iconst 1, 1) := by decide +kernel
theorem dX10_goodLine_97 : decode cX10_goodLine 97 = .ok (.ireturn, 1) := by decide +kernel
theorem dX10_assistLine_0 : decode cX10_assistLine 0 = .ok (.aload_n 0, 1) := by decide +kernel
theorem dX10_assistLine_1 : decode cX10_assistLine 1 = .ok (.iconst 2, 1) := by decide +kernel
theorem dX10_assistLine_2 : decode cX10_assistLine 2 = .ok (.iconst 4, 1) := by decide +kernel
theorem dX10_assistLine_3 : decode cX10_assistLine 3 = .ok (.invokevirtual 200, 3) := by decide +kernel
theorem dX10_assistLine_6 : decode cX10_assistLine 6 = .ok (.ifCond .eq 25, 3) := by decide +kernel
theorem dX10_assistLine_9 : decode cX10_assistLine 9 = .ok (.aload_n 0, 1) := by decide +kernel
theorem dX10_assistLine_10 : decode cX10_assistLine 10 = .ok (.iconst 2, 1) := by decide +kernel
theorem dX10_assistLine_11 : decode cX10_assistLine 11 = .ok (.invokevirtual 203, 3) := by decide +kernel
theorem dX10_assistLine_14 : decode cX10_assistLine 14 = .ok (.ifCond .eq 17, 3) := by decide +kernel
theorem dX10_assistLine_17 : decode cX10_assistLine 17 = .ok (.aload_n 0, 1) := by decide +kernel
theorem dX10_assistLine_18 : decode cX10_assistLine 18 = .ok (.ldc2_w 142, 3) := by decide +kernel
theorem dX10_assistLine_21 : decode cX10_assistLine 21 = .ok (.iconst 1, 1) := by decide +kernel
theorem dX10_assistLine_22 : decode cX10_assistLine 22 = .ok (.sipush 9999, 3) := by decide +kernel
theorem dX10_assistLine_25 : decode cX10_assistLine 25 = .ok (.invokevirtual 213, 3) := by decide +kernel
theorem dX10_assistLine_28 : decode cX10_assistLine 28 = .ok (.ifCond .ne 5, 3) := by decide +kernel
theorem dX10_assistLine_31 : decode cX10_assistLine 31 = .ok (.iconst 0, 1) := by decide +kernel
theorem dX10_assistLine_32 : decode cX10_assistLine 32 = .ok (.ireturn, 1) := by decide +kernel
theorem dX10_assistLine_33 : decode cX10_assistLine 33 = .ok (.bipush 48, 2) := by decide +kernel
theorem dX10_assistLine_35 : decode cX10_assistLine 35 = .ok (.iconst 2, 1) := by decide +kernel
theorem dX10_assistLine_36 : decode cX10_assistLine 36 = .ok (.aload_n 0, 1) := by decide +kernel
theorem dX10_assistLine_37 : decode cX10_assistLine 37 = .ok (.getfield 17, 3) := by decide +kernel
theorem dX10_assistLine_40 : decode cX10_assistLine 40 = .ok (.iconst 2, 1) := by decide +kernel
theorem dX10_assistLine_41 : decode cX10_assistLine 41 = .ok (.iaload, 1) := by decide +kernel
theorem dX10_assistLine_42 : decode cX10_assistLine 42 = .ok (.imul, 1) := by decide +kernel
theorem dX10_assistLine_43 : decode cX10_assistLine 43 = .ok (.iadd, 1) := by decide +kernel
theorem dX10_assistLine_44 : decode cX10_assistLine 44 = .ok (.istore_n 1, 1) := by decide +kernel
theorem dX10_assistLine_45 : decode cX10_assistLine 45 = .ok (.aload_n 0, 1) := by decide +kernel
theorem dX10_assistLine_46 : decode cX10_assistLine 46 = .ok (.getfield 17, 3) := by decide +kernel
theorem dX10_assistLine_49 : decode cX10_assistLine 49 = .ok (.iload_n 1, 1) := by decide +kernel
theorem dX10_assistLine_50 : decode cX10_assistLine 50 = .ok (.iconst 0, 1) := by decide +kernel
theorem dX10_assistLine_51 : decode cX10_assistLine 51 = .ok (.iadd, 1) := by decide +kernel
theorem dX10_assistLine_52 : decode cX10_assistLine 52 = .ok (.aload_n 0, 1) := by decide +kernel
theorem dX10_assistLine_53 : decode cX10_assistLine 53 = .ok (.getfield 116, 3) := by decide +kernel
theorem dX10_assistLine_56 : decode cX10_assistLine 56 = .ok (.iastore, 1) := by decide +kernel
theorem dX10_assistLine_57 : decode cX10_assistLine 57 = .ok (.aload_n 0, 1) := by decide +kernel
theorem dX10_assistLine_58 : decode cX10_assistLine 58 = .ok (.getfield 17, 3) := by decide +kernel
theorem dX10_assistLine_61 : decode cX10_assistLine 61 = .ok (.iload_n 1, 1) := by decide +kernel
theorem dX10_assistLine_62 : decode cX10_assistLine 62 = .ok (.iconst 1, 1) := by decide +kernel
theorem dX10_assistLine_63 : decode cX10_assistLine 63 = .ok (.iadd, 1) := by decide +kernel
theorem dX10_assistLine_64 : decode cX10_assistLine 64 = .ok (.iconst 0, 1) := by decide +kernel
theorem dX10_assistLine_65 : decode cX10_assistLine 65 = .ok (.iastore, 1) := by decide +kernel
theorem dX10_assistLine_66 : decode cX10_assistLine 66 = .ok (.aload_n 0, 1) := by decide +kernel
theorem dX10_assistLine_67 : decode cX10_assistLine 67 = .ok (.ldc2_w 144, 3) := by decide +kernel
theorem dX10_assistLine_70 : decode cX10_assistLine 70 = .ok (.invokevirtual 122, 3) := by decide +kernel
theorem dX10_assistLine_73 : decode cX10_assistLine 73 = .ok (.ifCond .eq 10, 3) := by decide +kernel
theorem dX10_assistLine_76 : decode cX10_assistLine 76 = .ok (.aload_n 0, 1) := by decide +kernel
theorem dX10_assistLine_77 : decode cX10_assistLine 77 = .ok (.invokevirtual 119, 3) := by decide +kernel
theorem dX10_assistLine_80 : decode cX10_assistLine 80 = .ok (.goto 34, 3) := by decide +kernel
theorem dX10_assistLine_83 : decode cX10_assistLine 83 = .ok (.aload_n 0, 1) := by decide +kernel
theorem dX10_assistLine_84 : decode cX10_assistLine 84 = .ok (.ldc2_w 146, 3) := by decide +kernel
theorem dX10_assistLine_87 : decode cX10_assistLine 87 = .ok (.iconst 1, 1) := by decide +kernel
theorem dX10_assistLine_88 : decode cX10_assistLine 88 = .ok (.sipush 9999, 3) := by decide +kernel
theorem dX10_assistLine_91 : decode cX10_assistLine 91 = .ok (.invokevirtual 213, 3) := by decide +kernel
theorem dX10_assistLine_94 : decode cX10_assistLine 94 = .ok (.ifCond .eq 18, 3) := by decide +kernel
theorem dX10_assistLine_97 : decode cX10_assistLine 97 = .ok (.aload_n 0, 1) := by decide +kernel
theorem dX10_assistLine_98 : decode cX10_assistLine 98 = .ok (.getfield 17, 3) := by decide +kernel
theorem dX10_assistLine_101 : decode cX10_assistLine 101 = .ok (.iload_n 1, 1) := by decide +kernel
theorem dX10_assistLine_102 : decode cX10_assistLine 102 = .ok (.iconst 1, 1) := by decide +kernel
theorem dX10_assistLine_103 : decode cX10_assistLine 103 = .ok (.iadd, 1) := by decide +kernel
theorem dX10_assistLine_104 : decode cX10_assistLine 104 = .ok (.aload_n 0, 1) := by decide +kernel
theorem dX10_assistLine_105 : decode cX10_assistLine 105 = .ok (.getfield 116, 3) := by decide +kernel
theorem dX10_assistLine_108 : decode cX10_assistLine 108 = .ok (.iastore, 1) := by decide +kernel
theorem dX10_assistLine_109 : decode cX10_assistLine 109 = .ok (.goto 5, 3) := by decide +kernel
theorem dX10_assistLine_112 : decode cX10_assistLine 112 = .ok (.iconst 0, 1) := by decide +kernel
theorem dX10_assistLine_113 : decode cX10_assistLine 113 = .ok (.ireturn, 1) := by decide +kernel
theorem dX10_assistLine_114 : decode cX10_assistLine 114 = .ok (.aload_n 0, 1) := by decide +kernel
theorem dX10_assistLine_115 : decode cX10_assistLine 115 = .ok (.getfield 17, 3) := by decide +kernel
theorem dX10_assistLine_118 : decode cX10_assistLine 118 = .ok (.iconst 2, 1) := by decide +kernel
theorem dX10_assistLine_119 : decode cX10_assistLine 119 = .ok (.dup2, 1) := by decide +kernel
theorem dX10_assistLine_120 : decode cX10_assistLine 120 = .ok (.iaload, 1) := by decide +kernel
theorem dX10_assistLine_121 : decode cX10_assistLine 121 = .ok (.iconst 1, 1) := by decide +kernel
theorem dX10_assistLine_122 : decode cX10_assistLine 122 = .ok (.iadd, 1) := by decide +kernel
theorem dX10_assistLine_123 : decode cX10_assistLine 123 = .ok (.iastore, 1) := by decide +kernel
theorem dX10_assistLine_124 : decode cX10_assistLine 124 = .ok (.iconst 1, 1) := by decide +kernel
theorem dX10_assistLine_125 : decode cX10_assistLine 125 = .ok (.ireturn, 1) := by decide +kernel
theorem dX10_usesExtra_0 : decode cX10_usesExtra 0 = .ok (.aload_n 0, 1) := by decide +kernel
theorem dX10_usesExtra_1 : decode cX10_usesExtra 1 = .ok (.invokevirtual 119, 3) := by decide +kernel
theorem dX10_usesExtra_4 : decode cX10_usesExtra 4 = .ok (.aload_n 0, 1) := by decide +kernel
theorem dX10_usesExtra_5 : decode cX10_usesExtra 5 = .ok (.iconst 2, 1) := by decide +kernel
theorem dX10_usesExtra_6 : decode cX10_usesExtra 6 = .ok (.invokevirtual 197, 3) := by decide +kernel
theorem dX10_usesExtra_9 : decode cX10_usesExtra 9 = .ok (.ifCond .ne 5, 3) := by decide +kernel
theorem dX10_usesExtra_12 : decode cX10_usesExtra 12 = .ok (.iconst 0, 1) := by decide +kernel
theorem dX10_usesExtra_13 : decode cX10_usesExtra 13 = .ok (.ireturn, 1) := by decide +kernel
theorem dX10_usesExtra_14 : decode cX10_usesExtra 14 = .ok (.aload_n 0, 1) := by decide +kernel
theorem dX10_usesExtra_15 : decode cX10_usesExtra 15 = .ok (.getfield 17, 3) := by decide +kernel
theorem dX10_usesExtra_18 : decode cX10_usesExtra 18 = .ok (.iload_n 1, 1) := by decide +kernel
theorem dX10_usesExtra_19 : decode cX10_usesExtra 19 = .ok (.bipush 11, 2) := by decide +kernel
theorem dX10_usesExtra_21 : decode cX10_usesExtra 21 = .ok (.iadd, 1) := by decide +kernel
theorem dX10_usesExtra_22 : decode cX10_usesExtra 22 = .ok (.iaload, 1) := by decide +kernel
theorem dX10_usesExtra_23 : decode cX10_usesExtra 23 = .ok (.aload_n 0, 1) := by decide +kernel
theorem dX10_usesExtra_24 : decode cX10_usesExtra 24 = .ok (.getfield 116, 3) := by decide +kernel
theorem dX10_usesExtra_27 : decode cX10_usesExtra 27 = .ok (.invokestatic 217, 3) := by decide +kernel
theorem dX10_usesExtra_30 : decode cX10_usesExtra 30 = .ok (.ifCond .eq 9, 3) := by decide +kernel
theorem dX10_usesExtra_33 : decode cX10_usesExtra 33 = .ok (.aload_n 0, 1) := by decide +kernel
theorem dX10_usesExtra_34 : decode cX10_usesExtra 34 = .ok (.iconst 2, 1) := by decide +kernel
theorem dX10_usesExtra_35 : decode cX10_usesExtra 35 = .ok (.invokevirtual 112, 3) := by decide +kernel
theorem dX10_usesExtra_38 : decode cX10_usesExtra 38 = .ok (.ireturn, 1) := by decide +kernel
theorem dX10_usesExtra_39 : decode cX10_usesExtra 39 = .ok (.aload_n 0, 1) := by decide +kernel
theorem dX10_usesExtra_40 : decode cX10_usesExtra 40 = .ok (.getfield 17, 3) := by decide +kernel
theorem dX10_usesExtra_43 : decode cX10_usesExtra 43 = .ok (.iload_n 1, 1) := by decide +kernel
theorem dX10_usesExtra_44 : decode cX10_usesExtra 44 = .ok (.bipush 11, 2) := by decide +kernel
theorem dX10_usesExtra_46 : decode cX10_usesExtra 46 = .ok (.iadd, 1) := by decide +kernel
theorem dX10_usesExtra_47 : decode cX10_usesExtra 47 = .ok (.dup2, 1) := by decide +kernel
theorem dX10_usesExtra_48 : decode cX10_usesExtra 48 = .ok (.iaload, 1) := by decide +kernel
theorem dX10_usesExtra_49 : decode cX10_usesExtra 49 = .ok (.iconst 1, 1) := by decide +kernel
theorem dX10_usesExtra_50 : decode cX10_usesExtra 50 = .ok (.aload_n 0, 1) := by decide +kernel
theorem dX10_usesExtra_51 : decode cX10_usesExtra 51 = .ok (.getfield 116, 3) := by decide +kernel
theorem dX10_usesExtra_54 : decode cX10_usesExtra 54 = .ok (.ishl, 1) := by decide +kernel
theorem dX10_usesExtra_55 : decode cX10_usesExtra 55 = .ok (.ior, 1) := by decide +kernel
theorem dX10_usesExtra_56 : decode cX10_usesExtra 56 = .ok (.iastore, 1) := by decide +kernel
theorem dX10_usesExtra_57 : decode cX10_usesExtra 57 = .ok (.aload_n 0, 1) := by decide +kernel
theorem dX10_usesExtra_58 : decode cX10_usesExtra 58 = .ok (.invokevirtual 119, 3) := by decide +kernel
theorem dX10_usesExtra_61 : decode cX10_usesExtra 61 = .ok (.iconst 1, 1) := by decide +kernel
theorem dX10_usesExtra_62 : decode cX10_usesExtra 62 = .ok (.ireturn, 1) := by decide +kernel
theorem dX10_extras_0 : decode cX10_extras 0 = .ok (.iconst 0, 1) := by decide +kernel
theorem dX10_extras_1 : decode cX10_extras 1 = .ok (.istore_n 2, 1) := by decide +kernel
theorem dX10_extras_2 : decode cX10_extras 2 = .ok (.aload_n 0, 1) := by decide +kernel
theorem dX10_extras_3 : decode cX10_extras 3 = .ok (.ldc2_w 156, 3) := by decide +kernel
theorem dX10_extras_6 : decode cX10_extras 6 = .ok (.invokevirtual 122, 3) := by decide +kernel
theorem dX10_extras_9 : decode cX10_extras 9 = .ok (.ifCond .eq 8, 3) := by decide +kernel
theorem dX10_extras_12 : decode cX10_extras 12 = .ok (.bipush 6, 2) := by decide +kernel
theorem dX10_extras_14 : decode cX10_extras 14 = .ok (.goto 79, 3) := by decide +kernel
theorem dX10_extras_17 : decode cX10_extras 17 = .ok (.aload_n 0, 1) := by decide +kernel
theorem dX10_extras_18 : decode cX10_extras 18 = .ok (.ldc2_w 158, 3) := by decide +kernel
theorem dX10_extras_21 : decode cX10_extras 21 = .ok (.invokevirtual 122, 3) := by decide +kernel
theorem dX10_extras_24 : decode cX10_extras 24 = .ok (.ifCond .eq 8, 3) := by decide +kernel
theorem dX10_extras_27 : decode cX10_extras 27 = .ok (.bipush 7, 2) := by decide +kernel
theorem dX10_extras_29 : decode cX10_extras 29 = .ok (.goto 64, 3) := by decide +kernel
theorem dX10_extras_32 : decode cX10_extras 32 = .ok (.aload_n 0, 1) := by decide +kernel
theorem dX10_extras_33 : decode cX10_extras 33 = .ok (.ldc2_w 160, 3) := by decide +kernel
theorem dX10_extras_36 : decode cX10_extras 36 = .ok (.invokevirtual 122, 3) := by decide +kernel
theorem dX10_extras_39 : decode cX10_extras 39 = .ok (.ifCond .eq 8, 3) := by decide +kernel
theorem dX10_extras_42 : decode cX10_extras 42 = .ok (.bipush 8, 2) := by decide +kernel
theorem dX10_extras_44 : decode cX10_extras 44 = .ok (.goto 49, 3) := by decide +kernel
theorem dX10_extras_47 : decode cX10_extras 47 = .ok (.aload_n 0, 1) := by decide +kernel
theorem dX10_extras_48 : decode cX10_extras 48 = .ok (.ldc2_w 162, 3) := by decide +kernel
theorem dX10_extras_51 : decode cX10_extras 51 = .ok (.invokevirtual 122, 3) := by decide +kernel
theorem dX10_extras_54 : decode cX10_extras 54 = .ok (.ifCond .eq 8, 3) := by decide +kernel
theorem dX10_extras_57 : decode cX10_extras 57 = .ok (.bipush 9, 2) := by decide +kernel
theorem dX10_extras_59 : decode cX10_extras 59 = .ok (.goto 34, 3) := by decide +kernel
theorem dX10_extras_62 : decode cX10_extras 62 = .ok (.aload_n 0, 1) := by decide +kernel
theorem dX10_extras_63 : decode cX10_extras 63 = .ok (.ldc2_w 164, 3) := by decide +kernel
theorem dX10_extras_66 : decode cX10_extras 66 = .ok (.invokevirtual 122, 3) := by decide +kernel
theorem dX10_extras_69 : decode cX10_extras 69 = .ok (.ifCond .eq 8, 3) := by decide +kernel
theorem dX10_extras_72 : decode cX10_extras 72 = .ok (.bipush 10, 2) := by decide +kernel
theorem dX10_extras_74 : decode cX10_extras 74 = .ok (.goto 19, 3) := by decide +kernel
theorem dX10_extras_77 : decode cX10_extras 77 = .ok (.aload_n 0, 1) := by decide +kernel
theorem dX10_extras_78 : decode cX10_extras 78 = .ok (.ldc2_w 166, 3) := by decide +kernel
theorem dX10_extras_81 : decode cX10_extras 81 = .ok (.invokevirtual 122, 3) := by decide +kernel
theorem dX10_extras_84 : decode cX10_extras 84 = .ok (.ifCond .eq 8, 3) := by decide +kernel
theorem dX10_extras_87 : decode cX10_extras 87 = .ok (.bipush 11, 2) := by decide +kernel
theorem dX10_extras_89 : decode cX10_extras 89 = .ok (.goto 4, 3) := by decide +kernel
theorem dX10_extras_92 : decode cX10_extras 92 = .ok (.iconst (-1), 1) := by decide +kernel
theorem dX10_extras_93 : decode cX10_extras 93 = .ok (.istore_n 3, 1) := by decide +kernel
theorem dX10_extras_94 : decode cX10_extras 94 = .ok (.iload_n 3, 1) := by decide +kernel
theorem dX10_extras_95 : decode cX10_extras 95 = .ok (.iconst (-1), 1) := by decide +kernel
theorem dX10_extras_96 : decode cX10_extras 96 = .ok (.if_icmp .ne 5, 3) := by decide +kernel
theorem dX10_extras_99 : decode cX10_extras 99 = .ok (.iconst 1, 1) := by decide +kernel
theorem dX10_extras_100 : decode cX10_extras 100 = .ok (.ireturn, 1) := by decide +kernel
theorem dX10_extras_101 : decode cX10_extras 101 = .ok (.iload_n 3, 1) := by decide +kernel
theorem dX10_extras_102 : decode cX10_extras 102 = .ok (.bipush 11, 2) := by decide +kernel
theorem dX10_extras_104 : decode cX10_extras 104 = .ok (.if_icmp .ne 13, 3) := by decide +kernel
theorem dX10_extras_107 : decode cX10_extras 107 = .ok (.aload_n 0, 1) := by decide +kernel
theorem dX10_extras_108 : decode cX10_extras 108 = .ok (.iload_n 1, 1) := by decide +kernel
theorem dX10_extras_109 : decode cX10_extras 109 = .ok (.invokevirtual 220, 3) := by decide +kernel
theorem dX10_extras_112 : decode cX10_extras 112 = .ok (.ifCond .ne (-110), 3) := by decide +kernel
theorem dX10_extras_115 : decode cX10_extras 115 = .ok (.iconst 0, 1) := by decide +kernel
theorem dX10_extras_116 : decode cX10_extras 116 = .ok (.ireturn, 1) := by decide +kernel
theorem dX10_extras_117 : decode cX10_extras 117 = .ok (.iload_n 2, 1) := by decide +kernel
theorem dX10_extras_118 : decode cX10_extras 118 = .ok (.iload_n 3, 1) := by decide +kernel
theorem dX10_extras_119 : decode cX10_extras 119 = .ok (.invokestatic 217, 3) := by decide +kernel
theorem dX10_extras_122 : decode cX10_extras 122 = .ok (.ifCond .eq 9, 3) := by decide +kernel
theorem dX10_extras_125 : decode cX10_extras 125 = .ok (.aload_n 0, 1) := by decide +kernel
theorem dX10_extras_126 : decode cX10_extras 126 = .ok (.iconst 2, 1) := by decide +kernel
theorem dX10_extras_127 : decode cX10_extras 127 = .ok (.invokevirtual 112, 3) := by decide +kernel
theorem dX10_extras_130 : decode cX10_extras 130 = .ok (.ireturn, 1) := by decide +kernel
theorem dX10_extras_131 : decode cX10_extras 131 = .ok (.iload_n 2, 1) := by decide +kernel
theorem dX10_extras_132 : decode cX10_extras 132 = .ok (.iconst 1, 1) := by decide +kernel
theorem dX10_extras_133 : decode cX10_extras 133 = .ok (.iload_n 3, 1) := by decide +kernel
theorem dX10_extras_134 : decode cX10_extras 134 = .ok (.ishl, 1) := by decide +kernel
theorem dX10_extras_135 : decode cX10_extras 135 = .ok (.ior, 1) := by decide +kernel
theorem dX10_extras_136 : decode cX10_extras 136 = .ok (.istore_n 2, 1) := by decide +kernel
theorem dX10_extras_137 : decode cX10_extras 137 = .ok (.aload_n 0, 1) := by decide +kernel
theorem dX10_extras_138 : decode cX10_extras 138 = .ok (.invokevirtual 119, 3) := by decide +kernel
theorem dX10_extras_141 : decode cX10_extras 141 = .ok (.iload_n 3, 1) := by decide +kernel
theorem dX10_extras_142 : decode cX10_extras 142 = .ok (.bipush 6, 2) := by decide +kernel
theorem dX10_extras_144 : decode cX10_extras 144 = .ok (.if_icmp .ne 11, 3) := by decide +kernel
theorem dX10_extras_147 : decode cX10_extras 147 = .ok (.aload_n 0, 1) := by decide +kernel
theorem dX10_extras_148 : decode cX10_extras 148 = .ok (.iconst 1, 1) := by decide +kernel
theorem dX10_extras_149 : decode cX10_extras 149 = .ok (.putfield 116, 3) := by decide +kernel
theorem dX10_extras_152 : decode cX10_extras 152 = .ok (.goto 27, 3) := by decide +kernel
theorem dX10_extras_155 : decode cX10_extras 155 = .ok (.aload_n 0, 1) := by decide +kernel
theorem dX10_extras_156 : decode cX10_extras 156 = .ok (.iconst 0, 1) := by decide +kernel
theorem dX10_extras_157 : decode cX10_extras 157 = .ok (.iload_n 3, 1) := by decide +kernel
theorem dX10_extras_158 : decode cX10_extras 158 = .ok (.bipush 7, 2) := by decide +kernel
theorem dX10_extras_160 : decode cX10_extras 160 = .ok (.if_icmp .ne 8, 3) := by decide +kernel
theorem dX10_extras_163 : decode cX10_extras 163 = .ok (.bipush 99, 2) := by decide +kernel
theorem dX10_extras_165 : decode cX10_extras 165 = .ok (.goto 6, 3) := by decide +kernel
theorem dX10_extras_168 : decode cX10_extras 168 = .ok (.sipush 9999, 3) := by decide +kernel
theorem dX10_extras_171 : decode cX10_extras 171 = .ok (.invokevirtual 126, 3) := by decide +kernel
theorem dX10_extras_174 : decode cX10_extras 174 = .ok (.ifCond .ne 5, 3) := by decide +kernel
theorem dX10_extras_177 : decode cX10_extras 177 = .ok (.iconst 0, 1) := by decide +kernel
theorem dX10_extras_178 : decode cX10_extras 178 = .ok (.ireturn, 1) := by decide +kernel
theorem dX10_extras_179 : decode cX10_extras 179 = .ok (.aload_n 0, 1) := by decide +kernel
theorem dX10_extras_180 : decode cX10_extras 180 = .ok (.getfield 17, 3) := by decide +kernel
theorem dX10_extras_183 : decode cX10_extras 183 = .ok (.iload_n 1, 1) := by decide +kernel
theorem dX10_extras_184 : decode cX10_extras 184 = .ok (.iload_n 3, 1) := by decide +kernel
theorem dX10_extras_185 : decode cX10_extras 185 = .ok (.iadd, 1) := by decide +kernel
theorem dX10_extras_186 : decode cX10_extras 186 = .ok (.aload_n 0, 1) := by decide +kernel
theorem dX10_extras_187 : decode cX10_extras 187 = .ok (.getfield 116, 3) := by decide +kernel
theorem dX10_extras_190 : decode cX10_extras 190 = .ok (.iastore, 1) := by decide +kernel
theorem dX10_extras_191 : decode cX10_extras 191 = .ok (.goto (-189), 3) := by decide +kernel
theorem dX10_saleLine_0 : decode cX10_saleLine 0 = .ok (.bipush 56, 2) := by decide +kernel
theorem dX10_saleLine_2 : decode cX10_saleLine 2 = .ok (.bipush 12, 2) := by decide +kernel
theorem dX10_saleLine_4 : decode cX10_saleLine 4 = .ok (.aload_n 0, 1) := by decide +kernel
theorem dX10_saleLine_5 : decode cX10_saleLine 5 = .ok (.getfield 17, 3) := by decide +kernel
theorem dX10_saleLine_8 : decode cX10_saleLine 8 = .ok (.iconst 3, 1) := by decide +kernel
theorem dX10_saleLine_9 : decode cX10_saleLine 9 = .ok (.iaload, 1) := by decide +kernel
theorem dX10_saleLine_10 : decode cX10_saleLine 10 = .ok (.imul, 1) := by decide +kernel
theorem dX10_saleLine_11 : decode cX10_saleLine 11 = .ok (.iadd, 1) := by decide +kernel
theorem dX10_saleLine_12 : decode cX10_saleLine 12 = .ok (.istore_n 1, 1) := by decide +kernel
theorem dX10_saleLine_13 : decode cX10_saleLine 13 = .ok (.aload_n 0, 1) := by decide +kernel
theorem dX10_saleLine_14 : decode cX10_saleLine 14 = .ok (.iconst 3, 1) := by decide +kernel
theorem dX10_saleLine_15 : decode cX10_saleLine 15 = .ok (.bipush 10, 2) := by decide +kernel
theorem dX10_saleLine_17 : decode cX10_saleLine 17 = .ok (.invokevirtual 200, 3) := by decide +kernel
theorem dX10_saleLine_20 : decode cX10_saleLine 20 = .ok (.ifCond .eq 19, 3) := by decide +kernel
theorem dX10_saleLine_23 : decode cX10_saleLine 23 = .ok (.aload_n 0, 1) := by decide +kernel
theorem dX10_saleLine_24 : decode cX10_saleLine 24 = .ok (.iconst 3, 1) := by decide +kernel
theorem dX10_saleLine_25 : decode cX10_saleLine 25 = .ok (.invokevirtual 203, 3) := by decide +kernel
theorem dX10_saleLine_28 : decode cX10_saleLine 28 = .ok (.ifCond .eq 11, 3) := by decide +kernel
theorem dX10_saleLine_31 : decode cX10_saleLine 31 = .ok (.aload_n 0, 1) := by decide +kernel
theorem dX10_saleLine_32 : decode cX10_saleLine 32 = .ok (.iconst 1, 1) := by decide +kernel
theorem dX10_saleLine_33 : decode cX10_saleLine 33 = .ok (.invokevirtual 206, 3) := by decide +kernel
theorem dX10_saleLine_36 : decode cX10_saleLine 36 = .ok (.ifCond .ne 5, 3) := by decide +kernel
theorem dX10_saleLine_39 : decode cX10_saleLine 39 = .ok (.iconst 0, 1) := by decide +kernel
theorem dX10_saleLine_40 : decode cX10_saleLine 40 = .ok (.ireturn, 1) := by decide +kernel
theorem dX10_saleLine_41 : decode cX10_saleLine 41 = .ok (.aload_n 0, 1) := by decide +kernel
theorem dX10_saleLine_42 : decode cX10_saleLine 42 = .ok (.getfield 17, 3) := by decide +kernel
theorem dX10_saleLine_45 : decode cX10_saleLine 45 = .ok (.iload_n 1, 1) := by decide +kernel
theorem dX10_saleLine_46 : decode cX10_saleLine 46 = .ok (.iconst 0, 1) := by decide +kernel
theorem dX10_saleLine_47 : decode cX10_saleLine 47 = .ok (.iadd, 1) := by decide +kernel
theorem dX10_saleLine_48 : decode cX10_saleLine 48 = .ok (.aload_n 0, 1) := by decide +kernel
theorem dX10_saleLine_49 : decode cX10_saleLine 49 = .ok (.getfield 116, 3) := by decide +kernel
theorem dX10_saleLine_52 : decode cX10_saleLine 52 = .ok (.iastore, 1) := by decide +kernel
theorem dX10_saleLine_53 : decode cX10_saleLine 53 = .ok (.aload_n 0, 1) := by decide +kernel
theorem dX10_saleLine_54 : decode cX10_saleLine 54 = .ok (.iconst 0, 1) := by decide +kernel
theorem dX10_saleLine_55 : decode cX10_saleLine 55 = .ok (.invokevirtual 206, 3) := by decide +kernel
theorem dX10_saleLine_58 : decode cX10_saleLine 58 = .ok (.ifCond .ne 5, 3) := by decide +kernel
theorem dX10_saleLine_61 : decode cX10_saleLine 61 = .ok (.iconst 0, 1) := by decide +kernel
theorem dX10_saleLine_62 : decode cX10_saleLine 62 = .ok (.ireturn, 1) := by decide +kernel
theorem dX10_saleLine_63 : decode cX10_saleLine 63 = .ok (.aload_n 0, 1) := by decide +kernel
theorem dX10_saleLine_64 : decode cX10_saleLine 64 = .ok (.getfield 17, 3) := by decide +kernel
theorem dX10_saleLine_67 : decode cX10_saleLine 67 = .ok (.iload_n 1, 1) := by decide +kernel
theorem dX10_saleLine_68 : decode cX10_saleLine 68 = .ok (.iconst 1, 1) := by decide +kernel
theorem dX10_saleLine_69 : decode cX10_saleLine 69 = .ok (.iadd, 1) := by decide +kernel
theorem dX10_saleLine_70 : decode cX10_saleLine 70 = .ok (.aload_n 0, 1) := by decide +kernel
theorem dX10_saleLine_71 : decode cX10_saleLine 71 = .ok (.getfield 116, 3) := by decide +kernel
theorem dX10_saleLine_74 : decode cX10_saleLine 74 = .ok (.iastore, 1) := by decide +kernel
theorem dX10_saleLine_75 : decode cX10_saleLine 75 = .ok (.aload_n 0, 1) := by decide +kernel
theorem dX10_saleLine_76 : decode cX10_saleLine 76 = .ok (.iconst 0, 1) := by decide +kernel
theorem dX10_saleLine_77 : decode cX10_saleLine 77 = .ok (.invokevirtual 197, 3) := by decide +kernel
theorem dX10_saleLine_80 : decode cX10_saleLine 80 = .ok (.ifCond .ne 5, 3) := by decide +kernel
theorem dX10_saleLine_83 : decode cX10_saleLine 83 = .ok (.iconst 0, 1) := by decide +kernel
theorem dX10_saleLine_84 : decode cX10_saleLine 84 = .ok (.ireturn, 1) := by decide +kernel
theorem dX10_saleLine_85 : decode cX10_saleLine 85 = .ok (.aload_n 0, 1) := by decide +kernel
theorem dX10_saleLine_86 : decode cX10_saleLine 86 = .ok (.getfield 116, 3) := by decide +kernel
theorem dX10_saleLine_89 : decode cX10_saleLine 89 = .ok (.aload_n 0, 1) := by decide +kernel
theorem dX10_saleLine_90 : decode cX10_saleLine 90 = .ok (.getfield 17, 3) := by decide +kernel
theorem dX10_saleLine_93 : decode cX10_saleLine 93 = .ok (.iload_n 1, 1) := by decide +kernel
theorem dX10_saleLine_94 : decode cX10_saleLine 94 = .ok (.iconst 1, 1) := by decide +kernel
theorem dX10_saleLine_95 : decode cX10_saleLine 95 = .ok (.iadd, 1) := by decide +kernel
theorem dX10_saleLine_96 : decode cX10_saleLine 96 = .ok (.iaload, 1) := by decide +kernel
theorem dX10_saleLine_97 : decode cX10_saleLine 97 = .ok (.if_icmp .ne 9, 3) := by decide +kernel
theorem dX10_saleLine_100 : decode cX10_saleLine 100 = .ok (.aload_n 0, 1) := by decide +kernel
theorem dX10_saleLine_101 : decode cX10_saleLine 101 = .ok (.iconst 4, 1) := by decide +kernel
theorem dX10_saleLine_102 : decode cX10_saleLine 102 = .ok (.invokevirtual 112, 3) := by decide +kernel
theorem dX10_saleLine_105 : decode cX10_saleLine 105 = .ok (.ireturn, 1) := by decide +kernel
theorem dX10_saleLine_106 : decode cX10_saleLine 106 = .ok (.aload_n 0, 1) := by decide +kernel
theorem dX10_saleLine_107 : decode cX10_saleLine 107 = .ok (.getfield 17, 3) := by decide +kernel
theorem dX10_saleLine_110 : decode cX10_saleLine 110 = .ok (.iload_n 1, 1) := by decide +kernel
theorem dX10_saleLine_111 : decode cX10_saleLine 111 = .ok (.iconst 2, 1) := by decide +kernel
theorem dX10_saleLine_112 : decode cX10_saleLine 112 = .ok (.iadd, 1) := by decide +kernel
theorem dX10_saleLine_113 : decode cX10_saleLine 113 = .ok (.aload_n 0, 1) := by decide +kernel
theorem dX10_saleLine_114 : decode cX10_saleLine 114 = .ok (.getfield 116, 3) := by decide +kernel
theorem dX10_saleLine_117 : decode cX10_saleLine 117 = .ok (.iastore, 1) := by decide +kernel
theorem dX10_saleLine_118 : decode cX10_saleLine 118 = .ok (.aload_n 0, 1) := by decide +kernel
theorem dX10_saleLine_119 : decode cX10_saleLine 119 = .ok (.invokevirtual 119, 3) := by decide +kernel
theorem dX10_saleLine_122 : decode cX10_saleLine 122 = .ok (.aload_n 0, 1) := by decide +kernel
theorem dX10_saleLine_123 : decode cX10_saleLine 123 = .ok (.iload_n 1, 1) := by decide +kernel
theorem dX10_saleLine_124 : decode cX10_saleLine 124 = .ok (.iconst 3, 1) := by decide +kernel
theorem dX10_saleLine_125 : decode cX10_saleLine 125 = .ok (.iadd, 1) := by decide +kernel
theorem dX10_saleLine_126 : decode cX10_saleLine 126 = .ok (.invokevirtual 223, 3) := by decide +kernel
theorem dX10_saleLine_129 : decode cX10_saleLine 129 = .ok (.ifCond .eq 11, 3) := by decide +kernel
theorem dX10_saleLine_132 : decode cX10_saleLine 132 = .ok (.aload_n 0, 1) := by decide +kernel
theorem dX10_saleLine_133 : decode cX10_saleLine 133 = .ok (.iload_n 1, 1) := by decide +kernel
theorem dX10_saleLine_134 : decode cX10_saleLine 134 = .ok (.invokevirtual 226, 3) := by decide +kernel
theorem dX10_saleLine_137 : decode cX10_saleLine 137 = .ok (.ifCond .ne 5, 3) := by decide +kernel
theorem dX10_saleLine_140 : decode cX10_saleLine 140 = .ok (.iconst 0, 1) := by decide +kernel
theorem dX10_saleLine_141 : decode cX10_saleLine 141 = .ok (.ireturn, 1) := by decide +kernel
theorem dX10_saleLine_142 : decode cX10_saleLine 142 = .ok (.aload_n 0, 1) := by decide +kernel
theorem dX10_saleLine_143 : decode cX10_saleLine 143 = .ok (.getfield 17, 3) := by decide +kernel
theorem dX10_saleLine_146 : decode cX10_saleLine 146 = .ok (.iconst 3, 1) := by decide +kernel
theorem dX10_saleLine_147 : decode cX10_saleLine 147 = .ok (.dup2, 1) := by decide +kernel
theorem dX10_saleLine_148 : decode cX10_saleLine 148 = .ok (.iaload, 1) := by decide +kernel
theorem dX10_saleLine_149 : decode cX10_saleLine 149 = .ok (.iconst 1, 1) := by decide +kernel
theorem dX10_saleLine_150 : decode cX10_saleLine 150 = .ok (.iadd, 1) := by decide +kernel
theorem dX10_saleLine_151 : decode cX10_saleLine 151 = .ok (.iastore, 1) := by decide +kernel
theorem dX10_saleLine_152 : decode cX10_saleLine 152 = .ok (.iconst 1, 1) := by decide +kernel
theorem dX10_saleLine_153 : decode cX10_saleLine 153 = .ok (.ireturn, 1) := by decide +kernel
theorem dX10_trade_0 : decode cX10_trade 0 = .ok (.aload_n 0, 1) := by decide +kernel
theorem dX10_trade_1 : decode cX10_trade 1 = .ok (.ldc2_w 150, 3) := by decide +kernel
theorem dX10_trade_4 : decode cX10_trade 4 = .ok (.iconst 1, 1) := by decide +kernel
theorem dX10_trade_5 : decode cX10_trade 5 = .ok (.sipush 9999, 3) := by decide +kernel
theorem dX10_trade_8 : decode cX10_trade 8 = .ok (.invokevirtual 213, 3) := by decide +kernel
theorem dX10_trade_11 : decode cX10_trade 11 = .ok (.ifCond .ne 5, 3) := by decide +kernel
theorem dX10_trade_14 : decode cX10_trade 14 = .ok (.iconst 0, 1) := by decide +kernel
theorem dX10_trade_15 : decode cX10_trade 15 = .ok (.ireturn, 1) := by decide +kernel
theorem dX10_trade_16 : decode cX10_trade 16 = .ok (.aload_n 0, 1) := by decide +kernel
theorem dX10_trade_17 : decode cX10_trade 17 = .ok (.getfield 17, 3) := by decide +kernel
theorem dX10_trade_20 : decode cX10_trade 20 = .ok (.iload_n 1, 1) := by decide +kernel
theorem dX10_trade_21 : decode cX10_trade 21 = .ok (.aload_n 0, 1) := by decide +kernel
theorem dX10_trade_22 : decode cX10_trade 22 = .ok (.getfield 116, 3) := by decide +kernel
theorem dX10_trade_25 : decode cX10_trade 25 = .ok (.iastore, 1) := by decide +kernel
theorem dX10_trade_26 : decode cX10_trade 26 = .ok (.aload_n 0, 1) := by decide +kernel
theorem dX10_trade_27 : decode cX10_trade 27 = .ok (.ldc2_w 152, 3) := by decide +kernel
theorem dX10_trade_30 : decode cX10_trade 30 = .ok (.iconst 1, 1) := by decide +kernel
theorem dX10_trade_31 : decode cX10_trade 31 = .ok (.sipush 9999, 3) := by decide +kernel
theorem dX10_trade_34 : decode cX10_trade 34 = .ok (.invokevirtual 213, 3) := by decide +kernel
theorem dX10_trade_37 : decode cX10_trade 37 = .ok (.ifCond .ne 5, 3) := by decide +kernel
theorem dX10_trade_40 : decode cX10_trade 40 = .ok (.iconst 0, 1) := by decide +kernel
theorem dX10_trade_41 : decode cX10_trade 41 = .ok (.ireturn, 1) := by decide +kernel
theorem dX10_trade_42 : decode cX10_trade 42 = .ok (.aload_n 0, 1) := by decide +kernel
theorem dX10_trade_43 : decode cX10_trade 43 = .ok (.getfield 17, 3) := by decide +kernel
theorem dX10_trade_46 : decode cX10_trade 46 = .ok (.iload_n 1, 1) := by decide +kernel
theorem dX10_trade_47 : decode cX10_trade 47 = .ok (.iconst 1, 1) := by decide +kernel
theorem dX10_trade_48 : decode cX10_trade 48 = .ok (.iadd, 1) := by decide +kernel
theorem dX10_trade_49 : decode cX10_trade 49 = .ok (.aload_n 0, 1) := by decide +kernel
theorem dX10_trade_50 : decode cX10_trade 50 = .ok (.getfield 116, 3) := by decide +kernel
theorem dX10_trade_53 : decode cX10_trade 53 = .ok (.iastore, 1) := by decide +kernel
theorem dX10_trade_54 : decode cX10_trade 54 = .ok (.aload_n 0, 1) := by decide +kernel
theorem dX10_trade_55 : decode cX10_trade 55 = .ok (.ldc2_w 154, 3) := by decide +kernel
theorem dX10_trade_58 : decode cX10_trade 58 = .ok (.iconst 0, 1) := by decide +kernel
theorem dX10_trade_59 : decode cX10_trade 59 = .ok (.sipush 999, 3) := by decide +kernel
theorem dX10_trade_62 : decode cX10_trade 62 = .ok (.invokevirtual 213, 3) := by decide +kernel
theorem dX10_trade_65 : decode cX10_trade 65 = .ok (.ifCond .ne 5, 3) := by decide +kernel
theorem dX10_trade_68 : decode cX10_trade 68 = .ok (.iconst 0, 1) := by decide +kernel
theorem dX10_trade_69 : decode cX10_trade 69 = .ok (.ireturn, 1) := by decide +kernel
theorem dX10_trade_70 : decode cX10_trade 70 = .ok (.aload_n 0, 1) := by decide +kernel
theorem dX10_trade_71 : decode cX10_trade 71 = .ok (.getfield 17, 3) := by decide +kernel
theorem dX10_trade_74 : decode cX10_trade 74 = .ok (.iload_n 1, 1) := by decide +kernel
theorem dX10_trade_75 : decode cX10_trade 75 = .ok (.iconst 2, 1) := by decide +kernel
theorem dX10_trade_76 : decode cX10_trade 76 = .ok (.iadd, 1) := by decide +kernel
theorem dX10_trade_77 : decode cX10_trade 77 = .ok (.aload_n 0, 1) := by decide +kernel
theorem dX10_trade_78 : decode cX10_trade 78 = .ok (.getfield 116, 3) := by decide +kernel
theorem dX10_trade_81 : decode cX10_trade 81 = .ok (.iastore, 1) := by decide +kernel
theorem dX10_trade_82 : decode cX10_trade 82 = .ok (.iconst 1, 1) := by decide +kernel
theorem dX10_trade_83 : decode cX10_trade 83 = .ok (.ireturn, 1) := by decide +kernel
theorem dX10_resoldLine_0 : decode cX10_resoldLine 0 = .ok (.sipush 176, 3) := by decide +kernel
theorem dX10_resoldLine_3 : decode cX10_resoldLine 3 = .ok (.iconst 4, 1) := by decide +kernel
theorem dX10_resoldLine_4 : decode cX10_resoldLine 4 = .ok (.aload_n 0, 1) := by decide +kernel
theorem dX10_resoldLine_5 : decode cX10_resoldLine 5 = .ok (.getfield 17, 3) := by decide +kernel
theorem dX10_resoldLine_8 : decode cX10_resoldLine 8 = .ok (.iconst 4, 1) := by decide +kernel
theorem dX10_resoldLine_9 : decode cX10_resoldLine 9 = .ok (.iaload, 1) := by decide +kernel
theorem dX10_resoldLine_10 : decode cX10_resoldLine 10 = .ok (.imul, 1) := by decide +kernel
theorem dX10_resoldLine_11 : decode cX10_resoldLine 11 = .ok (.iadd, 1) := by decide +kernel
theorem dX10_resoldLine_12 : decode cX10_resoldLine 12 = .ok (.istore_n 1, 1) := by decide +kernel
theorem dX10_resoldLine_13 : decode cX10_resoldLine 13 = .ok (.aload_n 0, 1) := by decide +kernel
theorem dX10_resoldLine_14 : decode cX10_resoldLine 14 = .ok (.iconst 4, 1) := by decide +kernel
theorem dX10_resoldLine_15 : decode cX10_resoldLine 15 = .ok (.bipush 12, 2) := by decide +kernel
theorem dX10_resoldLine_17 : decode cX10_resoldLine 17 = .ok (.invokevirtual 200, 3) := by decide +kernel
theorem dX10_resoldLine_20 : decode cX10_resoldLine 20 = .ok (.ifCond .eq 11, 3) := by decide +kernel
theorem dX10_resoldLine_23 : decode cX10_resoldLine 23 = .ok (.aload_n 0, 1) := by decide +kernel
theorem dX10_resoldLine_24 : decode cX10_resoldLine 24 = .ok (.iconst 1, 1) := by decide +kernel
theorem dX10_resoldLine_25 : decode cX10_resoldLine 25 = .ok (.invokevirtual 206, 3) := by decide +kernel
theorem dX10_resoldLine_28 : decode cX10_resoldLine 28 = .ok (.ifCond .ne 5, 3) := by decide +kernel
theorem dX10_resoldLine_31 : decode cX10_resoldLine 31 = .ok (.iconst 0, 1) := by decide +kernel
theorem dX10_resoldLine_32 : decode cX10_resoldLine 32 = .ok (.ireturn, 1) := by decide +kernel
theorem dX10_resoldLine_33 : decode cX10_resoldLine 33 = .ok (.aload_n 0, 1) := by decide +kernel
theorem dX10_resoldLine_34 : decode cX10_resoldLine 34 = .ok (.getfield 17, 3) := by decide +kernel
theorem dX10_resoldLine_37 : decode cX10_resoldLine 37 = .ok (.iload_n 1, 1) := by decide +kernel
theorem dX10_resoldLine_38 : decode cX10_resoldLine 38 = .ok (.iconst 0, 1) := by decide +kernel
theorem dX10_resoldLine_39 : decode cX10_resoldLine 39 = .ok (.iadd, 1) := by decide +kernel
theorem dX10_resoldLine_40 : decode cX10_resoldLine 40 = .ok (.aload_n 0, 1) := by decide +kernel
theorem dX10_resoldLine_41 : decode cX10_resoldLine 41 = .ok (.getfield 116, 3) := by decide +kernel
theorem dX10_resoldLine_44 : decode cX10_resoldLine 44 = .ok (.iastore, 1) := by decide +kernel
theorem dX10_resoldLine_45 : decode cX10_resoldLine 45 = .ok (.aload_n 0, 1) := by decide +kernel
theorem dX10_resoldLine_46 : decode cX10_resoldLine 46 = .ok (.iload_n 1, 1) := by decide +kernel
theorem dX10_resoldLine_47 : decode cX10_resoldLine 47 = .ok (.iconst 1, 1) := by decide +kernel
theorem dX10_resoldLine_48 : decode cX10_resoldLine 48 = .ok (.iadd, 1) := by decide +kernel
theorem dX10_resoldLine_49 : decode cX10_resoldLine 49 = .ok (.invokevirtual 223, 3) := by decide +kernel
theorem dX10_resoldLine_52 : decode cX10_resoldLine 52 = .ok (.ifCond .ne 5, 3) := by decide +kernel
theorem dX10_resoldLine_55 : decode cX10_resoldLine 55 = .ok (.iconst 0, 1) := by decide +kernel
theorem dX10_resoldLine_56 : decode cX10_resoldLine 56 = .ok (.ireturn, 1) := by decide +kernel
theorem dX10_resoldLine_57 : decode cX10_resoldLine 57 = .ok (.aload_n 0, 1) := by decide +kernel
theorem dX10_resoldLine_58 : decode cX10_resoldLine 58 = .ok (.getfield 17, 3) := by decide +kernel
theorem dX10_resoldLine_61 : decode cX10_resoldLine 61 = .ok (.iconst 4, 1) := by decide +kernel
theorem dX10_resoldLine_62 : decode cX10_resoldLine 62 = .ok (.dup2, 1) := by decide +kernel
theorem dX10_resoldLine_63 : decode cX10_resoldLine 63 = .ok (.iaload, 1) := by decide +kernel
theorem dX10_resoldLine_64 : decode cX10_resoldLine 64 = .ok (.iconst 1, 1) := by decide +kernel
theorem dX10_resoldLine_65 : decode cX10_resoldLine 65 = .ok (.iadd, 1) := by decide +kernel
theorem dX10_resoldLine_66 : decode cX10_resoldLine 66 = .ok (.iastore, 1) := by decide +kernel
theorem dX10_resoldLine_67 : decode cX10_resoldLine 67 = .ok (.iconst 1, 1) := by decide +kernel
theorem dX10_resoldLine_68 : decode cX10_resoldLine 68 = .ok (.ireturn, 1) := by decide +kernel
theorem dX10_madeLine_0 : decode cX10_madeLine 0 = .ok (.aload_n 0, 1) := by decide +kernel
theorem dX10_madeLine_1 : decode cX10_madeLine 1 = .ok (.invokevirtual 119, 3) := by decide +kernel
theorem dX10_madeLine_4 : decode cX10_madeLine 4 = .ok (.aload_n 0, 1) := by decide +kernel
theorem dX10_madeLine_5 : decode cX10_madeLine 5 = .ok (.iconst 1, 1) := by decide +kernel
theorem dX10_madeLine_6 : decode cX10_madeLine 6 = .ok (.invokevirtual 197, 3) := by decide +kernel
theorem dX10_madeLine_9 : decode cX10_madeLine 9 = .ok (.ifCond .ne 5, 3) := by decide +kernel
theorem dX10_madeLine_12 : decode cX10_madeLine 12 = .ok (.iconst 0, 1) := by decide +kernel
theorem dX10_madeLine_13 : decode cX10_madeLine 13 = .ok (.ireturn, 1) := by decide +kernel
theorem dX10_madeLine_14 : decode cX10_madeLine 14 = .ok (.bipush 24, 2) := by decide +kernel
theorem dX10_madeLine_16 : decode cX10_madeLine 16 = .ok (.iconst 4, 1) := by decide +kernel
theorem dX10_madeLine_17 : decode cX10_madeLine 17 = .ok (.aload_n 0, 1) := by decide +kernel
theorem dX10_madeLine_18 : decode cX10_madeLine 18 = .ok (.getfield 116, 3) := by decide +kernel
theorem dX10_madeLine_21 : decode cX10_madeLine 21 = .ok (.imul, 1) := by decide +kernel
theorem dX10_madeLine_22 : decode cX10_madeLine 22 = .ok (.iadd, 1) := by decide +kernel
theorem dX10_madeLine_23 : decode cX10_madeLine 23 = .ok (.istore_n 1, 1) := by decide +kernel
theorem dX10_madeLine_24 : decode cX10_madeLine 24 = .ok (.aload_n 0, 1) := by decide +kernel
theorem dX10_madeLine_25 : decode cX10_madeLine 25 = .ok (.getfield 17, 3) := by decide +kernel
theorem dX10_madeLine_28 : decode cX10_madeLine 28 = .ok (.iload_n 1, 1) := by decide +kernel
theorem dX10_madeLine_29 : decode cX10_madeLine 29 = .ok (.iconst 2, 1) := by decide +kernel
theorem dX10_madeLine_30 : decode cX10_madeLine 30 = .ok (.iadd, 1) := by decide +kernel
theorem dX10_madeLine_31 : decode cX10_madeLine 31 = .ok (.iaload, 1) := by decide +kernel
theorem dX10_madeLine_32 : decode cX10_madeLine 32 = .ok (.ifCond .le 9, 3) := by decide +kernel
theorem dX10_madeLine_35 : decode cX10_madeLine 35 = .ok (.aload_n 0, 1) := by decide +kernel
theorem dX10_madeLine_36 : decode cX10_madeLine 36 = .ok (.iconst 2, 1) := by decide +kernel
theorem dX10_madeLine_37 : decode cX10_madeLine 37 = .ok (.invokevirtual 112, 3) := by decide +kernel
theorem dX10_madeLine_40 : decode cX10_madeLine 40 = .ok (.ireturn, 1) := by decide +kernel
theorem dX10_madeLine_41 : decode cX10_madeLine 41 = .ok (.aload_n 0, 1) := by decide +kernel
theorem dX10_madeLine_42 : decode cX10_madeLine 42 = .ok (.invokevirtual 119, 3) := by decide +kernel
theorem dX10_madeLine_45 : decode cX10_madeLine 45 = .ok (.aload_n 0, 1) := by decide +kernel
theorem dX10_madeLine_46 : decode cX10_madeLine 46 = .ok (.ldc2_w 172, 3) := by decide +kernel
theorem dX10_madeLine_49 : decode cX10_madeLine 49 = .ok (.iconst 1, 1) := by decide +kernel
theorem dX10_madeLine_50 : decode cX10_madeLine 50 = .ok (.sipush 9999, 3) := by decide +kernel
theorem dX10_madeLine_53 : decode cX10_madeLine 53 = .ok (.invokevirtual 213, 3) := by decide +kernel
theorem dX10_madeLine_56 : decode cX10_madeLine 56 = .ok (.ifCond .ne 5, 3) := by decide +kernel
theorem dX10_madeLine_59 : decode cX10_madeLine 59 = .ok (.iconst 0, 1) := by decide +kernel
theorem dX10_madeLine_60 : decode cX10_madeLine 60 = .ok (.ireturn, 1) := by decide +kernel
theorem dX10_madeLine_61 : decode cX10_madeLine 61 = .ok (.aload_n 0, 1) := by decide +kernel
theorem dX10_madeLine_62 : decode cX10_madeLine 62 = .ok (.getfield 17, 3) := by decide +kernel
theorem dX10_madeLine_65 : decode cX10_madeLine 65 = .ok (.iload_n 1, 1) := by decide +kernel
theorem dX10_madeLine_66 : decode cX10_madeLine 66 = .ok (.iconst 2, 1) := by decide +kernel
theorem dX10_madeLine_67 : decode cX10_madeLine 67 = .ok (.iadd, 1) := by decide +kernel
theorem dX10_madeLine_68 : decode cX10_madeLine 68 = .ok (.aload_n 0, 1) := by decide +kernel
theorem dX10_madeLine_69 : decode cX10_madeLine 69 = .ok (.getfield 116, 3) := by decide +kernel
theorem dX10_madeLine_72 : decode cX10_madeLine 72 = .ok (.iastore, 1) := by decide +kernel
theorem dX10_madeLine_73 : decode cX10_madeLine 73 = .ok (.aload_n 0, 1) := by decide +kernel
theorem dX10_madeLine_74 : decode cX10_madeLine 74 = .ok (.ldc2_w 174, 3) := by decide +kernel
theorem dX10_madeLine_77 : decode cX10_madeLine 77 = .ok (.iconst 0, 1) := by decide +kernel
theorem dX10_madeLine_78 : decode cX10_madeLine 78 = .ok (.bipush 99, 2) := by decide +kernel
theorem dX10_madeLine_80 : decode cX10_madeLine 80 = .ok (.invokevirtual 213, 3) := by decide +kernel
theorem dX10_madeLine_83 : decode cX10_madeLine 83 = .ok (.ifCond .ne 5, 3) := by decide +kernel
theorem dX10_madeLine_86 : decode cX10_madeLine 86 = .ok (.iconst 0, 1) := by decide +kernel
theorem dX10_madeLine_87 : decode cX10_madeLine 87 = .ok (.ireturn, 1) := by decide +kernel
theorem dX10_madeLine_88 : decode cX10_madeLine 88 = .ok (.aload_n 0, 1) := by decide +kernel
theorem dX10_madeLine_89 : decode cX10_madeLine 89 = .ok (.getfield 17, 3) := by decide +kernel
theorem dX10_madeLine_92 : decode cX10_madeLine 92 = .ok (.iload_n 1, 1) := by decide +kernel
theorem dX10_madeLine_93 : decode cX10_madeLine 93 = .ok (.iconst 3, 1) := by decide +kernel
theorem dX10_madeLine_94 : decode cX10_madeLine 94 = .ok (.iadd, 1) := by decide +kernel
theorem dX10_madeLine_95 : decode cX10_madeLine 95 = .ok (.aload_n 0, 1) := by decide +kernel
theorem dX10_madeLine_96 : decode cX10_madeLine 96 = .ok (.getfield 116, 3) := by decide +kernel
theorem dX10_madeLine_99 : decode cX10_madeLine 99 = .ok (.iastore, 1) := by decide +kernel
theorem dX10_madeLine_100 : decode cX10_madeLine 100 = .ok (.iconst 1, 1) := by decide +kernel
theorem dX10_madeLine_101 : decode cX10_madeLine 101 = .ok (.ireturn, 1) := by decide +kernel
theorem dX10_bandLine_0 : decode cX10_bandLine 0 = .ok (.sipush 224, 3) := by decide +kernel
theorem dX10_bandLine_3 : decode cX10_bandLine 3 = .ok (.iconst 2, 1) := by decide +kernel
theorem dX10_bandLine_4 : decode cX10_bandLine 4 = .ok (.aload_n 0, 1) := by decide +kernel
theorem dX10_bandLine_5 : decode cX10_bandLine 5 = .ok (.getfield 17, 3) := by decide +kernel
theorem dX10_bandLine_8 : decode cX10_bandLine 8 = .ok (.iconst 5, 1) := by decide +kernel
theorem dX10_bandLine_9 : decode cX10_bandLine 9 = .ok (.iaload, 1) := by decide +kernel
theorem dX10_bandLine_10 : decode cX10_bandLine 10 = .ok (.imul, 1) := by decide +kernel
theorem dX10_bandLine_11 : decode cX10_bandLine 11 = .ok (.iadd, 1) := by decide +kernel
theorem dX10_bandLine_12 : decode cX10_bandLine 12 = .ok (.istore_n 1, 1) := by decide +kernel
theorem dX10_bandLine_13 : decode cX10_bandLine 13 = .ok (.aload_n 0, 1) := by decide +kernel
theorem dX10_bandLine_14 : decode cX10_bandLine 14 = .ok (.getfield 17, 3) := by decide +kernel
theorem dX10_bandLine_17 : decode cX10_bandLine 17 = .ok (.iconst 5, 1) := by decide +kernel
theorem dX10_bandLine_18 : decode cX10_bandLine 18 = .ok (.iaload, 1) := by decide +kernel
theorem dX10_bandLine_19 : decode cX10_bandLine 19 = .ok (.ifCond .ne 7, 3) := by decide +kernel
theorem dX10_bandLine_22 : decode cX10_bandLine 22 = .ok (.iconst 2, 1) := by decide +kernel
theorem dX10_bandLine_23 : decode cX10_bandLine 23 = .ok (.goto 13, 3) := by decide +kernel
theorem dX10_bandLine_26 : decode cX10_bandLine 26 = .ok (.aload_n 0, 1) := by decide +kernel
theorem dX10_bandLine_27 : decode cX10_bandLine 27 = .ok (.getfield 17, 3) := by decide +kernel
theorem dX10_bandLine_30 : decode cX10_bandLine 30 = .ok (.iload_n 1, 1) := by decide +kernel
theorem dX10_bandLine_31 : decode cX10_bandLine 31 = .ok (.iconst 2, 1) := by decide +kernel
theorem dX10_bandLine_32 : decode cX10_bandLine 32 = .ok (.isub, 1) := by decide +kernel
theorem dX10_bandLine_33 : decode cX10_bandLine 33 = .ok (.iaload, 1) := by decide +kernel
theorem dX10_bandLine_34 : decode cX10_bandLine 34 = .ok (.iconst 1, 1) := by decide +kernel
theorem dX10_bandLine_35 : decode cX10_bandLine 35 = .ok (.iadd, 1) := by decide +kernel
theorem dX10_bandLine_36 : decode cX10_bandLine 36 = .ok (.istore_n 2, 1) := by decide +kernel
theorem dX10_bandLine_37 : decode cX10_bandLine 37 = .ok (.aload_n 0, 1) := by decide +kernel
theorem dX10_bandLine_38 : decode cX10_bandLine 38 = .ok (.iconst 5, 1) := by decide +kernel
theorem dX10_bandLine_39 : decode cX10_bandLine 39 = .ok (.iconst 4, 1) := by decide +kernel
theorem dX10_bandLine_40 : decode cX10_bandLine 40 = .ok (.invokevirtual 200, 3) := by decide +kernel
theorem dX10_bandLine_43 : decode cX10_bandLine 43 = .ok (.ifCond .eq 17, 3) := by decide +kernel
theorem dX10_bandLine_46 : decode cX10_bandLine 46 = .ok (.aload_n 0, 1) := by decide +kernel
theorem dX10_bandLine_47 : decode cX10_bandLine 47 = .ok (.ldc2_w 178, 3) := by decide +kernel
theorem dX10_bandLine_50 : decode cX10_bandLine 50 = .ok (.iload_n 2, 1) := by decide +kernel
theorem dX10_bandLine_51 : decode cX10_bandLine 51 = .ok (.sipush 9999, 3) := by decide +kernel
theorem dX10_bandLine_54 : decode cX10_bandLine 54 = .ok (.invokevirtual 213, 3) := by decide +kernel
theorem dX10_bandLine_57 : decode cX10_bandLine 57 = .ok (.ifCond .ne 5, 3) := by decide +kernel
theorem dX10_bandLine_60 : decode cX10_bandLine 60 = .ok (.iconst 0, 1) := by decide +kernel
theorem dX10_bandLine_61 : decode cX10_bandLine 61 = .ok (.ireturn, 1) := by decide +kernel
theorem dX10_bandLine_62 : decode cX10_bandLine 62 = .ok (.aload_n 0, 1) := by decide +kernel
theorem dX10_bandLine_63 : decode cX10_bandLine 63 = .ok (.getfield 17, 3) := by decide +kernel
theorem dX10_bandLine_66 : decode cX10_bandLine 66 = .ok (.iload_n 1, 1) := by decide +kernel
theorem dX10_bandLine_67 : decode cX10_bandLine 67 = .ok (.aload_n 0, 1) := by decide +kernel
theorem dX10_bandLine_68 : decode cX10_bandLine 68 = .ok (.getfield 116, 3) := by decide +kernel
theorem dX10_bandLine_71 : decode cX10_bandLine 71 = .ok (.iastore, 1) := by decide +kernel
theorem dX10_bandLine_72 : decode cX10_bandLine 72 = .ok (.aload_n 0, 1) := by decide +kernel
theorem dX10_bandLine_73 : decode cX10_bandLine 73 = .ok (.ldc2_w 180, 3) := by decide +kernel
theorem dX10_bandLine_76 : decode cX10_bandLine 76 = .ok (.iconst 0, 1) := by decide +kernel
theorem dX10_bandLine_77 : decode cX10_bandLine 77 = .ok (.bipush 90, 2) := by decide +kernel
theorem dX10_bandLine_79 : decode cX10_bandLine 79 = .ok (.invokevirtual 213, 3) := by decide +kernel
theorem dX10_bandLine_82 : decode cX10_bandLine 82 = .ok (.ifCond .ne 5, 3) := by decide +kernel
theorem dX10_bandLine_85 : decode cX10_bandLine 85 = .ok (.iconst 0, 1) := by decide +kernel
theorem dX10_bandLine_86 : decode cX10_bandLine 86 = .ok (.ireturn, 1) := by decide +kernel
theorem dX10_bandLine_87 : decode cX10_bandLine 87 = .ok (.aload_n 0, 1) := by decide +kernel
theorem dX10_bandLine_88 : decode cX10_bandLine 88 = .ok (.getfield 17, 3) := by decide +kernel
theorem dX10_bandLine_91 : decode cX10_bandLine 91 = .ok (.iload_n 1, 1) := by decide +kernel
theorem dX10_bandLine_92 : decode cX10_bandLine 92 = .ok (.iconst 1, 1) := by decide +kernel
theorem dX10_bandLine_93 : decode cX10_bandLine 93 = .ok (.iadd, 1) := by decide +kernel
theorem dX10_bandLine_94 : decode cX10_bandLine 94 = .ok (.aload_n 0, 1) := by decide +kernel
theorem dX10_bandLine_95 : decode cX10_bandLine 95 = .ok (.getfield 116, 3) := by decide +kernel
theorem dX10_bandLine_98 : decode cX10_bandLine 98 = .ok (.iastore, 1) := by decide +kernel
theorem dX10_bandLine_99 : decode cX10_bandLine 99 = .ok (.aload_n 0, 1) := by decide +kernel
theorem dX10_bandLine_100 : decode cX10_bandLine 100 = .ok (.getfield 17, 3) := by decide +kernel
theorem dX10_bandLine_103 : decode cX10_bandLine 103 = .ok (.iconst 5, 1) := by decide +kernel
theorem dX10_bandLine_104 : decode cX10_bandLine 104 = .ok (.dup2, 1) := by decide +kernel
theorem dX10_bandLine_105 : decode cX10_bandLine 105 = .ok (.iaload, 1) := by decide +kernel
theorem dX10_bandLine_106 : decode cX10_bandLine 106 = .ok (.iconst 1, 1) := by decide +kernel
theorem dX10_bandLine_107 : decode cX10_bandLine 107 = .ok (.iadd, 1) := by decide +kernel
theorem dX10_bandLine_108 : decode cX10_bandLine 108 = .ok (.iastore, 1) := by decide +kernel
theorem dX10_bandLine_109 : decode cX10_bandLine 109 = .ok (.iconst 1, 1) := by decide +kernel
theorem dX10_bandLine_110 : decode cX10_bandLine 110 = .ok (.ireturn, 1) := by decide +kernel
theorem dX10_ruleLine_0 : decode cX10_ruleLine 0 = .ok (.aload_n 0, 1) := by decide +kernel
theorem dX10_ruleLine_1 : decode cX10_ruleLine 1 = .ok (.getfield 229, 3) := by decide +kernel
theorem dX10_ruleLine_4 : decode cX10_ruleLine 4 = .ok (.iload_n 1, 1) := by decide +kernel
theorem dX10_ruleLine_5 : decode cX10_ruleLine 5 = .ok (.invokestatic 217, 3) := by decide +kernel
theorem dX10_ruleLine_8 : decode cX10_ruleLine 8 = .ok (.ifCond .eq 9, 3) := by decide +kernel
theorem dX10_ruleLine_11 : decode cX10_ruleLine 11 = .ok (.aload_n 0, 1) := by decide +kernel
theorem dX10_ruleLine_12 : decode cX10_ruleLine 12 = .ok (.iconst 2, 1) := by decide +kernel
theorem dX10_ruleLine_13 : decode cX10_ruleLine 13 = .ok (.invokevirtual 112, 3) := by decide +kernel
theorem dX10_ruleLine_16 : decode cX10_ruleLine 16 = .ok (.ireturn, 1) := by decide +kernel
theorem dX10_ruleLine_17 : decode cX10_ruleLine 17 = .ok (.aload_n 0, 1) := by decide +kernel
theorem dX10_ruleLine_18 : decode cX10_ruleLine 18 = .ok (.dup, 1) := by decide +kernel
theorem dX10_ruleLine_19 : decode cX10_ruleLine 19 = .ok (.getfield 229, 3) := by decide +kernel
theorem dX10_ruleLine_22 : decode cX10_ruleLine 22 = .ok (.iconst 1, 1) := by decide +kernel
theorem dX10_ruleLine_23 : decode cX10_ruleLine 23 = .ok (.iload_n 1, 1) := by decide +kernel
theorem dX10_ruleLine_24 : decode cX10_ruleLine 24 = .ok (.ishl, 1) := by decide +kernel
theorem dX10_ruleLine_25 : decode cX10_ruleLine 25 = .ok (.ior, 1) := by decide +kernel
theorem dX10_ruleLine_26 : decode cX10_ruleLine 26 = .ok (.putfield 229, 3) := by decide +kernel
theorem dX10_ruleLine_29 : decode cX10_ruleLine 29 = .ok (.aload_n 0, 1) := by decide +kernel
theorem dX10_ruleLine_30 : decode cX10_ruleLine 30 = .ok (.invokevirtual 119, 3) := by decide +kernel
theorem dX10_ruleLine_33 : decode cX10_ruleLine 33 = .ok (.aload_n 0, 1) := by decide +kernel
theorem dX10_ruleLine_34 : decode cX10_ruleLine 34 = .ok (.iload_n 1, 1) := by decide +kernel
theorem dX10_ruleLine_35 : decode cX10_ruleLine 35 = .ok (.invokestatic 232, 3) := by decide +kernel
theorem dX10_ruleLine_38 : decode cX10_ruleLine 38 = .ok (.iload_n 1, 1) := by decide +kernel
theorem dX10_ruleLine_39 : decode cX10_ruleLine 39 = .ok (.invokestatic 235, 3) := by decide +kernel
theorem dX10_ruleLine_42 : decode cX10_ruleLine 42 = .ok (.invokevirtual 126, 3) := by decide +kernel
theorem dX10_ruleLine_45 : decode cX10_ruleLine 45 = .ok (.ifCond .ne 5, 3) := by decide +kernel
theorem dX10_ruleLine_48 : decode cX10_ruleLine 48 = .ok (.iconst 0, 1) := by decide +kernel
theorem dX10_ruleLine_49 : decode cX10_ruleLine 49 = .ok (.ireturn, 1) := by decide +kernel
theorem dX10_ruleLine_50 : decode cX10_ruleLine 50 = .ok (.aload_n 0, 1) := by decide +kernel
theorem dX10_ruleLine_51 : decode cX10_ruleLine 51 = .ok (.getfield 17, 3) := by decide +kernel
theorem dX10_ruleLine_54 : decode cX10_ruleLine 54 = .ok (.iload_n 1, 1) := by decide +kernel
theorem dX10_ruleLine_55 : decode cX10_ruleLine 55 = .ok (.aload_n 0, 1) := by decide +kernel
theorem dX10_ruleLine_56 : decode cX10_ruleLine 56 = .ok (.getfield 116, 3) := by decide +kernel
theorem dX10_ruleLine_59 : decode cX10_ruleLine 59 = .ok (.iastore, 1) := by decide +kernel
theorem dX10_ruleLine_60 : decode cX10_ruleLine 60 = .ok (.iconst 1, 1) := by decide +kernel
theorem dX10_ruleLine_61 : decode cX10_ruleLine 61 = .ok (.ireturn, 1) := by decide +kernel
theorem dX10_leastOf_0 : decode cX10_leastOf 0 = .ok (.iload_n 0, 1) := by decide +kernel
theorem dX10_leastOf_1 : decode cX10_leastOf 1 = .ok (.bipush 7, 2) := by decide +kernel
theorem dX10_leastOf_3 : decode cX10_leastOf 3 = .ok (.if_icmp .ne 7, 3) := by decide +kernel
theorem dX10_leastOf_6 : decode cX10_leastOf 6 = .ok (.iconst 1, 1) := by decide +kernel
theorem dX10_leastOf_7 : decode cX10_leastOf 7 = .ok (.goto 4, 3) := by decide +kernel
theorem dX10_leastOf_10 : decode cX10_leastOf 10 = .ok (.iconst 0, 1) := by decide +kernel
theorem dX10_leastOf_11 : decode cX10_leastOf 11 = .ok (.ireturn, 1) := by decide +kernel
theorem dX10_mostOf_0 : decode cX10_mostOf 0 = .ok (.iload_n 0, 1) := by decide +kernel
theorem dX10_mostOf_1 : decode cX10_mostOf 1 = .ok (.bipush 6, 2) := by decide +kernel
theorem dX10_mostOf_3 : decode cX10_mostOf 3 = .ok (.if_icmp .ne 8, 3) := by decide +kernel
theorem dX10_mostOf_6 : decode cX10_mostOf 6 = .ok (.bipush 50, 2) := by decide +kernel
theorem dX10_mostOf_8 : decode cX10_mostOf 8 = .ok (.goto 28, 3) := by decide +kernel
theorem dX10_mostOf_11 : decode cX10_mostOf 11 = .ok (.iload_n 0, 1) := by decide +kernel
theorem dX10_mostOf_12 : decode cX10_mostOf 12 = .ok (.bipush 7, 2) := by decide +kernel
theorem dX10_mostOf_14 : decode cX10_mostOf 14 = .ok (.if_icmp .ne 9, 3) := by decide +kernel
theorem dX10_mostOf_17 : decode cX10_mostOf 17 = .ok (.sipush 999, 3) := by decide +kernel
theorem dX10_mostOf_20 : decode cX10_mostOf 20 = .ok (.goto 16, 3) := by decide +kernel
theorem dX10_mostOf_23 : decode cX10_mostOf 23 = .ok (.iload_n 0, 1) := by decide +kernel
theorem dX10_mostOf_24 : decode cX10_mostOf 24 = .ok (.bipush 8, 2) := by decide +kernel
theorem dX10_mostOf_26 : decode cX10_mostOf 26 = .ok (.if_icmp .ne 8, 3) := by decide +kernel
theorem dX10_mostOf_29 : decode cX10_mostOf 29 = .ok (.bipush 90, 2) := by decide +kernel
theorem dX10_mostOf_31 : decode cX10_mostOf 31 = .ok (.goto 5, 3) := by decide +kernel
theorem dX10_mostOf_34 : decode cX10_mostOf 34 = .ok (.bipush 99, 2) := by decide +kernel
theorem dX10_mostOf_36 : decode cX10_mostOf 36 = .ok (.ireturn, 1) := by decide +kernel
theorem dX10_line_0 : decode cX10_line 0 = .ok (.aload_n 0, 1) := by decide +kernel
theorem dX10_line_1 : decode cX10_line 1 = .ok (.ldc2_w 130, 3) := by decide +kernel
theorem dX10_line_4 : decode cX10_line 4 = .ok (.invokevirtual 122, 3) := by decide +kernel
theorem dX10_line_7 : decode cX10_line 7 = .ok (.ifCond .eq 8, 3) := by decide +kernel
theorem dX10_line_10 : decode cX10_line 10 = .ok (.aload_n 0, 1) := by decide +kernel
theorem dX10_line_11 : decode cX10_line 11 = .ok (.invokevirtual 238, 3) := by decide +kernel
theorem dX10_line_14 : decode cX10_line 14 = .ok (.ireturn, 1) := by decide +kernel
theorem dX10_line_15 : decode cX10_line 15 = .ok (.aload_n 0, 1) := by decide +kernel
theorem dX10_line_16 : decode cX10_line 16 = .ok (.ldc2_w 132, 3) := by decide +kernel
theorem dX10_line_19 : decode cX10_line 19 = .ok (.invokevirtual 122, 3) := by decide +kernel
theorem dX10_line_22 : decode cX10_line 22 = .ok (.ifCond .eq 8, 3) := by decide +kernel
theorem dX10_line_25 : decode cX10_line 25 = .ok (.aload_n 0, 1) := by decide +kernel
theorem dX10_line_26 : decode cX10_line 26 = .ok (.invokevirtual 241, 3) := by decide +kernel
theorem dX10_line_29 : decode cX10_line 29 = .ok (.ireturn, 1) := by decide +kernel
theorem dX10_line_30 : decode cX10_line 30 = .ok (.aload_n 0, 1) := by decide +kernel
theorem dX10_line_31 : decode cX10_line 31 = .ok (.ldc2_w 134, 3) := by decide +kernel
theorem dX10_line_34 : decode cX10_line 34 = .ok (.invokevirtual 122, 3) := by decide +kernel
theorem dX10_line_37 : decode cX10_line 37 = .ok (.ifCond .eq 8, 3) := by decide +kernel
theorem dX10_line_40 : decode cX10_line 40 = .ok (.aload_n 0, 1) := by decide +kernel
theorem dX10_line_41 : decode cX10_line 41 = .ok (.invokevirtual 244, 3) := by decide +kernel
theorem dX10_line_44 : decode cX10_line 44 = .ok (.ireturn, 1) := by decide +kernel
theorem dX10_line_45 : decode cX10_line 45 = .ok (.aload_n 0, 1) := by decide +kernel
theorem dX10_line_46 : decode cX10_line 46 = .ok (.ldc2_w 140, 3) := by decide +kernel
theorem dX10_line_49 : decode cX10_line 49 = .ok (.invokevirtual 122, 3) := by decide +kernel
theorem dX10_line_52 : decode cX10_line 52 = .ok (.ifCond .eq 8, 3) := by decide +kernel
theorem dX10_line_55 : decode cX10_line 55 = .ok (.aload_n 0, 1) := by decide +kernel
theorem dX10_line_56 : decode cX10_line 56 = .ok (.invokevirtual 247, 3) := by decide +kernel
theorem dX10_line_59 : decode cX10_line 59 = .ok (.ireturn, 1) := by decide +kernel
theorem dX10_line_60 : decode cX10_line 60 = .ok (.aload_n 0, 1) := by decide +kernel
theorem dX10_line_61 : decode cX10_line 61 = .ok (.ldc2_w 148, 3) := by decide +kernel
theorem dX10_line_64 : decode cX10_line 64 = .ok (.invokevirtual 122, 3) := by decide +kernel
theorem dX10_line_67 : decode cX10_line 67 = .ok (.ifCond .eq 8, 3) := by decide +kernel
theorem dX10_line_70 : decode cX10_line 70 = .ok (.aload_n 0, 1) := by decide +kernel
theorem dX10_line_71 : decode cX10_line 71 = .ok (.invokevirtual 250, 3) := by decide +kernel
theorem dX10_line_74 : decode cX10_line 74 = .ok (.ireturn, 1) := by decide +kernel
theorem dX10_line_75 : decode cX10_line 75 = .ok (.aload_n 0, 1) := by decide +kernel
theorem dX10_line_76 : decode cX10_line 76 = .ok (.ldc2_w 168, 3) := by decide +kernel
theorem dX10_line_79 : decode cX10_line 79 = .ok (.invokevirtual 122, 3) := by decide +kernel
theorem dX10_line_82 : decode cX10_line 82 = .ok (.ifCond .eq 8, 3) := by decide +kernel
theorem dX10_line_85 : decode cX10_line 85 = .ok (.aload_n 0, 1) := by decide +kernel
theorem dX10_line_86 : decode cX10_line 86 = .ok (.invokevirtual 253, 3) := by decide +kernel
theorem dX10_line_89 : decode cX10_line 89 = .ok (.ireturn, 1) := by decide +kernel
theorem dX10_line_90 : decode cX10_line 90 = .ok (.aload_n 0, 1) := by decide +kernel
theorem dX10_line_91 : decode cX10_line 91 = .ok (.ldc2_w 170, 3) := by decide +kernel
theorem dX10_line_94 : decode cX10_line 94 = .ok (.invokevirtual 122, 3) := by decide +kernel
theorem dX10_line_97 : decode cX10_line 97 = .ok (.ifCond .eq 8, 3) := by decide +kernel
theorem dX10_line_100 : decode cX10_line 100 = .ok (.aload_n 0, 1) := by decide +kernel
theorem dX10_line_101 : decode cX10_line 101 = .ok (.invokevirtual 256, 3) := by decide +kernel
theorem dX10_line_104 : decode cX10_line 104 = .ok (.ireturn, 1) := by decide +kernel
theorem dX10_line_105 : decode cX10_line 105 = .ok (.aload_n 0, 1) := by decide +kernel
theorem dX10_line_106 : decode cX10_line 106 = .ok (.ldc2_w 176, 3) := by decide +kernel
theorem dX10_line_109 : decode cX10_line 109 = .ok (.invokevirtual 122, 3) := by decide +kernel
theorem dX10_line_112 : decode cX10_line 112 = .ok (.ifCond .eq 8, 3) := by decide +kernel
theorem dX10_line_115 : decode cX10_line 115 = .ok (.aload_n 0, 1) := by decide +kernel
theorem dX10_line_116 : decode cX10_line 116 = .ok (.invokevirtual 259, 3) := by decide +kernel
theorem dX10_line_119 : decode cX10_line 119 = .ok (.ireturn, 1) := by decide +kernel
theorem dX10_line_120 : decode cX10_line 120 = .ok (.aload_n 0, 1) := by decide +kernel
theorem dX10_line_121 : decode cX10_line 121 = .ok (.ldc2_w 182, 3) := by decide +kernel
theorem dX10_line_124 : decode cX10_line 124 = .ok (.invokevirtual 122, 3) := by decide +kernel
theorem dX10_line_127 : decode cX10_line 127 = .ok (.ifCond .eq 8, 3) := by decide +kernel
theorem dX10_line_130 : decode cX10_line 130 = .ok (.bipush 6, 2) := by decide +kernel
theorem dX10_line_132 : decode cX10_line 132 = .ok (.goto 49, 3) := by decide +kernel
theorem dX10_line_135 : decode cX10_line 135 = .ok (.aload_n 0, 1) := by decide +kernel
theorem dX10_line_136 : decode cX10_line 136 = .ok (.ldc2_w 184, 3) := by decide +kernel
theorem dX10_line_139 : decode cX10_line 139 = .ok (.invokevirtual 122, 3) := by decide +kernel
theorem dX10_line_142 : decode cX10_line 142 = .ok (.ifCond .eq 8, 3) := by decide +kernel
theorem dX10_line_145 : decode cX10_line 145 = .ok (.bipush 7, 2) := by decide +kernel
theorem dX10_line_147 : decode cX10_line 147 = .ok (.goto 34, 3) := by decide +kernel
theorem dX10_line_150 : decode cX10_line 150 = .ok (.aload_n 0, 1) := by decide +kernel
theorem dX10_line_151 : decode cX10_line 151 = .ok (.ldc2_w 186, 3) := by decide +kernel
theorem dX10_line_154 : decode cX10_line 154 = .ok (.invokevirtual 122, 3) := by decide +kernel
theorem dX10_line_157 : decode cX10_line 157 = .ok (.ifCond .eq 8, 3) := by decide +kernel
theorem dX10_line_160 : decode cX10_line 160 = .ok (.bipush 8, 2) := by decide +kernel
theorem dX10_line_162 : decode cX10_line 162 = .ok (.goto 19, 3) := by decide +kernel
theorem dX10_line_165 : decode cX10_line 165 = .ok (.aload_n 0, 1) := by decide +kernel
theorem dX10_line_166 : decode cX10_line 166 = .ok (.ldc2_w 188, 3) := by decide +kernel
theorem dX10_line_169 : decode cX10_line 169 = .ok (.invokevirtual 122, 3) := by decide +kernel
theorem dX10_line_172 : decode cX10_line 172 = .ok (.ifCond .eq 8, 3) := by decide +kernel
theorem dX10_line_175 : decode cX10_line 175 = .ok (.bipush 9, 2) := by decide +kernel
theorem dX10_line_177 : decode cX10_line 177 = .ok (.goto 4, 3) := by decide +kernel
theorem dX10_line_180 : decode cX10_line 180 = .ok (.iconst (-1), 1) := by decide +kernel
theorem dX10_line_181 : decode cX10_line 181 = .ok (.istore_n 1, 1) := by decide +kernel
theorem dX10_line_182 : decode cX10_line 182 = .ok (.iload_n 1, 1) := by decide +kernel
theorem dX10_line_183 : decode cX10_line 183 = .ok (.iconst (-1), 1) := by decide +kernel
theorem dX10_line_184 : decode cX10_line 184 = .ok (.if_icmp .ne 11, 3) := by decide +kernel
theorem dX10_line_187 : decode cX10_line 187 = .ok (.aload_n 0, 1) := by decide +kernel
theorem dX10_line_188 : decode cX10_line 188 = .ok (.iconst 1, 1) := by decide +kernel
theorem dX10_line_189 : decode cX10_line 189 = .ok (.invokevirtual 112, 3) := by decide +kernel
theorem dX10_line_192 : decode cX10_line 192 = .ok (.goto 8, 3) := by decide +kernel
theorem dX10_line_195 : decode cX10_line 195 = .ok (.aload_n 0, 1) := by decide +kernel
theorem dX10_line_196 : decode cX10_line 196 = .ok (.iload_n 1, 1) := by decide +kernel
theorem dX10_line_197 : decode cX10_line 197 = .ok (.invokevirtual 262, 3) := by decide +kernel
theorem dX10_line_200 : decode cX10_line 200 = .ok (.ireturn, 1) := by decide +kernel
theorem dX10_ends_0 : decode cX10_ends 0 = .ok (.aload_n 0, 1) := by decide +kernel
theorem dX10_ends_1 : decode cX10_ends 1 = .ok (.getfield 90, 3) := by decide +kernel
theorem dX10_ends_4 : decode cX10_ends 4 = .ok (.iconst 3, 1) := by decide +kernel
theorem dX10_ends_5 : decode cX10_ends 5 = .ok (.if_icmp .eq 9, 3) := by decide +kernel
theorem dX10_ends_8 : decode cX10_ends 8 = .ok (.aload_n 0, 1) := by decide +kernel
theorem dX10_ends_9 : decode cX10_ends 9 = .ok (.iconst 1, 1) := by decide +kernel
theorem dX10_ends_10 : decode cX10_ends 10 = .ok (.invokevirtual 112, 3) := by decide +kernel
theorem dX10_ends_13 : decode cX10_ends 13 = .ok (.ireturn, 1) := by decide +kernel
theorem dX10_ends_14 : decode cX10_ends 14 = .ok (.aload_n 0, 1) := by decide +kernel
theorem dX10_ends_15 : decode cX10_ends 15 = .ok (.invokevirtual 119, 3) := by decide +kernel
theorem dX10_ends_18 : decode cX10_ends 18 = .ok (.iconst 1, 1) := by decide +kernel
theorem dX10_ends_19 : decode cX10_ends 19 = .ok (.ireturn, 1) := by decide +kernel
theorem dX10_text_0 : decode cX10_text 0 = .ok (.aload_n 0, 1) := by decide +kernel
theorem dX10_text_1 : decode cX10_text 1 = .ok (.iconst 0, 1) := by decide +kernel
theorem dX10_text_2 : decode cX10_text 2 = .ok (.putfield 1, 3) := by decide +kernel
theorem dX10_text_5 : decode cX10_text 5 = .ok (.iload_n 1, 1) := by decide +kernel
theorem dX10_text_6 : decode cX10_text 6 = .ok (.i2l, 1) := by decide +kernel
theorem dX10_text_7 : decode cX10_text 7 = .ok (.lconst 0, 1) := by decide +kernel
theorem dX10_text_8 : decode cX10_text 8 = .ok (.aload_n 0, 1) := by decide +kernel
theorem dX10_text_9 : decode cX10_text 9 = .ok (.getfield 63, 3) := by decide +kernel
theorem dX10_text_12 : decode cX10_text 12 = .ok (.i2l, 1) := by decide +kernel
theorem dX10_text_13 : decode cX10_text 13 = .ok (.invokestatic 97, 3) := by decide +kernel
theorem dX10_text_16 : decode cX10_text 16 = .ok (.ifCond .ne 5, 3) := by decide +kernel
theorem dX10_text_19 : decode cX10_text 19 = .ok (.iconst (-1), 1) := by decide +kernel
theorem dX10_text_20 : decode cX10_text 20 = .ok (.ireturn, 1) := by decide +kernel
theorem dX10_text_21 : decode cX10_text 21 = .ok (.aload_n 0, 1) := by decide +kernel
theorem dX10_text_22 : decode cX10_text 22 = .ok (.iload_n 1, 1) := by decide +kernel
theorem dX10_text_23 : decode cX10_text 23 = .ok (.putfield 70, 3) := by decide +kernel
theorem dX10_text_26 : decode cX10_text 26 = .ok (.aload_n 0, 1) := by decide +kernel
theorem dX10_text_27 : decode cX10_text 27 = .ok (.iconst 0, 1) := by decide +kernel
theorem dX10_text_28 : decode cX10_text 28 = .ok (.putfield 63, 3) := by decide +kernel
theorem dX10_text_31 : decode cX10_text 31 = .ok (.aload_n 0, 1) := by decide +kernel
theorem dX10_text_32 : decode cX10_text 32 = .ok (.iconst 0, 1) := by decide +kernel
theorem dX10_text_33 : decode cX10_text 33 = .ok (.putfield 73, 3) := by decide +kernel
theorem dX10_text_36 : decode cX10_text 36 = .ok (.aload_n 0, 1) := by decide +kernel
theorem dX10_text_37 : decode cX10_text 37 = .ok (.iconst 0, 1) := by decide +kernel
theorem dX10_text_38 : decode cX10_text 38 = .ok (.putfield 109, 3) := by decide +kernel
theorem dX10_text_41 : decode cX10_text 41 = .ok (.aload_n 0, 1) := by decide +kernel
theorem dX10_text_42 : decode cX10_text 42 = .ok (.iconst 0, 1) := by decide +kernel
theorem dX10_text_43 : decode cX10_text 43 = .ok (.putfield 194, 3) := by decide +kernel
theorem dX10_text_46 : decode cX10_text 46 = .ok (.aload_n 0, 1) := by decide +kernel
theorem dX10_text_47 : decode cX10_text 47 = .ok (.iconst 0, 1) := by decide +kernel
theorem dX10_text_48 : decode cX10_text 48 = .ok (.putfield 229, 3) := by decide +kernel
theorem dX10_text_51 : decode cX10_text 51 = .ok (.aload_n 0, 1) := by decide +kernel
theorem dX10_text_52 : decode cX10_text 52 = .ok (.getfield 17, 3) := by decide +kernel
theorem dX10_text_55 : decode cX10_text 55 = .ok (.invokestatic 59, 3) := by decide +kernel
theorem dX10_text_58 : decode cX10_text 58 = .ok (.aload_n 0, 1) := by decide +kernel
theorem dX10_text_59 : decode cX10_text 59 = .ok (.invokevirtual 119, 3) := by decide +kernel
theorem dX10_text_62 : decode cX10_text 62 = .ok (.iconst 0, 1) := by decide +kernel
theorem dX10_text_63 : decode cX10_text 63 = .ok (.istore_n 2, 1) := by decide +kernel
theorem dX10_text_64 : decode cX10_text 64 = .ok (.aload_n 0, 1) := by decide +kernel
theorem dX10_text_65 : decode cX10_text 65 = .ok (.getfield 90, 3) := by decide +kernel
theorem dX10_text_68 : decode cX10_text 68 = .ok (.ifCond .eq 31, 3) := by decide +kernel
theorem dX10_text_71 : decode cX10_text 71 = .ok (.aload_n 0, 1) := by decide +kernel
theorem dX10_text_72 : decode cX10_text 72 = .ok (.invokevirtual 265, 3) := by decide +kernel
theorem dX10_text_75 : decode cX10_text 75 = .ok (.ifCond .eq 10, 3) := by decide +kernel
theorem dX10_text_78 : decode cX10_text 78 = .ok (.aload_n 0, 1) := by decide +kernel
theorem dX10_text_79 : decode cX10_text 79 = .ok (.invokevirtual 268, 3) := by decide +kernel
theorem dX10_text_82 : decode cX10_text 82 = .ok (.ifCond .ne 11, 3) := by decide +kernel
theorem dX10_text_85 : decode cX10_text 85 = .ok (.bipush (-2), 2) := by decide +kernel
theorem dX10_text_87 : decode cX10_text 87 = .ok (.aload_n 0, 1) := by decide +kernel
theorem dX10_text_88 : decode cX10_text 88 = .ok (.getfield 109, 3) := by decide +kernel
theorem dX10_text_91 : decode cX10_text 91 = .ok (.isub, 1) := by decide +kernel
theorem dX10_text_92 : decode cX10_text 92 = .ok (.ireturn, 1) := by decide +kernel
theorem dX10_text_93 : decode cX10_text 93 = .ok (.iinc 2 1, 3) := by decide +kernel
theorem dX10_text_96 : decode cX10_text 96 = .ok (.goto (-32), 3) := by decide +kernel
theorem dX10_text_99 : decode cX10_text 99 = .ok (.aload_n 0, 1) := by decide +kernel
theorem dX10_text_100 : decode cX10_text 100 = .ok (.getfield 17, 3) := by decide +kernel
theorem dX10_text_103 : decode cX10_text 103 = .ok (.iconst 0, 1) := by decide +kernel
theorem dX10_text_104 : decode cX10_text 104 = .ok (.aload_n 0, 1) := by decide +kernel
theorem dX10_text_105 : decode cX10_text 105 = .ok (.getfield 13, 3) := by decide +kernel
theorem dX10_text_108 : decode cX10_text 108 = .ok (.iconst 0, 1) := by decide +kernel
theorem dX10_text_109 : decode cX10_text 109 = .ok (.invokestatic 271, 3) := by decide +kernel
theorem dX10_text_112 : decode cX10_text 112 = .ok (.iconst 0, 1) := by decide +kernel
theorem dX10_text_113 : decode cX10_text 113 = .ok (.istore_n 3, 1) := by decide +kernel
theorem dX10_text_114 : decode cX10_text 114 = .ok (.iload_n 3, 1) := by decide +kernel
theorem dX10_text_115 : decode cX10_text 115 = .ok (.aload_n 0, 1) := by decide +kernel
theorem dX10_text_116 : decode cX10_text 116 = .ok (.getfield 194, 3) := by decide +kernel
theorem dX10_text_119 : decode cX10_text 119 = .ok (.if_icmp .ge 36, 3) := by decide +kernel
theorem dX10_text_122 : decode cX10_text 122 = .ok (.aload_n 0, 1) := by decide +kernel
theorem dX10_text_123 : decode cX10_text 123 = .ok (.getfield 38, 3) := by decide +kernel
theorem dX10_text_126 : decode cX10_text 126 = .ok (.iload_n 3, 1) := by decide +kernel
theorem dX10_text_127 : decode cX10_text 127 = .ok (.iaload, 1) := by decide +kernel
theorem dX10_text_128 : decode cX10_text 128 = .ok (.iconst 3, 1) := by decide +kernel
theorem dX10_text_129 : decode cX10_text 129 = .ok (.if_icmp .ne 20, 3) := by decide +kernel
theorem dX10_text_132 : decode cX10_text 132 = .ok (.aload_n 0, 1) := by decide +kernel
theorem dX10_text_133 : decode cX10_text 133 = .ok (.getfield 44, 3) := by decide +kernel
theorem dX10_text_136 : decode cX10_text 136 = .ok (.aload_n 0, 1) := by decide +kernel
theorem dX10_text_137 : decode cX10_text 137 = .ok (.getfield 41, 3) := by decide +kernel
theorem dX10_text_140 : decode cX10_text 140 = .ok (.iload_n 3, 1) := by decide +kernel
theorem dX10_text_141 : decode cX10_text 141 = .ok (.iaload, 1) := by decide +kernel
theorem dX10_text_142 : decode cX10_text 142 = .ok (.aload_n 0, 1) := by decide +kernel
theorem dX10_text_143 : decode cX10_text 143 = .ok (.getfield 34, 3) := by decide +kernel
theorem dX10_text_146 : decode cX10_text 146 = .ok (.iload_n 3, 1) := by decide +kernel
theorem dX10_text_147 : decode cX10_text 147 = .ok (.laload, 1) := by decide +kernel
theorem dX10_text_148 : decode cX10_text 148 = .ok (.lastore, 1) := by decide +kernel
theorem dX10_text_149 : decode cX10_text 149 = .ok (.iinc 3 1, 3) := by decide +kernel
theorem dX10_text_152 : decode cX10_text 152 = .ok (.goto (-38), 3) := by decide +kernel
theorem dX10_text_155 : decode cX10_text 155 = .ok (.aload_n 0, 1) := by decide +kernel
theorem dX10_text_156 : decode cX10_text 156 = .ok (.iconst 0, 1) := by decide +kernel
theorem dX10_text_157 : decode cX10_text 157 = .ok (.putfield 275, 3) := by decide +kernel
theorem dX10_text_160 : decode cX10_text 160 = .ok (.aload_n 0, 1) := by decide +kernel
theorem dX10_text_161 : decode cX10_text 161 = .ok (.getfield 26, 3) := by decide +kernel
theorem dX10_text_164 : decode cX10_text 164 = .ok (.iconst 0, 1) := by decide +kernel
theorem dX10_text_165 : decode cX10_text 165 = .ok (.iconst 0, 1) := by decide +kernel
theorem dX10_text_166 : decode cX10_text 166 = .ok (.bastore, 1) := by decide +kernel
theorem dX10_text_167 : decode cX10_text 167 = .ok (.aload_n 0, 1) := by decide +kernel
theorem dX10_text_168 : decode cX10_text 168 = .ok (.getfield 26, 3) := by decide +kernel
theorem dX10_text_171 : decode cX10_text 171 = .ok (.iconst 1, 1) := by decide +kernel
theorem dX10_text_172 : decode cX10_text 172 = .ok (.iconst 0, 1) := by decide +kernel
theorem dX10_text_173 : decode cX10_text 173 = .ok (.bastore, 1) := by decide +kernel
theorem dX10_text_174 : decode cX10_text 174 = .ok (.iload_n 2, 1) := by decide +kernel
theorem dX10_text_175 : decode cX10_text 175 = .ok (.ireturn, 1) := by decide +kernel
theorem dX10_isIn_0 : decode cX10_isIn 0 = .ok (.iload_n 1, 1) := by decide +kernel
theorem dX10_isIn_1 : decode cX10_isIn 1 = .ok (.ifCond .lt 12, 3) := by decide +kernel
theorem dX10_isIn_4 : decode cX10_isIn 4 = .ok (.iload_n 1, 1) := by decide +kernel
theorem dX10_isIn_5 : decode cX10_isIn 5 = .ok (.iload_n 0, 1) := by decide +kernel
theorem dX10_isIn_6 : decode cX10_isIn 6 = .ok (.if_icmp .ge 7, 3) := by decide +kernel
theorem dX10_isIn_9 : decode cX10_isIn 9 = .ok (.iconst 1, 1) := by decide +kernel
theorem dX10_isIn_10 : decode cX10_isIn 10 = .ok (.goto 4, 3) := by decide +kernel
theorem dX10_isIn_13 : decode cX10_isIn 13 = .ok (.iconst 0, 1) := by decide +kernel
theorem dX10_isIn_14 : decode cX10_isIn 14 = .ok (.ireturn, 1) := by decide +kernel
theorem dX10_count_0 : decode cX10_count 0 = .ok (.aload_n 0, 1) := by decide +kernel
theorem dX10_count_1 : decode cX10_count 1 = .ok (.iconst 0, 1) := by decide +kernel
theorem dX10_count_2 : decode cX10_count 2 = .ok (.putfield 1, 3) := by decide +kernel
theorem dX10_count_5 : decode cX10_count 5 = .ok (.iload_n 1, 1) := by decide +kernel
theorem dX10_count_6 : decode cX10_count 6 = .ok (.tableswitch 95 0 13 #[70, 70, 70, 70, 70, 70, 70, 70, 70, 70, 70, 77, 82, 87], 70) := by decide +kernel
theorem dX10_count_76 : decode cX10_count 76 = .ok (.aload_n 0, 1) := by decide +kernel
theorem dX10_count_77 : decode cX10_count 77 = .ok (.getfield 13, 3) := by decide +kernel
theorem dX10_count_80 : decode cX10_count 80 = .ok (.iload_n 1, 1) := by decide +kernel
theorem dX10_count_81 : decode cX10_count 81 = .ok (.iaload, 1) := by decide +kernel
theorem dX10_count_82 : decode cX10_count 82 = .ok (.ireturn, 1) := by decide +kernel
theorem dX10_count_83 : decode cX10_count 83 = .ok (.aload_n 0, 1) := by decide +kernel
theorem dX10_count_84 : decode cX10_count 84 = .ok (.getfield 275, 3) := by decide +kernel
theorem dX10_count_87 : decode cX10_count 87 = .ok (.ireturn, 1) := by decide +kernel
theorem dX10_count_88 : decode cX10_count 88 = .ok (.aload_n 0, 1) := by decide +kernel
theorem dX10_count_89 : decode cX10_count 89 = .ok (.getfield 63, 3) := by decide +kernel
theorem dX10_count_92 : decode cX10_count 92 = .ok (.ireturn, 1) := by decide +kernel
theorem dX10_count_93 : decode cX10_count 93 = .ok (.aload_n 0, 1) := by decide +kernel
theorem dX10_count_94 : decode cX10_count 94 = .ok (.getfield 13, 3) := by decide +kernel
theorem dX10_count_97 : decode cX10_count 97 = .ok (.bipush 11, 2) := by decide +kernel
theorem dX10_count_99 : decode cX10_count 99 = .ok (.iaload, 1) := by decide +kernel
theorem dX10_count_100 : decode cX10_count 100 = .ok (.ireturn, 1) := by decide +kernel
theorem dX10_count_101 : decode cX10_count 101 = .ok (.iconst (-1), 1) := by decide +kernel
theorem dX10_count_102 : decode cX10_count 102 = .ok (.ireturn, 1) := by decide +kernel
theorem dX10_isSale_0 : decode cX10_isSale 0 = .ok (.aload_n 0, 1) := by decide +kernel
theorem dX10_isSale_1 : decode cX10_isSale 1 = .ok (.getfield 13, 3) := by decide +kernel
theorem dX10_isSale_4 : decode cX10_isSale 4 = .ok (.iconst 3, 1) := by decide +kernel
theorem dX10_isSale_5 : decode cX10_isSale 5 = .ok (.iaload, 1) := by decide +kernel
theorem dX10_isSale_6 : decode cX10_isSale 6 = .ok (.iload_n 1, 1) := by decide +kernel
theorem dX10_isSale_7 : decode cX10_isSale 7 = .ok (.invokestatic 278, 3) := by decide +kernel
theorem dX10_isSale_10 : decode cX10_isSale 10 = .ok (.ireturn, 1) := by decide +kernel
theorem dX10_of_0 : decode cX10_of 0 = .ok (.aload_n 0, 1) := by decide +kernel
theorem dX10_of_1 : decode cX10_of 1 = .ok (.getfield 13, 3) := by decide +kernel
theorem dX10_of_4 : decode cX10_of 4 = .ok (.bipush 56, 2) := by decide +kernel
theorem dX10_of_6 : decode cX10_of 6 = .ok (.bipush 12, 2) := by decide +kernel
theorem dX10_of_8 : decode cX10_of 8 = .ok (.iload_n 1, 1) := by decide +kernel
theorem dX10_of_9 : decode cX10_of 9 = .ok (.imul, 1) := by decide +kernel
theorem dX10_of_10 : decode cX10_of 10 = .ok (.iadd, 1) := by decide +kernel
theorem dX10_of_11 : decode cX10_of 11 = .ok (.iload_n 2, 1) := by decide +kernel
theorem dX10_of_12 : decode cX10_of 12 = .ok (.iadd, 1) := by decide +kernel
theorem dX10_of_13 : decode cX10_of 13 = .ok (.iaload, 1) := by decide +kernel
theorem dX10_of_14 : decode cX10_of 14 = .ok (.ireturn, 1) := by decide +kernel
theorem dX10_levelOf_0 : decode cX10_levelOf 0 = .ok (.iconst 0, 1) := by decide +kernel
theorem dX10_levelOf_1 : decode cX10_levelOf 1 = .ok (.istore_n 2, 1) := by decide +kernel
theorem dX10_levelOf_2 : decode cX10_levelOf 2 = .ok (.iconst 0, 1) := by decide +kernel
theorem dX10_levelOf_3 : decode cX10_levelOf 3 = .ok (.istore_n 3, 1) := by decide +kernel
theorem dX10_levelOf_4 : decode cX10_levelOf 4 = .ok (.iload_n 3, 1) := by decide +kernel
theorem dX10_levelOf_5 : decode cX10_levelOf 5 = .ok (.aload_n 0, 1) := by decide +kernel
theorem dX10_levelOf_6 : decode cX10_levelOf 6 = .ok (.getfield 13, 3) := by decide +kernel
theorem dX10_levelOf_9 : decode cX10_levelOf 9 = .ok (.iconst 5, 1) := by decide +kernel
theorem dX10_levelOf_10 : decode cX10_levelOf 10 = .ok (.iaload, 1) := by decide +kernel
theorem dX10_levelOf_11 : decode cX10_levelOf 11 = .ok (.if_icmp .ge 38, 3) := by decide +kernel
theorem dX10_levelOf_14 : decode cX10_levelOf 14 = .ok (.aload_n 0, 1) := by decide +kernel
theorem dX10_levelOf_15 : decode cX10_levelOf 15 = .ok (.iload_n 1, 1) := by decide +kernel
theorem dX10_levelOf_16 : decode cX10_levelOf 16 = .ok (.iconst 3, 1) := by decide +kernel
theorem dX10_levelOf_17 : decode cX10_levelOf 17 = .ok (.invokevirtual 281, 3) := by decide +kernel
theorem dX10_levelOf_20 : decode cX10_levelOf 20 = .ok (.aload_n 0, 1) := by decide +kernel
theorem dX10_levelOf_21 : decode cX10_levelOf 21 = .ok (.getfield 13, 3) := by decide +kernel
theorem dX10_levelOf_24 : decode cX10_levelOf 24 = .ok (.sipush 224, 3) := by decide +kernel
theorem dX10_levelOf_27 : decode cX10_levelOf 27 = .ok (.iconst 2, 1) := by decide +kernel
theorem dX10_levelOf_28 : decode cX10_levelOf 28 = .ok (.iload_n 3, 1) := by decide +kernel
theorem dX10_levelOf_29 : decode cX10_levelOf 29 = .ok (.imul, 1) := by decide +kernel
theorem dX10_levelOf_30 : decode cX10_levelOf 30 = .ok (.iadd, 1) := by decide +kernel
theorem dX10_levelOf_31 : decode cX10_levelOf 31 = .ok (.iaload, 1) := by decide +kernel
theorem dX10_levelOf_32 : decode cX10_levelOf 32 = .ok (.if_icmp .lt 9, 3) := by decide +kernel
theorem dX10_levelOf_35 : decode cX10_levelOf 35 = .ok (.iload_n 3, 1) := by decide +kernel
theorem dX10_levelOf_36 : decode cX10_levelOf 36 = .ok (.iconst 1, 1) := by decide +kernel
theorem dX10_levelOf_37 : decode cX10_levelOf 37 = .ok (.iadd, 1) := by decide +kernel
theorem dX10_levelOf_38 : decode cX10_levelOf 38 = .ok (.goto 4, 3) := by decide +kernel
theorem dX10_levelOf_41 : decode cX10_levelOf 41 = .ok (.iload_n 2, 1) := by decide +kernel
theorem dX10_levelOf_42 : decode cX10_levelOf 42 = .ok (.istore_n 2, 1) := by decide +kernel
theorem dX10_levelOf_43 : decode cX10_levelOf 43 = .ok (.iinc 3 1, 3) := by decide +kernel
theorem dX10_levelOf_46 : decode cX10_levelOf 46 = .ok (.goto (-42), 3) := by decide +kernel
theorem dX10_levelOf_49 : decode cX10_levelOf 49 = .ok (.iload_n 2, 1) := by decide +kernel
theorem dX10_levelOf_50 : decode cX10_levelOf 50 = .ok (.ireturn, 1) := by decide +kernel
theorem dX10_lessOf_0 : decode cX10_lessOf 0 = .ok (.aload_n 0, 1) := by decide +kernel
theorem dX10_lessOf_1 : decode cX10_lessOf 1 = .ok (.iload_n 1, 1) := by decide +kernel
theorem dX10_lessOf_2 : decode cX10_lessOf 2 = .ok (.invokevirtual 285, 3) := by decide +kernel
theorem dX10_lessOf_5 : decode cX10_lessOf 5 = .ok (.istore_n 2, 1) := by decide +kernel
theorem dX10_lessOf_6 : decode cX10_lessOf 6 = .ok (.iload_n 2, 1) := by decide +kernel
theorem dX10_lessOf_7 : decode cX10_lessOf 7 = .ok (.ifCond .ne 7, 3) := by decide +kernel
theorem dX10_lessOf_10 : decode cX10_lessOf 10 = .ok (.iconst 0, 1) := by decide +kernel
theorem dX10_lessOf_11 : decode cX10_lessOf 11 = .ok (.goto 17, 3) := by decide +kernel
theorem dX10_lessOf_14 : decode cX10_lessOf 14 = .ok (.aload_n 0, 1) := by decide +kernel
theorem dX10_lessOf_15 : decode cX10_lessOf 15 = .ok (.getfield 13, 3) := by decide +kernel
theorem dX10_lessOf_18 : decode cX10_lessOf 18 = .ok (.sipush 224, 3) := by decide +kernel
theorem dX10_lessOf_21 : decode cX10_lessOf 21 = .ok (.iconst 2, 1) := by decide +kernel
theorem dX10_lessOf_22 : decode cX10_lessOf 22 = .ok (.iload_n 2, 1) := by decide +kernel
theorem dX10_lessOf_23 : decode cX10_lessOf 23 = .ok (.imul, 1) := by decide +kernel
theorem dX10_lessOf_24 : decode cX10_lessOf 24 = .ok (.iadd, 1) := by decide +kernel
theorem dX10_lessOf_25 : decode cX10_lessOf 25 = .ok (.iconst 1, 1) := by decide +kernel
theorem dX10_lessOf_26 : decode cX10_lessOf 26 = .ok (.isub, 1) := by decide +kernel
theorem dX10_lessOf_27 : decode cX10_lessOf 27 = .ok (.iaload, 1) := by decide +kernel
theorem dX10_lessOf_28 : decode cX10_lessOf 28 = .ok (.ireturn, 1) := by decide +kernel
theorem dX10_sale_0 : decode cX10_sale 0 = .ok (.aload_n 0, 1) := by decide +kernel
theorem dX10_sale_1 : decode cX10_sale 1 = .ok (.aload_n 0, 1) := by decide +kernel
theorem dX10_sale_2 : decode cX10_sale 2 = .ok (.iload_n 1, 1) := by decide +kernel
theorem dX10_sale_3 : decode cX10_sale 3 = .ok (.invokevirtual 288, 3) := by decide +kernel
theorem dX10_sale_6 : decode cX10_sale 6 = .ok (.ifCond .eq 19, 3) := by decide +kernel
theorem dX10_sale_9 : decode cX10_sale 9 = .ok (.iload_n 2, 1) := by decide +kernel
theorem dX10_sale_10 : decode cX10_sale 10 = .ok (.i2l, 1) := by decide +kernel
theorem dX10_sale_11 : decode cX10_sale 11 = .ok (.lconst 0, 1) := by decide +kernel
theorem dX10_sale_12 : decode cX10_sale 12 = .ok (.ldc2_w 291, 3) := by decide +kernel
theorem dX10_sale_15 : decode cX10_sale 15 = .ok (.invokestatic 97, 3) := by decide +kernel
theorem dX10_sale_18 : decode cX10_sale 18 = .ok (.ifCond .eq 7, 3) := by decide +kernel
theorem dX10_sale_21 : decode cX10_sale 21 = .ok (.iconst 0, 1) := by decide +kernel
theorem dX10_sale_22 : decode cX10_sale 22 = .ok (.goto 4, 3) := by decide +kernel
theorem dX10_sale_25 : decode cX10_sale 25 = .ok (.iconst 1, 1) := by decide +kernel
theorem dX10_sale_26 : decode cX10_sale 26 = .ok (.putfield 1, 3) := by decide +kernel
theorem dX10_sale_29 : decode cX10_sale 29 = .ok (.aload_n 0, 1) := by decide +kernel
theorem dX10_sale_30 : decode cX10_sale 30 = .ok (.getfield 1, 3) := by decide +kernel
theorem dX10_sale_33 : decode cX10_sale 33 = .ok (.iconst 1, 1) := by decide +kernel
theorem dX10_sale_34 : decode cX10_sale 34 = .ok (.if_icmp .ne 5, 3) := by decide +kernel
theorem dX10_sale_37 : decode cX10_sale 37 = .ok (.iconst 0, 1) := by decide +kernel
theorem dX10_sale_38 : decode cX10_sale 38 = .ok (.ireturn, 1) := by decide +kernel
theorem dX10_sale_39 : decode cX10_sale 39 = .ok (.iload_n 2, 1) := by decide +kernel
theorem dX10_sale_40 : decode cX10_sale 40 = .ok (.bipush 12, 2) := by decide +kernel
theorem dX10_sale_42 : decode cX10_sale 42 = .ok (.if_icmp .ne 11, 3) := by decide +kernel
theorem dX10_sale_45 : decode cX10_sale 45 = .ok (.aload_n 0, 1) := by decide +kernel
theorem dX10_sale_46 : decode cX10_sale 46 = .ok (.iload_n 1, 1) := by decide +kernel
theorem dX10_sale_47 : decode cX10_sale 47 = .ok (.invokevirtual 285, 3) := by decide +kernel
theorem dX10_sale_50 : decode cX10_sale 50 = .ok (.goto 9, 3) := by decide +kernel
theorem dX10_sale_53 : decode cX10_sale 53 = .ok (.aload_n 0, 1) := by decide +kernel
theorem dX10_sale_54 : decode cX10_sale 54 = .ok (.iload_n 1, 1) := by decide +kernel
theorem dX10_sale_55 : decode cX10_sale 55 = .ok (.iload_n 2, 1) := by decide +kernel
theorem dX10_sale_56 : decode cX10_sale 56 = .ok (.invokevirtual 281, 3) := by decide +kernel
theorem dX10_sale_59 : decode cX10_sale 59 = .ok (.ireturn, 1) := by decide +kernel
theorem dX10_resold_0 : decode cX10_resold 0 = .ok (.aload_n 0, 1) := by decide +kernel
theorem dX10_resold_1 : decode cX10_resold 1 = .ok (.iconst 0, 1) := by decide +kernel
theorem dX10_resold_2 : decode cX10_resold 2 = .ok (.putfield 1, 3) := by decide +kernel
theorem dX10_resold_5 : decode cX10_resold 5 = .ok (.aload_n 0, 1) := by decide +kernel
theorem dX10_resold_6 : decode cX10_resold 6 = .ok (.getfield 13, 3) := by decide +kernel
theorem dX10_resold_9 : decode cX10_resold 9 = .ok (.iconst 4, 1) := by decide +kernel
theorem dX10_resold_10 : decode cX10_resold 10 = .ok (.iaload, 1) := by decide +kernel
theorem dX10_resold_11 : decode cX10_resold 11 = .ok (.iload_n 1, 1) := by decide +kernel
theorem dX10_resold_12 : decode cX10_resold 12 = .ok (.invokestatic 278, 3) := by decide +kernel
theorem dX10_resold_15 : decode cX10_resold 15 = .ok (.ifCond .eq 32, 3) := by decide +kernel
theorem dX10_resold_18 : decode cX10_resold 18 = .ok (.iload_n 2, 1) := by decide +kernel
theorem dX10_resold_19 : decode cX10_resold 19 = .ok (.i2l, 1) := by decide +kernel
theorem dX10_resold_20 : decode cX10_resold 20 = .ok (.lconst 0, 1) := by decide +kernel
theorem dX10_resold_21 : decode cX10_resold 21 = .ok (.ldc2_w 293, 3) := by decide +kernel
theorem dX10_resold_24 : decode cX10_resold 24 = .ok (.invokestatic 97, 3) := by decide +kernel
theorem dX10_resold_27 : decode cX10_resold 27 = .ok (.ifCond .eq 20, 3) := by decide +kernel
theorem dX10_resold_30 : decode cX10_resold 30 = .ok (.aload_n 0, 1) := by decide +kernel
theorem dX10_resold_31 : decode cX10_resold 31 = .ok (.getfield 13, 3) := by decide +kernel
theorem dX10_resold_34 : decode cX10_resold 34 = .ok (.sipush 176, 3) := by decide +kernel
theorem dX10_resold_37 : decode cX10_resold 37 = .ok (.iconst 4, 1) := by decide +kernel
theorem dX10_resold_38 : decode cX10_resold 38 = .ok (.iload_n 1, 1) := by decide +kernel
theorem dX10_resold_39 : decode cX10_resold 39 = .ok (.imul, 1) := by decide +kernel
theorem dX10_resold_40 : decode cX10_resold 40 = .ok (.iadd, 1) := by decide +kernel
theorem dX10_resold_41 : decode cX10_resold 41 = .ok (.iload_n 2, 1) := by decide +kernel
theorem dX10_resold_42 : decode cX10_resold 42 = .ok (.iadd, 1) := by decide +kernel
theorem dX10_resold_43 : decode cX10_resold 43 = .ok (.iaload, 1) := by decide +kernel
theorem dX10_resold_44 : decode cX10_resold 44 = .ok (.goto 4, 3) := by decide +kernel
theorem dX10_resold_47 : decode cX10_resold 47 = .ok (.iconst (-1), 1) := by decide +kernel
theorem dX10_resold_48 : decode cX10_resold 48 = .ok (.ireturn, 1) := by decide +kernel
theorem dX10_areKin_0 : decode cX10_areKin 0 = .ok (.iconst 1, 1) := by decide +kernel
theorem dX10_areKin_1 : decode cX10_areKin 1 = .ok (.iload_n 1, 1) := by decide +kernel
theorem dX10_areKin_2 : decode cX10_areKin 2 = .ok (.ishl, 1) := by decide +kernel
theorem dX10_areKin_3 : decode cX10_areKin 3 = .ok (.istore_n 3, 1) := by decide +kernel
theorem dX10_areKin_4 : decode cX10_areKin 4 = .ok (.iconst 0, 1) := by decide +kernel
theorem dX10_areKin_5 : decode cX10_areKin 5 = .ok (.istore 4, 2) := by decide +kernel
theorem dX10_areKin_7 : decode cX10_areKin 7 = .ok (.iload 4, 2) := by decide +kernel
theorem dX10_areKin_9 : decode cX10_areKin 9 = .ok (.bipush 6, 2) := by decide +kernel
theorem dX10_areKin_11 : decode cX10_areKin 11 = .ok (.if_icmp .ge 79, 3) := by decide +kernel
theorem dX10_areKin_14 : decode cX10_areKin 14 = .ok (.iconst 0, 1) := by decide +kernel
theorem dX10_areKin_15 : decode cX10_areKin 15 = .ok (.istore 5, 2) := by decide +kernel
theorem dX10_areKin_17 : decode cX10_areKin 17 = .ok (.iload 5, 2) := by decide +kernel
theorem dX10_areKin_19 : decode cX10_areKin 19 = .ok (.aload_n 0, 1) := by decide +kernel
theorem dX10_areKin_20 : decode cX10_areKin 20 = .ok (.getfield 13, 3) := by decide +kernel
theorem dX10_areKin_23 : decode cX10_areKin 23 = .ok (.bipush 11, 2) := by decide +kernel
theorem dX10_areKin_25 : decode cX10_areKin 25 = .ok (.iaload, 1) := by decide +kernel
theorem dX10_areKin_26 : decode cX10_areKin 26 = .ok (.if_icmp .ge 58, 3) := by decide +kernel
theorem dX10_areKin_29 : decode cX10_areKin 29 = .ok (.iconst 1, 1) := by decide +kernel
theorem dX10_areKin_30 : decode cX10_areKin 30 = .ok (.aload_n 0, 1) := by decide +kernel
theorem dX10_areKin_31 : decode cX10_areKin 31 = .ok (.getfield 13, 3) := by decide +kernel
theorem dX10_areKin_34 : decode cX10_areKin 34 = .ok (.bipush 12, 2) := by decide +kernel
theorem dX10_areKin_36 : decode cX10_areKin 36 = .ok (.iconst 2, 1) := by decide +kernel
theorem dX10_areKin_37 : decode cX10_areKin 37 = .ok (.iload 5, 2) := by decide +kernel
theorem dX10_areKin_39 : decode cX10_areKin 39 = .ok (.imul, 1) := by decide +kernel
theorem dX10_areKin_40 : decode cX10_areKin 40 = .ok (.iadd, 1) := by decide +kernel
theorem dX10_areKin_41 : decode cX10_areKin 41 = .ok (.iaload, 1) := by decide +kernel
theorem dX10_areKin_42 : decode cX10_areKin 42 = .ok (.ishl, 1) := by decide +kernel
theorem dX10_areKin_43 : decode cX10_areKin 43 = .ok (.iconst 1, 1) := by decide +kernel
theorem dX10_areKin_44 : decode cX10_areKin 44 = .ok (.aload_n 0, 1) := by decide +kernel
theorem dX10_areKin_45 : decode cX10_areKin 45 = .ok (.getfield 13, 3) := by decide +kernel
theorem dX10_areKin_48 : decode cX10_areKin 48 = .ok (.bipush 12, 2) := by decide +kernel
theorem dX10_areKin_50 : decode cX10_areKin 50 = .ok (.iconst 2, 1) := by decide +kernel
theorem dX10_areKin_51 : decode cX10_areKin 51 = .ok (.iload 5, 2) := by decide +kernel
theorem dX10_areKin_53 : decode cX10_areKin 53 = .ok (.imul, 1) := by decide +kernel
theorem dX10_areKin_54 : decode cX10_areKin 54 = .ok (.iadd, 1) := by decide +kernel
theorem dX10_areKin_55 : decode cX10_areKin 55 = .ok (.iconst 1, 1) := by decide +kernel
theorem dX10_areKin_56 : decode cX10_areKin 56 = .ok (.iadd, 1) := by decide +kernel
theorem dX10_areKin_57 : decode cX10_areKin 57 = .ok (.iaload, 1) := by decide +kernel
theorem dX10_areKin_58 : decode cX10_areKin 58 = .ok (.ishl, 1) := by decide +kernel
theorem dX10_areKin_59 : decode cX10_areKin 59 = .ok (.ior, 1) := by decide +kernel
theorem dX10_areKin_60 : decode cX10_areKin 60 = .ok (.istore 6, 2) := by decide +kernel
theorem dX10_areKin_62 : decode cX10_areKin 62 = .ok (.iload_n 3, 1) := by decide +kernel
theorem dX10_areKin_63 : decode cX10_areKin 63 = .ok (.iload_n 3, 1) := by decide +kernel
theorem dX10_areKin_64 : decode cX10_areKin 64 = .ok (.iload 6, 2) := by decide +kernel
theorem dX10_areKin_66 : decode cX10_areKin 66 = .ok (.iand, 1) := by decide +kernel
theorem dX10_areKin_67 : decode cX10_areKin 67 = .ok (.ifCond .eq 8, 3) := by decide +kernel
theorem dX10_areKin_70 : decode cX10_areKin 70 = .ok (.iload 6, 2) := by decide +kernel
theorem dX10_areKin_72 : decode cX10_areKin 72 = .ok (.goto 4, 3) := by decide +kernel
theorem dX10_areKin_75 : decode cX10_areKin 75 = .ok (.iconst 0, 1) := by decide +kernel
theorem dX10_areKin_76 : decode cX10_areKin 76 = .ok (.ior, 1) := by decide +kernel
theorem dX10_areKin_77 : decode cX10_areKin 77 = .ok (.istore_n 3, 1) := by decide +kernel
theorem dX10_areKin_78 : decode cX10_areKin 78 = .ok (.iinc 5 1, 3) := by decide +kernel
theorem dX10_areKin_81 : decode cX10_areKin 81 = .ok (.goto (-64), 3) := by decide +kernel
theorem dX10_areKin_84 : decode cX10_areKin 84 = .ok (.iinc 4 1, 3) := by decide +kernel
theorem dX10_areKin_87 : decode cX10_areKin 87 = .ok (.goto (-80), 3) := by decide +kernel
theorem dX10_areKin_90 : decode cX10_areKin 90 = .ok (.iload_n 3, 1) := by decide +kernel
theorem dX10_areKin_91 : decode cX10_areKin 91 = .ok (.iload_n 2, 1) := by decide +kernel
theorem dX10_areKin_92 : decode cX10_areKin 92 = .ok (.invokestatic 217, 3) := by decide +kernel
theorem dX10_areKin_95 : decode cX10_areKin 95 = .ok (.ireturn, 1) := by decide +kernel
theorem dX10_kin_0 : decode cX10_kin 0 = .ok (.aload_n 0, 1) := by decide +kernel
theorem dX10_kin_1 : decode cX10_kin 1 = .ok (.iconst 0, 1) := by decide +kernel
theorem dX10_kin_2 : decode cX10_kin 2 = .ok (.putfield 1, 3) := by decide +kernel
theorem dX10_kin_5 : decode cX10_kin 5 = .ok (.aload_n 0, 1) := by decide +kernel
theorem dX10_kin_6 : decode cX10_kin 6 = .ok (.getfield 13, 3) := by decide +kernel
theorem dX10_kin_9 : decode cX10_kin 9 = .ok (.iconst 0, 1) := by decide +kernel
theorem dX10_kin_10 : decode cX10_kin 10 = .ok (.iaload, 1) := by decide +kernel
theorem dX10_kin_11 : decode cX10_kin 11 = .ok (.iload_n 1, 1) := by decide +kernel
theorem dX10_kin_12 : decode cX10_kin 12 = .ok (.invokestatic 278, 3) := by decide +kernel
theorem dX10_kin_15 : decode cX10_kin 15 = .ok (.ifCond .eq 16, 3) := by decide +kernel
theorem dX10_kin_18 : decode cX10_kin 18 = .ok (.aload_n 0, 1) := by decide +kernel
theorem dX10_kin_19 : decode cX10_kin 19 = .ok (.getfield 13, 3) := by decide +kernel
theorem dX10_kin_22 : decode cX10_kin 22 = .ok (.iconst 0, 1) := by decide +kernel
theorem dX10_kin_23 : decode cX10_kin 23 = .ok (.iaload, 1) := by decide +kernel
theorem dX10_kin_24 : decode cX10_kin 24 = .ok (.iload_n 2, 1) := by decide +kernel
theorem dX10_kin_25 : decode cX10_kin 25 = .ok (.invokestatic 278, 3) := by decide +kernel
theorem dX10_kin_28 : decode cX10_kin 28 = .ok (.ifCond .ne 7, 3) := by decide +kernel
theorem dX10_kin_31 : decode cX10_kin 31 = .ok (.iconst (-1), 1) := by decide +kernel
theorem dX10_kin_32 : decode cX10_kin 32 = .ok (.goto 17, 3) := by decide +kernel
theorem dX10_kin_35 : decode cX10_kin 35 = .ok (.aload_n 0, 1) := by decide +kernel
theorem dX10_kin_36 : decode cX10_kin 36 = .ok (.iload_n 1, 1) := by decide +kernel
theorem dX10_kin_37 : decode cX10_kin 37 = .ok (.iload_n 2, 1) := by decide +kernel
theorem dX10_kin_38 : decode cX10_kin 38 = .ok (.invokevirtual 295, 3) := by decide +kernel
theorem dX10_kin_41 : decode cX10_kin 41 = .ok (.ifCond .eq 7, 3) := by decide +kernel
theorem dX10_kin_44 : decode cX10_kin 44 = .ok (.iconst 1, 1) := by decide +kernel
theorem dX10_kin_45 : decode cX10_kin 45 = .ok (.goto 4, 3) := by decide +kernel
theorem dX10_kin_48 : decode cX10_kin 48 = .ok (.iconst 0, 1) := by decide +kernel
theorem dX10_kin_49 : decode cX10_kin 49 = .ok (.ireturn, 1) := by decide +kernel
theorem dX10_good_0 : decode cX10_good 0 = .ok (.aload_n 0, 1) := by decide +kernel
theorem dX10_good_1 : decode cX10_good 1 = .ok (.getfield 13, 3) := by decide +kernel
theorem dX10_good_4 : decode cX10_good 4 = .ok (.bipush 24, 2) := by decide +kernel
theorem dX10_good_6 : decode cX10_good 6 = .ok (.iconst 4, 1) := by decide +kernel
theorem dX10_good_7 : decode cX10_good 7 = .ok (.iload_n 1, 1) := by decide +kernel
theorem dX10_good_8 : decode cX10_good 8 = .ok (.imul, 1) := by decide +kernel
theorem dX10_good_9 : decode cX10_good 9 = .ok (.iadd, 1) := by decide +kernel
theorem dX10_good_10 : decode cX10_good 10 = .ok (.iload_n 2, 1) := by decide +kernel
theorem dX10_good_11 : decode cX10_good 11 = .ok (.iadd, 1) := by decide +kernel
theorem dX10_good_12 : decode cX10_good 12 = .ok (.iaload, 1) := by decide +kernel
theorem dX10_good_13 : decode cX10_good 13 = .ok (.ireturn, 1) := by decide +kernel
theorem dX10_likeness_0 : decode cX10_likeness 0 = .ok (.iload_n 1, 1) := by decide +kernel
theorem dX10_likeness_1 : decode cX10_likeness 1 = .ok (.iload_n 2, 1) := by decide +kernel
theorem dX10_likeness_2 : decode cX10_likeness 2 = .ok (.if_icmp .ne 7, 3) := by decide +kernel
theorem dX10_likeness_5 : decode cX10_likeness 5 = .ok (.iconst 1, 1) := by decide +kernel
theorem dX10_likeness_6 : decode cX10_likeness 6 = .ok (.goto 38, 3) := by decide +kernel
theorem dX10_likeness_9 : decode cX10_likeness 9 = .ok (.aload_n 0, 1) := by decide +kernel
theorem dX10_likeness_10 : decode cX10_likeness 10 = .ok (.iload_n 1, 1) := by decide +kernel
theorem dX10_likeness_11 : decode cX10_likeness 11 = .ok (.iconst 0, 1) := by decide +kernel
theorem dX10_likeness_12 : decode cX10_likeness 12 = .ok (.invokevirtual 298, 3) := by decide +kernel
theorem dX10_likeness_15 : decode cX10_likeness 15 = .ok (.aload_n 0, 1) := by decide +kernel
theorem dX10_likeness_16 : decode cX10_likeness 16 = .ok (.iload_n 2, 1) := by decide +kernel
theorem dX10_likeness_17 : decode cX10_likeness 17 = .ok (.iconst 0, 1) := by decide +kernel
theorem dX10_likeness_18 : decode cX10_likeness 18 = .ok (.invokevirtual 298, 3) := by decide +kernel
theorem dX10_likeness_21 : decode cX10_likeness 21 = .ok (.if_icmp .ne 22, 3) := by decide +kernel
theorem dX10_likeness_24 : decode cX10_likeness 24 = .ok (.aload_n 0, 1) := by decide +kernel
theorem dX10_likeness_25 : decode cX10_likeness 25 = .ok (.iload_n 1, 1) := by decide +kernel
theorem dX10_likeness_26 : decode cX10_likeness 26 = .ok (.iconst 1, 1) := by decide +kernel
theorem dX10_likeness_27 : decode cX10_likeness 27 = .ok (.invokevirtual 298, 3) := by decide +kernel
theorem dX10_likeness_30 : decode cX10_likeness 30 = .ok (.aload_n 0, 1) := by decide +kernel
theorem dX10_likeness_31 : decode cX10_likeness 31 = .ok (.iload_n 2, 1) := by decide +kernel
theorem dX10_likeness_32 : decode cX10_likeness 32 = .ok (.iconst 1, 1) := by decide +kernel
theorem dX10_likeness_33 : decode cX10_likeness 33 = .ok (.invokevirtual 298, 3) := by decide +kernel
theorem dX10_likeness_36 : decode cX10_likeness 36 = .ok (.if_icmp .ne 7, 3) := by decide +kernel
theorem dX10_likeness_39 : decode cX10_likeness 39 = .ok (.iconst 2, 1) := by decide +kernel
theorem dX10_likeness_40 : decode cX10_likeness 40 = .ok (.goto 4, 3) := by decide +kernel
theorem dX10_likeness_43 : decode cX10_likeness 43 = .ok (.iconst 0, 1) := by decide +kernel
theorem dX10_likeness_44 : decode cX10_likeness 44 = .ok (.ireturn, 1) := by decide +kernel
theorem dX10_like_0 : decode cX10_like 0 = .ok (.aload_n 0, 1) := by decide +kernel
theorem dX10_like_1 : decode cX10_like 1 = .ok (.iconst 0, 1) := by decide +kernel
theorem dX10_like_2 : decode cX10_like 2 = .ok (.putfield 1, 3) := by decide +kernel
theorem dX10_like_5 : decode cX10_like 5 = .ok (.aload_n 0, 1) := by decide +kernel
theorem dX10_like_6 : decode cX10_like 6 = .ok (.getfield 13, 3) := by decide +kernel
theorem dX10_like_9 : decode cX10_like 9 = .ok (.iconst 1, 1) := by decide +kernel
theorem dX10_like_10 : decode cX10_like 10 = .ok (.iaload, 1) := by decide +kernel
theorem dX10_like_11 : decode cX10_like 11 = .ok (.iload_n 1, 1) := by decide +kernel
theorem dX10_like_12 : decode cX10_like 12 = .ok (.invokestatic 278, 3) := by decide +kernel
theorem dX10_like_15 : decode cX10_like 15 = .ok (.ifCond .eq 25, 3) := by decide +kernel
theorem dX10_like_18 : decode cX10_like 18 = .ok (.aload_n 0, 1) := by decide +kernel
theorem dX10_like_19 : decode cX10_like 19 = .ok (.getfield 13, 3) := by decide +kernel
theorem dX10_like_22 : decode cX10_like 22 = .ok (.iconst 1, 1) := by decide +kernel
theorem dX10_like_23 : decode cX10_like 23 = .ok (.iaload, 1) := by decide +kernel
theorem dX10_like_24 : decode cX10_like 24 = .ok (.iload_n 2, 1) := by decide +kernel
theorem dX10_like_25 : decode cX10_like 25 = .ok (.invokestatic 278, 3) := by decide +kernel
theorem dX10_like_28 : decode cX10_like 28 = .ok (.ifCond .eq 12, 3) := by decide +kernel
theorem dX10_like_31 : decode cX10_like 31 = .ok (.aload_n 0, 1) := by decide +kernel
theorem dX10_like_32 : decode cX10_like 32 = .ok (.iload_n 1, 1) := by decide +kernel
theorem dX10_like_33 : decode cX10_like 33 = .ok (.iload_n 2, 1) := by decide +kernel
theorem dX10_like_34 : decode cX10_like 34 = .ok (.invokevirtual 301, 3) := by decide +kernel
theorem dX10_like_37 : decode cX10_like 37 = .ok (.goto 4, 3) := by decide +kernel
theorem dX10_like_40 : decode cX10_like 40 = .ok (.iconst (-1), 1) := by decide +kernel
theorem dX10_like_41 : decode cX10_like 41 = .ok (.ireturn, 1) := by decide +kernel
theorem dX10_band_0 : decode cX10_band 0 = .ok (.aload_n 0, 1) := by decide +kernel
theorem dX10_band_1 : decode cX10_band 1 = .ok (.iconst 0, 1) := by decide +kernel
theorem dX10_band_2 : decode cX10_band 2 = .ok (.putfield 1, 3) := by decide +kernel
theorem dX10_band_5 : decode cX10_band 5 = .ok (.aload_n 0, 1) := by decide +kernel
theorem dX10_band_6 : decode cX10_band 6 = .ok (.getfield 13, 3) := by decide +kernel
theorem dX10_band_9 : decode cX10_band 9 = .ok (.iconst 5, 1) := by decide +kernel
theorem dX10_band_10 : decode cX10_band 10 = .ok (.iaload, 1) := by decide +kernel
theorem dX10_band_11 : decode cX10_band 11 = .ok (.iload_n 1, 1) := by decide +kernel
theorem dX10_band_12 : decode cX10_band 12 = .ok (.invokestatic 278, 3) := by decide +kernel
theorem dX10_band_15 : decode cX10_band 15 = .ok (.ifCond .eq 30, 3) := by decide +kernel
theorem dX10_band_18 : decode cX10_band 18 = .ok (.iload_n 2, 1) := by decide +kernel
theorem dX10_band_19 : decode cX10_band 19 = .ok (.i2l, 1) := by decide +kernel
theorem dX10_band_20 : decode cX10_band 20 = .ok (.lconst 0, 1) := by decide +kernel
theorem dX10_band_21 : decode cX10_band 21 = .ok (.lconst 1, 1) := by decide +kernel
theorem dX10_band_22 : decode cX10_band 22 = .ok (.invokestatic 97, 3) := by decide +kernel
theorem dX10_band_25 : decode cX10_band 25 = .ok (.ifCond .eq 20, 3) := by decide +kernel
theorem dX10_band_28 : decode cX10_band 28 = .ok (.aload_n 0, 1) := by decide +kernel
theorem dX10_band_29 : decode cX10_band 29 = .ok (.getfield 13, 3) := by decide +kernel
theorem dX10_band_32 : decode cX10_band 32 = .ok (.sipush 224, 3) := by decide +kernel
theorem dX10_band_35 : decode cX10_band 35 = .ok (.iconst 2, 1) := by decide +kernel
theorem dX10_band_36 : decode cX10_band 36 = .ok (.iload_n 1, 1) := by decide +kernel
theorem dX10_band_37 : decode cX10_band 37 = .ok (.imul, 1) := by decide +kernel
theorem dX10_band_38 : decode cX10_band 38 = .ok (.iadd, 1) := by decide +kernel
theorem dX10_band_39 : decode cX10_band 39 = .ok (.iload_n 2, 1) := by decide +kernel
theorem dX10_band_40 : decode cX10_band 40 = .ok (.iadd, 1) := by decide +kernel
theorem dX10_band_41 : decode cX10_band 41 = .ok (.iaload, 1) := by decide +kernel
theorem dX10_band_42 : decode cX10_band 42 = .ok (.goto 4, 3) := by decide +kernel
theorem dX10_band_45 : decode cX10_band 45 = .ok (.iconst (-1), 1) := by decide +kernel
theorem dX10_band_46 : decode cX10_band 46 = .ok (.ireturn, 1) := by decide +kernel
theorem dX10_isThere_0 : decode cX10_isThere 0 = .ok (.iload_n 1, 1) := by decide +kernel
theorem dX10_isThere_1 : decode cX10_isThere 1 = .ok (.aload_n 0, 1) := by decide +kernel
theorem dX10_isThere_2 : decode cX10_isThere 2 = .ok (.getfield 47, 3) := by decide +kernel
theorem dX10_isThere_5 : decode cX10_isThere 5 = .ok (.if_icmp .eq 7, 3) := by decide +kernel
theorem dX10_isThere_8 : decode cX10_isThere 8 = .ok (.iconst 1, 1) := by decide +kernel
theorem dX10_isThere_9 : decode cX10_isThere 9 = .ok (.goto 4, 3) := by decide +kernel
theorem dX10_isThere_12 : decode cX10_isThere 12 = .ok (.iconst 0, 1) := by decide +kernel
theorem dX10_isThere_13 : decode cX10_isThere 13 = .ok (.ireturn, 1) := by decide +kernel
theorem dX10_assistOf_0 : decode cX10_assistOf 0 = .ok (.aload_n 0, 1) := by decide +kernel
theorem dX10_assistOf_1 : decode cX10_assistOf 1 = .ok (.getfield 13, 3) := by decide +kernel
theorem dX10_assistOf_4 : decode cX10_assistOf 4 = .ok (.bipush 48, 2) := by decide +kernel
theorem dX10_assistOf_6 : decode cX10_assistOf 6 = .ok (.iconst 2, 1) := by decide +kernel
theorem dX10_assistOf_7 : decode cX10_assistOf 7 = .ok (.iload_n 1, 1) := by decide +kernel
theorem dX10_assistOf_8 : decode cX10_assistOf 8 = .ok (.imul, 1) := by decide +kernel
theorem dX10_assistOf_9 : decode cX10_assistOf 9 = .ok (.iadd, 1) := by decide +kernel
theorem dX10_assistOf_10 : decode cX10_assistOf 10 = .ok (.iload_n 2, 1) := by decide +kernel
theorem dX10_assistOf_11 : decode cX10_assistOf 11 = .ok (.iadd, 1) := by decide +kernel
theorem dX10_assistOf_12 : decode cX10_assistOf 12 = .ok (.iaload, 1) := by decide +kernel
theorem dX10_assistOf_13 : decode cX10_assistOf 13 = .ok (.ireturn, 1) := by decide +kernel
theorem dX10_uses_0 : decode cX10_uses 0 = .ok (.aload_n 0, 1) := by decide +kernel
theorem dX10_uses_1 : decode cX10_uses 1 = .ok (.iload_n 1, 1) := by decide +kernel
theorem dX10_uses_2 : decode cX10_uses 2 = .ok (.invokevirtual 304, 3) := by decide +kernel
theorem dX10_uses_5 : decode cX10_uses 5 = .ok (.ifCond .eq 21, 3) := by decide +kernel
theorem dX10_uses_8 : decode cX10_uses 8 = .ok (.aload_n 0, 1) := by decide +kernel
theorem dX10_uses_9 : decode cX10_uses 9 = .ok (.iload_n 1, 1) := by decide +kernel
theorem dX10_uses_10 : decode cX10_uses 10 = .ok (.bipush 11, 2) := by decide +kernel
theorem dX10_uses_12 : decode cX10_uses 12 = .ok (.invokevirtual 281, 3) := by decide +kernel
theorem dX10_uses_15 : decode cX10_uses 15 = .ok (.iload_n 2, 1) := by decide +kernel
theorem dX10_uses_16 : decode cX10_uses 16 = .ok (.invokestatic 217, 3) := by decide +kernel
theorem dX10_uses_19 : decode cX10_uses 19 = .ok (.ifCond .eq 7, 3) := by decide +kernel
theorem dX10_uses_22 : decode cX10_uses 22 = .ok (.iconst 1, 1) := by decide +kernel
theorem dX10_uses_23 : decode cX10_uses 23 = .ok (.goto 4, 3) := by decide +kernel
theorem dX10_uses_26 : decode cX10_uses 26 = .ok (.iconst 0, 1) := by decide +kernel
theorem dX10_uses_27 : decode cX10_uses 27 = .ok (.ireturn, 1) := by decide +kernel
theorem dX10_looksAhead_0 : decode cX10_looksAhead 0 = .ok (.aload_n 0, 1) := by decide +kernel
theorem dX10_looksAhead_1 : decode cX10_looksAhead 1 = .ok (.iconst 0, 1) := by decide +kernel
theorem dX10_looksAhead_2 : decode cX10_looksAhead 2 = .ok (.putfield 307, 3) := by decide +kernel
theorem dX10_looksAhead_5 : decode cX10_looksAhead 5 = .ok (.aload_n 0, 1) := by decide +kernel
theorem dX10_looksAhead_6 : decode cX10_looksAhead 6 = .ok (.iconst 0, 1) := by decide +kernel
theorem dX10_looksAhead_7 : decode cX10_looksAhead 7 = .ok (.putfield 310, 3) := by decide +kernel
theorem dX10_looksAhead_10 : decode cX10_looksAhead 10 = .ok (.iconst 0, 1) := by decide +kernel
theorem dX10_looksAhead_11 : decode cX10_looksAhead 11 = .ok (.istore_n 3, 1) := by decide +kernel
theorem dX10_looksAhead_12 : decode cX10_looksAhead 12 = .ok (.iload_n 3, 1) := by decide +kernel
theorem dX10_looksAhead_13 : decode cX10_looksAhead 13 = .ok (.aload_n 0, 1) := by decide +kernel
theorem dX10_looksAhead_14 : decode cX10_looksAhead 14 = .ok (.getfield 13, 3) := by decide +kernel
theorem dX10_looksAhead_17 : decode cX10_looksAhead 17 = .ok (.iconst 3, 1) := by decide +kernel
theorem dX10_looksAhead_18 : decode cX10_looksAhead 18 = .ok (.iaload, 1) := by decide +kernel
theorem dX10_looksAhead_19 : decode cX10_looksAhead 19 = .ok (.if_icmp .ge 90, 3) := by decide +kernel
theorem dX10_looksAhead_22 : decode cX10_looksAhead 22 = .ok (.aload_n 0, 1) := by decide +kernel
theorem dX10_looksAhead_23 : decode cX10_looksAhead 23 = .ok (.iload_n 3, 1) := by decide +kernel
theorem dX10_looksAhead_24 : decode cX10_looksAhead 24 = .ok (.iconst 5, 1) := by decide +kernel
theorem dX10_looksAhead_25 : decode cX10_looksAhead 25 = .ok (.invokevirtual 281, 3) := by decide +kernel
theorem dX10_looksAhead_28 : decode cX10_looksAhead 28 = .ok (.aload_n 0, 1) := by decide +kernel
theorem dX10_looksAhead_29 : decode cX10_looksAhead 29 = .ok (.iload_n 2, 1) := by decide +kernel
theorem dX10_looksAhead_30 : decode cX10_looksAhead 30 = .ok (.iconst 5, 1) := by decide +kernel
theorem dX10_looksAhead_31 : decode cX10_looksAhead 31 = .ok (.invokevirtual 281, 3) := by decide +kernel
theorem dX10_looksAhead_34 : decode cX10_looksAhead 34 = .ok (.if_icmp .lt 23, 3) := by decide +kernel
theorem dX10_looksAhead_37 : decode cX10_looksAhead 37 = .ok (.aload_n 0, 1) := by decide +kernel
theorem dX10_looksAhead_38 : decode cX10_looksAhead 38 = .ok (.iload_n 3, 1) := by decide +kernel
theorem dX10_looksAhead_39 : decode cX10_looksAhead 39 = .ok (.iconst 5, 1) := by decide +kernel
theorem dX10_looksAhead_40 : decode cX10_looksAhead 40 = .ok (.invokevirtual 281, 3) := by decide +kernel
theorem dX10_looksAhead_43 : decode cX10_looksAhead 43 = .ok (.aload_n 0, 1) := by decide +kernel
theorem dX10_looksAhead_44 : decode cX10_looksAhead 44 = .ok (.iload_n 2, 1) := by decide +kernel
theorem dX10_looksAhead_45 : decode cX10_looksAhead 45 = .ok (.iconst 5, 1) := by decide +kernel
theorem dX10_looksAhead_46 : decode cX10_looksAhead 46 = .ok (.invokevirtual 281, 3) := by decide +kernel
theorem dX10_looksAhead_49 : decode cX10_looksAhead 49 = .ok (.if_icmp .ne 12, 3) := by decide +kernel
theorem dX10_looksAhead_52 : decode cX10_looksAhead 52 = .ok (.iload_n 3, 1) := by decide +kernel
theorem dX10_looksAhead_53 : decode cX10_looksAhead 53 = .ok (.iload_n 2, 1) := by decide +kernel
theorem dX10_looksAhead_54 : decode cX10_looksAhead 54 = .ok (.if_icmp .ge 7, 3) := by decide +kernel
theorem dX10_looksAhead_57 : decode cX10_looksAhead 57 = .ok (.iconst 1, 1) := by decide +kernel
theorem dX10_looksAhead_58 : decode cX10_looksAhead 58 = .ok (.goto 4, 3) := by decide +kernel
theorem dX10_looksAhead_61 : decode cX10_looksAhead 61 = .ok (.iconst 0, 1) := by decide +kernel
theorem dX10_looksAhead_62 : decode cX10_looksAhead 62 = .ok (.istore 4, 2) := by decide +kernel
theorem dX10_looksAhead_64 : decode cX10_looksAhead 64 = .ok (.iload 4, 2) := by decide +kernel
theorem dX10_looksAhead_66 : decode cX10_looksAhead 66 = .ok (.ifCond .eq 37, 3) := by decide +kernel
theorem dX10_looksAhead_69 : decode cX10_looksAhead 69 = .ok (.aload_n 0, 1) := by decide +kernel
theorem dX10_looksAhead_70 : decode cX10_looksAhead 70 = .ok (.iload_n 3, 1) := by decide +kernel
theorem dX10_looksAhead_71 : decode cX10_looksAhead 71 = .ok (.iload_n 1, 1) := by decide +kernel
theorem dX10_looksAhead_72 : decode cX10_looksAhead 72 = .ok (.invokevirtual 313, 3) := by decide +kernel
theorem dX10_looksAhead_75 : decode cX10_looksAhead 75 = .ok (.ifCond .eq 28, 3) := by decide +kernel
theorem dX10_looksAhead_78 : decode cX10_looksAhead 78 = .ok (.aload_n 0, 1) := by decide +kernel
theorem dX10_looksAhead_79 : decode cX10_looksAhead 79 = .ok (.dup, 1) := by decide +kernel
theorem dX10_looksAhead_80 : decode cX10_looksAhead 80 = .ok (.getfield 307, 3) := by decide +kernel
theorem dX10_looksAhead_83 : decode cX10_looksAhead 83 = .ok (.aload_n 0, 1) := by decide +kernel
theorem dX10_looksAhead_84 : decode cX10_looksAhead 84 = .ok (.iload_n 3, 1) := by decide +kernel
theorem dX10_looksAhead_85 : decode cX10_looksAhead 85 = .ok (.iconst 3, 1) := by decide +kernel
theorem dX10_looksAhead_86 : decode cX10_looksAhead 86 = .ok (.invokevirtual 281, 3) := by decide +kernel
theorem dX10_looksAhead_89 : decode cX10_looksAhead 89 = .ok (.iadd, 1) := by decide +kernel
theorem dX10_looksAhead_90 : decode cX10_looksAhead 90 = .ok (.putfield 307, 3) := by decide +kernel
theorem dX10_looksAhead_93 : decode cX10_looksAhead 93 = .ok (.aload_n 0, 1) := by decide +kernel
theorem dX10_looksAhead_94 : decode cX10_looksAhead 94 = .ok (.dup, 1) := by decide +kernel
theorem dX10_looksAhead_95 : decode cX10_looksAhead 95 = .ok (.getfield 310, 3) := by decide +kernel
theorem dX10_looksAhead_98 : decode cX10_looksAhead 98 = .ok (.iconst 1, 1) := by decide +kernel
theorem dX10_looksAhead_99 : decode cX10_looksAhead 99 = .ok (.iadd, 1) := by decide +kernel
theorem dX10_looksAhead_100 : decode cX10_looksAhead 100 = .ok (.putfield 310, 3) := by decide +kernel
theorem dX10_looksAhead_103 : decode cX10_looksAhead 103 = .ok (.iinc 3 1, 3) := by decide +kernel
theorem dX10_looksAhead_106 : decode cX10_looksAhead 106 = .ok (.goto (-94), 3) := by decide +kernel
theorem dX10_looksAhead_109 : decode cX10_looksAhead 109 = .ok (.return_, 1) := by decide +kernel
theorem dX10_shareOf_0 : decode cX10_shareOf 0 = .ok (.aload_n 0, 1) := by decide +kernel
theorem dX10_shareOf_1 : decode cX10_shareOf 1 = .ok (.iload_n 2, 1) := by decide +kernel
theorem dX10_shareOf_2 : decode cX10_shareOf 2 = .ok (.iload_n 1, 1) := by decide +kernel
theorem dX10_shareOf_3 : decode cX10_shareOf 3 = .ok (.invokevirtual 313, 3) := by decide +kernel
theorem dX10_shareOf_6 : decode cX10_shareOf 6 = .ok (.ifCond .ne 5, 3) := by decide +kernel
theorem dX10_shareOf_9 : decode cX10_shareOf 9 = .ok (.iconst 0, 1) := by decide +kernel
theorem dX10_shareOf_10 : decode cX10_shareOf 10 = .ok (.ireturn, 1) := by decide +kernel
theorem dX10_shareOf_11 : decode cX10_shareOf 11 = .ok (.aload_n 0, 1) := by decide +kernel
theorem dX10_shareOf_12 : decode cX10_shareOf 12 = .ok (.iload_n 1, 1) := by decide +kernel
theorem dX10_shareOf_13 : decode cX10_shareOf 13 = .ok (.iload_n 2, 1) := by decide +kernel
theorem dX10_shareOf_14 : decode cX10_shareOf 14 = .ok (.invokevirtual 316, 3) := by decide +kernel
theorem dX10_shareOf_17 : decode cX10_shareOf 17 = .ok (.aload_n 0, 1) := by decide +kernel
theorem dX10_shareOf_18 : decode cX10_shareOf 18 = .ok (.iload_n 1, 1) := by decide +kernel
theorem dX10_shareOf_19 : decode cX10_shareOf 19 = .ok (.iconst 1, 1) := by decide +kernel
theorem dX10_shareOf_20 : decode cX10_shareOf 20 = .ok (.invokevirtual 320, 3) := by decide +kernel
theorem dX10_shareOf_23 : decode cX10_shareOf 23 = .ok (.istore_n 3, 1) := by decide +kernel
theorem dX10_shareOf_24 : decode cX10_shareOf 24 = .ok (.aload_n 0, 1) := by decide +kernel
theorem dX10_shareOf_25 : decode cX10_shareOf 25 = .ok (.iload_n 1, 1) := by decide +kernel
theorem dX10_shareOf_26 : decode cX10_shareOf 26 = .ok (.iconst 0, 1) := by decide +kernel
theorem dX10_shareOf_27 : decode cX10_shareOf 27 = .ok (.invokevirtual 320, 3) := by decide +kernel
theorem dX10_shareOf_30 : decode cX10_shareOf 30 = .ok (.istore 4, 2) := by decide +kernel
theorem dX10_shareOf_32 : decode cX10_shareOf 32 = .ok (.iload_n 3, 1) := by decide +kernel
theorem dX10_shareOf_33 : decode cX10_shareOf 33 = .ok (.ifCond .ne 17, 3) := by decide +kernel
theorem dX10_shareOf_36 : decode cX10_shareOf 36 = .ok (.aload_n 0, 1) := by decide +kernel
theorem dX10_shareOf_37 : decode cX10_shareOf 37 = .ok (.getfield 310, 3) := by decide +kernel
theorem dX10_shareOf_40 : decode cX10_shareOf 40 = .ok (.ifCond .ne 8, 3) := by decide +kernel
theorem dX10_shareOf_43 : decode cX10_shareOf 43 = .ok (.iload 4, 2) := by decide +kernel
theorem dX10_shareOf_45 : decode cX10_shareOf 45 = .ok (.goto 4, 3) := by decide +kernel
theorem dX10_shareOf_48 : decode cX10_shareOf 48 = .ok (.iconst 0, 1) := by decide +kernel
theorem dX10_shareOf_49 : decode cX10_shareOf 49 = .ok (.ireturn, 1) := by decide +kernel
theorem dX10_shareOf_50 : decode cX10_shareOf 50 = .ok (.iload_n 3, 1) := by decide +kernel
theorem dX10_shareOf_51 : decode cX10_shareOf 51 = .ok (.aload_n 0, 1) := by decide +kernel
theorem dX10_shareOf_52 : decode cX10_shareOf 52 = .ok (.getfield 307, 3) := by decide +kernel
theorem dX10_shareOf_55 : decode cX10_shareOf 55 = .ok (.if_icmp .le 12, 3) := by decide +kernel
theorem dX10_shareOf_58 : decode cX10_shareOf 58 = .ok (.iload_n 3, 1) := by decide +kernel
theorem dX10_shareOf_59 : decode cX10_shareOf 59 = .ok (.aload_n 0, 1) := by decide +kernel
theorem dX10_shareOf_60 : decode cX10_shareOf 60 = .ok (.getfield 307, 3) := by decide +kernel
theorem dX10_shareOf_63 : decode cX10_shareOf 63 = .ok (.isub, 1) := by decide +kernel
theorem dX10_shareOf_64 : decode cX10_shareOf 64 = .ok (.goto 4, 3) := by decide +kernel
theorem dX10_shareOf_67 : decode cX10_shareOf 67 = .ok (.iconst 0, 1) := by decide +kernel
theorem dX10_shareOf_68 : decode cX10_shareOf 68 = .ok (.istore 5, 2) := by decide +kernel
theorem dX10_shareOf_70 : decode cX10_shareOf 70 = .ok (.iload 5, 2) := by decide +kernel
theorem dX10_shareOf_72 : decode cX10_shareOf 72 = .ok (.aload_n 0, 1) := by decide +kernel
theorem dX10_shareOf_73 : decode cX10_shareOf 73 = .ok (.iload_n 2, 1) := by decide +kernel
theorem dX10_shareOf_74 : decode cX10_shareOf 74 = .ok (.iconst 3, 1) := by decide +kernel
theorem dX10_shareOf_75 : decode cX10_shareOf 75 = .ok (.invokevirtual 281, 3) := by decide +kernel
theorem dX10_shareOf_78 : decode cX10_shareOf 78 = .ok (.if_icmp .ge 8, 3) := by decide +kernel
theorem dX10_shareOf_81 : decode cX10_shareOf 81 = .ok (.iload 5, 2) := by decide +kernel
theorem dX10_shareOf_83 : decode cX10_shareOf 83 = .ok (.goto 9, 3) := by decide +kernel
theorem dX10_shareOf_86 : decode cX10_shareOf 86 = .ok (.aload_n 0, 1) := by decide +kernel
theorem dX10_shareOf_87 : decode cX10_shareOf 87 = .ok (.iload_n 2, 1) := by decide +kernel
theorem dX10_shareOf_88 : decode cX10_shareOf 88 = .ok (.iconst 3, 1) := by decide +kernel
theorem dX10_shareOf_89 : decode cX10_shareOf 89 = .ok (.invokevirtual 281, 3) := by decide +kernel
theorem dX10_shareOf_92 : decode cX10_shareOf 92 = .ok (.istore 6, 2) := by decide +kernel
theorem dX10_shareOf_94 : decode cX10_shareOf 94 = .ok (.iload 4, 2) := by decide +kernel
theorem dX10_shareOf_96 : decode cX10_shareOf 96 = .ok (.iload 6, 2) := by decide +kernel
theorem dX10_shareOf_98 : decode cX10_shareOf 98 = .ok (.imul, 1) := by decide +kernel
theorem dX10_shareOf_99 : decode cX10_shareOf 99 = .ok (.iload_n 3, 1) := by decide +kernel
theorem dX10_shareOf_100 : decode cX10_shareOf 100 = .ok (.idiv, 1) := by decide +kernel
theorem dX10_shareOf_101 : decode cX10_shareOf 101 = .ok (.ireturn, 1) := by decide +kernel
theorem dX10_sharesOf_0 : decode cX10_sharesOf 0 = .ok (.iconst 0, 1) := by decide +kernel
theorem dX10_sharesOf_1 : decode cX10_sharesOf 1 = .ok (.istore_n 2, 1) := by decide +kernel
theorem dX10_sharesOf_2 : decode cX10_sharesOf 2 = .ok (.iconst 0, 1) := by decide +kernel
theorem dX10_sharesOf_3 : decode cX10_sharesOf 3 = .ok (.istore_n 3, 1) := by decide +kernel
theorem dX10_sharesOf_4 : decode cX10_sharesOf 4 = .ok (.iload_n 3, 1) := by decide +kernel
theorem dX10_sharesOf_5 : decode cX10_sharesOf 5 = .ok (.aload_n 0, 1) := by decide +kernel
theorem dX10_sharesOf_6 : decode cX10_sharesOf 6 = .ok (.getfield 13, 3) := by decide +kernel
theorem dX10_sharesOf_9 : decode cX10_sharesOf 9 = .ok (.iconst 2, 1) := by decide +kernel
theorem dX10_sharesOf_10 : decode cX10_sharesOf 10 = .ok (.iaload, 1) := by decide +kernel
theorem dX10_sharesOf_11 : decode cX10_sharesOf 11 = .ok (.if_icmp .ge 18, 3) := by decide +kernel
theorem dX10_sharesOf_14 : decode cX10_sharesOf 14 = .ok (.iload_n 2, 1) := by decide +kernel
theorem dX10_sharesOf_15 : decode cX10_sharesOf 15 = .ok (.aload_n 0, 1) := by decide +kernel
theorem dX10_sharesOf_16 : decode cX10_sharesOf 16 = .ok (.iload_n 3, 1) := by decide +kernel
theorem dX10_sharesOf_17 : decode cX10_sharesOf 17 = .ok (.iload_n 1, 1) := by decide +kernel
theorem dX10_sharesOf_18 : decode cX10_sharesOf 18 = .ok (.invokevirtual 323, 3) := by decide +kernel
theorem dX10_sharesOf_21 : decode cX10_sharesOf 21 = .ok (.iadd, 1) := by decide +kernel
theorem dX10_sharesOf_22 : decode cX10_sharesOf 22 = .ok (.istore_n 2, 1) := by decide +kernel
