/-! the reference's methods: names and instructions -/
def y_Mo_carryOut : MethodName := ⟨"RescanDeskModel", "carryOut", "(I)V"⟩
abbrev b_Mo_carryOut : ByteArray := prog_14_method_35_code
theorem d_Mo_carryOut_0 : decode b_Mo_carryOut 0 = .ok (.iload_n 1, 1) := by decide +kernel
theorem d_Mo_carryOut_1 : decode b_Mo_carryOut 1 = .ok (.tableswitch 324 1 15 #[75, 75, 92, 92, 109, 150, 157, 171, 178, 191, 198, 210, 219, 258, 312], 75) := by decide +kernel
theorem d_Mo_carryOut_76 : decode b_Mo_carryOut 76 = .ok (.aload_n 0, 1) := by decide +kernel
theorem d_Mo_carryOut_77 : decode b_Mo_carryOut 77 = .ok (.iload_n 1, 1) := by decide +kernel
theorem d_Mo_carryOut_78 : decode b_Mo_carryOut 78 = .ok (.iconst 2, 1) := by decide +kernel
theorem d_Mo_carryOut_79 : decode b_Mo_carryOut 79 = .ok (.if_icmp .ne 7, 3) := by decide +kernel
theorem d_Mo_carryOut_82 : decode b_Mo_carryOut 82 = .ok (.iconst 1, 1) := by decide +kernel
theorem d_Mo_carryOut_83 : decode b_Mo_carryOut 83 = .ok (.goto 4, 3) := by decide +kernel
theorem d_Mo_carryOut_86 : decode b_Mo_carryOut 86 = .ok (.iconst 0, 1) := by decide +kernel
theorem d_Mo_carryOut_87 : decode b_Mo_carryOut 87 = .ok (.invokevirtual 240, 3) := by decide +kernel
theorem d_Mo_carryOut_90 : decode b_Mo_carryOut 90 = .ok (.goto 269, 3) := by decide +kernel
theorem d_Mo_carryOut_93 : decode b_Mo_carryOut 93 = .ok (.aload_n 0, 1) := by decide +kernel
theorem d_Mo_carryOut_94 : decode b_Mo_carryOut 94 = .ok (.iload_n 1, 1) := by decide +kernel
theorem d_Mo_carryOut_95 : decode b_Mo_carryOut 95 = .ok (.iconst 4, 1) := by decide +kernel
theorem d_Mo_carryOut_96 : decode b_Mo_carryOut 96 = .ok (.if_icmp .ne 7, 3) := by decide +kernel
theorem d_Mo_carryOut_99 : decode b_Mo_carryOut 99 = .ok (.iconst 1, 1) := by decide +kernel
theorem d_Mo_carryOut_100 : decode b_Mo_carryOut 100 = .ok (.goto 4, 3) := by decide +kernel
theorem d_Mo_carryOut_103 : decode b_Mo_carryOut 103 = .ok (.iconst 0, 1) := by decide +kernel
theorem d_Mo_carryOut_104 : decode b_Mo_carryOut 104 = .ok (.invokevirtual 244, 3) := by decide +kernel
theorem d_Mo_carryOut_107 : decode b_Mo_carryOut 107 = .ok (.goto 252, 3) := by decide +kernel
theorem d_Mo_carryOut_110 : decode b_Mo_carryOut 110 = .ok (.aload_n 0, 1) := by decide +kernel
theorem d_Mo_carryOut_111 : decode b_Mo_carryOut 111 = .ok (.aload_n 0, 1) := by decide +kernel
theorem d_Mo_carryOut_112 : decode b_Mo_carryOut 112 = .ok (.iconst 1, 1) := by decide +kernel
theorem d_Mo_carryOut_113 : decode b_Mo_carryOut 113 = .ok (.invokevirtual 247, 3) := by decide +kernel
theorem d_Mo_carryOut_116 : decode b_Mo_carryOut 116 = .ok (.ifCond .eq 28, 3) := by decide +kernel
theorem d_Mo_carryOut_119 : decode b_Mo_carryOut 119 = .ok (.aload_n 0, 1) := by decide +kernel
theorem d_Mo_carryOut_120 : decode b_Mo_carryOut 120 = .ok (.aload_n 0, 1) := by decide +kernel
theorem d_Mo_carryOut_121 : decode b_Mo_carryOut 121 = .ok (.getfield 60, 3) := by decide +kernel
theorem d_Mo_carryOut_124 : decode b_Mo_carryOut 124 = .ok (.aload_n 0, 1) := by decide +kernel
theorem d_Mo_carryOut_125 : decode b_Mo_carryOut 125 = .ok (.iconst 1, 1) := by decide +kernel
theorem d_Mo_carryOut_126 : decode b_Mo_carryOut 126 = .ok (.invokevirtual 210, 3) := by decide +kernel
theorem d_Mo_carryOut_129 : decode b_Mo_carryOut 129 = .ok (.aload_n 0, 1) := by decide +kernel
theorem d_Mo_carryOut_130 : decode b_Mo_carryOut 130 = .ok (.iconst 1, 1) := by decide +kernel
theorem d_Mo_carryOut_131 : decode b_Mo_carryOut 131 = .ok (.invokevirtual 207, 3) := by decide +kernel
theorem d_Mo_carryOut_134 : decode b_Mo_carryOut 134 = .ok (.invokevirtual 194, 3) := by decide +kernel
theorem d_Mo_carryOut_137 : decode b_Mo_carryOut 137 = .ok (.ifCond .lt 7, 3) := by decide +kernel
theorem d_Mo_carryOut_140 : decode b_Mo_carryOut 140 = .ok (.iconst 2, 1) := by decide +kernel
theorem d_Mo_carryOut_141 : decode b_Mo_carryOut 141 = .ok (.goto 4, 3) := by decide +kernel
theorem d_Mo_carryOut_144 : decode b_Mo_carryOut 144 = .ok (.iconst 3, 1) := by decide +kernel
theorem d_Mo_carryOut_145 : decode b_Mo_carryOut 145 = .ok (.invokevirtual 223, 3) := by decide +kernel
theorem d_Mo_carryOut_148 : decode b_Mo_carryOut 148 = .ok (.goto 211, 3) := by decide +kernel
theorem d_Mo_carryOut_151 : decode b_Mo_carryOut 151 = .ok (.aload_n 0, 1) := by decide +kernel
theorem d_Mo_carryOut_152 : decode b_Mo_carryOut 152 = .ok (.invokevirtual 250, 3) := by decide +kernel
theorem d_Mo_carryOut_155 : decode b_Mo_carryOut 155 = .ok (.goto 204, 3) := by decide +kernel
theorem d_Mo_carryOut_158 : decode b_Mo_carryOut 158 = .ok (.aload_n 0, 1) := by decide +kernel
theorem d_Mo_carryOut_159 : decode b_Mo_carryOut 159 = .ok (.aload_n 0, 1) := by decide +kernel
theorem d_Mo_carryOut_160 : decode b_Mo_carryOut 160 = .ok (.iconst 1, 1) := by decide +kernel
theorem d_Mo_carryOut_161 : decode b_Mo_carryOut 161 = .ok (.invokevirtual 253, 3) := by decide +kernel
theorem d_Mo_carryOut_164 : decode b_Mo_carryOut 164 = .ok (.lconst 1, 1) := by decide +kernel
theorem d_Mo_carryOut_165 : decode b_Mo_carryOut 165 = .ok (.ladd, 1) := by decide +kernel
theorem d_Mo_carryOut_166 : decode b_Mo_carryOut 166 = .ok (.invokevirtual 232, 3) := by decide +kernel
theorem d_Mo_carryOut_169 : decode b_Mo_carryOut 169 = .ok (.goto 190, 3) := by decide +kernel
theorem d_Mo_carryOut_172 : decode b_Mo_carryOut 172 = .ok (.aload_n 0, 1) := by decide +kernel
theorem d_Mo_carryOut_173 : decode b_Mo_carryOut 173 = .ok (.invokevirtual 257, 3) := by decide +kernel
theorem d_Mo_carryOut_176 : decode b_Mo_carryOut 176 = .ok (.goto 183, 3) := by decide +kernel
theorem d_Mo_carryOut_179 : decode b_Mo_carryOut 179 = .ok (.aload_n 0, 1) := by decide +kernel
theorem d_Mo_carryOut_180 : decode b_Mo_carryOut 180 = .ok (.aload_n 0, 1) := by decide +kernel
theorem d_Mo_carryOut_181 : decode b_Mo_carryOut 181 = .ok (.iconst 1, 1) := by decide +kernel
theorem d_Mo_carryOut_182 : decode b_Mo_carryOut 182 = .ok (.invokevirtual 207, 3) := by decide +kernel
theorem d_Mo_carryOut_185 : decode b_Mo_carryOut 185 = .ok (.i2l, 1) := by decide +kernel
theorem d_Mo_carryOut_186 : decode b_Mo_carryOut 186 = .ok (.invokevirtual 232, 3) := by decide +kernel
theorem d_Mo_carryOut_189 : decode b_Mo_carryOut 189 = .ok (.goto 170, 3) := by decide +kernel
theorem d_Mo_carryOut_192 : decode b_Mo_carryOut 192 = .ok (.aload_n 0, 1) := by decide +kernel
theorem d_Mo_carryOut_193 : decode b_Mo_carryOut 193 = .ok (.invokevirtual 260, 3) := by decide +kernel
theorem d_Mo_carryOut_196 : decode b_Mo_carryOut 196 = .ok (.goto 163, 3) := by decide +kernel
theorem d_Mo_carryOut_199 : decode b_Mo_carryOut 199 = .ok (.aload_n 0, 1) := by decide +kernel
theorem d_Mo_carryOut_200 : decode b_Mo_carryOut 200 = .ok (.aload_n 0, 1) := by decide +kernel
theorem d_Mo_carryOut_201 : decode b_Mo_carryOut 201 = .ok (.invokevirtual 263, 3) := by decide +kernel
theorem d_Mo_carryOut_204 : decode b_Mo_carryOut 204 = .ok (.i2l, 1) := by decide +kernel
theorem d_Mo_carryOut_205 : decode b_Mo_carryOut 205 = .ok (.invokevirtual 232, 3) := by decide +kernel
theorem d_Mo_carryOut_208 : decode b_Mo_carryOut 208 = .ok (.goto 151, 3) := by decide +kernel
theorem d_Mo_carryOut_211 : decode b_Mo_carryOut 211 = .ok (.aload_n 0, 1) := by decide +kernel
theorem d_Mo_carryOut_212 : decode b_Mo_carryOut 212 = .ok (.iconst 2, 1) := by decide +kernel
theorem d_Mo_carryOut_213 : decode b_Mo_carryOut 213 = .ok (.iconst 1, 1) := by decide +kernel
theorem d_Mo_carryOut_214 : decode b_Mo_carryOut 214 = .ok (.invokevirtual 236, 3) := by decide +kernel
theorem d_Mo_carryOut_217 : decode b_Mo_carryOut 217 = .ok (.goto 142, 3) := by decide +kernel
theorem d_Mo_carryOut_220 : decode b_Mo_carryOut 220 = .ok (.aload_n 0, 1) := by decide +kernel
theorem d_Mo_carryOut_221 : decode b_Mo_carryOut 221 = .ok (.aload_n 0, 1) := by decide +kernel
theorem d_Mo_carryOut_222 : decode b_Mo_carryOut 222 = .ok (.iconst 1, 1) := by decide +kernel
theorem d_Mo_carryOut_223 : decode b_Mo_carryOut 223 = .ok (.invokevirtual 253, 3) := by decide +kernel
theorem d_Mo_carryOut_226 : decode b_Mo_carryOut 226 = .ok (.lconst 0, 1) := by decide +kernel
theorem d_Mo_carryOut_227 : decode b_Mo_carryOut 227 = .ok (.lcmp, 1) := by decide +kernel
theorem d_Mo_carryOut_228 : decode b_Mo_carryOut 228 = .ok (.ifCond .lt 24, 3) := by decide +kernel
theorem d_Mo_carryOut_231 : decode b_Mo_carryOut 231 = .ok (.aload_n 0, 1) := by decide +kernel
theorem d_Mo_carryOut_232 : decode b_Mo_carryOut 232 = .ok (.iconst 1, 1) := by decide +kernel
theorem d_Mo_carryOut_233 : decode b_Mo_carryOut 233 = .ok (.invokevirtual 253, 3) := by decide +kernel
theorem d_Mo_carryOut_236 : decode b_Mo_carryOut 236 = .ok (.ldc2_w 267, 3) := by decide +kernel
theorem d_Mo_carryOut_239 : decode b_Mo_carryOut 239 = .ok (.lcmp, 1) := by decide +kernel
theorem d_Mo_carryOut_240 : decode b_Mo_carryOut 240 = .ok (.ifCond .ge 12, 3) := by decide +kernel
theorem d_Mo_carryOut_243 : decode b_Mo_carryOut 243 = .ok (.aload_n 0, 1) := by decide +kernel
theorem d_Mo_carryOut_244 : decode b_Mo_carryOut 244 = .ok (.iconst 1, 1) := by decide +kernel
theorem d_Mo_carryOut_245 : decode b_Mo_carryOut 245 = .ok (.invokevirtual 253, 3) := by decide +kernel
theorem d_Mo_carryOut_248 : decode b_Mo_carryOut 248 = .ok (.l2i, 1) := by decide +kernel
theorem d_Mo_carryOut_249 : decode b_Mo_carryOut 249 = .ok (.goto 4, 3) := by decide +kernel
theorem d_Mo_carryOut_252 : decode b_Mo_carryOut 252 = .ok (.iconst (-1), 1) := by decide +kernel
theorem d_Mo_carryOut_253 : decode b_Mo_carryOut 253 = .ok (.putfield 147, 3) := by decide +kernel
theorem d_Mo_carryOut_256 : decode b_Mo_carryOut 256 = .ok (.goto 103, 3) := by decide +kernel
theorem d_Mo_carryOut_259 : decode b_Mo_carryOut 259 = .ok (.iconst 1, 1) := by decide +kernel
theorem d_Mo_carryOut_260 : decode b_Mo_carryOut 260 = .ok (.istore_n 2, 1) := by decide +kernel
theorem d_Mo_carryOut_261 : decode b_Mo_carryOut 261 = .ok (.iload_n 2, 1) := by decide +kernel
theorem d_Mo_carryOut_262 : decode b_Mo_carryOut 262 = .ok (.iconst 4, 1) := by decide +kernel
theorem d_Mo_carryOut_263 : decode b_Mo_carryOut 263 = .ok (.if_icmp .ge 47, 3) := by decide +kernel
theorem d_Mo_carryOut_266 : decode b_Mo_carryOut 266 = .ok (.aload_n 0, 1) := by decide +kernel
theorem d_Mo_carryOut_267 : decode b_Mo_carryOut 267 = .ok (.getfield 47, 3) := by decide +kernel
theorem d_Mo_carryOut_270 : decode b_Mo_carryOut 270 = .ok (.bipush 12, 2) := by decide +kernel
theorem d_Mo_carryOut_272 : decode b_Mo_carryOut 272 = .ok (.iaload, 1) := by decide +kernel
theorem d_Mo_carryOut_273 : decode b_Mo_carryOut 273 = .ok (.ifCond .eq 14, 3) := by decide +kernel
theorem d_Mo_carryOut_276 : decode b_Mo_carryOut 276 = .ok (.aload_n 0, 1) := by decide +kernel
theorem d_Mo_carryOut_277 : decode b_Mo_carryOut 277 = .ok (.iconst 1, 1) := by decide +kernel
theorem d_Mo_carryOut_278 : decode b_Mo_carryOut 278 = .ok (.invokevirtual 253, 3) := by decide +kernel
theorem d_Mo_carryOut_281 : decode b_Mo_carryOut 281 = .ok (.iload_n 2, 1) := by decide +kernel
theorem d_Mo_carryOut_282 : decode b_Mo_carryOut 282 = .ok (.i2l, 1) := by decide +kernel
theorem d_Mo_carryOut_283 : decode b_Mo_carryOut 283 = .ok (.lcmp, 1) := by decide +kernel
theorem d_Mo_carryOut_284 : decode b_Mo_carryOut 284 = .ok (.ifCond .ne 20, 3) := by decide +kernel
theorem d_Mo_carryOut_287 : decode b_Mo_carryOut 287 = .ok (.iload_n 2, 1) := by decide +kernel
theorem d_Mo_carryOut_288 : decode b_Mo_carryOut 288 = .ok (.aload_n 0, 1) := by decide +kernel
theorem d_Mo_carryOut_289 : decode b_Mo_carryOut 289 = .ok (.getfield 147, 3) := by decide +kernel
theorem d_Mo_carryOut_292 : decode b_Mo_carryOut 292 = .ok (.if_icmp .eq 12, 3) := by decide +kernel
theorem d_Mo_carryOut_295 : decode b_Mo_carryOut 295 = .ok (.aload_n 0, 1) := by decide +kernel
theorem d_Mo_carryOut_296 : decode b_Mo_carryOut 296 = .ok (.iload_n 2, 1) := by decide +kernel
theorem d_Mo_carryOut_297 : decode b_Mo_carryOut 297 = .ok (.aload_n 0, 1) := by decide +kernel
theorem d_Mo_carryOut_298 : decode b_Mo_carryOut 298 = .ok (.getfield 147, 3) := by decide +kernel
theorem d_Mo_carryOut_301 : decode b_Mo_carryOut 301 = .ok (.invokevirtual 166, 3) := by decide +kernel
theorem d_Mo_carryOut_304 : decode b_Mo_carryOut 304 = .ok (.iinc 2 1, 3) := by decide +kernel
theorem d_Mo_carryOut_307 : decode b_Mo_carryOut 307 = .ok (.goto (-46), 3) := by decide +kernel
theorem d_Mo_carryOut_310 : decode b_Mo_carryOut 310 = .ok (.goto 49, 3) := by decide +kernel
theorem d_Mo_carryOut_313 : decode b_Mo_carryOut 313 = .ok (.aload_n 0, 1) := by decide +kernel
theorem d_Mo_carryOut_314 : decode b_Mo_carryOut 314 = .ok (.aload_n 0, 1) := by decide +kernel
theorem d_Mo_carryOut_315 : decode b_Mo_carryOut 315 = .ok (.getfield 147, 3) := by decide +kernel
theorem d_Mo_carryOut_318 : decode b_Mo_carryOut 318 = .ok (.i2l, 1) := by decide +kernel
theorem d_Mo_carryOut_319 : decode b_Mo_carryOut 319 = .ok (.invokevirtual 232, 3) := by decide +kernel
theorem d_Mo_carryOut_322 : decode b_Mo_carryOut 322 = .ok (.goto 37, 3) := by decide +kernel
theorem d_Mo_carryOut_325 : decode b_Mo_carryOut 325 = .ok (.iconst 0, 1) := by decide +kernel
theorem d_Mo_carryOut_326 : decode b_Mo_carryOut 326 = .ok (.istore_n 2, 1) := by decide +kernel
theorem d_Mo_carryOut_327 : decode b_Mo_carryOut 327 = .ok (.aload_n 0, 1) := by decide +kernel
theorem d_Mo_carryOut_328 : decode b_Mo_carryOut 328 = .ok (.getfield 150, 3) := by decide +kernel
theorem d_Mo_carryOut_331 : decode b_Mo_carryOut 331 = .ok (.ifCond .le 28, 3) := by decide +kernel
theorem d_Mo_carryOut_334 : decode b_Mo_carryOut 334 = .ok (.iload_n 2, 1) := by decide +kernel
theorem d_Mo_carryOut_335 : decode b_Mo_carryOut 335 = .ok (.bipush 10, 2) := by decide +kernel
theorem d_Mo_carryOut_337 : decode b_Mo_carryOut 337 = .ok (.if_icmp .eq 22, 3) := by decide +kernel
theorem d_Mo_carryOut_340 : decode b_Mo_carryOut 340 = .ok (.aload_n 0, 1) := by decide +kernel
theorem d_Mo_carryOut_341 : decode b_Mo_carryOut 341 = .ok (.iconst 0, 1) := by decide +kernel
theorem d_Mo_carryOut_342 : decode b_Mo_carryOut 342 = .ok (.invokevirtual 170, 3) := by decide +kernel
theorem d_Mo_carryOut_345 : decode b_Mo_carryOut 345 = .ok (.istore_n 2, 1) := by decide +kernel
theorem d_Mo_carryOut_346 : decode b_Mo_carryOut 346 = .ok (.aload_n 0, 1) := by decide +kernel
theorem d_Mo_carryOut_347 : decode b_Mo_carryOut 347 = .ok (.dup, 1) := by decide +kernel
theorem d_Mo_carryOut_348 : decode b_Mo_carryOut 348 = .ok (.getfield 150, 3) := by decide +kernel
theorem d_Mo_carryOut_351 : decode b_Mo_carryOut 351 = .ok (.iconst 1, 1) := by decide +kernel
theorem d_Mo_carryOut_352 : decode b_Mo_carryOut 352 = .ok (.isub, 1) := by decide +kernel
theorem d_Mo_carryOut_353 : decode b_Mo_carryOut 353 = .ok (.putfield 150, 3) := by decide +kernel
theorem d_Mo_carryOut_356 : decode b_Mo_carryOut 356 = .ok (.goto (-29), 3) := by decide +kernel
theorem d_Mo_carryOut_359 : decode b_Mo_carryOut 359 = .ok (.return_, 1) := by decide +kernel
theorem q_Mo_carryOut : aw_q1 y_Mo_carryOut b_Mo_carryOut 3 none 1 := ⟨k_1082, k_79, ⟨by decide, by decide, by decide +kernel⟩, by decide⟩
def y_Mo_define : MethodName := ⟨"RescanDeskModel", "define", "(Z)V"⟩
abbrev b_Mo_define : ByteArray := prog_14_method_36_code
theorem d_Mo_define_0 : decode b_Mo_define 0 = .ok (.aload_n 0, 1) := by decide +kernel
theorem d_Mo_define_1 : decode b_Mo_define 1 = .ok (.iconst 1, 1) := by decide +kernel
theorem d_Mo_define_2 : decode b_Mo_define 2 = .ok (.invokevirtual 247, 3) := by decide +kernel
theorem d_Mo_define_5 : decode b_Mo_define 5 = .ok (.ifCond .ne 4, 3) := by decide +kernel
theorem d_Mo_define_8 : decode b_Mo_define 8 = .ok (.return_, 1) := by decide +kernel
theorem d_Mo_define_9 : decode b_Mo_define 9 = .ok (.aload_n 0, 1) := by decide +kernel
theorem d_Mo_define_10 : decode b_Mo_define 10 = .ok (.aload_n 0, 1) := by decide +kernel
theorem d_Mo_define_11 : decode b_Mo_define 11 = .ok (.getfield 60, 3) := by decide +kernel
theorem d_Mo_define_14 : decode b_Mo_define 14 = .ok (.aload_n 0, 1) := by decide +kernel
theorem d_Mo_define_15 : decode b_Mo_define 15 = .ok (.iconst 1, 1) := by decide +kernel
theorem d_Mo_define_16 : decode b_Mo_define 16 = .ok (.invokevirtual 210, 3) := by decide +kernel
theorem d_Mo_define_19 : decode b_Mo_define 19 = .ok (.aload_n 0, 1) := by decide +kernel
theorem d_Mo_define_20 : decode b_Mo_define 20 = .ok (.iconst 1, 1) := by decide +kernel
theorem d_Mo_define_21 : decode b_Mo_define 21 = .ok (.invokevirtual 207, 3) := by decide +kernel
theorem d_Mo_define_24 : decode b_Mo_define 24 = .ok (.invokevirtual 194, 3) := by decide +kernel
theorem d_Mo_define_27 : decode b_Mo_define 27 = .ok (.istore_n 2, 1) := by decide +kernel
theorem d_Mo_define_28 : decode b_Mo_define 28 = .ok (.iload_n 1, 1) := by decide +kernel
theorem d_Mo_define_29 : decode b_Mo_define 29 = .ok (.ifCond .ne 7, 3) := by decide +kernel
theorem d_Mo_define_32 : decode b_Mo_define 32 = .ok (.iload_n 2, 1) := by decide +kernel
theorem d_Mo_define_33 : decode b_Mo_define 33 = .ok (.ifCond .ge 7, 3) := by decide +kernel
theorem d_Mo_define_36 : decode b_Mo_define 36 = .ok (.iconst 1, 1) := by decide +kernel
theorem d_Mo_define_37 : decode b_Mo_define 37 = .ok (.goto 4, 3) := by decide +kernel
theorem d_Mo_define_40 : decode b_Mo_define 40 = .ok (.iconst 0, 1) := by decide +kernel
theorem d_Mo_define_41 : decode b_Mo_define 41 = .ok (.istore_n 3, 1) := by decide +kernel
theorem d_Mo_define_42 : decode b_Mo_define 42 = .ok (.aload_n 0, 1) := by decide +kernel
theorem d_Mo_define_43 : decode b_Mo_define 43 = .ok (.iconst 1, 1) := by decide +kernel
theorem d_Mo_define_44 : decode b_Mo_define 44 = .ok (.invokevirtual 207, 3) := by decide +kernel
theorem d_Mo_define_47 : decode b_Mo_define 47 = .ok (.bipush 12, 2) := by decide +kernel
theorem d_Mo_define_49 : decode b_Mo_define 49 = .ok (.if_icmp .gt 26, 3) := by decide +kernel
theorem d_Mo_define_52 : decode b_Mo_define 52 = .ok (.aload_n 0, 1) := by decide +kernel
theorem d_Mo_define_53 : decode b_Mo_define 53 = .ok (.iconst 2, 1) := by decide +kernel
theorem d_Mo_define_54 : decode b_Mo_define 54 = .ok (.invokevirtual 207, 3) := by decide +kernel
theorem d_Mo_define_57 : decode b_Mo_define 57 = .ok (.bipush 100, 2) := by decide +kernel
theorem d_Mo_define_59 : decode b_Mo_define 59 = .ok (.if_icmp .gt 16, 3) := by decide +kernel
theorem d_Mo_define_62 : decode b_Mo_define 62 = .ok (.iload_n 3, 1) := by decide +kernel
theorem d_Mo_define_63 : decode b_Mo_define 63 = .ok (.ifCond .eq 18, 3) := by decide +kernel
theorem d_Mo_define_66 : decode b_Mo_define 66 = .ok (.aload_n 0, 1) := by decide +kernel
theorem d_Mo_define_67 : decode b_Mo_define 67 = .ok (.getfield 118, 3) := by decide +kernel
theorem d_Mo_define_70 : decode b_Mo_define 70 = .ok (.bipush 60, 2) := by decide +kernel
theorem d_Mo_define_72 : decode b_Mo_define 72 = .ok (.if_icmp .ne 9, 3) := by decide +kernel
theorem d_Mo_define_75 : decode b_Mo_define 75 = .ok (.aload_n 0, 1) := by decide +kernel
theorem d_Mo_define_76 : decode b_Mo_define 76 = .ok (.iconst 2, 1) := by decide +kernel
theorem d_Mo_define_77 : decode b_Mo_define 77 = .ok (.invokevirtual 143, 3) := by decide +kernel
theorem d_Mo_define_80 : decode b_Mo_define 80 = .ok (.return_, 1) := by decide +kernel
theorem d_Mo_define_81 : decode b_Mo_define 81 = .ok (.iload_n 3, 1) := by decide +kernel
theorem d_Mo_define_82 : decode b_Mo_define 82 = .ok (.ifCond .eq 73, 3) := by decide +kernel
theorem d_Mo_define_85 : decode b_Mo_define 85 = .ok (.aload_n 0, 1) := by decide +kernel
theorem d_Mo_define_86 : decode b_Mo_define 86 = .ok (.getfield 118, 3) := by decide +kernel
theorem d_Mo_define_89 : decode b_Mo_define 89 = .ok (.istore_n 2, 1) := by decide +kernel
theorem d_Mo_define_90 : decode b_Mo_define 90 = .ok (.aload_n 0, 1) := by decide +kernel
theorem d_Mo_define_91 : decode b_Mo_define 91 = .ok (.dup, 1) := by decide +kernel
theorem d_Mo_define_92 : decode b_Mo_define 92 = .ok (.getfield 118, 3) := by decide +kernel
theorem d_Mo_define_95 : decode b_Mo_define 95 = .ok (.iconst 1, 1) := by decide +kernel
theorem d_Mo_define_96 : decode b_Mo_define 96 = .ok (.iadd, 1) := by decide +kernel
theorem d_Mo_define_97 : decode b_Mo_define 97 = .ok (.putfield 118, 3) := by decide +kernel
theorem d_Mo_define_100 : decode b_Mo_define 100 = .ok (.iconst 0, 1) := by decide +kernel
theorem d_Mo_define_101 : decode b_Mo_define 101 = .ok (.istore 4, 2) := by decide +kernel
theorem d_Mo_define_103 : decode b_Mo_define 103 = .ok (.iload 4, 2) := by decide +kernel
theorem d_Mo_define_105 : decode b_Mo_define 105 = .ok (.aload_n 0, 1) := by decide +kernel
theorem d_Mo_define_106 : decode b_Mo_define 106 = .ok (.iconst 1, 1) := by decide +kernel
theorem d_Mo_define_107 : decode b_Mo_define 107 = .ok (.invokevirtual 207, 3) := by decide +kernel
theorem d_Mo_define_110 : decode b_Mo_define 110 = .ok (.if_icmp .ge 34, 3) := by decide +kernel
theorem d_Mo_define_113 : decode b_Mo_define 113 = .ok (.aload_n 0, 1) := by decide +kernel
theorem d_Mo_define_114 : decode b_Mo_define 114 = .ok (.getfield 16, 3) := by decide +kernel
theorem d_Mo_define_117 : decode b_Mo_define 117 = .ok (.bipush 12, 2) := by decide +kernel
theorem d_Mo_define_119 : decode b_Mo_define 119 = .ok (.iload_n 2, 1) := by decide +kernel
theorem d_Mo_define_120 : decode b_Mo_define 120 = .ok (.imul, 1) := by decide +kernel
theorem d_Mo_define_121 : decode b_Mo_define 121 = .ok (.iload 4, 2) := by decide +kernel
theorem d_Mo_define_123 : decode b_Mo_define 123 = .ok (.iadd, 1) := by decide +kernel
theorem d_Mo_define_124 : decode b_Mo_define 124 = .ok (.aload_n 0, 1) := by decide +kernel
theorem d_Mo_define_125 : decode b_Mo_define 125 = .ok (.getfield 60, 3) := by decide +kernel
theorem d_Mo_define_128 : decode b_Mo_define 128 = .ok (.aload_n 0, 1) := by decide +kernel
theorem d_Mo_define_129 : decode b_Mo_define 129 = .ok (.iconst 1, 1) := by decide +kernel
theorem d_Mo_define_130 : decode b_Mo_define 130 = .ok (.invokevirtual 210, 3) := by decide +kernel
theorem d_Mo_define_133 : decode b_Mo_define 133 = .ok (.iload 4, 2) := by decide +kernel
theorem d_Mo_define_135 : decode b_Mo_define 135 = .ok (.iadd, 1) := by decide +kernel
theorem d_Mo_define_136 : decode b_Mo_define 136 = .ok (.caload, 1) := by decide +kernel
theorem d_Mo_define_137 : decode b_Mo_define 137 = .ok (.castore, 1) := by decide +kernel
theorem d_Mo_define_138 : decode b_Mo_define 138 = .ok (.iinc 4 1, 3) := by decide +kernel
theorem d_Mo_define_141 : decode b_Mo_define 141 = .ok (.goto (-38), 3) := by decide +kernel
theorem d_Mo_define_144 : decode b_Mo_define 144 = .ok (.aload_n 0, 1) := by decide +kernel
theorem d_Mo_define_145 : decode b_Mo_define 145 = .ok (.getfield 19, 3) := by decide +kernel
theorem d_Mo_define_148 : decode b_Mo_define 148 = .ok (.iload_n 2, 1) := by decide +kernel
theorem d_Mo_define_149 : decode b_Mo_define 149 = .ok (.aload_n 0, 1) := by decide +kernel
theorem d_Mo_define_150 : decode b_Mo_define 150 = .ok (.iconst 1, 1) := by decide +kernel
theorem d_Mo_define_151 : decode b_Mo_define 151 = .ok (.invokevirtual 207, 3) := by decide +kernel
theorem d_Mo_define_154 : decode b_Mo_define 154 = .ok (.iastore, 1) := by decide +kernel
theorem d_Mo_define_155 : decode b_Mo_define 155 = .ok (.aload_n 0, 1) := by decide +kernel
theorem d_Mo_define_156 : decode b_Mo_define 156 = .ok (.getfield 23, 3) := by decide +kernel
theorem d_Mo_define_159 : decode b_Mo_define 159 = .ok (.iload_n 2, 1) := by decide +kernel
theorem d_Mo_define_160 : decode b_Mo_define 160 = .ok (.iconst 0, 1) := by decide +kernel
theorem d_Mo_define_161 : decode b_Mo_define 161 = .ok (.iastore, 1) := by decide +kernel
theorem d_Mo_define_162 : decode b_Mo_define 162 = .ok (.iconst 0, 1) := by decide +kernel
theorem d_Mo_define_163 : decode b_Mo_define 163 = .ok (.istore 4, 2) := by decide +kernel
theorem d_Mo_define_165 : decode b_Mo_define 165 = .ok (.iload 4, 2) := by decide +kernel
theorem d_Mo_define_167 : decode b_Mo_define 167 = .ok (.aload_n 0, 1) := by decide +kernel
theorem d_Mo_define_168 : decode b_Mo_define 168 = .ok (.iconst 2, 1) := by decide +kernel
theorem d_Mo_define_169 : decode b_Mo_define 169 = .ok (.invokevirtual 207, 3) := by decide +kernel
theorem d_Mo_define_172 : decode b_Mo_define 172 = .ok (.if_icmp .ge 34, 3) := by decide +kernel
theorem d_Mo_define_175 : decode b_Mo_define 175 = .ok (.aload_n 0, 1) := by decide +kernel
theorem d_Mo_define_176 : decode b_Mo_define 176 = .ok (.getfield 26, 3) := by decide +kernel
theorem d_Mo_define_179 : decode b_Mo_define 179 = .ok (.bipush 100, 2) := by decide +kernel
theorem d_Mo_define_181 : decode b_Mo_define 181 = .ok (.iload_n 2, 1) := by decide +kernel
theorem d_Mo_define_182 : decode b_Mo_define 182 = .ok (.imul, 1) := by decide +kernel
theorem d_Mo_define_183 : decode b_Mo_define 183 = .ok (.iload 4, 2) := by decide +kernel
theorem d_Mo_define_185 : decode b_Mo_define 185 = .ok (.iadd, 1) := by decide +kernel
theorem d_Mo_define_186 : decode b_Mo_define 186 = .ok (.aload_n 0, 1) := by decide +kernel
theorem d_Mo_define_187 : decode b_Mo_define 187 = .ok (.getfield 60, 3) := by decide +kernel
theorem d_Mo_define_190 : decode b_Mo_define 190 = .ok (.aload_n 0, 1) := by decide +kernel
theorem d_Mo_define_191 : decode b_Mo_define 191 = .ok (.iconst 2, 1) := by decide +kernel
theorem d_Mo_define_192 : decode b_Mo_define 192 = .ok (.invokevirtual 210, 3) := by decide +kernel
theorem d_Mo_define_195 : decode b_Mo_define 195 = .ok (.iload 4, 2) := by decide +kernel
theorem d_Mo_define_197 : decode b_Mo_define 197 = .ok (.iadd, 1) := by decide +kernel
theorem d_Mo_define_198 : decode b_Mo_define 198 = .ok (.caload, 1) := by decide +kernel
theorem d_Mo_define_199 : decode b_Mo_define 199 = .ok (.castore, 1) := by decide +kernel
theorem d_Mo_define_200 : decode b_Mo_define 200 = .ok (.iinc 4 1, 3) := by decide +kernel
theorem d_Mo_define_203 : decode b_Mo_define 203 = .ok (.goto (-38), 3) := by decide +kernel
theorem d_Mo_define_206 : decode b_Mo_define 206 = .ok (.aload_n 0, 1) := by decide +kernel
theorem d_Mo_define_207 : decode b_Mo_define 207 = .ok (.getfield 29, 3) := by decide +kernel
theorem d_Mo_define_210 : decode b_Mo_define 210 = .ok (.iload_n 2, 1) := by decide +kernel
theorem d_Mo_define_211 : decode b_Mo_define 211 = .ok (.aload_n 0, 1) := by decide +kernel
theorem d_Mo_define_212 : decode b_Mo_define 212 = .ok (.iconst 2, 1) := by decide +kernel
theorem d_Mo_define_213 : decode b_Mo_define 213 = .ok (.invokevirtual 207, 3) := by decide +kernel
theorem d_Mo_define_216 : decode b_Mo_define 216 = .ok (.iastore, 1) := by decide +kernel
theorem d_Mo_define_217 : decode b_Mo_define 217 = .ok (.return_, 1) := by decide +kernel
theorem q_Mo_define : aw_q1 y_Mo_define b_Mo_define 5 none 1 := ⟨k_1086, k_79, ⟨by decide, by decide, by decide +kernel⟩, by decide⟩
def y_Mo_isName : MethodName := ⟨"RescanDeskModel", "isName", "(I)Z"⟩
abbrev b_Mo_isName : ByteArray := prog_14_method_27_code
theorem d_Mo_isName_0 : decode b_Mo_isName 0 = .ok (.aload_n 0, 1) := by decide +kernel
theorem d_Mo_isName_1 : decode b_Mo_isName 1 = .ok (.iload_n 1, 1) := by decide +kernel
theorem d_Mo_isName_2 : decode b_Mo_isName 2 = .ok (.invokevirtual 207, 3) := by decide +kernel
theorem d_Mo_isName_5 : decode b_Mo_isName 5 = .ok (.ifCond .le 23, 3) := by decide +kernel
theorem d_Mo_isName_8 : decode b_Mo_isName 8 = .ok (.aload_n 0, 1) := by decide +kernel
theorem d_Mo_isName_9 : decode b_Mo_isName 9 = .ok (.getfield 60, 3) := by decide +kernel
theorem d_Mo_isName_12 : decode b_Mo_isName 12 = .ok (.aload_n 0, 1) := by decide +kernel
theorem d_Mo_isName_13 : decode b_Mo_isName 13 = .ok (.iload_n 1, 1) := by decide +kernel
theorem d_Mo_isName_14 : decode b_Mo_isName 14 = .ok (.invokevirtual 210, 3) := by decide +kernel
theorem d_Mo_isName_17 : decode b_Mo_isName 17 = .ok (.caload, 1) := by decide +kernel
theorem d_Mo_isName_18 : decode b_Mo_isName 18 = .ok (.invokestatic 177, 3) := by decide +kernel
theorem d_Mo_isName_21 : decode b_Mo_isName 21 = .ok (.ifCond .eq 7, 3) := by decide +kernel
theorem d_Mo_isName_24 : decode b_Mo_isName 24 = .ok (.iconst 1, 1) := by decide +kernel
theorem d_Mo_isName_25 : decode b_Mo_isName 25 = .ok (.goto 4, 3) := by decide +kernel
theorem d_Mo_isName_28 : decode b_Mo_isName 28 = .ok (.iconst 0, 1) := by decide +kernel
theorem d_Mo_isName_29 : decode b_Mo_isName 29 = .ok (.istore_n 2, 1) := by decide +kernel
theorem d_Mo_isName_30 : decode b_Mo_isName 30 = .ok (.iconst 0, 1) := by decide +kernel
theorem d_Mo_isName_31 : decode b_Mo_isName 31 = .ok (.istore_n 3, 1) := by decide +kernel
theorem d_Mo_isName_32 : decode b_Mo_isName 32 = .ok (.iload_n 3, 1) := by decide +kernel
theorem d_Mo_isName_33 : decode b_Mo_isName 33 = .ok (.aload_n 0, 1) := by decide +kernel
theorem d_Mo_isName_34 : decode b_Mo_isName 34 = .ok (.iload_n 1, 1) := by decide +kernel
theorem d_Mo_isName_35 : decode b_Mo_isName 35 = .ok (.invokevirtual 207, 3) := by decide +kernel
theorem d_Mo_isName_38 : decode b_Mo_isName 38 = .ok (.if_icmp .ge 55, 3) := by decide +kernel
theorem d_Mo_isName_41 : decode b_Mo_isName 41 = .ok (.iload_n 2, 1) := by decide +kernel
theorem d_Mo_isName_42 : decode b_Mo_isName 42 = .ok (.ifCond .eq 51, 3) := by decide +kernel
theorem d_Mo_isName_45 : decode b_Mo_isName 45 = .ok (.aload_n 0, 1) := by decide +kernel
theorem d_Mo_isName_46 : decode b_Mo_isName 46 = .ok (.getfield 60, 3) := by decide +kernel
theorem d_Mo_isName_49 : decode b_Mo_isName 49 = .ok (.aload_n 0, 1) := by decide +kernel
theorem d_Mo_isName_50 : decode b_Mo_isName 50 = .ok (.iload_n 1, 1) := by decide +kernel
theorem d_Mo_isName_51 : decode b_Mo_isName 51 = .ok (.invokevirtual 210, 3) := by decide +kernel
theorem d_Mo_isName_54 : decode b_Mo_isName 54 = .ok (.iload_n 3, 1) := by decide +kernel
theorem d_Mo_isName_55 : decode b_Mo_isName 55 = .ok (.iadd, 1) := by decide +kernel
theorem d_Mo_isName_56 : decode b_Mo_isName 56 = .ok (.caload, 1) := by decide +kernel
theorem d_Mo_isName_57 : decode b_Mo_isName 57 = .ok (.invokestatic 177, 3) := by decide +kernel
theorem d_Mo_isName_60 : decode b_Mo_isName 60 = .ok (.ifCond .ne 21, 3) := by decide +kernel
theorem d_Mo_isName_63 : decode b_Mo_isName 63 = .ok (.aload_n 0, 1) := by decide +kernel
theorem d_Mo_isName_64 : decode b_Mo_isName 64 = .ok (.getfield 60, 3) := by decide +kernel
theorem d_Mo_isName_67 : decode b_Mo_isName 67 = .ok (.aload_n 0, 1) := by decide +kernel
theorem d_Mo_isName_68 : decode b_Mo_isName 68 = .ok (.iload_n 1, 1) := by decide +kernel
theorem d_Mo_isName_69 : decode b_Mo_isName 69 = .ok (.invokevirtual 210, 3) := by decide +kernel
theorem d_Mo_isName_72 : decode b_Mo_isName 72 = .ok (.iload_n 3, 1) := by decide +kernel
theorem d_Mo_isName_73 : decode b_Mo_isName 73 = .ok (.iadd, 1) := by decide +kernel
theorem d_Mo_isName_74 : decode b_Mo_isName 74 = .ok (.caload, 1) := by decide +kernel
theorem d_Mo_isName_75 : decode b_Mo_isName 75 = .ok (.invokestatic 191, 3) := by decide +kernel
theorem d_Mo_isName_78 : decode b_Mo_isName 78 = .ok (.ifCond .eq 7, 3) := by decide +kernel
theorem d_Mo_isName_81 : decode b_Mo_isName 81 = .ok (.iconst 1, 1) := by decide +kernel
theorem d_Mo_isName_82 : decode b_Mo_isName 82 = .ok (.goto 4, 3) := by decide +kernel
theorem d_Mo_isName_85 : decode b_Mo_isName 85 = .ok (.iconst 0, 1) := by decide +kernel
theorem d_Mo_isName_86 : decode b_Mo_isName 86 = .ok (.istore_n 2, 1) := by decide +kernel
theorem d_Mo_isName_87 : decode b_Mo_isName 87 = .ok (.iinc 3 1, 3) := by decide +kernel
theorem d_Mo_isName_90 : decode b_Mo_isName 90 = .ok (.goto (-58), 3) := by decide +kernel
theorem d_Mo_isName_93 : decode b_Mo_isName 93 = .ok (.iload_n 2, 1) := by decide +kernel
theorem d_Mo_isName_94 : decode b_Mo_isName 94 = .ok (.ireturn, 1) := by decide +kernel
theorem q_Mo_isName : aw_q1 y_Mo_isName b_Mo_isName 4 (some .boolean) 1 := ⟨k_1090, k_79, ⟨by decide, by decide, by decide +kernel⟩, by decide⟩
def y_Mo_undefine : MethodName := ⟨"RescanDeskModel", "undefine", "(Z)V"⟩
abbrev b_Mo_undefine : ByteArray := prog_14_method_37_code
theorem d_Mo_undefine_0 : decode b_Mo_undefine 0 = .ok (.aload_n 0, 1) := by decide +kernel
theorem d_Mo_undefine_1 : decode b_Mo_undefine 1 = .ok (.aload_n 0, 1) := by decide +kernel
theorem d_Mo_undefine_2 : decode b_Mo_undefine 2 = .ok (.getfield 60, 3) := by decide +kernel
theorem d_Mo_undefine_5 : decode b_Mo_undefine 5 = .ok (.aload_n 0, 1) := by decide +kernel
theorem d_Mo_undefine_6 : decode b_Mo_undefine 6 = .ok (.iconst 1, 1) := by decide +kernel
theorem d_Mo_undefine_7 : decode b_Mo_undefine 7 = .ok (.invokevirtual 210, 3) := by decide +kernel
theorem d_Mo_undefine_10 : decode b_Mo_undefine 10 = .ok (.aload_n 0, 1) := by decide +kernel
theorem d_Mo_undefine_11 : decode b_Mo_undefine 11 = .ok (.iconst 1, 1) := by decide +kernel
theorem d_Mo_undefine_12 : decode b_Mo_undefine 12 = .ok (.invokevirtual 207, 3) := by decide +kernel
theorem d_Mo_undefine_15 : decode b_Mo_undefine 15 = .ok (.invokevirtual 194, 3) := by decide +kernel
theorem d_Mo_undefine_18 : decode b_Mo_undefine 18 = .ok (.istore_n 2, 1) := by decide +kernel
theorem d_Mo_undefine_19 : decode b_Mo_undefine 19 = .ok (.iload_n 2, 1) := by decide +kernel
theorem d_Mo_undefine_20 : decode b_Mo_undefine 20 = .ok (.ifCond .lt 67, 3) := by decide +kernel
theorem d_Mo_undefine_23 : decode b_Mo_undefine 23 = .ok (.aload_n 0, 1) := by decide +kernel
theorem d_Mo_undefine_24 : decode b_Mo_undefine 24 = .ok (.dup, 1) := by decide +kernel
theorem d_Mo_undefine_25 : decode b_Mo_undefine 25 = .ok (.getfield 118, 3) := by decide +kernel
theorem d_Mo_undefine_28 : decode b_Mo_undefine 28 = .ok (.iconst 1, 1) := by decide +kernel
theorem d_Mo_undefine_29 : decode b_Mo_undefine 29 = .ok (.isub, 1) := by decide +kernel
theorem d_Mo_undefine_30 : decode b_Mo_undefine 30 = .ok (.putfield 118, 3) := by decide +kernel
theorem d_Mo_undefine_33 : decode b_Mo_undefine 33 = .ok (.iload_n 2, 1) := by decide +kernel
theorem d_Mo_undefine_34 : decode b_Mo_undefine 34 = .ok (.istore_n 3, 1) := by decide +kernel
theorem d_Mo_undefine_35 : decode b_Mo_undefine 35 = .ok (.iload_n 3, 1) := by decide +kernel
theorem d_Mo_undefine_36 : decode b_Mo_undefine 36 = .ok (.aload_n 0, 1) := by decide +kernel
theorem d_Mo_undefine_37 : decode b_Mo_undefine 37 = .ok (.getfield 118, 3) := by decide +kernel
theorem d_Mo_undefine_40 : decode b_Mo_undefine 40 = .ok (.if_icmp .ge 17, 3) := by decide +kernel
theorem d_Mo_undefine_43 : decode b_Mo_undefine 43 = .ok (.aload_n 0, 1) := by decide +kernel
theorem d_Mo_undefine_44 : decode b_Mo_undefine 44 = .ok (.iload_n 3, 1) := by decide +kernel
theorem d_Mo_undefine_45 : decode b_Mo_undefine 45 = .ok (.iconst 1, 1) := by decide +kernel
theorem d_Mo_undefine_46 : decode b_Mo_undefine 46 = .ok (.iadd, 1) := by decide +kernel
theorem d_Mo_undefine_47 : decode b_Mo_undefine 47 = .ok (.iload_n 3, 1) := by decide +kernel
theorem d_Mo_undefine_48 : decode b_Mo_undefine 48 = .ok (.invokevirtual 269, 3) := by decide +kernel
theorem d_Mo_undefine_51 : decode b_Mo_undefine 51 = .ok (.iinc 3 1, 3) := by decide +kernel
theorem d_Mo_undefine_54 : decode b_Mo_undefine 54 = .ok (.goto (-19), 3) := by decide +kernel
theorem d_Mo_undefine_57 : decode b_Mo_undefine 57 = .ok (.iload_n 1, 1) := by decide +kernel
theorem d_Mo_undefine_58 : decode b_Mo_undefine 58 = .ok (.ifCond .eq 24, 3) := by decide +kernel
theorem d_Mo_undefine_61 : decode b_Mo_undefine 61 = .ok (.aload_n 0, 1) := by decide +kernel
theorem d_Mo_undefine_62 : decode b_Mo_undefine 62 = .ok (.aload_n 0, 1) := by decide +kernel
theorem d_Mo_undefine_63 : decode b_Mo_undefine 63 = .ok (.getfield 60, 3) := by decide +kernel
theorem d_Mo_undefine_66 : decode b_Mo_undefine 66 = .ok (.aload_n 0, 1) := by decide +kernel
theorem d_Mo_undefine_67 : decode b_Mo_undefine 67 = .ok (.iconst 1, 1) := by decide +kernel
theorem d_Mo_undefine_68 : decode b_Mo_undefine 68 = .ok (.invokevirtual 210, 3) := by decide +kernel
theorem d_Mo_undefine_71 : decode b_Mo_undefine 71 = .ok (.aload_n 0, 1) := by decide +kernel
theorem d_Mo_undefine_72 : decode b_Mo_undefine 72 = .ok (.iconst 1, 1) := by decide +kernel
theorem d_Mo_undefine_73 : decode b_Mo_undefine 73 = .ok (.invokevirtual 207, 3) := by decide +kernel
theorem d_Mo_undefine_76 : decode b_Mo_undefine 76 = .ok (.invokevirtual 194, 3) := by decide +kernel
theorem d_Mo_undefine_79 : decode b_Mo_undefine 79 = .ok (.goto 4, 3) := by decide +kernel
theorem d_Mo_undefine_82 : decode b_Mo_undefine 82 = .ok (.iconst (-1), 1) := by decide +kernel
theorem d_Mo_undefine_83 : decode b_Mo_undefine 83 = .ok (.istore_n 2, 1) := by decide +kernel
theorem d_Mo_undefine_84 : decode b_Mo_undefine 84 = .ok (.goto (-65), 3) := by decide +kernel
theorem d_Mo_undefine_87 : decode b_Mo_undefine 87 = .ok (.return_, 1) := by decide +kernel
theorem q_Mo_undefine : aw_q1 y_Mo_undefine b_Mo_undefine 4 none 1 := ⟨k_1094, k_79, ⟨by decide, by decide, by decide +kernel⟩, by decide⟩
def y_Mo_move : MethodName := ⟨"RescanDeskModel", "move", "(II)V"⟩
abbrev b_Mo_move : ByteArray := prog_14_method_38_code
theorem d_Mo_move_0 : decode b_Mo_move 0 = .ok (.iconst 0, 1) := by decide +kernel
theorem d_Mo_move_1 : decode b_Mo_move 1 = .ok (.istore_n 3, 1) := by decide +kernel
theorem d_Mo_move_2 : decode b_Mo_move 2 = .ok (.iload_n 3, 1) := by decide +kernel
theorem d_Mo_move_3 : decode b_Mo_move 3 = .ok (.bipush 12, 2) := by decide +kernel
theorem d_Mo_move_5 : decode b_Mo_move 5 = .ok (.if_icmp .ge 31, 3) := by decide +kernel
theorem d_Mo_move_8 : decode b_Mo_move 8 = .ok (.aload_n 0, 1) := by decide +kernel
theorem d_Mo_move_9 : decode b_Mo_move 9 = .ok (.getfield 16, 3) := by decide +kernel
theorem d_Mo_move_12 : decode b_Mo_move 12 = .ok (.bipush 12, 2) := by decide +kernel
theorem d_Mo_move_14 : decode b_Mo_move 14 = .ok (.iload_n 2, 1) := by decide +kernel
theorem d_Mo_move_15 : decode b_Mo_move 15 = .ok (.imul, 1) := by decide +kernel
theorem d_Mo_move_16 : decode b_Mo_move 16 = .ok (.iload_n 3, 1) := by decide +kernel
theorem d_Mo_move_17 : decode b_Mo_move 17 = .ok (.iadd, 1) := by decide +kernel
theorem d_Mo_move_18 : decode b_Mo_move 18 = .ok (.aload_n 0, 1) := by decide +kernel
theorem d_Mo_move_19 : decode b_Mo_move 19 = .ok (.getfield 16, 3) := by decide +kernel
theorem d_Mo_move_22 : decode b_Mo_move 22 = .ok (.bipush 12, 2) := by decide +kernel
theorem d_Mo_move_24 : decode b_Mo_move 24 = .ok (.iload_n 1, 1) := by decide +kernel
theorem d_Mo_move_25 : decode b_Mo_move 25 = .ok (.imul, 1) := by decide +kernel
theorem d_Mo_move_26 : decode b_Mo_move 26 = .ok (.iload_n 3, 1) := by decide +kernel
theorem d_Mo_move_27 : decode b_Mo_move 27 = .ok (.iadd, 1) := by decide +kernel
theorem d_Mo_move_28 : decode b_Mo_move 28 = .ok (.caload, 1) := by decide +kernel
theorem d_Mo_move_29 : decode b_Mo_move 29 = .ok (.castore, 1) := by decide +kernel
theorem d_Mo_move_30 : decode b_Mo_move 30 = .ok (.iinc 3 1, 3) := by decide +kernel
theorem d_Mo_move_33 : decode b_Mo_move 33 = .ok (.goto (-31), 3) := by decide +kernel
theorem d_Mo_move_36 : decode b_Mo_move 36 = .ok (.iconst 0, 1) := by decide +kernel
theorem d_Mo_move_37 : decode b_Mo_move 37 = .ok (.istore_n 3, 1) := by decide +kernel
theorem d_Mo_move_38 : decode b_Mo_move 38 = .ok (.iload_n 3, 1) := by decide +kernel
theorem d_Mo_move_39 : decode b_Mo_move 39 = .ok (.bipush 100, 2) := by decide +kernel
theorem d_Mo_move_41 : decode b_Mo_move 41 = .ok (.if_icmp .ge 31, 3) := by decide +kernel
theorem d_Mo_move_44 : decode b_Mo_move 44 = .ok (.aload_n 0, 1) := by decide +kernel
theorem d_Mo_move_45 : decode b_Mo_move 45 = .ok (.getfield 26, 3) := by decide +kernel
theorem d_Mo_move_48 : decode b_Mo_move 48 = .ok (.bipush 100, 2) := by decide +kernel
theorem d_Mo_move_50 : decode b_Mo_move 50 = .ok (.iload_n 2, 1) := by decide +kernel
theorem d_Mo_move_51 : decode b_Mo_move 51 = .ok (.imul, 1) := by decide +kernel
theorem d_Mo_move_52 : decode b_Mo_move 52 = .ok (.iload_n 3, 1) := by decide +kernel
theorem d_Mo_move_53 : decode b_Mo_move 53 = .ok (.iadd, 1) := by decide +kernel
theorem d_Mo_move_54 : decode b_Mo_move 54 = .ok (.aload_n 0, 1) := by decide +kernel
theorem d_Mo_move_55 : decode b_Mo_move 55 = .ok (.getfield 26, 3) := by decide +kernel
theorem d_Mo_move_58 : decode b_Mo_move 58 = .ok (.bipush 100, 2) := by decide +kernel
theorem d_Mo_move_60 : decode b_Mo_move 60 = .ok (.iload_n 1, 1) := by decide +kernel
theorem d_Mo_move_61 : decode b_Mo_move 61 = .ok (.imul, 1) := by decide +kernel
theorem d_Mo_move_62 : decode b_Mo_move 62 = .ok (.iload_n 3, 1) := by decide +kernel
theorem d_Mo_move_63 : decode b_Mo_move 63 = .ok (.iadd, 1) := by decide +kernel
theorem d_Mo_move_64 : decode b_Mo_move 64 = .ok (.caload, 1) := by decide +kernel
theorem d_Mo_move_65 : decode b_Mo_move 65 = .ok (.castore, 1) := by decide +kernel
theorem d_Mo_move_66 : decode b_Mo_move 66 = .ok (.iinc 3 1, 3) := by decide +kernel
theorem d_Mo_move_69 : decode b_Mo_move 69 = .ok (.goto (-31), 3) := by decide +kernel
theorem d_Mo_move_72 : decode b_Mo_move 72 = .ok (.aload_n 0, 1) := by decide +kernel
theorem d_Mo_move_73 : decode b_Mo_move 73 = .ok (.getfield 19, 3) := by decide +kernel
theorem d_Mo_move_76 : decode b_Mo_move 76 = .ok (.iload_n 2, 1) := by decide +kernel
theorem d_Mo_move_77 : decode b_Mo_move 77 = .ok (.aload_n 0, 1) := by decide +kernel
theorem d_Mo_move_78 : decode b_Mo_move 78 = .ok (.getfield 19, 3) := by decide +kernel
theorem d_Mo_move_81 : decode b_Mo_move 81 = .ok (.iload_n 1, 1) := by decide +kernel
theorem d_Mo_move_82 : decode b_Mo_move 82 = .ok (.iaload, 1) := by decide +kernel
theorem d_Mo_move_83 : decode b_Mo_move 83 = .ok (.iastore, 1) := by decide +kernel
theorem d_Mo_move_84 : decode b_Mo_move 84 = .ok (.aload_n 0, 1) := by decide +kernel
theorem d_Mo_move_85 : decode b_Mo_move 85 = .ok (.getfield 29, 3) := by decide +kernel
theorem d_Mo_move_88 : decode b_Mo_move 88 = .ok (.iload_n 2, 1) := by decide +kernel
theorem d_Mo_move_89 : decode b_Mo_move 89 = .ok (.aload_n 0, 1) := by decide +kernel
theorem d_Mo_move_90 : decode b_Mo_move 90 = .ok (.getfield 29, 3) := by decide +kernel
theorem d_Mo_move_93 : decode b_Mo_move 93 = .ok (.iload_n 1, 1) := by decide +kernel
theorem d_Mo_move_94 : decode b_Mo_move 94 = .ok (.iaload, 1) := by decide +kernel
theorem d_Mo_move_95 : decode b_Mo_move 95 = .ok (.iastore, 1) := by decide +kernel
theorem d_Mo_move_96 : decode b_Mo_move 96 = .ok (.aload_n 0, 1) := by decide +kernel
theorem d_Mo_move_97 : decode b_Mo_move 97 = .ok (.getfield 23, 3) := by decide +kernel
theorem d_Mo_move_100 : decode b_Mo_move 100 = .ok (.iload_n 2, 1) := by decide +kernel
theorem d_Mo_move_101 : decode b_Mo_move 101 = .ok (.aload_n 0, 1) := by decide +kernel
theorem d_Mo_move_102 : decode b_Mo_move 102 = .ok (.getfield 23, 3) := by decide +kernel
theorem d_Mo_move_105 : decode b_Mo_move 105 = .ok (.iload_n 1, 1) := by decide +kernel
theorem d_Mo_move_106 : decode b_Mo_move 106 = .ok (.iaload, 1) := by decide +kernel
theorem d_Mo_move_107 : decode b_Mo_move 107 = .ok (.iastore, 1) := by decide +kernel
theorem d_Mo_move_108 : decode b_Mo_move 108 = .ok (.return_, 1) := by decide +kernel
theorem q_Mo_move : aw_q1 y_Mo_move b_Mo_move 4 none 2 := ⟨k_1098, k_79, ⟨by decide, by decide, by decide +kernel⟩, by decide⟩
def y_Mo_choose : MethodName := ⟨"RescanDeskModel", "choose", "()V"⟩
abbrev b_Mo_choose : ByteArray := prog_14_method_39_code
theorem d_Mo_choose_0 : decode b_Mo_choose 0 = .ok (.iconst 1, 1) := by decide +kernel
theorem d_Mo_choose_1 : decode b_Mo_choose 1 = .ok (.istore_n 1, 1) := by decide +kernel
theorem d_Mo_choose_2 : decode b_Mo_choose 2 = .ok (.aload_n 0, 1) := by decide +kernel
theorem d_Mo_choose_3 : decode b_Mo_choose 3 = .ok (.iload_n 1, 1) := by decide +kernel
theorem d_Mo_choose_4 : decode b_Mo_choose 4 = .ok (.iload_n 1, 1) := by decide +kernel
theorem d_Mo_choose_5 : decode b_Mo_choose 5 = .ok (.iconst 1, 1) := by decide +kernel
theorem d_Mo_choose_6 : decode b_Mo_choose 6 = .ok (.iadd, 1) := by decide +kernel
theorem d_Mo_choose_7 : decode b_Mo_choose 7 = .ok (.invokevirtual 272, 3) := by decide +kernel
theorem d_Mo_choose_10 : decode b_Mo_choose 10 = .ok (.ifCond .ne 24, 3) := by decide +kernel
theorem d_Mo_choose_13 : decode b_Mo_choose 13 = .ok (.aload_n 0, 1) := by decide +kernel
theorem d_Mo_choose_14 : decode b_Mo_choose 14 = .ok (.getfield 47, 3) := by decide +kernel
theorem d_Mo_choose_17 : decode b_Mo_choose 17 = .ok (.bipush 12, 2) := by decide +kernel
theorem d_Mo_choose_19 : decode b_Mo_choose 19 = .ok (.iaload, 1) := by decide +kernel
theorem d_Mo_choose_20 : decode b_Mo_choose 20 = .ok (.iload_n 1, 1) := by decide +kernel
theorem d_Mo_choose_21 : decode b_Mo_choose 21 = .ok (.isub, 1) := by decide +kernel
theorem d_Mo_choose_22 : decode b_Mo_choose 22 = .ok (.iconst 1, 1) := by decide +kernel
theorem d_Mo_choose_23 : decode b_Mo_choose 23 = .ok (.iadd, 1) := by decide +kernel
theorem d_Mo_choose_24 : decode b_Mo_choose 24 = .ok (.iconst 5, 1) := by decide +kernel
theorem d_Mo_choose_25 : decode b_Mo_choose 25 = .ok (.if_icmp .lt 9, 3) := by decide +kernel
theorem d_Mo_choose_28 : decode b_Mo_choose 28 = .ok (.iinc 1 3, 3) := by decide +kernel
theorem d_Mo_choose_31 : decode b_Mo_choose 31 = .ok (.goto (-29), 3) := by decide +kernel
theorem d_Mo_choose_34 : decode b_Mo_choose 34 = .ok (.aload_n 0, 1) := by decide +kernel
theorem d_Mo_choose_35 : decode b_Mo_choose 35 = .ok (.aload_n 0, 1) := by decide +kernel
theorem d_Mo_choose_36 : decode b_Mo_choose 36 = .ok (.iload_n 1, 1) := by decide +kernel
theorem d_Mo_choose_37 : decode b_Mo_choose 37 = .ok (.iload_n 1, 1) := by decide +kernel
theorem d_Mo_choose_38 : decode b_Mo_choose 38 = .ok (.iconst 1, 1) := by decide +kernel
theorem d_Mo_choose_39 : decode b_Mo_choose 39 = .ok (.iadd, 1) := by decide +kernel
theorem d_Mo_choose_40 : decode b_Mo_choose 40 = .ok (.invokevirtual 272, 3) := by decide +kernel
theorem d_Mo_choose_43 : decode b_Mo_choose 43 = .ok (.ifCond .eq 9, 3) := by decide +kernel
theorem d_Mo_choose_46 : decode b_Mo_choose 46 = .ok (.iload_n 1, 1) := by decide +kernel
theorem d_Mo_choose_47 : decode b_Mo_choose 47 = .ok (.iconst 2, 1) := by decide +kernel
theorem d_Mo_choose_48 : decode b_Mo_choose 48 = .ok (.iadd, 1) := by decide +kernel
theorem d_Mo_choose_49 : decode b_Mo_choose 49 = .ok (.goto 6, 3) := by decide +kernel
theorem d_Mo_choose_52 : decode b_Mo_choose 52 = .ok (.iload_n 1, 1) := by decide +kernel
theorem d_Mo_choose_53 : decode b_Mo_choose 53 = .ok (.iconst 3, 1) := by decide +kernel
theorem d_Mo_choose_54 : decode b_Mo_choose 54 = .ok (.iadd, 1) := by decide +kernel
theorem d_Mo_choose_55 : decode b_Mo_choose 55 = .ok (.invokevirtual 223, 3) := by decide +kernel
theorem d_Mo_choose_58 : decode b_Mo_choose 58 = .ok (.return_, 1) := by decide +kernel
theorem q_Mo_choose : aw_q1 y_Mo_choose b_Mo_choose 2 none 0 := ⟨k_1102, k_79, ⟨by decide, by decide, by decide +kernel⟩, by decide⟩
def y_Mo_areEqual : MethodName := ⟨"RescanDeskModel", "areEqual", "(II)Z"⟩
abbrev b_Mo_areEqual : ByteArray := prog_14_method_26_code
theorem d_Mo_areEqual_0 : decode b_Mo_areEqual 0 = .ok (.aload_n 0, 1) := by decide +kernel
theorem d_Mo_areEqual_1 : decode b_Mo_areEqual 1 = .ok (.iload_n 1, 1) := by decide +kernel
theorem d_Mo_areEqual_2 : decode b_Mo_areEqual 2 = .ok (.invokevirtual 207, 3) := by decide +kernel
theorem d_Mo_areEqual_5 : decode b_Mo_areEqual 5 = .ok (.aload_n 0, 1) := by decide +kernel
theorem d_Mo_areEqual_6 : decode b_Mo_areEqual 6 = .ok (.iload_n 2, 1) := by decide +kernel
theorem d_Mo_areEqual_7 : decode b_Mo_areEqual 7 = .ok (.invokevirtual 207, 3) := by decide +kernel
theorem d_Mo_areEqual_10 : decode b_Mo_areEqual 10 = .ok (.if_icmp .ne 7, 3) := by decide +kernel
theorem d_Mo_areEqual_13 : decode b_Mo_areEqual 13 = .ok (.iconst 1, 1) := by decide +kernel
theorem d_Mo_areEqual_14 : decode b_Mo_areEqual 14 = .ok (.goto 4, 3) := by decide +kernel
theorem d_Mo_areEqual_17 : decode b_Mo_areEqual 17 = .ok (.iconst 0, 1) := by decide +kernel
theorem d_Mo_areEqual_18 : decode b_Mo_areEqual 18 = .ok (.istore_n 3, 1) := by decide +kernel
theorem d_Mo_areEqual_19 : decode b_Mo_areEqual 19 = .ok (.iconst 0, 1) := by decide +kernel
theorem d_Mo_areEqual_20 : decode b_Mo_areEqual 20 = .ok (.istore 4, 2) := by decide +kernel
theorem d_Mo_areEqual_22 : decode b_Mo_areEqual 22 = .ok (.iload 4, 2) := by decide +kernel
theorem d_Mo_areEqual_24 : decode b_Mo_areEqual 24 = .ok (.aload_n 0, 1) := by decide +kernel
theorem d_Mo_areEqual_25 : decode b_Mo_areEqual 25 = .ok (.iload_n 1, 1) := by decide +kernel
theorem d_Mo_areEqual_26 : decode b_Mo_areEqual 26 = .ok (.invokevirtual 207, 3) := by decide +kernel
theorem d_Mo_areEqual_29 : decode b_Mo_areEqual 29 = .ok (.if_icmp .ge 48, 3) := by decide +kernel
theorem d_Mo_areEqual_32 : decode b_Mo_areEqual 32 = .ok (.iload_n 3, 1) := by decide +kernel
theorem d_Mo_areEqual_33 : decode b_Mo_areEqual 33 = .ok (.ifCond .eq 44, 3) := by decide +kernel
theorem d_Mo_areEqual_36 : decode b_Mo_areEqual 36 = .ok (.aload_n 0, 1) := by decide +kernel
theorem d_Mo_areEqual_37 : decode b_Mo_areEqual 37 = .ok (.getfield 60, 3) := by decide +kernel
theorem d_Mo_areEqual_40 : decode b_Mo_areEqual 40 = .ok (.aload_n 0, 1) := by decide +kernel
theorem d_Mo_areEqual_41 : decode b_Mo_areEqual 41 = .ok (.iload_n 1, 1) := by decide +kernel
theorem d_Mo_areEqual_42 : decode b_Mo_areEqual 42 = .ok (.invokevirtual 210, 3) := by decide +kernel
theorem d_Mo_areEqual_45 : decode b_Mo_areEqual 45 = .ok (.iload 4, 2) := by decide +kernel
theorem d_Mo_areEqual_47 : decode b_Mo_areEqual 47 = .ok (.iadd, 1) := by decide +kernel
theorem d_Mo_areEqual_48 : decode b_Mo_areEqual 48 = .ok (.caload, 1) := by decide +kernel
theorem d_Mo_areEqual_49 : decode b_Mo_areEqual 49 = .ok (.aload_n 0, 1) := by decide +kernel
theorem d_Mo_areEqual_50 : decode b_Mo_areEqual 50 = .ok (.getfield 60, 3) := by decide +kernel
theorem d_Mo_areEqual_53 : decode b_Mo_areEqual 53 = .ok (.aload_n 0, 1) := by decide +kernel
theorem d_Mo_areEqual_54 : decode b_Mo_areEqual 54 = .ok (.iload_n 2, 1) := by decide +kernel
theorem d_Mo_areEqual_55 : decode b_Mo_areEqual 55 = .ok (.invokevirtual 210, 3) := by decide +kernel
theorem d_Mo_areEqual_58 : decode b_Mo_areEqual 58 = .ok (.iload 4, 2) := by decide +kernel
theorem d_Mo_areEqual_60 : decode b_Mo_areEqual 60 = .ok (.iadd, 1) := by decide +kernel
theorem d_Mo_areEqual_61 : decode b_Mo_areEqual 61 = .ok (.caload, 1) := by decide +kernel
theorem d_Mo_areEqual_62 : decode b_Mo_areEqual 62 = .ok (.if_icmp .ne 7, 3) := by decide +kernel
theorem d_Mo_areEqual_65 : decode b_Mo_areEqual 65 = .ok (.iconst 1, 1) := by decide +kernel
theorem d_Mo_areEqual_66 : decode b_Mo_areEqual 66 = .ok (.goto 4, 3) := by decide +kernel
theorem d_Mo_areEqual_69 : decode b_Mo_areEqual 69 = .ok (.iconst 0, 1) := by decide +kernel
theorem d_Mo_areEqual_70 : decode b_Mo_areEqual 70 = .ok (.istore_n 3, 1) := by decide +kernel
theorem d_Mo_areEqual_71 : decode b_Mo_areEqual 71 = .ok (.iinc 4 1, 3) := by decide +kernel
theorem d_Mo_areEqual_74 : decode b_Mo_areEqual 74 = .ok (.goto (-52), 3) := by decide +kernel
theorem d_Mo_areEqual_77 : decode b_Mo_areEqual 77 = .ok (.iload_n 3, 1) := by decide +kernel
theorem d_Mo_areEqual_78 : decode b_Mo_areEqual 78 = .ok (.ireturn, 1) := by decide +kernel
theorem q_Mo_areEqual : aw_q1 y_Mo_areEqual b_Mo_areEqual 5 (some .boolean) 2 := ⟨k_1106, k_79, ⟨by decide, by decide, by decide +kernel⟩, by decide⟩
def y_Mo_value : MethodName := ⟨"RescanDeskModel", "value", "(I)J"⟩
abbrev b_Mo_value : ByteArray := prog_14_method_28_code
theorem d_Mo_value_0 : decode b_Mo_value 0 = .ok (.aload_n 0, 1) := by decide +kernel
theorem d_Mo_value_1 : decode b_Mo_value 1 = .ok (.iload_n 1, 1) := by decide +kernel
theorem d_Mo_value_2 : decode b_Mo_value 2 = .ok (.invokevirtual 207, 3) := by decide +kernel
theorem d_Mo_value_5 : decode b_Mo_value 5 = .ok (.istore_n 2, 1) := by decide +kernel
theorem d_Mo_value_6 : decode b_Mo_value 6 = .ok (.iload_n 2, 1) := by decide +kernel
theorem d_Mo_value_7 : decode b_Mo_value 7 = .ok (.ifCond .le 22, 3) := by decide +kernel
theorem d_Mo_value_10 : decode b_Mo_value 10 = .ok (.aload_n 0, 1) := by decide +kernel
theorem d_Mo_value_11 : decode b_Mo_value 11 = .ok (.getfield 60, 3) := by decide +kernel
theorem d_Mo_value_14 : decode b_Mo_value 14 = .ok (.aload_n 0, 1) := by decide +kernel
theorem d_Mo_value_15 : decode b_Mo_value 15 = .ok (.iload_n 1, 1) := by decide +kernel
theorem d_Mo_value_16 : decode b_Mo_value 16 = .ok (.invokevirtual 210, 3) := by decide +kernel
theorem d_Mo_value_19 : decode b_Mo_value 19 = .ok (.caload, 1) := by decide +kernel
theorem d_Mo_value_20 : decode b_Mo_value 20 = .ok (.bipush 45, 2) := by decide +kernel
theorem d_Mo_value_22 : decode b_Mo_value 22 = .ok (.if_icmp .ne 7, 3) := by decide +kernel
theorem d_Mo_value_25 : decode b_Mo_value 25 = .ok (.iconst 1, 1) := by decide +kernel
theorem d_Mo_value_26 : decode b_Mo_value 26 = .ok (.goto 4, 3) := by decide +kernel
theorem d_Mo_value_29 : decode b_Mo_value 29 = .ok (.iconst 0, 1) := by decide +kernel
theorem d_Mo_value_30 : decode b_Mo_value 30 = .ok (.istore_n 3, 1) := by decide +kernel
theorem d_Mo_value_31 : decode b_Mo_value 31 = .ok (.iload_n 3, 1) := by decide +kernel
theorem d_Mo_value_32 : decode b_Mo_value 32 = .ok (.ifCond .eq 7, 3) := by decide +kernel
theorem d_Mo_value_35 : decode b_Mo_value 35 = .ok (.iconst 1, 1) := by decide +kernel
theorem d_Mo_value_36 : decode b_Mo_value 36 = .ok (.goto 4, 3) := by decide +kernel
theorem d_Mo_value_39 : decode b_Mo_value 39 = .ok (.iconst 0, 1) := by decide +kernel
theorem d_Mo_value_40 : decode b_Mo_value 40 = .ok (.istore 4, 2) := by decide +kernel
theorem d_Mo_value_42 : decode b_Mo_value 42 = .ok (.iload_n 2, 1) := by decide +kernel
theorem d_Mo_value_43 : decode b_Mo_value 43 = .ok (.iload 4, 2) := by decide +kernel
theorem d_Mo_value_45 : decode b_Mo_value 45 = .ok (.if_icmp .le 7, 3) := by decide +kernel
theorem d_Mo_value_48 : decode b_Mo_value 48 = .ok (.iconst 1, 1) := by decide +kernel
theorem d_Mo_value_49 : decode b_Mo_value 49 = .ok (.goto 4, 3) := by decide +kernel
theorem d_Mo_value_52 : decode b_Mo_value 52 = .ok (.iconst 0, 1) := by decide +kernel
theorem d_Mo_value_53 : decode b_Mo_value 53 = .ok (.istore 5, 2) := by decide +kernel
theorem d_Mo_value_55 : decode b_Mo_value 55 = .ok (.lconst 0, 1) := by decide +kernel
theorem d_Mo_value_56 : decode b_Mo_value 56 = .ok (.lstore 6, 2) := by decide +kernel
theorem d_Mo_value_58 : decode b_Mo_value 58 = .ok (.iload 4, 2) := by decide +kernel
theorem d_Mo_value_60 : decode b_Mo_value 60 = .ok (.istore 8, 2) := by decide +kernel
theorem d_Mo_value_62 : decode b_Mo_value 62 = .ok (.iload 8, 2) := by decide +kernel
theorem d_Mo_value_64 : decode b_Mo_value 64 = .ok (.iload_n 2, 1) := by decide +kernel
theorem d_Mo_value_65 : decode b_Mo_value 65 = .ok (.if_icmp .ge 59, 3) := by decide +kernel
theorem d_Mo_value_68 : decode b_Mo_value 68 = .ok (.iload 5, 2) := by decide +kernel
theorem d_Mo_value_70 : decode b_Mo_value 70 = .ok (.ifCond .eq 54, 3) := by decide +kernel
theorem d_Mo_value_73 : decode b_Mo_value 73 = .ok (.aload_n 0, 1) := by decide +kernel
theorem d_Mo_value_74 : decode b_Mo_value 74 = .ok (.getfield 60, 3) := by decide +kernel
theorem d_Mo_value_77 : decode b_Mo_value 77 = .ok (.aload_n 0, 1) := by decide +kernel
theorem d_Mo_value_78 : decode b_Mo_value 78 = .ok (.iload_n 1, 1) := by decide +kernel
theorem d_Mo_value_79 : decode b_Mo_value 79 = .ok (.invokevirtual 210, 3) := by decide +kernel
theorem d_Mo_value_82 : decode b_Mo_value 82 = .ok (.iload 8, 2) := by decide +kernel
theorem d_Mo_value_84 : decode b_Mo_value 84 = .ok (.iadd, 1) := by decide +kernel
theorem d_Mo_value_85 : decode b_Mo_value 85 = .ok (.caload, 1) := by decide +kernel
theorem d_Mo_value_86 : decode b_Mo_value 86 = .ok (.invokestatic 191, 3) := by decide +kernel
theorem d_Mo_value_89 : decode b_Mo_value 89 = .ok (.istore 5, 2) := by decide +kernel
theorem d_Mo_value_91 : decode b_Mo_value 91 = .ok (.ldc2_w 213, 3) := by decide +kernel
theorem d_Mo_value_94 : decode b_Mo_value 94 = .ok (.lload 6, 2) := by decide +kernel
theorem d_Mo_value_96 : decode b_Mo_value 96 = .ok (.lmul, 1) := by decide +kernel
theorem d_Mo_value_97 : decode b_Mo_value 97 = .ok (.aload_n 0, 1) := by decide +kernel
theorem d_Mo_value_98 : decode b_Mo_value 98 = .ok (.getfield 60, 3) := by decide +kernel
theorem d_Mo_value_101 : decode b_Mo_value 101 = .ok (.aload_n 0, 1) := by decide +kernel
theorem d_Mo_value_102 : decode b_Mo_value 102 = .ok (.iload_n 1, 1) := by decide +kernel
theorem d_Mo_value_103 : decode b_Mo_value 103 = .ok (.invokevirtual 210, 3) := by decide +kernel
theorem d_Mo_value_106 : decode b_Mo_value 106 = .ok (.iload 8, 2) := by decide +kernel
theorem d_Mo_value_108 : decode b_Mo_value 108 = .ok (.iadd, 1) := by decide +kernel
theorem d_Mo_value_109 : decode b_Mo_value 109 = .ok (.caload, 1) := by decide +kernel
theorem d_Mo_value_110 : decode b_Mo_value 110 = .ok (.i2l, 1) := by decide +kernel
theorem d_Mo_value_111 : decode b_Mo_value 111 = .ok (.ladd, 1) := by decide +kernel
theorem d_Mo_value_112 : decode b_Mo_value 112 = .ok (.ldc2_w 215, 3) := by decide +kernel
theorem d_Mo_value_115 : decode b_Mo_value 115 = .ok (.lsub, 1) := by decide +kernel
theorem d_Mo_value_116 : decode b_Mo_value 116 = .ok (.lstore 6, 2) := by decide +kernel
theorem d_Mo_value_118 : decode b_Mo_value 118 = .ok (.iinc 8 1, 3) := by decide +kernel
theorem d_Mo_value_121 : decode b_Mo_value 121 = .ok (.goto (-59), 3) := by decide +kernel
theorem d_Mo_value_124 : decode b_Mo_value 124 = .ok (.iload 5, 2) := by decide +kernel
theorem d_Mo_value_126 : decode b_Mo_value 126 = .ok (.ifCond .ne 7, 3) := by decide +kernel
theorem d_Mo_value_129 : decode b_Mo_value 129 = .ok (.lconst 0, 1) := by decide +kernel
theorem d_Mo_value_130 : decode b_Mo_value 130 = .ok (.goto 15, 3) := by decide +kernel
theorem d_Mo_value_133 : decode b_Mo_value 133 = .ok (.iload_n 3, 1) := by decide +kernel
theorem d_Mo_value_134 : decode b_Mo_value 134 = .ok (.ifCond .eq 9, 3) := by decide +kernel
theorem d_Mo_value_137 : decode b_Mo_value 137 = .ok (.lload 6, 2) := by decide +kernel
theorem d_Mo_value_139 : decode b_Mo_value 139 = .ok (.lneg, 1) := by decide +kernel
theorem d_Mo_value_140 : decode b_Mo_value 140 = .ok (.goto 5, 3) := by decide +kernel
theorem d_Mo_value_143 : decode b_Mo_value 143 = .ok (.lload 6, 2) := by decide +kernel
theorem d_Mo_value_145 : decode b_Mo_value 145 = .ok (.lreturn, 1) := by decide +kernel
theorem q_Mo_value : aw_q1 y_Mo_value b_Mo_value 9 (some .long) 1 := ⟨k_1110, k_79, ⟨by decide, by decide, by decide +kernel⟩, by decide⟩
def y_Mo_reckon : MethodName := ⟨"RescanDeskModel", "reckon", "()V"⟩
abbrev b_Mo_reckon : ByteArray := prog_14_method_46_code
theorem d_Mo_reckon_0 : decode b_Mo_reckon 0 = .ok (.iconst 0, 1) := by decide +kernel
theorem d_Mo_reckon_1 : decode b_Mo_reckon 1 = .ok (.istore_n 1, 1) := by decide +kernel
theorem d_Mo_reckon_2 : decode b_Mo_reckon 2 = .ok (.iconst 0, 1) := by decide +kernel
theorem d_Mo_reckon_3 : decode b_Mo_reckon 3 = .ok (.istore_n 2, 1) := by decide +kernel
theorem d_Mo_reckon_4 : decode b_Mo_reckon 4 = .ok (.iload_n 2, 1) := by decide +kernel
theorem d_Mo_reckon_5 : decode b_Mo_reckon 5 = .ok (.aload_n 0, 1) := by decide +kernel
theorem d_Mo_reckon_6 : decode b_Mo_reckon 6 = .ok (.iconst 1, 1) := by decide +kernel
theorem d_Mo_reckon_7 : decode b_Mo_reckon 7 = .ok (.invokevirtual 207, 3) := by decide +kernel
theorem d_Mo_reckon_10 : decode b_Mo_reckon 10 = .ok (.if_icmp .ge 49, 3) := by decide +kernel
theorem d_Mo_reckon_13 : decode b_Mo_reckon 13 = .ok (.aload_n 0, 1) := by decide +kernel
theorem d_Mo_reckon_14 : decode b_Mo_reckon 14 = .ok (.getfield 60, 3) := by decide +kernel
theorem d_Mo_reckon_17 : decode b_Mo_reckon 17 = .ok (.aload_n 0, 1) := by decide +kernel
theorem d_Mo_reckon_18 : decode b_Mo_reckon 18 = .ok (.iconst 1, 1) := by decide +kernel
theorem d_Mo_reckon_19 : decode b_Mo_reckon 19 = .ok (.invokevirtual 210, 3) := by decide +kernel
theorem d_Mo_reckon_22 : decode b_Mo_reckon 22 = .ok (.iload_n 2, 1) := by decide +kernel
theorem d_Mo_reckon_23 : decode b_Mo_reckon 23 = .ok (.iadd, 1) := by decide +kernel
theorem d_Mo_reckon_24 : decode b_Mo_reckon 24 = .ok (.caload, 1) := by decide +kernel
theorem d_Mo_reckon_25 : decode b_Mo_reckon 25 = .ok (.istore_n 3, 1) := by decide +kernel
theorem d_Mo_reckon_26 : decode b_Mo_reckon 26 = .ok (.aload_n 0, 1) := by decide +kernel
theorem d_Mo_reckon_27 : decode b_Mo_reckon 27 = .ok (.getfield 79, 3) := by decide +kernel
theorem d_Mo_reckon_30 : decode b_Mo_reckon 30 = .ok (.iload_n 1, 1) := by decide +kernel
theorem d_Mo_reckon_31 : decode b_Mo_reckon 31 = .ok (.iload_n 3, 1) := by decide +kernel
theorem d_Mo_reckon_32 : decode b_Mo_reckon 32 = .ok (.castore, 1) := by decide +kernel
theorem d_Mo_reckon_33 : decode b_Mo_reckon 33 = .ok (.iload_n 1, 1) := by decide +kernel
theorem d_Mo_reckon_34 : decode b_Mo_reckon 34 = .ok (.iload_n 3, 1) := by decide +kernel
theorem d_Mo_reckon_35 : decode b_Mo_reckon 35 = .ok (.bipush 32, 2) := by decide +kernel
theorem d_Mo_reckon_37 : decode b_Mo_reckon 37 = .ok (.if_icmp .eq 9, 3) := by decide +kernel
theorem d_Mo_reckon_40 : decode b_Mo_reckon 40 = .ok (.iload_n 3, 1) := by decide +kernel
theorem d_Mo_reckon_41 : decode b_Mo_reckon 41 = .ok (.bipush 10, 2) := by decide +kernel
theorem d_Mo_reckon_43 : decode b_Mo_reckon 43 = .ok (.if_icmp .ne 7, 3) := by decide +kernel
theorem d_Mo_reckon_46 : decode b_Mo_reckon 46 = .ok (.iconst 0, 1) := by decide +kernel
theorem d_Mo_reckon_47 : decode b_Mo_reckon 47 = .ok (.goto 4, 3) := by decide +kernel
theorem d_Mo_reckon_50 : decode b_Mo_reckon 50 = .ok (.iconst 1, 1) := by decide +kernel
theorem d_Mo_reckon_51 : decode b_Mo_reckon 51 = .ok (.iadd, 1) := by decide +kernel
theorem d_Mo_reckon_52 : decode b_Mo_reckon 52 = .ok (.istore_n 1, 1) := by decide +kernel
theorem d_Mo_reckon_53 : decode b_Mo_reckon 53 = .ok (.iinc 2 1, 3) := by decide +kernel
theorem d_Mo_reckon_56 : decode b_Mo_reckon 56 = .ok (.goto (-52), 3) := by decide +kernel
theorem d_Mo_reckon_59 : decode b_Mo_reckon 59 = .ok (.aload_n 0, 1) := by decide +kernel
theorem d_Mo_reckon_60 : decode b_Mo_reckon 60 = .ok (.iconst 0, 1) := by decide +kernel
theorem d_Mo_reckon_61 : decode b_Mo_reckon 61 = .ok (.putfield 282, 3) := by decide +kernel
theorem d_Mo_reckon_64 : decode b_Mo_reckon 64 = .ok (.aload_n 0, 1) := by decide +kernel
theorem d_Mo_reckon_65 : decode b_Mo_reckon 65 = .ok (.iconst 0, 1) := by decide +kernel
theorem d_Mo_reckon_66 : decode b_Mo_reckon 66 = .ok (.putfield 288, 3) := by decide +kernel
theorem d_Mo_reckon_69 : decode b_Mo_reckon 69 = .ok (.aload_n 0, 1) := by decide +kernel
theorem d_Mo_reckon_70 : decode b_Mo_reckon 70 = .ok (.iconst 0, 1) := by decide +kernel
theorem d_Mo_reckon_71 : decode b_Mo_reckon 71 = .ok (.putfield 294, 3) := by decide +kernel
theorem d_Mo_reckon_74 : decode b_Mo_reckon 74 = .ok (.aload_n 0, 1) := by decide +kernel
theorem d_Mo_reckon_75 : decode b_Mo_reckon 75 = .ok (.iconst 0, 1) := by decide +kernel
theorem d_Mo_reckon_76 : decode b_Mo_reckon 76 = .ok (.putfield 278, 3) := by decide +kernel
theorem d_Mo_reckon_79 : decode b_Mo_reckon 79 = .ok (.iconst 1, 1) := by decide +kernel
theorem d_Mo_reckon_80 : decode b_Mo_reckon 80 = .ok (.istore_n 2, 1) := by decide +kernel
theorem d_Mo_reckon_81 : decode b_Mo_reckon 81 = .ok (.iconst 1, 1) := by decide +kernel
theorem d_Mo_reckon_82 : decode b_Mo_reckon 82 = .ok (.istore_n 3, 1) := by decide +kernel
theorem d_Mo_reckon_83 : decode b_Mo_reckon 83 = .ok (.iconst 0, 1) := by decide +kernel
theorem d_Mo_reckon_84 : decode b_Mo_reckon 84 = .ok (.istore 4, 2) := by decide +kernel
theorem d_Mo_reckon_86 : decode b_Mo_reckon 86 = .ok (.iload 4, 2) := by decide +kernel
theorem d_Mo_reckon_88 : decode b_Mo_reckon 88 = .ok (.iload_n 1, 1) := by decide +kernel
theorem d_Mo_reckon_89 : decode b_Mo_reckon 89 = .ok (.if_icmp .ge 309, 3) := by decide +kernel
theorem d_Mo_reckon_92 : decode b_Mo_reckon 92 = .ok (.iload_n 2, 1) := by decide +kernel
theorem d_Mo_reckon_93 : decode b_Mo_reckon 93 = .ok (.ifCond .eq 305, 3) := by decide +kernel
theorem d_Mo_reckon_96 : decode b_Mo_reckon 96 = .ok (.aload_n 0, 1) := by decide +kernel
theorem d_Mo_reckon_97 : decode b_Mo_reckon 97 = .ok (.getfield 79, 3) := by decide +kernel
theorem d_Mo_reckon_100 : decode b_Mo_reckon 100 = .ok (.iload 4, 2) := by decide +kernel
theorem d_Mo_reckon_102 : decode b_Mo_reckon 102 = .ok (.caload, 1) := by decide +kernel
theorem d_Mo_reckon_103 : decode b_Mo_reckon 103 = .ok (.istore 5, 2) := by decide +kernel
theorem d_Mo_reckon_105 : decode b_Mo_reckon 105 = .ok (.iinc 4 1, 3) := by decide +kernel
theorem d_Mo_reckon_108 : decode b_Mo_reckon 108 = .ok (.iload_n 3, 1) := by decide +kernel
theorem d_Mo_reckon_109 : decode b_Mo_reckon 109 = .ok (.ifCond .eq 95, 3) := by decide +kernel
theorem d_Mo_reckon_112 : decode b_Mo_reckon 112 = .ok (.iload 5, 2) := by decide +kernel
theorem d_Mo_reckon_114 : decode b_Mo_reckon 114 = .ok (.invokestatic 191, 3) := by decide +kernel
theorem d_Mo_reckon_117 : decode b_Mo_reckon 117 = .ok (.ifCond .eq 87, 3) := by decide +kernel
theorem d_Mo_reckon_120 : decode b_Mo_reckon 120 = .ok (.iload 5, 2) := by decide +kernel
theorem d_Mo_reckon_122 : decode b_Mo_reckon 122 = .ok (.bipush 48, 2) := by decide +kernel
theorem d_Mo_reckon_124 : decode b_Mo_reckon 124 = .ok (.isub, 1) := by decide +kernel
theorem d_Mo_reckon_125 : decode b_Mo_reckon 125 = .ok (.i2l, 1) := by decide +kernel
theorem d_Mo_reckon_126 : decode b_Mo_reckon 126 = .ok (.lstore 6, 2) := by decide +kernel
theorem d_Mo_reckon_128 : decode b_Mo_reckon 128 = .ok (.iload 4, 2) := by decide +kernel
theorem d_Mo_reckon_130 : decode b_Mo_reckon 130 = .ok (.iload_n 1, 1) := by decide +kernel
theorem d_Mo_reckon_131 : decode b_Mo_reckon 131 = .ok (.if_icmp .ge 43, 3) := by decide +kernel
theorem d_Mo_reckon_134 : decode b_Mo_reckon 134 = .ok (.aload_n 0, 1) := by decide +kernel
theorem d_Mo_reckon_135 : decode b_Mo_reckon 135 = .ok (.getfield 79, 3) := by decide +kernel
theorem d_Mo_reckon_138 : decode b_Mo_reckon 138 = .ok (.iload 4, 2) := by decide +kernel
theorem d_Mo_reckon_140 : decode b_Mo_reckon 140 = .ok (.caload, 1) := by decide +kernel
theorem d_Mo_reckon_141 : decode b_Mo_reckon 141 = .ok (.invokestatic 191, 3) := by decide +kernel
theorem d_Mo_reckon_144 : decode b_Mo_reckon 144 = .ok (.ifCond .eq 30, 3) := by decide +kernel
theorem d_Mo_reckon_147 : decode b_Mo_reckon 147 = .ok (.ldc2_w 213, 3) := by decide +kernel
theorem d_Mo_reckon_150 : decode b_Mo_reckon 150 = .ok (.lload 6, 2) := by decide +kernel
theorem d_Mo_reckon_152 : decode b_Mo_reckon 152 = .ok (.lmul, 1) := by decide +kernel
theorem d_Mo_reckon_153 : decode b_Mo_reckon 153 = .ok (.aload_n 0, 1) := by decide +kernel
theorem d_Mo_reckon_154 : decode b_Mo_reckon 154 = .ok (.getfield 79, 3) := by decide +kernel
theorem d_Mo_reckon_157 : decode b_Mo_reckon 157 = .ok (.iload 4, 2) := by decide +kernel
theorem d_Mo_reckon_159 : decode b_Mo_reckon 159 = .ok (.caload, 1) := by decide +kernel
theorem d_Mo_reckon_160 : decode b_Mo_reckon 160 = .ok (.i2l, 1) := by decide +kernel
theorem d_Mo_reckon_161 : decode b_Mo_reckon 161 = .ok (.ladd, 1) := by decide +kernel
theorem d_Mo_reckon_162 : decode b_Mo_reckon 162 = .ok (.ldc2_w 215, 3) := by decide +kernel
theorem d_Mo_reckon_165 : decode b_Mo_reckon 165 = .ok (.lsub, 1) := by decide +kernel
theorem d_Mo_reckon_166 : decode b_Mo_reckon 166 = .ok (.lstore 6, 2) := by decide +kernel
theorem d_Mo_reckon_168 : decode b_Mo_reckon 168 = .ok (.iinc 4 1, 3) := by decide +kernel
theorem d_Mo_reckon_171 : decode b_Mo_reckon 171 = .ok (.goto (-43), 3) := by decide +kernel
theorem d_Mo_reckon_174 : decode b_Mo_reckon 174 = .ok (.aload_n 0, 1) := by decide +kernel
theorem d_Mo_reckon_175 : decode b_Mo_reckon 175 = .ok (.getfield 75, 3) := by decide +kernel
theorem d_Mo_reckon_178 : decode b_Mo_reckon 178 = .ok (.aload_n 0, 1) := by decide +kernel
theorem d_Mo_reckon_179 : decode b_Mo_reckon 179 = .ok (.getfield 288, 3) := by decide +kernel
theorem d_Mo_reckon_182 : decode b_Mo_reckon 182 = .ok (.lload 6, 2) := by decide +kernel
theorem d_Mo_reckon_184 : decode b_Mo_reckon 184 = .ok (.lastore, 1) := by decide +kernel
theorem d_Mo_reckon_185 : decode b_Mo_reckon 185 = .ok (.aload_n 0, 1) := by decide +kernel
theorem d_Mo_reckon_186 : decode b_Mo_reckon 186 = .ok (.dup, 1) := by decide +kernel
theorem d_Mo_reckon_187 : decode b_Mo_reckon 187 = .ok (.getfield 288, 3) := by decide +kernel
theorem d_Mo_reckon_190 : decode b_Mo_reckon 190 = .ok (.iconst 1, 1) := by decide +kernel
theorem d_Mo_reckon_191 : decode b_Mo_reckon 191 = .ok (.iadd, 1) := by decide +kernel
theorem d_Mo_reckon_192 : decode b_Mo_reckon 192 = .ok (.putfield 288, 3) := by decide +kernel
theorem d_Mo_reckon_195 : decode b_Mo_reckon 195 = .ok (.aload_n 0, 1) := by decide +kernel
theorem d_Mo_reckon_196 : decode b_Mo_reckon 196 = .ok (.invokevirtual 297, 3) := by decide +kernel
theorem d_Mo_reckon_199 : decode b_Mo_reckon 199 = .ok (.iconst 0, 1) := by decide +kernel
theorem d_Mo_reckon_200 : decode b_Mo_reckon 200 = .ok (.istore_n 3, 1) := by decide +kernel
theorem d_Mo_reckon_201 : decode b_Mo_reckon 201 = .ok (.goto 194, 3) := by decide +kernel
theorem d_Mo_reckon_204 : decode b_Mo_reckon 204 = .ok (.iload_n 3, 1) := by decide +kernel
theorem d_Mo_reckon_205 : decode b_Mo_reckon 205 = .ok (.ifCond .eq 76, 3) := by decide +kernel
theorem d_Mo_reckon_208 : decode b_Mo_reckon 208 = .ok (.iload 5, 2) := by decide +kernel
theorem d_Mo_reckon_210 : decode b_Mo_reckon 210 = .ok (.bipush 40, 2) := by decide +kernel
theorem d_Mo_reckon_212 : decode b_Mo_reckon 212 = .ok (.if_icmp .eq 10, 3) := by decide +kernel
theorem d_Mo_reckon_215 : decode b_Mo_reckon 215 = .ok (.iload 5, 2) := by decide +kernel
theorem d_Mo_reckon_217 : decode b_Mo_reckon 217 = .ok (.bipush 45, 2) := by decide +kernel
theorem d_Mo_reckon_219 : decode b_Mo_reckon 219 = .ok (.if_icmp .ne 16, 3) := by decide +kernel
theorem d_Mo_reckon_222 : decode b_Mo_reckon 222 = .ok (.aload_n 0, 1) := by decide +kernel
theorem d_Mo_reckon_223 : decode b_Mo_reckon 223 = .ok (.getfield 294, 3) := by decide +kernel
theorem d_Mo_reckon_226 : decode b_Mo_reckon 226 = .ok (.bipush 6, 2) := by decide +kernel
theorem d_Mo_reckon_228 : decode b_Mo_reckon 228 = .ok (.if_icmp .ge 7, 3) := by decide +kernel
theorem d_Mo_reckon_231 : decode b_Mo_reckon 231 = .ok (.iconst 1, 1) := by decide +kernel
theorem d_Mo_reckon_232 : decode b_Mo_reckon 232 = .ok (.goto 4, 3) := by decide +kernel
theorem d_Mo_reckon_235 : decode b_Mo_reckon 235 = .ok (.iconst 0, 1) := by decide +kernel
theorem d_Mo_reckon_236 : decode b_Mo_reckon 236 = .ok (.istore_n 2, 1) := by decide +kernel
theorem d_Mo_reckon_237 : decode b_Mo_reckon 237 = .ok (.aload_n 0, 1) := by decide +kernel
theorem d_Mo_reckon_238 : decode b_Mo_reckon 238 = .ok (.getfield 72, 3) := by decide +kernel
theorem d_Mo_reckon_241 : decode b_Mo_reckon 241 = .ok (.aload_n 0, 1) := by decide +kernel
theorem d_Mo_reckon_242 : decode b_Mo_reckon 242 = .ok (.getfield 282, 3) := by decide +kernel
theorem d_Mo_reckon_245 : decode b_Mo_reckon 245 = .ok (.iload 5, 2) := by decide +kernel
theorem d_Mo_reckon_247 : decode b_Mo_reckon 247 = .ok (.bipush 40, 2) := by decide +kernel
theorem d_Mo_reckon_249 : decode b_Mo_reckon 249 = .ok (.if_icmp .ne 7, 3) := by decide +kernel
theorem d_Mo_reckon_252 : decode b_Mo_reckon 252 = .ok (.iconst 2, 1) := by decide +kernel
theorem d_Mo_reckon_253 : decode b_Mo_reckon 253 = .ok (.goto 4, 3) := by decide +kernel
theorem d_Mo_reckon_256 : decode b_Mo_reckon 256 = .ok (.iconst 1, 1) := by decide +kernel
theorem d_Mo_reckon_257 : decode b_Mo_reckon 257 = .ok (.iastore, 1) := by decide +kernel
theorem d_Mo_reckon_258 : decode b_Mo_reckon 258 = .ok (.aload_n 0, 1) := by decide +kernel
theorem d_Mo_reckon_259 : decode b_Mo_reckon 259 = .ok (.dup, 1) := by decide +kernel
theorem d_Mo_reckon_260 : decode b_Mo_reckon 260 = .ok (.getfield 282, 3) := by decide +kernel
theorem d_Mo_reckon_263 : decode b_Mo_reckon 263 = .ok (.iconst 1, 1) := by decide +kernel
theorem d_Mo_reckon_264 : decode b_Mo_reckon 264 = .ok (.iadd, 1) := by decide +kernel
theorem d_Mo_reckon_265 : decode b_Mo_reckon 265 = .ok (.putfield 282, 3) := by decide +kernel
theorem d_Mo_reckon_268 : decode b_Mo_reckon 268 = .ok (.aload_n 0, 1) := by decide +kernel
theorem d_Mo_reckon_269 : decode b_Mo_reckon 269 = .ok (.dup, 1) := by decide +kernel
theorem d_Mo_reckon_270 : decode b_Mo_reckon 270 = .ok (.getfield 294, 3) := by decide +kernel
theorem d_Mo_reckon_273 : decode b_Mo_reckon 273 = .ok (.iconst 1, 1) := by decide +kernel
theorem d_Mo_reckon_274 : decode b_Mo_reckon 274 = .ok (.iadd, 1) := by decide +kernel
theorem d_Mo_reckon_275 : decode b_Mo_reckon 275 = .ok (.putfield 294, 3) := by decide +kernel
theorem d_Mo_reckon_278 : decode b_Mo_reckon 278 = .ok (.goto 117, 3) := by decide +kernel
theorem d_Mo_reckon_281 : decode b_Mo_reckon 281 = .ok (.iload 5, 2) := by decide +kernel
theorem d_Mo_reckon_283 : decode b_Mo_reckon 283 = .ok (.bipush 41, 2) := by decide +kernel
theorem d_Mo_reckon_285 : decode b_Mo_reckon 285 = .ok (.if_icmp .ne 60, 3) := by decide +kernel
theorem d_Mo_reckon_288 : decode b_Mo_reckon 288 = .ok (.aload_n 0, 1) := by decide +kernel
theorem d_Mo_reckon_289 : decode b_Mo_reckon 289 = .ok (.iconst 1, 1) := by decide +kernel
theorem d_Mo_reckon_290 : decode b_Mo_reckon 290 = .ok (.invokevirtual 300, 3) := by decide +kernel
theorem d_Mo_reckon_293 : decode b_Mo_reckon 293 = .ok (.aload_n 0, 1) := by decide +kernel
theorem d_Mo_reckon_294 : decode b_Mo_reckon 294 = .ok (.getfield 282, 3) := by decide +kernel
theorem d_Mo_reckon_297 : decode b_Mo_reckon 297 = .ok (.ifCond .le 7, 3) := by decide +kernel
theorem d_Mo_reckon_300 : decode b_Mo_reckon 300 = .ok (.iconst 1, 1) := by decide +kernel
theorem d_Mo_reckon_301 : decode b_Mo_reckon 301 = .ok (.goto 4, 3) := by decide +kernel
theorem d_Mo_reckon_304 : decode b_Mo_reckon 304 = .ok (.iconst 0, 1) := by decide +kernel
theorem d_Mo_reckon_305 : decode b_Mo_reckon 305 = .ok (.istore_n 2, 1) := by decide +kernel
theorem d_Mo_reckon_306 : decode b_Mo_reckon 306 = .ok (.aload_n 0, 1) := by decide +kernel
theorem d_Mo_reckon_307 : decode b_Mo_reckon 307 = .ok (.dup, 1) := by decide +kernel
theorem d_Mo_reckon_308 : decode b_Mo_reckon 308 = .ok (.getfield 282, 3) := by decide +kernel
theorem d_Mo_reckon_311 : decode b_Mo_reckon 311 = .ok (.iload_n 2, 1) := by decide +kernel
theorem d_Mo_reckon_312 : decode b_Mo_reckon 312 = .ok (.ifCond .eq 7, 3) := by decide +kernel
theorem d_Mo_reckon_315 : decode b_Mo_reckon 315 = .ok (.iconst 1, 1) := by decide +kernel
theorem d_Mo_reckon_316 : decode b_Mo_reckon 316 = .ok (.goto 4, 3) := by decide +kernel
theorem d_Mo_reckon_319 : decode b_Mo_reckon 319 = .ok (.iconst 0, 1) := by decide +kernel
theorem d_Mo_reckon_320 : decode b_Mo_reckon 320 = .ok (.isub, 1) := by decide +kernel
theorem d_Mo_reckon_321 : decode b_Mo_reckon 321 = .ok (.putfield 282, 3) := by decide +kernel
theorem d_Mo_reckon_324 : decode b_Mo_reckon 324 = .ok (.aload_n 0, 1) := by decide +kernel
theorem d_Mo_reckon_325 : decode b_Mo_reckon 325 = .ok (.dup, 1) := by decide +kernel
theorem d_Mo_reckon_326 : decode b_Mo_reckon 326 = .ok (.getfield 294, 3) := by decide +kernel
theorem d_Mo_reckon_329 : decode b_Mo_reckon 329 = .ok (.iconst 1, 1) := by decide +kernel
theorem d_Mo_reckon_330 : decode b_Mo_reckon 330 = .ok (.isub, 1) := by decide +kernel
theorem d_Mo_reckon_331 : decode b_Mo_reckon 331 = .ok (.putfield 294, 3) := by decide +kernel
theorem d_Mo_reckon_334 : decode b_Mo_reckon 334 = .ok (.iload_n 2, 1) := by decide +kernel
theorem d_Mo_reckon_335 : decode b_Mo_reckon 335 = .ok (.ifCond .eq 60, 3) := by decide +kernel
theorem d_Mo_reckon_338 : decode b_Mo_reckon 338 = .ok (.aload_n 0, 1) := by decide +kernel
theorem d_Mo_reckon_339 : decode b_Mo_reckon 339 = .ok (.invokevirtual 297, 3) := by decide +kernel
theorem d_Mo_reckon_342 : decode b_Mo_reckon 342 = .ok (.goto 53, 3) := by decide +kernel
theorem d_Mo_reckon_345 : decode b_Mo_reckon 345 = .ok (.iload 5, 2) := by decide +kernel
theorem d_Mo_reckon_347 : decode b_Mo_reckon 347 = .ok (.invokestatic 285, 3) := by decide +kernel
theorem d_Mo_reckon_350 : decode b_Mo_reckon 350 = .ok (.ifCond .le 7, 3) := by decide +kernel
theorem d_Mo_reckon_353 : decode b_Mo_reckon 353 = .ok (.iconst 1, 1) := by decide +kernel
theorem d_Mo_reckon_354 : decode b_Mo_reckon 354 = .ok (.goto 4, 3) := by decide +kernel
theorem d_Mo_reckon_357 : decode b_Mo_reckon 357 = .ok (.iconst 0, 1) := by decide +kernel
theorem d_Mo_reckon_358 : decode b_Mo_reckon 358 = .ok (.istore_n 2, 1) := by decide +kernel
theorem d_Mo_reckon_359 : decode b_Mo_reckon 359 = .ok (.iload_n 2, 1) := by decide +kernel
theorem d_Mo_reckon_360 : decode b_Mo_reckon 360 = .ok (.ifCond .eq 12, 3) := by decide +kernel
theorem d_Mo_reckon_363 : decode b_Mo_reckon 363 = .ok (.aload_n 0, 1) := by decide +kernel
theorem d_Mo_reckon_364 : decode b_Mo_reckon 364 = .ok (.iload 5, 2) := by decide +kernel
theorem d_Mo_reckon_366 : decode b_Mo_reckon 366 = .ok (.invokestatic 285, 3) := by decide +kernel
theorem d_Mo_reckon_369 : decode b_Mo_reckon 369 = .ok (.invokevirtual 300, 3) := by decide +kernel
theorem d_Mo_reckon_372 : decode b_Mo_reckon 372 = .ok (.aload_n 0, 1) := by decide +kernel
theorem d_Mo_reckon_373 : decode b_Mo_reckon 373 = .ok (.getfield 72, 3) := by decide +kernel
theorem d_Mo_reckon_376 : decode b_Mo_reckon 376 = .ok (.aload_n 0, 1) := by decide +kernel
theorem d_Mo_reckon_377 : decode b_Mo_reckon 377 = .ok (.getfield 282, 3) := by decide +kernel
theorem d_Mo_reckon_380 : decode b_Mo_reckon 380 = .ok (.iload 5, 2) := by decide +kernel
theorem d_Mo_reckon_382 : decode b_Mo_reckon 382 = .ok (.iastore, 1) := by decide +kernel
theorem d_Mo_reckon_383 : decode b_Mo_reckon 383 = .ok (.aload_n 0, 1) := by decide +kernel
theorem d_Mo_reckon_384 : decode b_Mo_reckon 384 = .ok (.dup, 1) := by decide +kernel
theorem d_Mo_reckon_385 : decode b_Mo_reckon 385 = .ok (.getfield 282, 3) := by decide +kernel
theorem d_Mo_reckon_388 : decode b_Mo_reckon 388 = .ok (.iconst 1, 1) := by decide +kernel
theorem d_Mo_reckon_389 : decode b_Mo_reckon 389 = .ok (.iadd, 1) := by decide +kernel
theorem d_Mo_reckon_390 : decode b_Mo_reckon 390 = .ok (.putfield 282, 3) := by decide +kernel
theorem d_Mo_reckon_393 : decode b_Mo_reckon 393 = .ok (.iconst 1, 1) := by decide +kernel
theorem d_Mo_reckon_394 : decode b_Mo_reckon 394 = .ok (.istore_n 3, 1) := by decide +kernel
theorem d_Mo_reckon_395 : decode b_Mo_reckon 395 = .ok (.goto (-309), 3) := by decide +kernel
theorem d_Mo_reckon_398 : decode b_Mo_reckon 398 = .ok (.iload_n 2, 1) := by decide +kernel
theorem d_Mo_reckon_399 : decode b_Mo_reckon 399 = .ok (.ifCond .eq 12, 3) := by decide +kernel
theorem d_Mo_reckon_402 : decode b_Mo_reckon 402 = .ok (.iload_n 3, 1) := by decide +kernel
theorem d_Mo_reckon_403 : decode b_Mo_reckon 403 = .ok (.ifCond .ne 8, 3) := by decide +kernel
theorem d_Mo_reckon_406 : decode b_Mo_reckon 406 = .ok (.aload_n 0, 1) := by decide +kernel
theorem d_Mo_reckon_407 : decode b_Mo_reckon 407 = .ok (.iconst 1, 1) := by decide +kernel
theorem d_Mo_reckon_408 : decode b_Mo_reckon 408 = .ok (.invokevirtual 300, 3) := by decide +kernel
theorem d_Mo_reckon_411 : decode b_Mo_reckon 411 = .ok (.iload_n 2, 1) := by decide +kernel
theorem d_Mo_reckon_412 : decode b_Mo_reckon 412 = .ok (.ifCond .eq 14, 3) := by decide +kernel
theorem d_Mo_reckon_415 : decode b_Mo_reckon 415 = .ok (.iload_n 3, 1) := by decide +kernel
theorem d_Mo_reckon_416 : decode b_Mo_reckon 416 = .ok (.ifCond .ne 10, 3) := by decide +kernel
theorem d_Mo_reckon_419 : decode b_Mo_reckon 419 = .ok (.aload_n 0, 1) := by decide +kernel
theorem d_Mo_reckon_420 : decode b_Mo_reckon 420 = .ok (.getfield 282, 3) := by decide +kernel
theorem d_Mo_reckon_423 : decode b_Mo_reckon 423 = .ok (.ifCond .le 12, 3) := by decide +kernel
theorem d_Mo_reckon_426 : decode b_Mo_reckon 426 = .ok (.aload_n 0, 1) := by decide +kernel
theorem d_Mo_reckon_427 : decode b_Mo_reckon 427 = .ok (.bipush 6, 2) := by decide +kernel
theorem d_Mo_reckon_429 : decode b_Mo_reckon 429 = .ok (.invokevirtual 143, 3) := by decide +kernel
theorem d_Mo_reckon_432 : decode b_Mo_reckon 432 = .ok (.goto 28, 3) := by decide +kernel
theorem d_Mo_reckon_435 : decode b_Mo_reckon 435 = .ok (.aload_n 0, 1) := by decide +kernel
theorem d_Mo_reckon_436 : decode b_Mo_reckon 436 = .ok (.getfield 278, 3) := by decide +kernel
theorem d_Mo_reckon_439 : decode b_Mo_reckon 439 = .ok (.ifCond .eq 11, 3) := by decide +kernel
theorem d_Mo_reckon_442 : decode b_Mo_reckon 442 = .ok (.aload_n 0, 1) := by decide +kernel
theorem d_Mo_reckon_443 : decode b_Mo_reckon 443 = .ok (.iconst 5, 1) := by decide +kernel
theorem d_Mo_reckon_444 : decode b_Mo_reckon 444 = .ok (.invokevirtual 143, 3) := by decide +kernel
theorem d_Mo_reckon_447 : decode b_Mo_reckon 447 = .ok (.goto 13, 3) := by decide +kernel
theorem d_Mo_reckon_450 : decode b_Mo_reckon 450 = .ok (.aload_n 0, 1) := by decide +kernel
theorem d_Mo_reckon_451 : decode b_Mo_reckon 451 = .ok (.aload_n 0, 1) := by decide +kernel
theorem d_Mo_reckon_452 : decode b_Mo_reckon 452 = .ok (.getfield 75, 3) := by decide +kernel
theorem d_Mo_reckon_455 : decode b_Mo_reckon 455 = .ok (.iconst 0, 1) := by decide +kernel
theorem d_Mo_reckon_456 : decode b_Mo_reckon 456 = .ok (.laload, 1) := by decide +kernel
theorem d_Mo_reckon_457 : decode b_Mo_reckon 457 = .ok (.invokevirtual 232, 3) := by decide +kernel
theorem d_Mo_reckon_460 : decode b_Mo_reckon 460 = .ok (.return_, 1) := by decide +kernel
theorem q_Mo_reckon : aw_q1 y_Mo_reckon b_Mo_reckon 8 none 0 := ⟨k_1114, k_79, ⟨by decide, by decide, by decide +kernel⟩, by decide⟩
def y_Mo_whole : MethodName := ⟨"RescanDeskModel", "whole", "()V"⟩
abbrev b_Mo_whole : ByteArray := prog_14_method_45_code
theorem d_Mo_whole_0 : decode b_Mo_whole 0 = .ok (.aload_n 0, 1) := by decide +kernel
theorem d_Mo_whole_1 : decode b_Mo_whole 1 = .ok (.getfield 282, 3) := by decide +kernel
theorem d_Mo_whole_4 : decode b_Mo_whole 4 = .ok (.ifCond .le 64, 3) := by decide +kernel
theorem d_Mo_whole_7 : decode b_Mo_whole 7 = .ok (.aload_n 0, 1) := by decide +kernel
theorem d_Mo_whole_8 : decode b_Mo_whole 8 = .ok (.getfield 72, 3) := by decide +kernel
theorem d_Mo_whole_11 : decode b_Mo_whole 11 = .ok (.aload_n 0, 1) := by decide +kernel
theorem d_Mo_whole_12 : decode b_Mo_whole 12 = .ok (.getfield 282, 3) := by decide +kernel
theorem d_Mo_whole_15 : decode b_Mo_whole 15 = .ok (.iconst 1, 1) := by decide +kernel
theorem d_Mo_whole_16 : decode b_Mo_whole 16 = .ok (.isub, 1) := by decide +kernel
theorem d_Mo_whole_17 : decode b_Mo_whole 17 = .ok (.iaload, 1) := by decide +kernel
theorem d_Mo_whole_18 : decode b_Mo_whole 18 = .ok (.iconst 1, 1) := by decide +kernel
theorem d_Mo_whole_19 : decode b_Mo_whole 19 = .ok (.if_icmp .ne 49, 3) := by decide +kernel
theorem d_Mo_whole_22 : decode b_Mo_whole 22 = .ok (.aload_n 0, 1) := by decide +kernel
theorem d_Mo_whole_23 : decode b_Mo_whole 23 = .ok (.dup, 1) := by decide +kernel
theorem d_Mo_whole_24 : decode b_Mo_whole 24 = .ok (.getfield 282, 3) := by decide +kernel
theorem d_Mo_whole_27 : decode b_Mo_whole 27 = .ok (.iconst 1, 1) := by decide +kernel
theorem d_Mo_whole_28 : decode b_Mo_whole 28 = .ok (.isub, 1) := by decide +kernel
theorem d_Mo_whole_29 : decode b_Mo_whole 29 = .ok (.putfield 282, 3) := by decide +kernel
theorem d_Mo_whole_32 : decode b_Mo_whole 32 = .ok (.aload_n 0, 1) := by decide +kernel
theorem d_Mo_whole_33 : decode b_Mo_whole 33 = .ok (.dup, 1) := by decide +kernel
theorem d_Mo_whole_34 : decode b_Mo_whole 34 = .ok (.getfield 294, 3) := by decide +kernel
theorem d_Mo_whole_37 : decode b_Mo_whole 37 = .ok (.iconst 1, 1) := by decide +kernel
theorem d_Mo_whole_38 : decode b_Mo_whole 38 = .ok (.isub, 1) := by decide +kernel
theorem d_Mo_whole_39 : decode b_Mo_whole 39 = .ok (.putfield 294, 3) := by decide +kernel
theorem d_Mo_whole_42 : decode b_Mo_whole 42 = .ok (.aload_n 0, 1) := by decide +kernel
theorem d_Mo_whole_43 : decode b_Mo_whole 43 = .ok (.getfield 75, 3) := by decide +kernel
theorem d_Mo_whole_46 : decode b_Mo_whole 46 = .ok (.aload_n 0, 1) := by decide +kernel
theorem d_Mo_whole_47 : decode b_Mo_whole 47 = .ok (.getfield 288, 3) := by decide +kernel
theorem d_Mo_whole_50 : decode b_Mo_whole 50 = .ok (.iconst 1, 1) := by decide +kernel
theorem d_Mo_whole_51 : decode b_Mo_whole 51 = .ok (.isub, 1) := by decide +kernel
theorem d_Mo_whole_52 : decode b_Mo_whole 52 = .ok (.aload_n 0, 1) := by decide +kernel
theorem d_Mo_whole_53 : decode b_Mo_whole 53 = .ok (.getfield 75, 3) := by decide +kernel
theorem d_Mo_whole_56 : decode b_Mo_whole 56 = .ok (.aload_n 0, 1) := by decide +kernel
theorem d_Mo_whole_57 : decode b_Mo_whole 57 = .ok (.getfield 288, 3) := by decide +kernel
theorem d_Mo_whole_60 : decode b_Mo_whole 60 = .ok (.iconst 1, 1) := by decide +kernel
theorem d_Mo_whole_61 : decode b_Mo_whole 61 = .ok (.isub, 1) := by decide +kernel
theorem d_Mo_whole_62 : decode b_Mo_whole 62 = .ok (.laload, 1) := by decide +kernel
theorem d_Mo_whole_63 : decode b_Mo_whole 63 = .ok (.lneg, 1) := by decide +kernel
theorem d_Mo_whole_64 : decode b_Mo_whole 64 = .ok (.lastore, 1) := by decide +kernel
theorem d_Mo_whole_65 : decode b_Mo_whole 65 = .ok (.goto (-65), 3) := by decide +kernel
theorem d_Mo_whole_68 : decode b_Mo_whole 68 = .ok (.return_, 1) := by decide +kernel
theorem q_Mo_whole : aw_q1 y_Mo_whole b_Mo_whole 1 none 0 := ⟨k_1118, k_79, ⟨by decide, by decide, by decide +kernel⟩, by decide⟩
def y_Mo_settle : MethodName := ⟨"RescanDeskModel", "settle", "(I)V"⟩
abbrev b_Mo_settle : ByteArray := prog_14_method_44_code
theorem d_Mo_settle_0 : decode b_Mo_settle 0 = .ok (.aload_n 0, 1) := by decide +kernel
theorem d_Mo_settle_1 : decode b_Mo_settle 1 = .ok (.getfield 282, 3) := by decide +kernel
theorem d_Mo_settle_4 : decode b_Mo_settle 4 = .ok (.ifCond .le 103, 3) := by decide +kernel
theorem d_Mo_settle_7 : decode b_Mo_settle 7 = .ok (.aload_n 0, 1) := by decide +kernel
theorem d_Mo_settle_8 : decode b_Mo_settle 8 = .ok (.getfield 72, 3) := by decide +kernel
theorem d_Mo_settle_11 : decode b_Mo_settle 11 = .ok (.aload_n 0, 1) := by decide +kernel
theorem d_Mo_settle_12 : decode b_Mo_settle 12 = .ok (.getfield 282, 3) := by decide +kernel
theorem d_Mo_settle_15 : decode b_Mo_settle 15 = .ok (.iconst 1, 1) := by decide +kernel
theorem d_Mo_settle_16 : decode b_Mo_settle 16 = .ok (.isub, 1) := by decide +kernel
theorem d_Mo_settle_17 : decode b_Mo_settle 17 = .ok (.iaload, 1) := by decide +kernel
theorem d_Mo_settle_18 : decode b_Mo_settle 18 = .ok (.iconst 2, 1) := by decide +kernel
theorem d_Mo_settle_19 : decode b_Mo_settle 19 = .ok (.if_icmp .le 88, 3) := by decide +kernel
theorem d_Mo_settle_22 : decode b_Mo_settle 22 = .ok (.aload_n 0, 1) := by decide +kernel
theorem d_Mo_settle_23 : decode b_Mo_settle 23 = .ok (.getfield 72, 3) := by decide +kernel
theorem d_Mo_settle_26 : decode b_Mo_settle 26 = .ok (.aload_n 0, 1) := by decide +kernel
theorem d_Mo_settle_27 : decode b_Mo_settle 27 = .ok (.getfield 282, 3) := by decide +kernel
theorem d_Mo_settle_30 : decode b_Mo_settle 30 = .ok (.iconst 1, 1) := by decide +kernel
theorem d_Mo_settle_31 : decode b_Mo_settle 31 = .ok (.isub, 1) := by decide +kernel
theorem d_Mo_settle_32 : decode b_Mo_settle 32 = .ok (.iaload, 1) := by decide +kernel
theorem d_Mo_settle_33 : decode b_Mo_settle 33 = .ok (.invokestatic 285, 3) := by decide +kernel
theorem d_Mo_settle_36 : decode b_Mo_settle 36 = .ok (.iload_n 1, 1) := by decide +kernel
theorem d_Mo_settle_37 : decode b_Mo_settle 37 = .ok (.if_icmp .lt 70, 3) := by decide +kernel
theorem d_Mo_settle_40 : decode b_Mo_settle 40 = .ok (.aload_n 0, 1) := by decide +kernel
theorem d_Mo_settle_41 : decode b_Mo_settle 41 = .ok (.dup, 1) := by decide +kernel
theorem d_Mo_settle_42 : decode b_Mo_settle 42 = .ok (.getfield 282, 3) := by decide +kernel
theorem d_Mo_settle_45 : decode b_Mo_settle 45 = .ok (.iconst 1, 1) := by decide +kernel
theorem d_Mo_settle_46 : decode b_Mo_settle 46 = .ok (.isub, 1) := by decide +kernel
theorem d_Mo_settle_47 : decode b_Mo_settle 47 = .ok (.putfield 282, 3) := by decide +kernel
theorem d_Mo_settle_50 : decode b_Mo_settle 50 = .ok (.aload_n 0, 1) := by decide +kernel
theorem d_Mo_settle_51 : decode b_Mo_settle 51 = .ok (.dup, 1) := by decide +kernel
theorem d_Mo_settle_52 : decode b_Mo_settle 52 = .ok (.getfield 288, 3) := by decide +kernel
theorem d_Mo_settle_55 : decode b_Mo_settle 55 = .ok (.iconst 1, 1) := by decide +kernel
theorem d_Mo_settle_56 : decode b_Mo_settle 56 = .ok (.isub, 1) := by decide +kernel
theorem d_Mo_settle_57 : decode b_Mo_settle 57 = .ok (.putfield 288, 3) := by decide +kernel
theorem d_Mo_settle_60 : decode b_Mo_settle 60 = .ok (.aload_n 0, 1) := by decide +kernel
theorem d_Mo_settle_61 : decode b_Mo_settle 61 = .ok (.getfield 75, 3) := by decide +kernel
theorem d_Mo_settle_64 : decode b_Mo_settle 64 = .ok (.aload_n 0, 1) := by decide +kernel
theorem d_Mo_settle_65 : decode b_Mo_settle 65 = .ok (.getfield 288, 3) := by decide +kernel
theorem d_Mo_settle_68 : decode b_Mo_settle 68 = .ok (.iconst 1, 1) := by decide +kernel
theorem d_Mo_settle_69 : decode b_Mo_settle 69 = .ok (.isub, 1) := by decide +kernel
theorem d_Mo_settle_70 : decode b_Mo_settle 70 = .ok (.aload_n 0, 1) := by decide +kernel
theorem d_Mo_settle_71 : decode b_Mo_settle 71 = .ok (.aload_n 0, 1) := by decide +kernel
theorem d_Mo_settle_72 : decode b_Mo_settle 72 = .ok (.getfield 72, 3) := by decide +kernel
theorem d_Mo_settle_75 : decode b_Mo_settle 75 = .ok (.aload_n 0, 1) := by decide +kernel
theorem d_Mo_settle_76 : decode b_Mo_settle 76 = .ok (.getfield 282, 3) := by decide +kernel
theorem d_Mo_settle_79 : decode b_Mo_settle 79 = .ok (.iaload, 1) := by decide +kernel
theorem d_Mo_settle_80 : decode b_Mo_settle 80 = .ok (.aload_n 0, 1) := by decide +kernel
theorem d_Mo_settle_81 : decode b_Mo_settle 81 = .ok (.getfield 75, 3) := by decide +kernel
theorem d_Mo_settle_84 : decode b_Mo_settle 84 = .ok (.aload_n 0, 1) := by decide +kernel
theorem d_Mo_settle_85 : decode b_Mo_settle 85 = .ok (.getfield 288, 3) := by decide +kernel
theorem d_Mo_settle_88 : decode b_Mo_settle 88 = .ok (.iconst 1, 1) := by decide +kernel
theorem d_Mo_settle_89 : decode b_Mo_settle 89 = .ok (.isub, 1) := by decide +kernel
theorem d_Mo_settle_90 : decode b_Mo_settle 90 = .ok (.laload, 1) := by decide +kernel
theorem d_Mo_settle_91 : decode b_Mo_settle 91 = .ok (.aload_n 0, 1) := by decide +kernel
theorem d_Mo_settle_92 : decode b_Mo_settle 92 = .ok (.getfield 75, 3) := by decide +kernel
theorem d_Mo_settle_95 : decode b_Mo_settle 95 = .ok (.aload_n 0, 1) := by decide +kernel
theorem d_Mo_settle_96 : decode b_Mo_settle 96 = .ok (.getfield 288, 3) := by decide +kernel
theorem d_Mo_settle_99 : decode b_Mo_settle 99 = .ok (.laload, 1) := by decide +kernel
theorem d_Mo_settle_100 : decode b_Mo_settle 100 = .ok (.invokevirtual 291, 3) := by decide +kernel
theorem d_Mo_settle_103 : decode b_Mo_settle 103 = .ok (.lastore, 1) := by decide +kernel
theorem d_Mo_settle_104 : decode b_Mo_settle 104 = .ok (.goto (-104), 3) := by decide +kernel
theorem d_Mo_settle_107 : decode b_Mo_settle 107 = .ok (.return_, 1) := by decide +kernel
theorem q_Mo_settle : aw_q1 y_Mo_settle b_Mo_settle 2 none 1 := ⟨k_1122, k_79, ⟨by decide, by decide, by decide +kernel⟩, by decide⟩
def y_Mo_strength : MethodName := ⟨"RescanDeskModel", "strength", "(I)I"⟩
abbrev b_Mo_strength : ByteArray := prog_14_method_42_code
theorem d_Mo_strength_0 : decode b_Mo_strength 0 = .ok (.iload_n 0, 1) := by decide +kernel
theorem d_Mo_strength_1 : decode b_Mo_strength 1 = .ok (.bipush 42, 2) := by decide +kernel
theorem d_Mo_strength_3 : decode b_Mo_strength 3 = .ok (.if_icmp .eq 15, 3) := by decide +kernel
theorem d_Mo_strength_6 : decode b_Mo_strength 6 = .ok (.iload_n 0, 1) := by decide +kernel
theorem d_Mo_strength_7 : decode b_Mo_strength 7 = .ok (.bipush 47, 2) := by decide +kernel
theorem d_Mo_strength_9 : decode b_Mo_strength 9 = .ok (.if_icmp .eq 9, 3) := by decide +kernel
theorem d_Mo_strength_12 : decode b_Mo_strength 12 = .ok (.iload_n 0, 1) := by decide +kernel
theorem d_Mo_strength_13 : decode b_Mo_strength 13 = .ok (.bipush 37, 2) := by decide +kernel
theorem d_Mo_strength_15 : decode b_Mo_strength 15 = .ok (.if_icmp .ne 7, 3) := by decide +kernel
theorem d_Mo_strength_18 : decode b_Mo_strength 18 = .ok (.iconst 4, 1) := by decide +kernel
theorem d_Mo_strength_19 : decode b_Mo_strength 19 = .ok (.goto 58, 3) := by decide +kernel
theorem d_Mo_strength_22 : decode b_Mo_strength 22 = .ok (.iload_n 0, 1) := by decide +kernel
theorem d_Mo_strength_23 : decode b_Mo_strength 23 = .ok (.bipush 43, 2) := by decide +kernel
theorem d_Mo_strength_25 : decode b_Mo_strength 25 = .ok (.if_icmp .eq 9, 3) := by decide +kernel
theorem d_Mo_strength_28 : decode b_Mo_strength 28 = .ok (.iload_n 0, 1) := by decide +kernel
theorem d_Mo_strength_29 : decode b_Mo_strength 29 = .ok (.bipush 45, 2) := by decide +kernel
theorem d_Mo_strength_31 : decode b_Mo_strength 31 = .ok (.if_icmp .ne 7, 3) := by decide +kernel
theorem d_Mo_strength_34 : decode b_Mo_strength 34 = .ok (.iconst 3, 1) := by decide +kernel
theorem d_Mo_strength_35 : decode b_Mo_strength 35 = .ok (.goto 42, 3) := by decide +kernel
theorem d_Mo_strength_38 : decode b_Mo_strength 38 = .ok (.iload_n 0, 1) := by decide +kernel
theorem d_Mo_strength_39 : decode b_Mo_strength 39 = .ok (.bipush 60, 2) := by decide +kernel
theorem d_Mo_strength_41 : decode b_Mo_strength 41 = .ok (.if_icmp .eq 15, 3) := by decide +kernel
theorem d_Mo_strength_44 : decode b_Mo_strength 44 = .ok (.iload_n 0, 1) := by decide +kernel
theorem d_Mo_strength_45 : decode b_Mo_strength 45 = .ok (.bipush 62, 2) := by decide +kernel
theorem d_Mo_strength_47 : decode b_Mo_strength 47 = .ok (.if_icmp .eq 9, 3) := by decide +kernel
theorem d_Mo_strength_50 : decode b_Mo_strength 50 = .ok (.iload_n 0, 1) := by decide +kernel
theorem d_Mo_strength_51 : decode b_Mo_strength 51 = .ok (.bipush 61, 2) := by decide +kernel
theorem d_Mo_strength_53 : decode b_Mo_strength 53 = .ok (.if_icmp .ne 7, 3) := by decide +kernel
theorem d_Mo_strength_56 : decode b_Mo_strength 56 = .ok (.iconst 2, 1) := by decide +kernel
theorem d_Mo_strength_57 : decode b_Mo_strength 57 = .ok (.goto 20, 3) := by decide +kernel
theorem d_Mo_strength_60 : decode b_Mo_strength 60 = .ok (.iload_n 0, 1) := by decide +kernel
theorem d_Mo_strength_61 : decode b_Mo_strength 61 = .ok (.bipush 38, 2) := by decide +kernel
theorem d_Mo_strength_63 : decode b_Mo_strength 63 = .ok (.if_icmp .eq 9, 3) := by decide +kernel
theorem d_Mo_strength_66 : decode b_Mo_strength 66 = .ok (.iload_n 0, 1) := by decide +kernel
theorem d_Mo_strength_67 : decode b_Mo_strength 67 = .ok (.bipush 124, 2) := by decide +kernel
theorem d_Mo_strength_69 : decode b_Mo_strength 69 = .ok (.if_icmp .ne 7, 3) := by decide +kernel
theorem d_Mo_strength_72 : decode b_Mo_strength 72 = .ok (.iconst 1, 1) := by decide +kernel
theorem d_Mo_strength_73 : decode b_Mo_strength 73 = .ok (.goto 4, 3) := by decide +kernel
theorem d_Mo_strength_76 : decode b_Mo_strength 76 = .ok (.iconst 0, 1) := by decide +kernel
theorem d_Mo_strength_77 : decode b_Mo_strength 77 = .ok (.ireturn, 1) := by decide +kernel
theorem q_Mo_strength : aw_q1 y_Mo_strength b_Mo_strength 1 (some .int) 1 := ⟨k_1125, k_79, ⟨by decide, by decide, by decide +kernel⟩, by decide⟩
def y_Mo_made : MethodName := ⟨"RescanDeskModel", "made", "(IJJ)J"⟩
abbrev b_Mo_made : ByteArray := prog_14_method_43_code
theorem d_Mo_made_0 : decode b_Mo_made 0 = .ok (.iload_n 1, 1) := by decide +kernel
theorem d_Mo_made_1 : decode b_Mo_made 1 = .ok (.bipush 47, 2) := by decide +kernel
theorem d_Mo_made_3 : decode b_Mo_made 3 = .ok (.if_icmp .eq 9, 3) := by decide +kernel
theorem d_Mo_made_6 : decode b_Mo_made 6 = .ok (.iload_n 1, 1) := by decide +kernel
theorem d_Mo_made_7 : decode b_Mo_made 7 = .ok (.bipush 37, 2) := by decide +kernel
theorem d_Mo_made_9 : decode b_Mo_made 9 = .ok (.if_icmp .ne 17, 3) := by decide +kernel
theorem d_Mo_made_12 : decode b_Mo_made 12 = .ok (.lload 4, 2) := by decide +kernel
theorem d_Mo_made_14 : decode b_Mo_made 14 = .ok (.lconst 0, 1) := by decide +kernel
theorem d_Mo_made_15 : decode b_Mo_made 15 = .ok (.lcmp, 1) := by decide +kernel
theorem d_Mo_made_16 : decode b_Mo_made 16 = .ok (.ifCond .ne 10, 3) := by decide +kernel
theorem d_Mo_made_19 : decode b_Mo_made 19 = .ok (.aload_n 0, 1) := by decide +kernel
theorem d_Mo_made_20 : decode b_Mo_made 20 = .ok (.iconst 1, 1) := by decide +kernel
theorem d_Mo_made_21 : decode b_Mo_made 21 = .ok (.putfield 278, 3) := by decide +kernel
theorem d_Mo_made_24 : decode b_Mo_made 24 = .ok (.lconst 0, 1) := by decide +kernel
theorem d_Mo_made_25 : decode b_Mo_made 25 = .ok (.lreturn, 1) := by decide +kernel
theorem d_Mo_made_26 : decode b_Mo_made 26 = .ok (.iload_n 1, 1) := by decide +kernel
theorem d_Mo_made_27 : decode b_Mo_made 27 = .ok (.tableswitch 200 37 62 #[127, 181, 200, 200, 200, 117, 132, 200, 137, 200, 122, 200, 200, 200, 200, 200, 200, 200, 200, 200, 200, 200, 200, 142, 168, 155], 117) := by decide +kernel
theorem d_Mo_made_144 : decode b_Mo_made 144 = .ok (.lload_n 2, 1) := by decide +kernel
theorem d_Mo_made_145 : decode b_Mo_made 145 = .ok (.lload 4, 2) := by decide +kernel
theorem d_Mo_made_147 : decode b_Mo_made 147 = .ok (.lmul, 1) := by decide +kernel
theorem d_Mo_made_148 : decode b_Mo_made 148 = .ok (.lreturn, 1) := by decide +kernel
theorem d_Mo_made_149 : decode b_Mo_made 149 = .ok (.lload_n 2, 1) := by decide +kernel
theorem d_Mo_made_150 : decode b_Mo_made 150 = .ok (.lload 4, 2) := by decide +kernel
theorem d_Mo_made_152 : decode b_Mo_made 152 = .ok (.ldiv, 1) := by decide +kernel
theorem d_Mo_made_153 : decode b_Mo_made 153 = .ok (.lreturn, 1) := by decide +kernel
theorem d_Mo_made_154 : decode b_Mo_made 154 = .ok (.lload_n 2, 1) := by decide +kernel
theorem d_Mo_made_155 : decode b_Mo_made 155 = .ok (.lload 4, 2) := by decide +kernel
theorem d_Mo_made_157 : decode b_Mo_made 157 = .ok (.lrem, 1) := by decide +kernel
theorem d_Mo_made_158 : decode b_Mo_made 158 = .ok (.lreturn, 1) := by decide +kernel
theorem d_Mo_made_159 : decode b_Mo_made 159 = .ok (.lload_n 2, 1) := by decide +kernel
theorem d_Mo_made_160 : decode b_Mo_made 160 = .ok (.lload 4, 2) := by decide +kernel
theorem d_Mo_made_162 : decode b_Mo_made 162 = .ok (.ladd, 1) := by decide +kernel
theorem d_Mo_made_163 : decode b_Mo_made 163 = .ok (.lreturn, 1) := by decide +kernel
theorem d_Mo_made_164 : decode b_Mo_made 164 = .ok (.lload_n 2, 1) := by decide +kernel
theorem d_Mo_made_165 : decode b_Mo_made 165 = .ok (.lload 4, 2) := by decide +kernel
theorem d_Mo_made_167 : decode b_Mo_made 167 = .ok (.lsub, 1) := by decide +kernel
theorem d_Mo_made_168 : decode b_Mo_made 168 = .ok (.lreturn, 1) := by decide +kernel
theorem d_Mo_made_169 : decode b_Mo_made 169 = .ok (.lload_n 2, 1) := by decide +kernel
theorem d_Mo_made_170 : decode b_Mo_made 170 = .ok (.lload 4, 2) := by decide +kernel
theorem d_Mo_made_172 : decode b_Mo_made 172 = .ok (.lcmp, 1) := by decide +kernel
theorem d_Mo_made_173 : decode b_Mo_made 173 = .ok (.ifCond .ge 7, 3) := by decide +kernel
theorem d_Mo_made_176 : decode b_Mo_made 176 = .ok (.lconst 1, 1) := by decide +kernel
theorem d_Mo_made_177 : decode b_Mo_made 177 = .ok (.goto 4, 3) := by decide +kernel
theorem d_Mo_made_180 : decode b_Mo_made 180 = .ok (.lconst 0, 1) := by decide +kernel
theorem d_Mo_made_181 : decode b_Mo_made 181 = .ok (.lreturn, 1) := by decide +kernel
theorem d_Mo_made_182 : decode b_Mo_made 182 = .ok (.lload_n 2, 1) := by decide +kernel
theorem d_Mo_made_183 : decode b_Mo_made 183 = .ok (.lload 4, 2) := by decide +kernel
theorem d_Mo_made_185 : decode b_Mo_made 185 = .ok (.lcmp, 1) := by decide +kernel
theorem d_Mo_made_186 : decode b_Mo_made 186 = .ok (.ifCond .le 7, 3) := by decide +kernel
theorem d_Mo_made_189 : decode b_Mo_made 189 = .ok (.lconst 1, 1) := by decide +kernel
theorem d_Mo_made_190 : decode b_Mo_made 190 = .ok (.goto 4, 3) := by decide +kernel
theorem d_Mo_made_193 : decode b_Mo_made 193 = .ok (.lconst 0, 1) := by decide +kernel
theorem d_Mo_made_194 : decode b_Mo_made 194 = .ok (.lreturn, 1) := by decide +kernel
theorem d_Mo_made_195 : decode b_Mo_made 195 = .ok (.lload_n 2, 1) := by decide +kernel
theorem d_Mo_made_196 : decode b_Mo_made 196 = .ok (.lload 4, 2) := by decide +kernel
theorem d_Mo_made_198 : decode b_Mo_made 198 = .ok (.lcmp, 1) := by decide +kernel
theorem d_Mo_made_199 : decode b_Mo_made 199 = .ok (.ifCond .ne 7, 3) := by decide +kernel
theorem d_Mo_made_202 : decode b_Mo_made 202 = .ok (.lconst 1, 1) := by decide +kernel
theorem d_Mo_made_203 : decode b_Mo_made 203 = .ok (.goto 4, 3) := by decide +kernel
theorem d_Mo_made_206 : decode b_Mo_made 206 = .ok (.lconst 0, 1) := by decide +kernel
theorem d_Mo_made_207 : decode b_Mo_made 207 = .ok (.lreturn, 1) := by decide +kernel
theorem d_Mo_made_208 : decode b_Mo_made 208 = .ok (.lload_n 2, 1) := by decide +kernel
theorem d_Mo_made_209 : decode b_Mo_made 209 = .ok (.lconst 0, 1) := by decide +kernel
theorem d_Mo_made_210 : decode b_Mo_made 210 = .ok (.lcmp, 1) := by decide +kernel
theorem d_Mo_made_211 : decode b_Mo_made 211 = .ok (.ifCond .eq 14, 3) := by decide +kernel
theorem d_Mo_made_214 : decode b_Mo_made 214 = .ok (.lload 4, 2) := by decide +kernel
theorem d_Mo_made_216 : decode b_Mo_made 216 = .ok (.lconst 0, 1) := by decide +kernel
theorem d_Mo_made_217 : decode b_Mo_made 217 = .ok (.lcmp, 1) := by decide +kernel
theorem d_Mo_made_218 : decode b_Mo_made 218 = .ok (.ifCond .eq 7, 3) := by decide +kernel
theorem d_Mo_made_221 : decode b_Mo_made 221 = .ok (.lconst 1, 1) := by decide +kernel
theorem d_Mo_made_222 : decode b_Mo_made 222 = .ok (.goto 4, 3) := by decide +kernel
theorem d_Mo_made_225 : decode b_Mo_made 225 = .ok (.lconst 0, 1) := by decide +kernel
theorem d_Mo_made_226 : decode b_Mo_made 226 = .ok (.lreturn, 1) := by decide +kernel
theorem d_Mo_made_227 : decode b_Mo_made 227 = .ok (.lload_n 2, 1) := by decide +kernel
theorem d_Mo_made_228 : decode b_Mo_made 228 = .ok (.lconst 0, 1) := by decide +kernel
theorem d_Mo_made_229 : decode b_Mo_made 229 = .ok (.lcmp, 1) := by decide +kernel
theorem d_Mo_made_230 : decode b_Mo_made 230 = .ok (.ifCond .ne 10, 3) := by decide +kernel
theorem d_Mo_made_233 : decode b_Mo_made 233 = .ok (.lload 4, 2) := by decide +kernel
theorem d_Mo_made_235 : decode b_Mo_made 235 = .ok (.lconst 0, 1) := by decide +kernel
theorem d_Mo_made_236 : decode b_Mo_made 236 = .ok (.lcmp, 1) := by decide +kernel
theorem d_Mo_made_237 : decode b_Mo_made 237 = .ok (.ifCond .eq 7, 3) := by decide +kernel
theorem d_Mo_made_240 : decode b_Mo_made 240 = .ok (.lconst 1, 1) := by decide +kernel
theorem d_Mo_made_241 : decode b_Mo_made 241 = .ok (.goto 4, 3) := by decide +kernel
theorem d_Mo_made_244 : decode b_Mo_made 244 = .ok (.lconst 0, 1) := by decide +kernel
theorem d_Mo_made_245 : decode b_Mo_made 245 = .ok (.lreturn, 1) := by decide +kernel
theorem q_Mo_made : aw_q1 y_Mo_made b_Mo_made 6 (some .long) 3 := ⟨k_1129, k_79, ⟨by decide, by decide, by decide +kernel⟩, by decide⟩
def y_Mo_cut : MethodName := ⟨"RescanDeskModel", "cut", "()V"⟩
abbrev b_Mo_cut : ByteArray := prog_14_method_40_code
theorem d_Mo_cut_0 : decode b_Mo_cut 0 = .ok (.aload_n 0, 1) := by decide +kernel
theorem d_Mo_cut_1 : decode b_Mo_cut 1 = .ok (.iconst 2, 1) := by decide +kernel
theorem d_Mo_cut_2 : decode b_Mo_cut 2 = .ok (.invokevirtual 253, 3) := by decide +kernel
theorem d_Mo_cut_5 : decode b_Mo_cut 5 = .ok (.lstore_n 1, 1) := by decide +kernel
theorem d_Mo_cut_6 : decode b_Mo_cut 6 = .ok (.aload_n 0, 1) := by decide +kernel
theorem d_Mo_cut_7 : decode b_Mo_cut 7 = .ok (.getfield 47, 3) := by decide +kernel
theorem d_Mo_cut_10 : decode b_Mo_cut 10 = .ok (.bipush 12, 2) := by decide +kernel
theorem d_Mo_cut_12 : decode b_Mo_cut 12 = .ok (.iaload, 1) := by decide +kernel
theorem d_Mo_cut_13 : decode b_Mo_cut 13 = .ok (.iconst 3, 1) := by decide +kernel
theorem d_Mo_cut_14 : decode b_Mo_cut 14 = .ok (.if_icmp .ge 9, 3) := by decide +kernel
theorem d_Mo_cut_17 : decode b_Mo_cut 17 = .ok (.ldc2_w 276, 3) := by decide +kernel
theorem d_Mo_cut_20 : decode b_Mo_cut 20 = .ok (.goto 8, 3) := by decide +kernel
theorem d_Mo_cut_23 : decode b_Mo_cut 23 = .ok (.aload_n 0, 1) := by decide +kernel
theorem d_Mo_cut_24 : decode b_Mo_cut 24 = .ok (.iconst 3, 1) := by decide +kernel
theorem d_Mo_cut_25 : decode b_Mo_cut 25 = .ok (.invokevirtual 253, 3) := by decide +kernel
theorem d_Mo_cut_28 : decode b_Mo_cut 28 = .ok (.lstore_n 3, 1) := by decide +kernel
theorem d_Mo_cut_29 : decode b_Mo_cut 29 = .ok (.iconst 0, 1) := by decide +kernel
theorem d_Mo_cut_30 : decode b_Mo_cut 30 = .ok (.istore 5, 2) := by decide +kernel
theorem d_Mo_cut_32 : decode b_Mo_cut 32 = .ok (.iload 5, 2) := by decide +kernel
theorem d_Mo_cut_34 : decode b_Mo_cut 34 = .ok (.aload_n 0, 1) := by decide +kernel
theorem d_Mo_cut_35 : decode b_Mo_cut 35 = .ok (.iconst 1, 1) := by decide +kernel
theorem d_Mo_cut_36 : decode b_Mo_cut 36 = .ok (.invokevirtual 207, 3) := by decide +kernel
theorem d_Mo_cut_39 : decode b_Mo_cut 39 = .ok (.if_icmp .ge 50, 3) := by decide +kernel
theorem d_Mo_cut_42 : decode b_Mo_cut 42 = .ok (.lload_n 1, 1) := by decide +kernel
theorem d_Mo_cut_43 : decode b_Mo_cut 43 = .ok (.lconst 0, 1) := by decide +kernel
theorem d_Mo_cut_44 : decode b_Mo_cut 44 = .ok (.lcmp, 1) := by decide +kernel
theorem d_Mo_cut_45 : decode b_Mo_cut 45 = .ok (.ifCond .lt 44, 3) := by decide +kernel
theorem d_Mo_cut_48 : decode b_Mo_cut 48 = .ok (.iload 5, 2) := by decide +kernel
theorem d_Mo_cut_50 : decode b_Mo_cut 50 = .ok (.i2l, 1) := by decide +kernel
theorem d_Mo_cut_51 : decode b_Mo_cut 51 = .ok (.lload_n 1, 1) := by decide +kernel
theorem d_Mo_cut_52 : decode b_Mo_cut 52 = .ok (.lcmp, 1) := by decide +kernel
theorem d_Mo_cut_53 : decode b_Mo_cut 53 = .ok (.ifCond .lt 30, 3) := by decide +kernel
theorem d_Mo_cut_56 : decode b_Mo_cut 56 = .ok (.iload 5, 2) := by decide +kernel
theorem d_Mo_cut_58 : decode b_Mo_cut 58 = .ok (.i2l, 1) := by decide +kernel
theorem d_Mo_cut_59 : decode b_Mo_cut 59 = .ok (.lload_n 1, 1) := by decide +kernel
theorem d_Mo_cut_60 : decode b_Mo_cut 60 = .ok (.lsub, 1) := by decide +kernel
theorem d_Mo_cut_61 : decode b_Mo_cut 61 = .ok (.lload_n 3, 1) := by decide +kernel
theorem d_Mo_cut_62 : decode b_Mo_cut 62 = .ok (.lcmp, 1) := by decide +kernel
theorem d_Mo_cut_63 : decode b_Mo_cut 63 = .ok (.ifCond .ge 20, 3) := by decide +kernel
theorem d_Mo_cut_66 : decode b_Mo_cut 66 = .ok (.aload_n 0, 1) := by decide +kernel
theorem d_Mo_cut_67 : decode b_Mo_cut 67 = .ok (.aload_n 0, 1) := by decide +kernel
theorem d_Mo_cut_68 : decode b_Mo_cut 68 = .ok (.getfield 60, 3) := by decide +kernel
theorem d_Mo_cut_71 : decode b_Mo_cut 71 = .ok (.aload_n 0, 1) := by decide +kernel
theorem d_Mo_cut_72 : decode b_Mo_cut 72 = .ok (.iconst 1, 1) := by decide +kernel
theorem d_Mo_cut_73 : decode b_Mo_cut 73 = .ok (.invokevirtual 210, 3) := by decide +kernel
theorem d_Mo_cut_76 : decode b_Mo_cut 76 = .ok (.iload 5, 2) := by decide +kernel
theorem d_Mo_cut_78 : decode b_Mo_cut 78 = .ok (.iadd, 1) := by decide +kernel
theorem d_Mo_cut_79 : decode b_Mo_cut 79 = .ok (.caload, 1) := by decide +kernel
theorem d_Mo_cut_80 : decode b_Mo_cut 80 = .ok (.invokevirtual 220, 3) := by decide +kernel
theorem d_Mo_cut_83 : decode b_Mo_cut 83 = .ok (.iinc 5 1, 3) := by decide +kernel
theorem d_Mo_cut_86 : decode b_Mo_cut 86 = .ok (.goto (-54), 3) := by decide +kernel
theorem d_Mo_cut_89 : decode b_Mo_cut 89 = .ok (.return_, 1) := by decide +kernel
theorem q_Mo_cut : aw_q1 y_Mo_cut b_Mo_cut 6 none 0 := ⟨k_1133, k_79, ⟨by decide, by decide, by decide +kernel⟩, by decide⟩
def y_Mo_index : MethodName := ⟨"RescanDeskModel", "index", "()I"⟩
abbrev b_Mo_index : ByteArray := prog_14_method_41_code
theorem d_Mo_index_0 : decode b_Mo_index 0 = .ok (.iconst 0, 1) := by decide +kernel
theorem d_Mo_index_1 : decode b_Mo_index 1 = .ok (.istore_n 1, 1) := by decide +kernel
theorem d_Mo_index_2 : decode b_Mo_index 2 = .ok (.iload_n 1, 1) := by decide +kernel
theorem d_Mo_index_3 : decode b_Mo_index 3 = .ok (.aload_n 0, 1) := by decide +kernel
theorem d_Mo_index_4 : decode b_Mo_index 4 = .ok (.iconst 2, 1) := by decide +kernel
theorem d_Mo_index_5 : decode b_Mo_index 5 = .ok (.invokevirtual 207, 3) := by decide +kernel
theorem d_Mo_index_8 : decode b_Mo_index 8 = .ok (.iadd, 1) := by decide +kernel
theorem d_Mo_index_9 : decode b_Mo_index 9 = .ok (.aload_n 0, 1) := by decide +kernel
theorem d_Mo_index_10 : decode b_Mo_index 10 = .ok (.iconst 1, 1) := by decide +kernel
theorem d_Mo_index_11 : decode b_Mo_index 11 = .ok (.invokevirtual 207, 3) := by decide +kernel
theorem d_Mo_index_14 : decode b_Mo_index 14 = .ok (.if_icmp .gt 73, 3) := by decide +kernel
theorem d_Mo_index_17 : decode b_Mo_index 17 = .ok (.iconst 1, 1) := by decide +kernel
theorem d_Mo_index_18 : decode b_Mo_index 18 = .ok (.istore_n 2, 1) := by decide +kernel
theorem d_Mo_index_19 : decode b_Mo_index 19 = .ok (.iconst 0, 1) := by decide +kernel
theorem d_Mo_index_20 : decode b_Mo_index 20 = .ok (.istore_n 3, 1) := by decide +kernel
theorem d_Mo_index_21 : decode b_Mo_index 21 = .ok (.iload_n 3, 1) := by decide +kernel
theorem d_Mo_index_22 : decode b_Mo_index 22 = .ok (.aload_n 0, 1) := by decide +kernel
theorem d_Mo_index_23 : decode b_Mo_index 23 = .ok (.iconst 2, 1) := by decide +kernel
theorem d_Mo_index_24 : decode b_Mo_index 24 = .ok (.invokevirtual 207, 3) := by decide +kernel
theorem d_Mo_index_27 : decode b_Mo_index 27 = .ok (.if_icmp .ge 48, 3) := by decide +kernel
theorem d_Mo_index_30 : decode b_Mo_index 30 = .ok (.iload_n 2, 1) := by decide +kernel
theorem d_Mo_index_31 : decode b_Mo_index 31 = .ok (.ifCond .eq 44, 3) := by decide +kernel
theorem d_Mo_index_34 : decode b_Mo_index 34 = .ok (.aload_n 0, 1) := by decide +kernel
theorem d_Mo_index_35 : decode b_Mo_index 35 = .ok (.getfield 60, 3) := by decide +kernel
theorem d_Mo_index_38 : decode b_Mo_index 38 = .ok (.aload_n 0, 1) := by decide +kernel
theorem d_Mo_index_39 : decode b_Mo_index 39 = .ok (.iconst 1, 1) := by decide +kernel
theorem d_Mo_index_40 : decode b_Mo_index 40 = .ok (.invokevirtual 210, 3) := by decide +kernel
theorem d_Mo_index_43 : decode b_Mo_index 43 = .ok (.iload_n 1, 1) := by decide +kernel
theorem d_Mo_index_44 : decode b_Mo_index 44 = .ok (.iadd, 1) := by decide +kernel
theorem d_Mo_index_45 : decode b_Mo_index 45 = .ok (.iload_n 3, 1) := by decide +kernel
theorem d_Mo_index_46 : decode b_Mo_index 46 = .ok (.iadd, 1) := by decide +kernel
theorem d_Mo_index_47 : decode b_Mo_index 47 = .ok (.caload, 1) := by decide +kernel
theorem d_Mo_index_48 : decode b_Mo_index 48 = .ok (.aload_n 0, 1) := by decide +kernel
theorem d_Mo_index_49 : decode b_Mo_index 49 = .ok (.getfield 60, 3) := by decide +kernel
theorem d_Mo_index_52 : decode b_Mo_index 52 = .ok (.aload_n 0, 1) := by decide +kernel
theorem d_Mo_index_53 : decode b_Mo_index 53 = .ok (.iconst 2, 1) := by decide +kernel
theorem d_Mo_index_54 : decode b_Mo_index 54 = .ok (.invokevirtual 210, 3) := by decide +kernel
theorem d_Mo_index_57 : decode b_Mo_index 57 = .ok (.iload_n 3, 1) := by decide +kernel
theorem d_Mo_index_58 : decode b_Mo_index 58 = .ok (.iadd, 1) := by decide +kernel
theorem d_Mo_index_59 : decode b_Mo_index 59 = .ok (.caload, 1) := by decide +kernel
theorem d_Mo_index_60 : decode b_Mo_index 60 = .ok (.if_icmp .ne 7, 3) := by decide +kernel
theorem d_Mo_index_63 : decode b_Mo_index 63 = .ok (.iconst 1, 1) := by decide +kernel
theorem d_Mo_index_64 : decode b_Mo_index 64 = .ok (.goto 4, 3) := by decide +kernel
theorem d_Mo_index_67 : decode b_Mo_index 67 = .ok (.iconst 0, 1) := by decide +kernel
theorem d_Mo_index_68 : decode b_Mo_index 68 = .ok (.istore_n 2, 1) := by decide +kernel
theorem d_Mo_index_69 : decode b_Mo_index 69 = .ok (.iinc 3 1, 3) := by decide +kernel
theorem d_Mo_index_72 : decode b_Mo_index 72 = .ok (.goto (-51), 3) := by decide +kernel
theorem d_Mo_index_75 : decode b_Mo_index 75 = .ok (.iload_n 2, 1) := by decide +kernel
theorem d_Mo_index_76 : decode b_Mo_index 76 = .ok (.ifCond .eq 5, 3) := by decide +kernel
theorem d_Mo_index_79 : decode b_Mo_index 79 = .ok (.iload_n 1, 1) := by decide +kernel
theorem d_Mo_index_80 : decode b_Mo_index 80 = .ok (.ireturn, 1) := by decide +kernel
theorem d_Mo_index_81 : decode b_Mo_index 81 = .ok (.iinc 1 1, 3) := by decide +kernel
theorem d_Mo_index_84 : decode b_Mo_index 84 = .ok (.goto (-82), 3) := by decide +kernel
theorem d_Mo_index_87 : decode b_Mo_index 87 = .ok (.iconst (-1), 1) := by decide +kernel
theorem d_Mo_index_88 : decode b_Mo_index 88 = .ok (.ireturn, 1) := by decide +kernel
theorem q_Mo_index : aw_q1 y_Mo_index b_Mo_index 4 (some .int) 0 := ⟨k_1138, k_79, ⟨by decide, by decide, by decide +kernel⟩, by decide⟩
def y_Mo_pour : MethodName := ⟨"RescanDeskModel", "pour", "(II)V"⟩
abbrev b_Mo_pour : ByteArray := prog_14_method_11_code
theorem d_Mo_pour_0 : decode b_Mo_pour 0 = .ok (.aload_n 0, 1) := by decide +kernel
theorem d_Mo_pour_1 : decode b_Mo_pour 1 = .ok (.getfield 127, 3) := by decide +kernel
theorem d_Mo_pour_4 : decode b_Mo_pour 4 = .ok (.ifCond .le 4, 3) := by decide +kernel
theorem d_Mo_pour_7 : decode b_Mo_pour 7 = .ok (.return_, 1) := by decide +kernel
theorem d_Mo_pour_8 : decode b_Mo_pour 8 = .ok (.iload_n 2, 1) := by decide +kernel
theorem d_Mo_pour_9 : decode b_Mo_pour 9 = .ok (.ifCond .lt 28, 3) := by decide +kernel
theorem d_Mo_pour_12 : decode b_Mo_pour 12 = .ok (.aload_n 0, 1) := by decide +kernel
theorem d_Mo_pour_13 : decode b_Mo_pour 13 = .ok (.getfield 66, 3) := by decide +kernel
theorem d_Mo_pour_16 : decode b_Mo_pour 16 = .ok (.iload_n 2, 1) := by decide +kernel
theorem d_Mo_pour_17 : decode b_Mo_pour 17 = .ok (.iaload, 1) := by decide +kernel
theorem d_Mo_pour_18 : decode b_Mo_pour 18 = .ok (.aload_n 0, 1) := by decide +kernel
theorem d_Mo_pour_19 : decode b_Mo_pour 19 = .ok (.getfield 66, 3) := by decide +kernel
theorem d_Mo_pour_22 : decode b_Mo_pour 22 = .ok (.iload_n 1, 1) := by decide +kernel
theorem d_Mo_pour_23 : decode b_Mo_pour 23 = .ok (.iaload, 1) := by decide +kernel
theorem d_Mo_pour_24 : decode b_Mo_pour 24 = .ok (.iadd, 1) := by decide +kernel
theorem d_Mo_pour_25 : decode b_Mo_pour 25 = .ok (.sipush 300, 3) := by decide +kernel
theorem d_Mo_pour_28 : decode b_Mo_pour 28 = .ok (.if_icmp .le 9, 3) := by decide +kernel
theorem d_Mo_pour_31 : decode b_Mo_pour 31 = .ok (.aload_n 0, 1) := by decide +kernel
theorem d_Mo_pour_32 : decode b_Mo_pour 32 = .ok (.iconst 2, 1) := by decide +kernel
theorem d_Mo_pour_33 : decode b_Mo_pour 33 = .ok (.invokevirtual 143, 3) := by decide +kernel
theorem d_Mo_pour_36 : decode b_Mo_pour 36 = .ok (.return_, 1) := by decide +kernel
theorem d_Mo_pour_37 : decode b_Mo_pour 37 = .ok (.iconst 0, 1) := by decide +kernel
theorem d_Mo_pour_38 : decode b_Mo_pour 38 = .ok (.istore_n 3, 1) := by decide +kernel
theorem d_Mo_pour_39 : decode b_Mo_pour 39 = .ok (.iload_n 3, 1) := by decide +kernel
theorem d_Mo_pour_40 : decode b_Mo_pour 40 = .ok (.aload_n 0, 1) := by decide +kernel
theorem d_Mo_pour_41 : decode b_Mo_pour 41 = .ok (.getfield 66, 3) := by decide +kernel
theorem d_Mo_pour_44 : decode b_Mo_pour 44 = .ok (.iload_n 1, 1) := by decide +kernel
theorem d_Mo_pour_45 : decode b_Mo_pour 45 = .ok (.iaload, 1) := by decide +kernel
theorem d_Mo_pour_46 : decode b_Mo_pour 46 = .ok (.if_icmp .ge 44, 3) := by decide +kernel
theorem d_Mo_pour_49 : decode b_Mo_pour 49 = .ok (.iload_n 2, 1) := by decide +kernel
theorem d_Mo_pour_50 : decode b_Mo_pour 50 = .ok (.ifCond .lt 40, 3) := by decide +kernel
theorem d_Mo_pour_53 : decode b_Mo_pour 53 = .ok (.aload_n 0, 1) := by decide +kernel
theorem d_Mo_pour_54 : decode b_Mo_pour 54 = .ok (.getfield 63, 3) := by decide +kernel
theorem d_Mo_pour_57 : decode b_Mo_pour 57 = .ok (.sipush 300, 3) := by decide +kernel
theorem d_Mo_pour_60 : decode b_Mo_pour 60 = .ok (.iload_n 2, 1) := by decide +kernel
theorem d_Mo_pour_61 : decode b_Mo_pour 61 = .ok (.imul, 1) := by decide +kernel
theorem d_Mo_pour_62 : decode b_Mo_pour 62 = .ok (.aload_n 0, 1) := by decide +kernel
theorem d_Mo_pour_63 : decode b_Mo_pour 63 = .ok (.getfield 66, 3) := by decide +kernel
theorem d_Mo_pour_66 : decode b_Mo_pour 66 = .ok (.iload_n 2, 1) := by decide +kernel
theorem d_Mo_pour_67 : decode b_Mo_pour 67 = .ok (.iaload, 1) := by decide +kernel
theorem d_Mo_pour_68 : decode b_Mo_pour 68 = .ok (.iadd, 1) := by decide +kernel
theorem d_Mo_pour_69 : decode b_Mo_pour 69 = .ok (.iload_n 3, 1) := by decide +kernel
theorem d_Mo_pour_70 : decode b_Mo_pour 70 = .ok (.iadd, 1) := by decide +kernel
theorem d_Mo_pour_71 : decode b_Mo_pour 71 = .ok (.aload_n 0, 1) := by decide +kernel
theorem d_Mo_pour_72 : decode b_Mo_pour 72 = .ok (.getfield 63, 3) := by decide +kernel
theorem d_Mo_pour_75 : decode b_Mo_pour 75 = .ok (.sipush 300, 3) := by decide +kernel
theorem d_Mo_pour_78 : decode b_Mo_pour 78 = .ok (.iload_n 1, 1) := by decide +kernel
theorem d_Mo_pour_79 : decode b_Mo_pour 79 = .ok (.imul, 1) := by decide +kernel
theorem d_Mo_pour_80 : decode b_Mo_pour 80 = .ok (.iload_n 3, 1) := by decide +kernel
theorem d_Mo_pour_81 : decode b_Mo_pour 81 = .ok (.iadd, 1) := by decide +kernel
theorem d_Mo_pour_82 : decode b_Mo_pour 82 = .ok (.caload, 1) := by decide +kernel
theorem d_Mo_pour_83 : decode b_Mo_pour 83 = .ok (.castore, 1) := by decide +kernel
theorem d_Mo_pour_84 : decode b_Mo_pour 84 = .ok (.iinc 3 1, 3) := by decide +kernel
theorem d_Mo_pour_87 : decode b_Mo_pour 87 = .ok (.goto (-48), 3) := by decide +kernel
theorem d_Mo_pour_90 : decode b_Mo_pour 90 = .ok (.iload_n 2, 1) := by decide +kernel
theorem d_Mo_pour_91 : decode b_Mo_pour 91 = .ok (.ifCond .lt 18, 3) := by decide +kernel
theorem d_Mo_pour_94 : decode b_Mo_pour 94 = .ok (.aload_n 0, 1) := by decide +kernel
theorem d_Mo_pour_95 : decode b_Mo_pour 95 = .ok (.getfield 66, 3) := by decide +kernel
theorem d_Mo_pour_98 : decode b_Mo_pour 98 = .ok (.iload_n 2, 1) := by decide +kernel
theorem d_Mo_pour_99 : decode b_Mo_pour 99 = .ok (.dup2, 1) := by decide +kernel
theorem d_Mo_pour_100 : decode b_Mo_pour 100 = .ok (.iaload, 1) := by decide +kernel
theorem d_Mo_pour_101 : decode b_Mo_pour 101 = .ok (.aload_n 0, 1) := by decide +kernel
theorem d_Mo_pour_102 : decode b_Mo_pour 102 = .ok (.getfield 66, 3) := by decide +kernel
theorem d_Mo_pour_105 : decode b_Mo_pour 105 = .ok (.iload_n 1, 1) := by decide +kernel
theorem d_Mo_pour_106 : decode b_Mo_pour 106 = .ok (.iaload, 1) := by decide +kernel
theorem d_Mo_pour_107 : decode b_Mo_pour 107 = .ok (.iadd, 1) := by decide +kernel
theorem d_Mo_pour_108 : decode b_Mo_pour 108 = .ok (.iastore, 1) := by decide +kernel
theorem d_Mo_pour_109 : decode b_Mo_pour 109 = .ok (.aload_n 0, 1) := by decide +kernel
theorem d_Mo_pour_110 : decode b_Mo_pour 110 = .ok (.getfield 66, 3) := by decide +kernel
theorem d_Mo_pour_113 : decode b_Mo_pour 113 = .ok (.iload_n 1, 1) := by decide +kernel
theorem d_Mo_pour_114 : decode b_Mo_pour 114 = .ok (.iconst 0, 1) := by decide +kernel
theorem d_Mo_pour_115 : decode b_Mo_pour 115 = .ok (.iastore, 1) := by decide +kernel
theorem d_Mo_pour_116 : decode b_Mo_pour 116 = .ok (.return_, 1) := by decide +kernel
theorem q_Mo_pour : aw_q1 y_Mo_pour b_Mo_pour 4 none 2 := ⟨k_1143, k_79, ⟨by decide, by decide, by decide +kernel⟩, by decide⟩
def y_Mo_gather : MethodName := ⟨"RescanDeskModel", "gather", "(C)V"⟩
abbrev b_Mo_gather : ByteArray := prog_14_method_22_code
theorem d_Mo_gather_0 : decode b_Mo_gather 0 = .ok (.aload_n 0, 1) := by decide +kernel
theorem d_Mo_gather_1 : decode b_Mo_gather 1 = .ok (.getfield 137, 3) := by decide +kernel
theorem d_Mo_gather_4 : decode b_Mo_gather 4 = .ok (.iconst 1, 1) := by decide +kernel
theorem d_Mo_gather_5 : decode b_Mo_gather 5 = .ok (.isub, 1) := by decide +kernel
theorem d_Mo_gather_6 : decode b_Mo_gather 6 = .ok (.istore_n 2, 1) := by decide +kernel
theorem d_Mo_gather_7 : decode b_Mo_gather 7 = .ok (.aload_n 0, 1) := by decide +kernel
theorem d_Mo_gather_8 : decode b_Mo_gather 8 = .ok (.dup, 1) := by decide +kernel
theorem d_Mo_gather_9 : decode b_Mo_gather 9 = .ok (.getfield 150, 3) := by decide +kernel
theorem d_Mo_gather_12 : decode b_Mo_gather 12 = .ok (.iconst 1, 1) := by decide +kernel
theorem d_Mo_gather_13 : decode b_Mo_gather 13 = .ok (.isub, 1) := by decide +kernel
theorem d_Mo_gather_14 : decode b_Mo_gather 14 = .ok (.putfield 150, 3) := by decide +kernel
theorem d_Mo_gather_17 : decode b_Mo_gather 17 = .ok (.iload_n 1, 1) := by decide +kernel
theorem d_Mo_gather_18 : decode b_Mo_gather 18 = .ok (.bipush 41, 2) := by decide +kernel
theorem d_Mo_gather_20 : decode b_Mo_gather 20 = .ok (.if_icmp .ne 16, 3) := by decide +kernel
theorem d_Mo_gather_23 : decode b_Mo_gather 23 = .ok (.aload_n 0, 1) := by decide +kernel
theorem d_Mo_gather_24 : decode b_Mo_gather 24 = .ok (.getfield 53, 3) := by decide +kernel
theorem d_Mo_gather_27 : decode b_Mo_gather 27 = .ok (.iload_n 2, 1) := by decide +kernel
theorem d_Mo_gather_28 : decode b_Mo_gather 28 = .ok (.iaload, 1) := by decide +kernel
theorem d_Mo_gather_29 : decode b_Mo_gather 29 = .ok (.ifCond .ne 7, 3) := by decide +kernel
theorem d_Mo_gather_32 : decode b_Mo_gather 32 = .ok (.iconst 1, 1) := by decide +kernel
theorem d_Mo_gather_33 : decode b_Mo_gather 33 = .ok (.goto 4, 3) := by decide +kernel
theorem d_Mo_gather_36 : decode b_Mo_gather 36 = .ok (.iconst 0, 1) := by decide +kernel
theorem d_Mo_gather_37 : decode b_Mo_gather 37 = .ok (.istore_n 3, 1) := by decide +kernel
theorem d_Mo_gather_38 : decode b_Mo_gather 38 = .ok (.iload_n 3, 1) := by decide +kernel
theorem d_Mo_gather_39 : decode b_Mo_gather 39 = .ok (.ifCond .eq 10, 3) := by decide +kernel
theorem d_Mo_gather_42 : decode b_Mo_gather 42 = .ok (.aload_n 0, 1) := by decide +kernel
theorem d_Mo_gather_43 : decode b_Mo_gather 43 = .ok (.invokevirtual 204, 3) := by decide +kernel
theorem d_Mo_gather_46 : decode b_Mo_gather 46 = .ok (.goto 138, 3) := by decide +kernel
theorem d_Mo_gather_49 : decode b_Mo_gather 49 = .ok (.iload_n 1, 1) := by decide +kernel
theorem d_Mo_gather_50 : decode b_Mo_gather 50 = .ok (.bipush 44, 2) := by decide +kernel
theorem d_Mo_gather_52 : decode b_Mo_gather 52 = .ok (.if_icmp .ne 69, 3) := by decide +kernel
theorem d_Mo_gather_55 : decode b_Mo_gather 55 = .ok (.aload_n 0, 1) := by decide +kernel
theorem d_Mo_gather_56 : decode b_Mo_gather 56 = .ok (.getfield 53, 3) := by decide +kernel
theorem d_Mo_gather_59 : decode b_Mo_gather 59 = .ok (.iload_n 2, 1) := by decide +kernel
theorem d_Mo_gather_60 : decode b_Mo_gather 60 = .ok (.iaload, 1) := by decide +kernel
theorem d_Mo_gather_61 : decode b_Mo_gather 61 = .ok (.ifCond .ne 60, 3) := by decide +kernel
theorem d_Mo_gather_64 : decode b_Mo_gather 64 = .ok (.aload_n 0, 1) := by decide +kernel
theorem d_Mo_gather_65 : decode b_Mo_gather 65 = .ok (.getfield 47, 3) := by decide +kernel
theorem d_Mo_gather_68 : decode b_Mo_gather 68 = .ok (.iload_n 2, 1) := by decide +kernel
theorem d_Mo_gather_69 : decode b_Mo_gather 69 = .ok (.iaload, 1) := by decide +kernel
theorem d_Mo_gather_70 : decode b_Mo_gather 70 = .ok (.bipush 9, 2) := by decide +kernel
theorem d_Mo_gather_72 : decode b_Mo_gather 72 = .ok (.if_icmp .ne 9, 3) := by decide +kernel
theorem d_Mo_gather_75 : decode b_Mo_gather 75 = .ok (.aload_n 0, 1) := by decide +kernel
theorem d_Mo_gather_76 : decode b_Mo_gather 76 = .ok (.iconst 2, 1) := by decide +kernel
theorem d_Mo_gather_77 : decode b_Mo_gather 77 = .ok (.invokevirtual 143, 3) := by decide +kernel
theorem d_Mo_gather_80 : decode b_Mo_gather 80 = .ok (.return_, 1) := by decide +kernel
theorem d_Mo_gather_81 : decode b_Mo_gather 81 = .ok (.aload_n 0, 1) := by decide +kernel
theorem d_Mo_gather_82 : decode b_Mo_gather 82 = .ok (.getfield 50, 3) := by decide +kernel
theorem d_Mo_gather_85 : decode b_Mo_gather 85 = .ok (.bipush 11, 2) := by decide +kernel
theorem d_Mo_gather_87 : decode b_Mo_gather 87 = .ok (.iload_n 2, 1) := by decide +kernel
theorem d_Mo_gather_88 : decode b_Mo_gather 88 = .ok (.imul, 1) := by decide +kernel
theorem d_Mo_gather_89 : decode b_Mo_gather 89 = .ok (.aload_n 0, 1) := by decide +kernel
theorem d_Mo_gather_90 : decode b_Mo_gather 90 = .ok (.getfield 47, 3) := by decide +kernel
theorem d_Mo_gather_93 : decode b_Mo_gather 93 = .ok (.iload_n 2, 1) := by decide +kernel
theorem d_Mo_gather_94 : decode b_Mo_gather 94 = .ok (.iaload, 1) := by decide +kernel
theorem d_Mo_gather_95 : decode b_Mo_gather 95 = .ok (.iadd, 1) := by decide +kernel
theorem d_Mo_gather_96 : decode b_Mo_gather 96 = .ok (.aload_n 0, 1) := by decide +kernel
theorem d_Mo_gather_97 : decode b_Mo_gather 97 = .ok (.getfield 140, 3) := by decide +kernel
theorem d_Mo_gather_100 : decode b_Mo_gather 100 = .ok (.iastore, 1) := by decide +kernel
theorem d_Mo_gather_101 : decode b_Mo_gather 101 = .ok (.aload_n 0, 1) := by decide +kernel
theorem d_Mo_gather_102 : decode b_Mo_gather 102 = .ok (.getfield 47, 3) := by decide +kernel
theorem d_Mo_gather_105 : decode b_Mo_gather 105 = .ok (.iload_n 2, 1) := by decide +kernel
theorem d_Mo_gather_106 : decode b_Mo_gather 106 = .ok (.dup2, 1) := by decide +kernel
theorem d_Mo_gather_107 : decode b_Mo_gather 107 = .ok (.iaload, 1) := by decide +kernel
theorem d_Mo_gather_108 : decode b_Mo_gather 108 = .ok (.iconst 1, 1) := by decide +kernel
theorem d_Mo_gather_109 : decode b_Mo_gather 109 = .ok (.iadd, 1) := by decide +kernel
theorem d_Mo_gather_110 : decode b_Mo_gather 110 = .ok (.iastore, 1) := by decide +kernel
theorem d_Mo_gather_111 : decode b_Mo_gather 111 = .ok (.aload_n 0, 1) := by decide +kernel
theorem d_Mo_gather_112 : decode b_Mo_gather 112 = .ok (.getfield 56, 3) := by decide +kernel
theorem d_Mo_gather_115 : decode b_Mo_gather 115 = .ok (.iload_n 2, 1) := by decide +kernel
theorem d_Mo_gather_116 : decode b_Mo_gather 116 = .ok (.iconst 0, 1) := by decide +kernel
theorem d_Mo_gather_117 : decode b_Mo_gather 117 = .ok (.bastore, 1) := by decide +kernel
theorem d_Mo_gather_118 : decode b_Mo_gather 118 = .ok (.goto 66, 3) := by decide +kernel
theorem d_Mo_gather_121 : decode b_Mo_gather 121 = .ok (.iload_n 1, 1) := by decide +kernel
theorem d_Mo_gather_122 : decode b_Mo_gather 122 = .ok (.bipush 32, 2) := by decide +kernel
theorem d_Mo_gather_124 : decode b_Mo_gather 124 = .ok (.if_icmp .eq 9, 3) := by decide +kernel
theorem d_Mo_gather_127 : decode b_Mo_gather 127 = .ok (.iload_n 1, 1) := by decide +kernel
theorem d_Mo_gather_128 : decode b_Mo_gather 128 = .ok (.bipush 10, 2) := by decide +kernel
theorem d_Mo_gather_130 : decode b_Mo_gather 130 = .ok (.if_icmp .ne 12, 3) := by decide +kernel
theorem d_Mo_gather_133 : decode b_Mo_gather 133 = .ok (.aload_n 0, 1) := by decide +kernel
theorem d_Mo_gather_134 : decode b_Mo_gather 134 = .ok (.getfield 56, 3) := by decide +kernel
theorem d_Mo_gather_137 : decode b_Mo_gather 137 = .ok (.iload_n 2, 1) := by decide +kernel
theorem d_Mo_gather_138 : decode b_Mo_gather 138 = .ok (.baload, 1) := by decide +kernel
theorem d_Mo_gather_139 : decode b_Mo_gather 139 = .ok (.ifCond .eq 45, 3) := by decide +kernel
theorem d_Mo_gather_142 : decode b_Mo_gather 142 = .ok (.aload_n 0, 1) := by decide +kernel
theorem d_Mo_gather_143 : decode b_Mo_gather 143 = .ok (.getfield 53, 3) := by decide +kernel
theorem d_Mo_gather_146 : decode b_Mo_gather 146 = .ok (.iload_n 2, 1) := by decide +kernel
theorem d_Mo_gather_147 : decode b_Mo_gather 147 = .ok (.dup2, 1) := by decide +kernel
theorem d_Mo_gather_148 : decode b_Mo_gather 148 = .ok (.iaload, 1) := by decide +kernel
theorem d_Mo_gather_149 : decode b_Mo_gather 149 = .ok (.iload_n 1, 1) := by decide +kernel
theorem d_Mo_gather_150 : decode b_Mo_gather 150 = .ok (.bipush 40, 2) := by decide +kernel
theorem d_Mo_gather_152 : decode b_Mo_gather 152 = .ok (.if_icmp .ne 7, 3) := by decide +kernel
theorem d_Mo_gather_155 : decode b_Mo_gather 155 = .ok (.iconst 1, 1) := by decide +kernel
theorem d_Mo_gather_156 : decode b_Mo_gather 156 = .ok (.goto 14, 3) := by decide +kernel
theorem d_Mo_gather_159 : decode b_Mo_gather 159 = .ok (.iload_n 1, 1) := by decide +kernel
theorem d_Mo_gather_160 : decode b_Mo_gather 160 = .ok (.bipush 41, 2) := by decide +kernel
theorem d_Mo_gather_162 : decode b_Mo_gather 162 = .ok (.if_icmp .ne 7, 3) := by decide +kernel
theorem d_Mo_gather_165 : decode b_Mo_gather 165 = .ok (.iconst (-1), 1) := by decide +kernel
theorem d_Mo_gather_166 : decode b_Mo_gather 166 = .ok (.goto 4, 3) := by decide +kernel
theorem d_Mo_gather_169 : decode b_Mo_gather 169 = .ok (.iconst 0, 1) := by decide +kernel
theorem d_Mo_gather_170 : decode b_Mo_gather 170 = .ok (.iadd, 1) := by decide +kernel
theorem d_Mo_gather_171 : decode b_Mo_gather 171 = .ok (.iastore, 1) := by decide +kernel
theorem d_Mo_gather_172 : decode b_Mo_gather 172 = .ok (.aload_n 0, 1) := by decide +kernel
theorem d_Mo_gather_173 : decode b_Mo_gather 173 = .ok (.getfield 56, 3) := by decide +kernel
theorem d_Mo_gather_176 : decode b_Mo_gather 176 = .ok (.iload_n 2, 1) := by decide +kernel
theorem d_Mo_gather_177 : decode b_Mo_gather 177 = .ok (.iconst 1, 1) := by decide +kernel
theorem d_Mo_gather_178 : decode b_Mo_gather 178 = .ok (.bastore, 1) := by decide +kernel
theorem d_Mo_gather_179 : decode b_Mo_gather 179 = .ok (.aload_n 0, 1) := by decide +kernel
theorem d_Mo_gather_180 : decode b_Mo_gather 180 = .ok (.iload_n 1, 1) := by decide +kernel
theorem d_Mo_gather_181 : decode b_Mo_gather 181 = .ok (.invokevirtual 188, 3) := by decide +kernel
theorem d_Mo_gather_184 : decode b_Mo_gather 184 = .ok (.return_, 1) := by decide +kernel
theorem q_Mo_gather : aw_q1 y_Mo_gather b_Mo_gather 4 none 1 := ⟨k_1147, k_79, ⟨by decide, by decide, by decide +kernel⟩, by decide⟩
def y_Mo_close : MethodName := ⟨"RescanDeskModel", "close", "()V"⟩
abbrev b_Mo_close : ByteArray := prog_14_method_23_code
theorem d_Mo_close_0 : decode b_Mo_close 0 = .ok (.aload_n 0, 1) := by decide +kernel
theorem d_Mo_close_1 : decode b_Mo_close 1 = .ok (.dup, 1) := by decide +kernel
theorem d_Mo_close_2 : decode b_Mo_close 2 = .ok (.getfield 137, 3) := by decide +kernel
theorem d_Mo_close_5 : decode b_Mo_close 5 = .ok (.iconst 1, 1) := by decide +kernel
theorem d_Mo_close_6 : decode b_Mo_close 6 = .ok (.isub, 1) := by decide +kernel
theorem d_Mo_close_7 : decode b_Mo_close 7 = .ok (.putfield 137, 3) := by decide +kernel
theorem d_Mo_close_10 : decode b_Mo_close 10 = .ok (.iconst 0, 1) := by decide +kernel
theorem d_Mo_close_11 : decode b_Mo_close 11 = .ok (.istore_n 1, 1) := by decide +kernel
theorem d_Mo_close_12 : decode b_Mo_close 12 = .ok (.iload_n 1, 1) := by decide +kernel
theorem d_Mo_close_13 : decode b_Mo_close 13 = .ok (.bipush 12, 2) := by decide +kernel
theorem d_Mo_close_15 : decode b_Mo_close 15 = .ok (.if_icmp .ge 33, 3) := by decide +kernel
theorem d_Mo_close_18 : decode b_Mo_close 18 = .ok (.aload_n 0, 1) := by decide +kernel
theorem d_Mo_close_19 : decode b_Mo_close 19 = .ok (.getfield 32, 3) := by decide +kernel
theorem d_Mo_close_22 : decode b_Mo_close 22 = .ok (.sipush 144, 3) := by decide +kernel
theorem d_Mo_close_25 : decode b_Mo_close 25 = .ok (.iload_n 1, 1) := by decide +kernel
theorem d_Mo_close_26 : decode b_Mo_close 26 = .ok (.iadd, 1) := by decide +kernel
theorem d_Mo_close_27 : decode b_Mo_close 27 = .ok (.aload_n 0, 1) := by decide +kernel
theorem d_Mo_close_28 : decode b_Mo_close 28 = .ok (.getfield 32, 3) := by decide +kernel
theorem d_Mo_close_31 : decode b_Mo_close 31 = .ok (.bipush 12, 2) := by decide +kernel
theorem d_Mo_close_33 : decode b_Mo_close 33 = .ok (.aload_n 0, 1) := by decide +kernel
theorem d_Mo_close_34 : decode b_Mo_close 34 = .ok (.getfield 137, 3) := by decide +kernel
theorem d_Mo_close_37 : decode b_Mo_close 37 = .ok (.imul, 1) := by decide +kernel
theorem d_Mo_close_38 : decode b_Mo_close 38 = .ok (.iload_n 1, 1) := by decide +kernel
theorem d_Mo_close_39 : decode b_Mo_close 39 = .ok (.iadd, 1) := by decide +kernel
theorem d_Mo_close_40 : decode b_Mo_close 40 = .ok (.caload, 1) := by decide +kernel
theorem d_Mo_close_41 : decode b_Mo_close 41 = .ok (.castore, 1) := by decide +kernel
theorem d_Mo_close_42 : decode b_Mo_close 42 = .ok (.iinc 1 1, 3) := by decide +kernel
theorem d_Mo_close_45 : decode b_Mo_close 45 = .ok (.goto (-33), 3) := by decide +kernel
theorem d_Mo_close_48 : decode b_Mo_close 48 = .ok (.aload_n 0, 1) := by decide +kernel
theorem d_Mo_close_49 : decode b_Mo_close 49 = .ok (.getfield 35, 3) := by decide +kernel
theorem d_Mo_close_52 : decode b_Mo_close 52 = .ok (.bipush 12, 2) := by decide +kernel
theorem d_Mo_close_54 : decode b_Mo_close 54 = .ok (.aload_n 0, 1) := by decide +kernel
theorem d_Mo_close_55 : decode b_Mo_close 55 = .ok (.getfield 35, 3) := by decide +kernel
theorem d_Mo_close_58 : decode b_Mo_close 58 = .ok (.aload_n 0, 1) := by decide +kernel
theorem d_Mo_close_59 : decode b_Mo_close 59 = .ok (.getfield 137, 3) := by decide +kernel
theorem d_Mo_close_62 : decode b_Mo_close 62 = .ok (.iaload, 1) := by decide +kernel
theorem d_Mo_close_63 : decode b_Mo_close 63 = .ok (.iastore, 1) := by decide +kernel
theorem d_Mo_close_64 : decode b_Mo_close 64 = .ok (.aload_n 0, 1) := by decide +kernel
theorem d_Mo_close_65 : decode b_Mo_close 65 = .ok (.getfield 38, 3) := by decide +kernel
theorem d_Mo_close_68 : decode b_Mo_close 68 = .ok (.bipush 12, 2) := by decide +kernel
theorem d_Mo_close_70 : decode b_Mo_close 70 = .ok (.aload_n 0, 1) := by decide +kernel
theorem d_Mo_close_71 : decode b_Mo_close 71 = .ok (.getfield 38, 3) := by decide +kernel
theorem d_Mo_close_74 : decode b_Mo_close 74 = .ok (.aload_n 0, 1) := by decide +kernel
theorem d_Mo_close_75 : decode b_Mo_close 75 = .ok (.getfield 137, 3) := by decide +kernel
theorem d_Mo_close_78 : decode b_Mo_close 78 = .ok (.iaload, 1) := by decide +kernel
theorem d_Mo_close_79 : decode b_Mo_close 79 = .ok (.iastore, 1) := by decide +kernel
theorem d_Mo_close_80 : decode b_Mo_close 80 = .ok (.iconst 0, 1) := by decide +kernel
theorem d_Mo_close_81 : decode b_Mo_close 81 = .ok (.istore_n 1, 1) := by decide +kernel
theorem d_Mo_close_82 : decode b_Mo_close 82 = .ok (.iload_n 1, 1) := by decide +kernel
theorem d_Mo_close_83 : decode b_Mo_close 83 = .ok (.aload_n 0, 1) := by decide +kernel
theorem d_Mo_close_84 : decode b_Mo_close 84 = .ok (.getfield 44, 3) := by decide +kernel
theorem d_Mo_close_87 : decode b_Mo_close 87 = .ok (.aload_n 0, 1) := by decide +kernel
theorem d_Mo_close_88 : decode b_Mo_close 88 = .ok (.getfield 137, 3) := by decide +kernel
theorem d_Mo_close_91 : decode b_Mo_close 91 = .ok (.iaload, 1) := by decide +kernel
theorem d_Mo_close_92 : decode b_Mo_close 92 = .ok (.if_icmp .ge 33, 3) := by decide +kernel
theorem d_Mo_close_95 : decode b_Mo_close 95 = .ok (.aload_n 0, 1) := by decide +kernel
theorem d_Mo_close_96 : decode b_Mo_close 96 = .ok (.getfield 41, 3) := by decide +kernel
theorem d_Mo_close_99 : decode b_Mo_close 99 = .ok (.sipush 1200, 3) := by decide +kernel
theorem d_Mo_close_102 : decode b_Mo_close 102 = .ok (.iload_n 1, 1) := by decide +kernel
theorem d_Mo_close_103 : decode b_Mo_close 103 = .ok (.iadd, 1) := by decide +kernel
theorem d_Mo_close_104 : decode b_Mo_close 104 = .ok (.aload_n 0, 1) := by decide +kernel
theorem d_Mo_close_105 : decode b_Mo_close 105 = .ok (.getfield 41, 3) := by decide +kernel
theorem d_Mo_close_108 : decode b_Mo_close 108 = .ok (.bipush 100, 2) := by decide +kernel
theorem d_Mo_close_110 : decode b_Mo_close 110 = .ok (.aload_n 0, 1) := by decide +kernel
theorem d_Mo_close_111 : decode b_Mo_close 111 = .ok (.getfield 137, 3) := by decide +kernel
theorem d_Mo_close_114 : decode b_Mo_close 114 = .ok (.imul, 1) := by decide +kernel
theorem d_Mo_close_115 : decode b_Mo_close 115 = .ok (.iload_n 1, 1) := by decide +kernel
theorem d_Mo_close_116 : decode b_Mo_close 116 = .ok (.iadd, 1) := by decide +kernel
theorem d_Mo_close_117 : decode b_Mo_close 117 = .ok (.caload, 1) := by decide +kernel
theorem d_Mo_close_118 : decode b_Mo_close 118 = .ok (.castore, 1) := by decide +kernel
theorem d_Mo_close_119 : decode b_Mo_close 119 = .ok (.iinc 1 1, 3) := by decide +kernel
theorem d_Mo_close_122 : decode b_Mo_close 122 = .ok (.goto (-40), 3) := by decide +kernel
theorem d_Mo_close_125 : decode b_Mo_close 125 = .ok (.aload_n 0, 1) := by decide +kernel
theorem d_Mo_close_126 : decode b_Mo_close 126 = .ok (.getfield 44, 3) := by decide +kernel
theorem d_Mo_close_129 : decode b_Mo_close 129 = .ok (.bipush 12, 2) := by decide +kernel
theorem d_Mo_close_131 : decode b_Mo_close 131 = .ok (.aload_n 0, 1) := by decide +kernel
theorem d_Mo_close_132 : decode b_Mo_close 132 = .ok (.getfield 44, 3) := by decide +kernel
theorem d_Mo_close_135 : decode b_Mo_close 135 = .ok (.aload_n 0, 1) := by decide +kernel
theorem d_Mo_close_136 : decode b_Mo_close 136 = .ok (.getfield 137, 3) := by decide +kernel
theorem d_Mo_close_139 : decode b_Mo_close 139 = .ok (.iaload, 1) := by decide +kernel
theorem d_Mo_close_140 : decode b_Mo_close 140 = .ok (.iastore, 1) := by decide +kernel
theorem d_Mo_close_141 : decode b_Mo_close 141 = .ok (.aload_n 0, 1) := by decide +kernel
theorem d_Mo_close_142 : decode b_Mo_close 142 = .ok (.getfield 47, 3) := by decide +kernel
theorem d_Mo_close_145 : decode b_Mo_close 145 = .ok (.bipush 12, 2) := by decide +kernel
theorem d_Mo_close_147 : decode b_Mo_close 147 = .ok (.aload_n 0, 1) := by decide +kernel
theorem d_Mo_close_148 : decode b_Mo_close 148 = .ok (.getfield 47, 3) := by decide +kernel
theorem d_Mo_close_151 : decode b_Mo_close 151 = .ok (.aload_n 0, 1) := by decide +kernel
theorem d_Mo_close_152 : decode b_Mo_close 152 = .ok (.getfield 137, 3) := by decide +kernel
theorem d_Mo_close_155 : decode b_Mo_close 155 = .ok (.iaload, 1) := by decide +kernel
theorem d_Mo_close_156 : decode b_Mo_close 156 = .ok (.iastore, 1) := by decide +kernel
theorem d_Mo_close_157 : decode b_Mo_close 157 = .ok (.iconst 0, 1) := by decide +kernel
theorem d_Mo_close_158 : decode b_Mo_close 158 = .ok (.istore_n 1, 1) := by decide +kernel
theorem d_Mo_close_159 : decode b_Mo_close 159 = .ok (.iload_n 1, 1) := by decide +kernel
theorem d_Mo_close_160 : decode b_Mo_close 160 = .ok (.aload_n 0, 1) := by decide +kernel
theorem d_Mo_close_161 : decode b_Mo_close 161 = .ok (.getfield 47, 3) := by decide +kernel
theorem d_Mo_close_164 : decode b_Mo_close 164 = .ok (.aload_n 0, 1) := by decide +kernel
theorem d_Mo_close_165 : decode b_Mo_close 165 = .ok (.getfield 137, 3) := by decide +kernel
theorem d_Mo_close_168 : decode b_Mo_close 168 = .ok (.iaload, 1) := by decide +kernel
theorem d_Mo_close_169 : decode b_Mo_close 169 = .ok (.if_icmp .ge 33, 3) := by decide +kernel
theorem d_Mo_close_172 : decode b_Mo_close 172 = .ok (.aload_n 0, 1) := by decide +kernel
theorem d_Mo_close_173 : decode b_Mo_close 173 = .ok (.getfield 50, 3) := by decide +kernel
theorem d_Mo_close_176 : decode b_Mo_close 176 = .ok (.sipush 132, 3) := by decide +kernel
theorem d_Mo_close_179 : decode b_Mo_close 179 = .ok (.iload_n 1, 1) := by decide +kernel
theorem d_Mo_close_180 : decode b_Mo_close 180 = .ok (.iadd, 1) := by decide +kernel
theorem d_Mo_close_181 : decode b_Mo_close 181 = .ok (.aload_n 0, 1) := by decide +kernel
theorem d_Mo_close_182 : decode b_Mo_close 182 = .ok (.getfield 50, 3) := by decide +kernel
theorem d_Mo_close_185 : decode b_Mo_close 185 = .ok (.bipush 11, 2) := by decide +kernel
theorem d_Mo_close_187 : decode b_Mo_close 187 = .ok (.aload_n 0, 1) := by decide +kernel
theorem d_Mo_close_188 : decode b_Mo_close 188 = .ok (.getfield 137, 3) := by decide +kernel
theorem d_Mo_close_191 : decode b_Mo_close 191 = .ok (.imul, 1) := by decide +kernel
theorem d_Mo_close_192 : decode b_Mo_close 192 = .ok (.iload_n 1, 1) := by decide +kernel
theorem d_Mo_close_193 : decode b_Mo_close 193 = .ok (.iadd, 1) := by decide +kernel
theorem d_Mo_close_194 : decode b_Mo_close 194 = .ok (.iaload, 1) := by decide +kernel
theorem d_Mo_close_195 : decode b_Mo_close 195 = .ok (.iastore, 1) := by decide +kernel
theorem d_Mo_close_196 : decode b_Mo_close 196 = .ok (.iinc 1 1, 3) := by decide +kernel
theorem d_Mo_close_199 : decode b_Mo_close 199 = .ok (.goto (-40), 3) := by decide +kernel
theorem d_Mo_close_202 : decode b_Mo_close 202 = .ok (.aload_n 0, 1) := by decide +kernel
theorem d_Mo_close_203 : decode b_Mo_close 203 = .ok (.getfield 50, 3) := by decide +kernel
theorem d_Mo_close_206 : decode b_Mo_close 206 = .ok (.sipush 132, 3) := by decide +kernel
theorem d_Mo_close_209 : decode b_Mo_close 209 = .ok (.aload_n 0, 1) := by decide +kernel
theorem d_Mo_close_210 : decode b_Mo_close 210 = .ok (.getfield 47, 3) := by decide +kernel
theorem d_Mo_close_213 : decode b_Mo_close 213 = .ok (.aload_n 0, 1) := by decide +kernel
theorem d_Mo_close_214 : decode b_Mo_close 214 = .ok (.getfield 137, 3) := by decide +kernel
theorem d_Mo_close_217 : decode b_Mo_close 217 = .ok (.iaload, 1) := by decide +kernel
theorem d_Mo_close_218 : decode b_Mo_close 218 = .ok (.iadd, 1) := by decide +kernel
theorem d_Mo_close_219 : decode b_Mo_close 219 = .ok (.aload_n 0, 1) := by decide +kernel
theorem d_Mo_close_220 : decode b_Mo_close 220 = .ok (.getfield 140, 3) := by decide +kernel
theorem d_Mo_close_223 : decode b_Mo_close 223 = .ok (.iastore, 1) := by decide +kernel
theorem d_Mo_close_224 : decode b_Mo_close 224 = .ok (.aload_n 0, 1) := by decide +kernel
theorem d_Mo_close_225 : decode b_Mo_close 225 = .ok (.aload_n 0, 1) := by decide +kernel
theorem d_Mo_close_226 : decode b_Mo_close 226 = .ok (.getfield 50, 3) := by decide +kernel
theorem d_Mo_close_229 : decode b_Mo_close 229 = .ok (.sipush 132, 3) := by decide +kernel
theorem d_Mo_close_232 : decode b_Mo_close 232 = .ok (.iaload, 1) := by decide +kernel
theorem d_Mo_close_233 : decode b_Mo_close 233 = .ok (.putfield 140, 3) := by decide +kernel
theorem d_Mo_close_236 : decode b_Mo_close 236 = .ok (.aload_n 0, 1) := by decide +kernel
theorem d_Mo_close_237 : decode b_Mo_close 237 = .ok (.invokevirtual 201, 3) := by decide +kernel
theorem d_Mo_close_240 : decode b_Mo_close 240 = .ok (.return_, 1) := by decide +kernel
theorem q_Mo_close : aw_q1 y_Mo_close b_Mo_close 2 none 0 := ⟨k_1151, k_79, ⟨by decide, by decide, by decide +kernel⟩, by decide⟩
def y_Mo_count : MethodName := ⟨"RescanDeskModel", "count", "(I)I"⟩
abbrev b_Mo_count : ByteArray := prog_14_method_48_code
theorem d_Mo_count_0 : decode b_Mo_count 0 = .ok (.aload_n 0, 1) := by decide +kernel
theorem d_Mo_count_1 : decode b_Mo_count 1 = .ok (.iconst 0, 1) := by decide +kernel
theorem d_Mo_count_2 : decode b_Mo_count 2 = .ok (.putfield 124, 3) := by decide +kernel
theorem d_Mo_count_5 : decode b_Mo_count 5 = .ok (.iload_n 1, 1) := by decide +kernel
theorem d_Mo_count_6 : decode b_Mo_count 6 = .ok (.iconst 0, 1) := by decide +kernel
theorem d_Mo_count_7 : decode b_Mo_count 7 = .ok (.iconst 3, 1) := by decide +kernel
theorem d_Mo_count_8 : decode b_Mo_count 8 = .ok (.invokestatic 133, 3) := by decide +kernel
theorem d_Mo_count_11 : decode b_Mo_count 11 = .ok (.ifCond .eq 10, 3) := by decide +kernel
theorem d_Mo_count_14 : decode b_Mo_count 14 = .ok (.aload_n 0, 1) := by decide +kernel
theorem d_Mo_count_15 : decode b_Mo_count 15 = .ok (.getfield 66, 3) := by decide +kernel
theorem d_Mo_count_18 : decode b_Mo_count 18 = .ok (.iload_n 1, 1) := by decide +kernel
theorem d_Mo_count_19 : decode b_Mo_count 19 = .ok (.iaload, 1) := by decide +kernel
theorem d_Mo_count_20 : decode b_Mo_count 20 = .ok (.ireturn, 1) := by decide +kernel
theorem d_Mo_count_21 : decode b_Mo_count 21 = .ok (.iload_n 1, 1) := by decide +kernel
theorem d_Mo_count_22 : decode b_Mo_count 22 = .ok (.iconst 4, 1) := by decide +kernel
theorem d_Mo_count_23 : decode b_Mo_count 23 = .ok (.if_icmp .ne 10, 3) := by decide +kernel
theorem d_Mo_count_26 : decode b_Mo_count 26 = .ok (.aload_n 0, 1) := by decide +kernel
theorem d_Mo_count_27 : decode b_Mo_count 27 = .ok (.getfield 118, 3) := by decide +kernel
theorem d_Mo_count_30 : decode b_Mo_count 30 = .ok (.goto 68, 3) := by decide +kernel
theorem d_Mo_count_33 : decode b_Mo_count 33 = .ok (.iload_n 1, 1) := by decide +kernel
theorem d_Mo_count_34 : decode b_Mo_count 34 = .ok (.iconst 5, 1) := by decide +kernel
theorem d_Mo_count_35 : decode b_Mo_count 35 = .ok (.if_icmp .ne 10, 3) := by decide +kernel
theorem d_Mo_count_38 : decode b_Mo_count 38 = .ok (.aload_n 0, 1) := by decide +kernel
theorem d_Mo_count_39 : decode b_Mo_count 39 = .ok (.invokevirtual 303, 3) := by decide +kernel
theorem d_Mo_count_42 : decode b_Mo_count 42 = .ok (.goto 56, 3) := by decide +kernel
theorem d_Mo_count_45 : decode b_Mo_count 45 = .ok (.iload_n 1, 1) := by decide +kernel
theorem d_Mo_count_46 : decode b_Mo_count 46 = .ok (.bipush 6, 2) := by decide +kernel
theorem d_Mo_count_48 : decode b_Mo_count 48 = .ok (.if_icmp .ne 10, 3) := by decide +kernel
theorem d_Mo_count_51 : decode b_Mo_count 51 = .ok (.aload_n 0, 1) := by decide +kernel
theorem d_Mo_count_52 : decode b_Mo_count 52 = .ok (.getfield 157, 3) := by decide +kernel
theorem d_Mo_count_55 : decode b_Mo_count 55 = .ok (.goto 43, 3) := by decide +kernel
theorem d_Mo_count_58 : decode b_Mo_count 58 = .ok (.iload_n 1, 1) := by decide +kernel
theorem d_Mo_count_59 : decode b_Mo_count 59 = .ok (.bipush 7, 2) := by decide +kernel
theorem d_Mo_count_61 : decode b_Mo_count 61 = .ok (.if_icmp .ne 10, 3) := by decide +kernel
theorem d_Mo_count_64 : decode b_Mo_count 64 = .ok (.aload_n 0, 1) := by decide +kernel
theorem d_Mo_count_65 : decode b_Mo_count 65 = .ok (.getfield 160, 3) := by decide +kernel
theorem d_Mo_count_68 : decode b_Mo_count 68 = .ok (.goto 30, 3) := by decide +kernel
theorem d_Mo_count_71 : decode b_Mo_count 71 = .ok (.iload_n 1, 1) := by decide +kernel
theorem d_Mo_count_72 : decode b_Mo_count 72 = .ok (.bipush 8, 2) := by decide +kernel
theorem d_Mo_count_74 : decode b_Mo_count 74 = .ok (.if_icmp .ne 10, 3) := by decide +kernel
theorem d_Mo_count_77 : decode b_Mo_count 77 = .ok (.aload_n 0, 1) := by decide +kernel
theorem d_Mo_count_78 : decode b_Mo_count 78 = .ok (.getfield 150, 3) := by decide +kernel
theorem d_Mo_count_81 : decode b_Mo_count 81 = .ok (.goto 17, 3) := by decide +kernel
theorem d_Mo_count_84 : decode b_Mo_count 84 = .ok (.iload_n 1, 1) := by decide +kernel
theorem d_Mo_count_85 : decode b_Mo_count 85 = .ok (.bipush 9, 2) := by decide +kernel
theorem d_Mo_count_87 : decode b_Mo_count 87 = .ok (.if_icmp .ne 10, 3) := by decide +kernel
theorem d_Mo_count_90 : decode b_Mo_count 90 = .ok (.aload_n 0, 1) := by decide +kernel
theorem d_Mo_count_91 : decode b_Mo_count 91 = .ok (.getfield 147, 3) := by decide +kernel
theorem d_Mo_count_94 : decode b_Mo_count 94 = .ok (.goto 4, 3) := by decide +kernel
theorem d_Mo_count_97 : decode b_Mo_count 97 = .ok (.iconst (-1), 1) := by decide +kernel
theorem d_Mo_count_98 : decode b_Mo_count 98 = .ok (.ireturn, 1) := by decide +kernel
theorem q_Mo_count : aw_q1 y_Mo_count b_Mo_count 2 (some .int) 1 := ⟨k_1155, k_79, ⟨by decide, by decide, by decide +kernel⟩, by decide⟩
def y_Mo_macros : MethodName := ⟨"RescanDeskModel", "macros", "()I"⟩
abbrev b_Mo_macros : ByteArray := prog_14_method_47_code
theorem d_Mo_macros_0 : decode b_Mo_macros 0 = .ok (.iconst 0, 1) := by decide +kernel
theorem d_Mo_macros_1 : decode b_Mo_macros 1 = .ok (.istore_n 1, 1) := by decide +kernel
theorem d_Mo_macros_2 : decode b_Mo_macros 2 = .ok (.iconst 0, 1) := by decide +kernel
theorem d_Mo_macros_3 : decode b_Mo_macros 3 = .ok (.istore_n 2, 1) := by decide +kernel
theorem d_Mo_macros_4 : decode b_Mo_macros 4 = .ok (.iload_n 2, 1) := by decide +kernel
theorem d_Mo_macros_5 : decode b_Mo_macros 5 = .ok (.aload_n 0, 1) := by decide +kernel
theorem d_Mo_macros_6 : decode b_Mo_macros 6 = .ok (.getfield 118, 3) := by decide +kernel
theorem d_Mo_macros_9 : decode b_Mo_macros 9 = .ok (.if_icmp .ge 39, 3) := by decide +kernel
theorem d_Mo_macros_12 : decode b_Mo_macros 12 = .ok (.iload_n 1, 1) := by decide +kernel
theorem d_Mo_macros_13 : decode b_Mo_macros 13 = .ok (.aload_n 0, 1) := by decide +kernel
theorem d_Mo_macros_14 : decode b_Mo_macros 14 = .ok (.aload_n 0, 1) := by decide +kernel
theorem d_Mo_macros_15 : decode b_Mo_macros 15 = .ok (.getfield 16, 3) := by decide +kernel
theorem d_Mo_macros_18 : decode b_Mo_macros 18 = .ok (.bipush 12, 2) := by decide +kernel
theorem d_Mo_macros_20 : decode b_Mo_macros 20 = .ok (.iload_n 2, 1) := by decide +kernel
theorem d_Mo_macros_21 : decode b_Mo_macros 21 = .ok (.imul, 1) := by decide +kernel
theorem d_Mo_macros_22 : decode b_Mo_macros 22 = .ok (.aload_n 0, 1) := by decide +kernel
theorem d_Mo_macros_23 : decode b_Mo_macros 23 = .ok (.getfield 19, 3) := by decide +kernel
theorem d_Mo_macros_26 : decode b_Mo_macros 26 = .ok (.iload_n 2, 1) := by decide +kernel
theorem d_Mo_macros_27 : decode b_Mo_macros 27 = .ok (.iaload, 1) := by decide +kernel
theorem d_Mo_macros_28 : decode b_Mo_macros 28 = .ok (.invokevirtual 194, 3) := by decide +kernel
theorem d_Mo_macros_31 : decode b_Mo_macros 31 = .ok (.iload_n 2, 1) := by decide +kernel
theorem d_Mo_macros_32 : decode b_Mo_macros 32 = .ok (.if_icmp .ne 7, 3) := by decide +kernel
theorem d_Mo_macros_35 : decode b_Mo_macros 35 = .ok (.iconst 1, 1) := by decide +kernel
theorem d_Mo_macros_36 : decode b_Mo_macros 36 = .ok (.goto 4, 3) := by decide +kernel
theorem d_Mo_macros_39 : decode b_Mo_macros 39 = .ok (.iconst 0, 1) := by decide +kernel
theorem d_Mo_macros_40 : decode b_Mo_macros 40 = .ok (.iadd, 1) := by decide +kernel
theorem d_Mo_macros_41 : decode b_Mo_macros 41 = .ok (.istore_n 1, 1) := by decide +kernel
theorem d_Mo_macros_42 : decode b_Mo_macros 42 = .ok (.iinc 2 1, 3) := by decide +kernel
theorem d_Mo_macros_45 : decode b_Mo_macros 45 = .ok (.goto (-41), 3) := by decide +kernel
theorem d_Mo_macros_48 : decode b_Mo_macros 48 = .ok (.iload_n 1, 1) := by decide +kernel
theorem d_Mo_macros_49 : decode b_Mo_macros 49 = .ok (.ireturn, 1) := by decide +kernel
theorem q_Mo_macros : aw_q1 y_Mo_macros b_Mo_macros 3 (some .int) 0 := ⟨k_1159, k_79, ⟨by decide, by decide, by decide +kernel⟩, by decide⟩
def y_Mo_init : MethodName := ⟨"RescanDeskModel", "<init>", "()V"⟩
abbrev b_Mo_init : ByteArray := prog_14_method_1_code
theorem d_Mo_init_0 : decode b_Mo_init 0 = .ok (.aload_n 0, 1) := by decide +kernel
theorem d_Mo_init_1 : decode b_Mo_init 1 = .ok (.invokespecial 1, 3) := by decide +kernel
theorem d_Mo_init_4 : decode b_Mo_init 4 = .ok (.aload_n 0, 1) := by decide +kernel
theorem d_Mo_init_5 : decode b_Mo_init 5 = .ok (.sipush 300, 3) := by decide +kernel
theorem d_Mo_init_8 : decode b_Mo_init 8 = .ok (.newarray .char, 2) := by decide +kernel
theorem d_Mo_init_10 : decode b_Mo_init 10 = .ok (.putfield 7, 3) := by decide +kernel
theorem d_Mo_init_13 : decode b_Mo_init 13 = .ok (.aload_n 0, 1) := by decide +kernel
theorem d_Mo_init_14 : decode b_Mo_init 14 = .ok (.sipush 600, 3) := by decide +kernel
theorem d_Mo_init_17 : decode b_Mo_init 17 = .ok (.newarray .char, 2) := by decide +kernel
theorem d_Mo_init_19 : decode b_Mo_init 19 = .ok (.putfield 13, 3) := by decide +kernel
theorem d_Mo_init_22 : decode b_Mo_init 22 = .ok (.aload_n 0, 1) := by decide +kernel
theorem d_Mo_init_23 : decode b_Mo_init 23 = .ok (.sipush 720, 3) := by decide +kernel
theorem d_Mo_init_26 : decode b_Mo_init 26 = .ok (.newarray .char, 2) := by decide +kernel
theorem d_Mo_init_28 : decode b_Mo_init 28 = .ok (.putfield 16, 3) := by decide +kernel
theorem d_Mo_init_31 : decode b_Mo_init 31 = .ok (.aload_n 0, 1) := by decide +kernel
theorem d_Mo_init_32 : decode b_Mo_init 32 = .ok (.bipush 60, 2) := by decide +kernel
theorem d_Mo_init_34 : decode b_Mo_init 34 = .ok (.newarray .int, 2) := by decide +kernel
theorem d_Mo_init_36 : decode b_Mo_init 36 = .ok (.putfield 19, 3) := by decide +kernel
theorem d_Mo_init_39 : decode b_Mo_init 39 = .ok (.aload_n 0, 1) := by decide +kernel
theorem d_Mo_init_40 : decode b_Mo_init 40 = .ok (.bipush 60, 2) := by decide +kernel
theorem d_Mo_init_42 : decode b_Mo_init 42 = .ok (.newarray .int, 2) := by decide +kernel
theorem d_Mo_init_44 : decode b_Mo_init 44 = .ok (.putfield 23, 3) := by decide +kernel
theorem d_Mo_init_47 : decode b_Mo_init 47 = .ok (.aload_n 0, 1) := by decide +kernel
theorem d_Mo_init_48 : decode b_Mo_init 48 = .ok (.sipush 6000, 3) := by decide +kernel
theorem d_Mo_init_51 : decode b_Mo_init 51 = .ok (.newarray .char, 2) := by decide +kernel
theorem d_Mo_init_53 : decode b_Mo_init 53 = .ok (.putfield 26, 3) := by decide +kernel
theorem d_Mo_init_56 : decode b_Mo_init 56 = .ok (.aload_n 0, 1) := by decide +kernel
theorem d_Mo_init_57 : decode b_Mo_init 57 = .ok (.bipush 60, 2) := by decide +kernel
theorem d_Mo_init_59 : decode b_Mo_init 59 = .ok (.newarray .int, 2) := by decide +kernel
theorem d_Mo_init_61 : decode b_Mo_init 61 = .ok (.putfield 29, 3) := by decide +kernel
theorem d_Mo_init_64 : decode b_Mo_init 64 = .ok (.aload_n 0, 1) := by decide +kernel
theorem d_Mo_init_65 : decode b_Mo_init 65 = .ok (.sipush 156, 3) := by decide +kernel
theorem d_Mo_init_68 : decode b_Mo_init 68 = .ok (.newarray .char, 2) := by decide +kernel
theorem d_Mo_init_70 : decode b_Mo_init 70 = .ok (.putfield 32, 3) := by decide +kernel
theorem d_Mo_init_73 : decode b_Mo_init 73 = .ok (.aload_n 0, 1) := by decide +kernel
theorem d_Mo_init_74 : decode b_Mo_init 74 = .ok (.bipush 13, 2) := by decide +kernel
theorem d_Mo_init_76 : decode b_Mo_init 76 = .ok (.newarray .int, 2) := by decide +kernel
theorem d_Mo_init_78 : decode b_Mo_init 78 = .ok (.putfield 35, 3) := by decide +kernel
theorem d_Mo_init_81 : decode b_Mo_init 81 = .ok (.aload_n 0, 1) := by decide +kernel
theorem d_Mo_init_82 : decode b_Mo_init 82 = .ok (.bipush 13, 2) := by decide +kernel
theorem d_Mo_init_84 : decode b_Mo_init 84 = .ok (.newarray .int, 2) := by decide +kernel
theorem d_Mo_init_86 : decode b_Mo_init 86 = .ok (.putfield 38, 3) := by decide +kernel
theorem d_Mo_init_89 : decode b_Mo_init 89 = .ok (.aload_n 0, 1) := by decide +kernel
theorem d_Mo_init_90 : decode b_Mo_init 90 = .ok (.sipush 1300, 3) := by decide +kernel
theorem d_Mo_init_93 : decode b_Mo_init 93 = .ok (.newarray .char, 2) := by decide +kernel
theorem d_Mo_init_95 : decode b_Mo_init 95 = .ok (.putfield 41, 3) := by decide +kernel
theorem d_Mo_init_98 : decode b_Mo_init 98 = .ok (.aload_n 0, 1) := by decide +kernel
theorem d_Mo_init_99 : decode b_Mo_init 99 = .ok (.bipush 13, 2) := by decide +kernel
theorem d_Mo_init_101 : decode b_Mo_init 101 = .ok (.newarray .int, 2) := by decide +kernel
theorem d_Mo_init_103 : decode b_Mo_init 103 = .ok (.putfield 44, 3) := by decide +kernel
theorem d_Mo_init_106 : decode b_Mo_init 106 = .ok (.aload_n 0, 1) := by decide +kernel
theorem d_Mo_init_107 : decode b_Mo_init 107 = .ok (.bipush 13, 2) := by decide +kernel
theorem d_Mo_init_109 : decode b_Mo_init 109 = .ok (.newarray .int, 2) := by decide +kernel
theorem d_Mo_init_111 : decode b_Mo_init 111 = .ok (.putfield 47, 3) := by decide +kernel
theorem d_Mo_init_114 : decode b_Mo_init 114 = .ok (.aload_n 0, 1) := by decide +kernel
theorem d_Mo_init_115 : decode b_Mo_init 115 = .ok (.sipush 143, 3) := by decide +kernel
theorem d_Mo_init_118 : decode b_Mo_init 118 = .ok (.newarray .int, 2) := by decide +kernel
theorem d_Mo_init_120 : decode b_Mo_init 120 = .ok (.putfield 50, 3) := by decide +kernel
theorem d_Mo_init_123 : decode b_Mo_init 123 = .ok (.aload_n 0, 1) := by decide +kernel
theorem d_Mo_init_124 : decode b_Mo_init 124 = .ok (.bipush 13, 2) := by decide +kernel
theorem d_Mo_init_126 : decode b_Mo_init 126 = .ok (.newarray .int, 2) := by decide +kernel
theorem d_Mo_init_128 : decode b_Mo_init 128 = .ok (.putfield 53, 3) := by decide +kernel
theorem d_Mo_init_131 : decode b_Mo_init 131 = .ok (.aload_n 0, 1) := by decide +kernel
theorem d_Mo_init_132 : decode b_Mo_init 132 = .ok (.bipush 13, 2) := by decide +kernel
theorem d_Mo_init_134 : decode b_Mo_init 134 = .ok (.newarray .boolean, 2) := by decide +kernel
theorem d_Mo_init_136 : decode b_Mo_init 136 = .ok (.putfield 56, 3) := by decide +kernel
theorem d_Mo_init_139 : decode b_Mo_init 139 = .ok (.aload_n 0, 1) := by decide +kernel
theorem d_Mo_init_140 : decode b_Mo_init 140 = .ok (.sipush 400, 3) := by decide +kernel
theorem d_Mo_init_143 : decode b_Mo_init 143 = .ok (.newarray .char, 2) := by decide +kernel
theorem d_Mo_init_145 : decode b_Mo_init 145 = .ok (.putfield 60, 3) := by decide +kernel
theorem d_Mo_init_148 : decode b_Mo_init 148 = .ok (.aload_n 0, 1) := by decide +kernel
theorem d_Mo_init_149 : decode b_Mo_init 149 = .ok (.sipush 1200, 3) := by decide +kernel
theorem d_Mo_init_152 : decode b_Mo_init 152 = .ok (.newarray .char, 2) := by decide +kernel
theorem d_Mo_init_154 : decode b_Mo_init 154 = .ok (.putfield 63, 3) := by decide +kernel
theorem d_Mo_init_157 : decode b_Mo_init 157 = .ok (.aload_n 0, 1) := by decide +kernel
theorem d_Mo_init_158 : decode b_Mo_init 158 = .ok (.iconst 4, 1) := by decide +kernel
theorem d_Mo_init_159 : decode b_Mo_init 159 = .ok (.newarray .int, 2) := by decide +kernel
theorem d_Mo_init_161 : decode b_Mo_init 161 = .ok (.putfield 66, 3) := by decide +kernel
theorem d_Mo_init_164 : decode b_Mo_init 164 = .ok (.aload_n 0, 1) := by decide +kernel
theorem d_Mo_init_165 : decode b_Mo_init 165 = .ok (.sipush 700, 3) := by decide +kernel
theorem d_Mo_init_168 : decode b_Mo_init 168 = .ok (.newarray .char, 2) := by decide +kernel
theorem d_Mo_init_170 : decode b_Mo_init 170 = .ok (.putfield 69, 3) := by decide +kernel
theorem d_Mo_init_173 : decode b_Mo_init 173 = .ok (.aload_n 0, 1) := by decide +kernel
theorem d_Mo_init_174 : decode b_Mo_init 174 = .ok (.sipush 420, 3) := by decide +kernel
theorem d_Mo_init_177 : decode b_Mo_init 177 = .ok (.newarray .int, 2) := by decide +kernel
theorem d_Mo_init_179 : decode b_Mo_init 179 = .ok (.putfield 72, 3) := by decide +kernel
theorem d_Mo_init_182 : decode b_Mo_init 182 = .ok (.aload_n 0, 1) := by decide +kernel
theorem d_Mo_init_183 : decode b_Mo_init 183 = .ok (.sipush 420, 3) := by decide +kernel
theorem d_Mo_init_186 : decode b_Mo_init 186 = .ok (.newarray .long, 2) := by decide +kernel
theorem d_Mo_init_188 : decode b_Mo_init 188 = .ok (.putfield 75, 3) := by decide +kernel
theorem d_Mo_init_191 : decode b_Mo_init 191 = .ok (.aload_n 0, 1) := by decide +kernel
theorem d_Mo_init_192 : decode b_Mo_init 192 = .ok (.sipush 400, 3) := by decide +kernel
theorem d_Mo_init_195 : decode b_Mo_init 195 = .ok (.newarray .char, 2) := by decide +kernel
theorem d_Mo_init_197 : decode b_Mo_init 197 = .ok (.putfield 79, 3) := by decide +kernel
theorem d_Mo_init_200 : decode b_Mo_init 200 = .ok (.aload_n 0, 1) := by decide +kernel
theorem d_Mo_init_201 : decode b_Mo_init 201 = .ok (.ldc2_w 82, 3) := by decide +kernel
theorem d_Mo_init_204 : decode b_Mo_init 204 = .ok (.iconst 1, 1) := by decide +kernel
theorem d_Mo_init_205 : decode b_Mo_init 205 = .ok (.invokevirtual 84, 3) := by decide +kernel
theorem d_Mo_init_208 : decode b_Mo_init 208 = .ok (.aload_n 0, 1) := by decide +kernel
theorem d_Mo_init_209 : decode b_Mo_init 209 = .ok (.ldc2_w 88, 3) := by decide +kernel
theorem d_Mo_init_212 : decode b_Mo_init 212 = .ok (.iconst 2, 1) := by decide +kernel
theorem d_Mo_init_213 : decode b_Mo_init 213 = .ok (.invokevirtual 84, 3) := by decide +kernel
theorem d_Mo_init_216 : decode b_Mo_init 216 = .ok (.aload_n 0, 1) := by decide +kernel
theorem d_Mo_init_217 : decode b_Mo_init 217 = .ok (.ldc2_w 90, 3) := by decide +kernel
theorem d_Mo_init_220 : decode b_Mo_init 220 = .ok (.iconst 3, 1) := by decide +kernel
theorem d_Mo_init_221 : decode b_Mo_init 221 = .ok (.invokevirtual 84, 3) := by decide +kernel
theorem d_Mo_init_224 : decode b_Mo_init 224 = .ok (.aload_n 0, 1) := by decide +kernel
theorem d_Mo_init_225 : decode b_Mo_init 225 = .ok (.ldc2_w 92, 3) := by decide +kernel
theorem d_Mo_init_228 : decode b_Mo_init 228 = .ok (.iconst 4, 1) := by decide +kernel
theorem d_Mo_init_229 : decode b_Mo_init 229 = .ok (.invokevirtual 84, 3) := by decide +kernel
theorem d_Mo_init_232 : decode b_Mo_init 232 = .ok (.aload_n 0, 1) := by decide +kernel
theorem d_Mo_init_233 : decode b_Mo_init 233 = .ok (.ldc2_w 94, 3) := by decide +kernel
theorem d_Mo_init_236 : decode b_Mo_init 236 = .ok (.iconst 5, 1) := by decide +kernel
theorem d_Mo_init_237 : decode b_Mo_init 237 = .ok (.invokevirtual 84, 3) := by decide +kernel
theorem d_Mo_init_240 : decode b_Mo_init 240 = .ok (.aload_n 0, 1) := by decide +kernel
theorem d_Mo_init_241 : decode b_Mo_init 241 = .ok (.ldc2_w 96, 3) := by decide +kernel
theorem d_Mo_init_244 : decode b_Mo_init 244 = .ok (.bipush 6, 2) := by decide +kernel
theorem d_Mo_init_246 : decode b_Mo_init 246 = .ok (.invokevirtual 84, 3) := by decide +kernel
theorem d_Mo_init_249 : decode b_Mo_init 249 = .ok (.aload_n 0, 1) := by decide +kernel
theorem d_Mo_init_250 : decode b_Mo_init 250 = .ok (.ldc2_w 98, 3) := by decide +kernel
theorem d_Mo_init_253 : decode b_Mo_init 253 = .ok (.bipush 7, 2) := by decide +kernel
theorem d_Mo_init_255 : decode b_Mo_init 255 = .ok (.invokevirtual 84, 3) := by decide +kernel
theorem d_Mo_init_258 : decode b_Mo_init 258 = .ok (.aload_n 0, 1) := by decide +kernel
theorem d_Mo_init_259 : decode b_Mo_init 259 = .ok (.ldc2_w 100, 3) := by decide +kernel
theorem d_Mo_init_262 : decode b_Mo_init 262 = .ok (.bipush 8, 2) := by decide +kernel
theorem d_Mo_init_264 : decode b_Mo_init 264 = .ok (.invokevirtual 84, 3) := by decide +kernel
theorem d_Mo_init_267 : decode b_Mo_init 267 = .ok (.aload_n 0, 1) := by decide +kernel
theorem d_Mo_init_268 : decode b_Mo_init 268 = .ok (.ldc2_w 102, 3) := by decide +kernel
theorem d_Mo_init_271 : decode b_Mo_init 271 = .ok (.bipush 9, 2) := by decide +kernel
theorem d_Mo_init_273 : decode b_Mo_init 273 = .ok (.invokevirtual 84, 3) := by decide +kernel
theorem d_Mo_init_276 : decode b_Mo_init 276 = .ok (.aload_n 0, 1) := by decide +kernel
theorem d_Mo_init_277 : decode b_Mo_init 277 = .ok (.ldc2_w 104, 3) := by decide +kernel
theorem d_Mo_init_280 : decode b_Mo_init 280 = .ok (.bipush 10, 2) := by decide +kernel
theorem d_Mo_init_282 : decode b_Mo_init 282 = .ok (.invokevirtual 84, 3) := by decide +kernel
theorem d_Mo_init_285 : decode b_Mo_init 285 = .ok (.aload_n 0, 1) := by decide +kernel
theorem d_Mo_init_286 : decode b_Mo_init 286 = .ok (.ldc2_w 106, 3) := by decide +kernel
theorem d_Mo_init_289 : decode b_Mo_init 289 = .ok (.bipush 11, 2) := by decide +kernel
theorem d_Mo_init_291 : decode b_Mo_init 291 = .ok (.invokevirtual 84, 3) := by decide +kernel
theorem d_Mo_init_294 : decode b_Mo_init 294 = .ok (.aload_n 0, 1) := by decide +kernel
theorem d_Mo_init_295 : decode b_Mo_init 295 = .ok (.ldc2_w 108, 3) := by decide +kernel
theorem d_Mo_init_298 : decode b_Mo_init 298 = .ok (.bipush 12, 2) := by decide +kernel
theorem d_Mo_init_300 : decode b_Mo_init 300 = .ok (.invokevirtual 84, 3) := by decide +kernel
theorem d_Mo_init_303 : decode b_Mo_init 303 = .ok (.aload_n 0, 1) := by decide +kernel
theorem d_Mo_init_304 : decode b_Mo_init 304 = .ok (.ldc2_w 110, 3) := by decide +kernel
theorem d_Mo_init_307 : decode b_Mo_init 307 = .ok (.bipush 13, 2) := by decide +kernel
theorem d_Mo_init_309 : decode b_Mo_init 309 = .ok (.invokevirtual 84, 3) := by decide +kernel
theorem d_Mo_init_312 : decode b_Mo_init 312 = .ok (.aload_n 0, 1) := by decide +kernel
theorem d_Mo_init_313 : decode b_Mo_init 313 = .ok (.ldc2_w 112, 3) := by decide +kernel
theorem d_Mo_init_316 : decode b_Mo_init 316 = .ok (.bipush 14, 2) := by decide +kernel
theorem d_Mo_init_318 : decode b_Mo_init 318 = .ok (.invokevirtual 84, 3) := by decide +kernel
theorem d_Mo_init_321 : decode b_Mo_init 321 = .ok (.aload_n 0, 1) := by decide +kernel
theorem d_Mo_init_322 : decode b_Mo_init 322 = .ok (.ldc2_w 114, 3) := by decide +kernel
theorem d_Mo_init_325 : decode b_Mo_init 325 = .ok (.bipush 15, 2) := by decide +kernel
theorem d_Mo_init_327 : decode b_Mo_init 327 = .ok (.invokevirtual 84, 3) := by decide +kernel
theorem d_Mo_init_330 : decode b_Mo_init 330 = .ok (.aload_n 0, 1) := by decide +kernel
theorem d_Mo_init_331 : decode b_Mo_init 331 = .ok (.ldc2_w 116, 3) := by decide +kernel
theorem d_Mo_init_334 : decode b_Mo_init 334 = .ok (.bipush 16, 2) := by decide +kernel
theorem d_Mo_init_336 : decode b_Mo_init 336 = .ok (.invokevirtual 84, 3) := by decide +kernel
theorem d_Mo_init_339 : decode b_Mo_init 339 = .ok (.return_, 1) := by decide +kernel
theorem q_Mo_init : aw_q1 y_Mo_init b_Mo_init 1 none 0 := ⟨k_840, k_79, ⟨by decide, by decide, by decide +kernel⟩, by decide⟩

