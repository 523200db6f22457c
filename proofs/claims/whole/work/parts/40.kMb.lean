theorem d_M_next_0 : decode (qB q_M_next) 0 = .ok (.iload_n 1, 1) := by decide +kernel
theorem d_M_next_1 : decode (qB q_M_next) 1 = .ok (.sipush 612, 3) := by decide +kernel
theorem d_M_next_4 : decode (qB q_M_next) 4 = .ok (.idiv, 1) := by decide +kernel
theorem d_M_next_5 : decode (qB q_M_next) 5 = .ok (.istore_n 2, 1) := by decide +kernel
theorem d_M_next_6 : decode (qB q_M_next) 6 = .ok (.iload_n 1, 1) := by decide +kernel
theorem d_M_next_7 : decode (qB q_M_next) 7 = .ok (.bipush 36, 2) := by decide +kernel
theorem d_M_next_9 : decode (qB q_M_next) 9 = .ok (.idiv, 1) := by decide +kernel
theorem d_M_next_10 : decode (qB q_M_next) 10 = .ok (.bipush 17, 2) := by decide +kernel
theorem d_M_next_12 : decode (qB q_M_next) 12 = .ok (.irem, 1) := by decide +kernel
theorem d_M_next_13 : decode (qB q_M_next) 13 = .ok (.istore_n 3, 1) := by decide +kernel
theorem d_M_next_14 : decode (qB q_M_next) 14 = .ok (.iload_n 1, 1) := by decide +kernel
theorem d_M_next_15 : decode (qB q_M_next) 15 = .ok (.bipush 9, 2) := by decide +kernel
theorem d_M_next_17 : decode (qB q_M_next) 17 = .ok (.idiv, 1) := by decide +kernel
theorem d_M_next_18 : decode (qB q_M_next) 18 = .ok (.iconst 4, 1) := by decide +kernel
theorem d_M_next_19 : decode (qB q_M_next) 19 = .ok (.irem, 1) := by decide +kernel
theorem d_M_next_20 : decode (qB q_M_next) 20 = .ok (.istore 4, 2) := by decide +kernel
theorem d_M_next_22 : decode (qB q_M_next) 22 = .ok (.iload_n 1, 1) := by decide +kernel
theorem d_M_next_23 : decode (qB q_M_next) 23 = .ok (.bipush 9, 2) := by decide +kernel
theorem d_M_next_25 : decode (qB q_M_next) 25 = .ok (.irem, 1) := by decide +kernel
theorem d_M_next_26 : decode (qB q_M_next) 26 = .ok (.istore 5, 2) := by decide +kernel
theorem d_M_next_28 : decode (qB q_M_next) 28 = .ok (.iconst (-1), 1) := by decide +kernel
theorem d_M_next_29 : decode (qB q_M_next) 29 = .ok (.istore 6, 2) := by decide +kernel
theorem d_M_next_31 : decode (qB q_M_next) 31 = .ok (.iconst 0, 1) := by decide +kernel
theorem d_M_next_32 : decode (qB q_M_next) 32 = .ok (.istore 7, 2) := by decide +kernel
theorem d_M_next_34 : decode (qB q_M_next) 34 = .ok (.iload 7, 2) := by decide +kernel
theorem d_M_next_36 : decode (qB q_M_next) 36 = .ok (.bipush 16, 2) := by decide +kernel
theorem d_M_next_38 : decode (qB q_M_next) 38 = .ok (.if_icmp .ge 302, 3) := by decide +kernel
theorem d_M_next_41 : decode (qB q_M_next) 41 = .ok (.aload_n 0, 1) := by decide +kernel
theorem d_M_next_42 : decode (qB q_M_next) 42 = .ok (.iload 7, 2) := by decide +kernel
theorem d_M_next_44 : decode (qB q_M_next) 44 = .ok (.invokevirtual 175, 3) := by decide +kernel
theorem d_M_next_47 : decode (qB q_M_next) 47 = .ok (.ifCond .eq 13, 3) := by decide +kernel
theorem d_M_next_50 : decode (qB q_M_next) 50 = .ok (.aload_n 0, 1) := by decide +kernel
theorem d_M_next_51 : decode (qB q_M_next) 51 = .ok (.iload_n 2, 1) := by decide +kernel
theorem d_M_next_52 : decode (qB q_M_next) 52 = .ok (.iload 7, 2) := by decide +kernel
theorem d_M_next_54 : decode (qB q_M_next) 54 = .ok (.invokevirtual 159, 3) := by decide +kernel
theorem d_M_next_57 : decode (qB q_M_next) 57 = .ok (.goto 4, 3) := by decide +kernel
theorem d_M_next_60 : decode (qB q_M_next) 60 = .ok (.iconst (-1), 1) := by decide +kernel
theorem d_M_next_61 : decode (qB q_M_next) 61 = .ok (.istore 8, 2) := by decide +kernel
theorem d_M_next_63 : decode (qB q_M_next) 63 = .ok (.iload 8, 2) := by decide +kernel
theorem d_M_next_65 : decode (qB q_M_next) 65 = .ok (.iconst (-1), 1) := by decide +kernel
theorem d_M_next_66 : decode (qB q_M_next) 66 = .ok (.if_icmp .eq 268, 3) := by decide +kernel
theorem d_M_next_69 : decode (qB q_M_next) 69 = .ok (.aload_n 0, 1) := by decide +kernel
theorem d_M_next_70 : decode (qB q_M_next) 70 = .ok (.iload 8, 2) := by decide +kernel
theorem d_M_next_72 : decode (qB q_M_next) 72 = .ok (.invokevirtual 162, 3) := by decide +kernel
theorem d_M_next_75 : decode (qB q_M_next) 75 = .ok (.ifCond .ne 259, 3) := by decide +kernel
theorem d_M_next_78 : decode (qB q_M_next) 78 = .ok (.aload_n 0, 1) := by decide +kernel
theorem d_M_next_79 : decode (qB q_M_next) 79 = .ok (.iload_n 2, 1) := by decide +kernel
theorem d_M_next_80 : decode (qB q_M_next) 80 = .ok (.iload 8, 2) := by decide +kernel
theorem d_M_next_82 : decode (qB q_M_next) 82 = .ok (.invokevirtual 165, 3) := by decide +kernel
theorem d_M_next_85 : decode (qB q_M_next) 85 = .ok (.ifCond .eq 249, 3) := by decide +kernel
theorem d_M_next_88 : decode (qB q_M_next) 88 = .ok (.aload_n 0, 1) := by decide +kernel
theorem d_M_next_89 : decode (qB q_M_next) 89 = .ok (.iload_n 3, 1) := by decide +kernel
theorem d_M_next_90 : decode (qB q_M_next) 90 = .ok (.iload 7, 2) := by decide +kernel
theorem d_M_next_92 : decode (qB q_M_next) 92 = .ok (.iload_n 2, 1) := by decide +kernel
theorem d_M_next_93 : decode (qB q_M_next) 93 = .ok (.iload 8, 2) := by decide +kernel
theorem d_M_next_95 : decode (qB q_M_next) 95 = .ok (.invokevirtual 178, 3) := by decide +kernel
theorem d_M_next_98 : decode (qB q_M_next) 98 = .ok (.ifCond .ne 6, 3) := by decide +kernel
theorem d_M_next_101 : decode (qB q_M_next) 101 = .ok (.goto 233, 3) := by decide +kernel
theorem d_M_next_104 : decode (qB q_M_next) 104 = .ok (.iload 5, 2) := by decide +kernel
theorem d_M_next_106 : decode (qB q_M_next) 106 = .ok (.iload 8, 2) := by decide +kernel
theorem d_M_next_108 : decode (qB q_M_next) 108 = .ok (.aload_n 0, 1) := by decide +kernel
theorem d_M_next_109 : decode (qB q_M_next) 109 = .ok (.getfield 153, 3) := by decide +kernel
theorem d_M_next_112 : decode (qB q_M_next) 112 = .ok (.if_icmp .eq 17, 3) := by decide +kernel
theorem d_M_next_115 : decode (qB q_M_next) 115 = .ok (.aload_n 0, 1) := by decide +kernel
theorem d_M_next_116 : decode (qB q_M_next) 116 = .ok (.getfield 66, 3) := by decide +kernel
theorem d_M_next_119 : decode (qB q_M_next) 119 = .ok (.iload 8, 2) := by decide +kernel
theorem d_M_next_121 : decode (qB q_M_next) 121 = .ok (.baload, 1) := by decide +kernel
theorem d_M_next_122 : decode (qB q_M_next) 122 = .ok (.ifCond .eq 7, 3) := by decide +kernel
theorem d_M_next_125 : decode (qB q_M_next) 125 = .ok (.iconst 1, 1) := by decide +kernel
theorem d_M_next_126 : decode (qB q_M_next) 126 = .ok (.goto 4, 3) := by decide +kernel
theorem d_M_next_129 : decode (qB q_M_next) 129 = .ok (.iconst 0, 1) := by decide +kernel
theorem d_M_next_130 : decode (qB q_M_next) 130 = .ok (.isub, 1) := by decide +kernel
theorem d_M_next_131 : decode (qB q_M_next) 131 = .ok (.istore 9, 2) := by decide +kernel
theorem d_M_next_133 : decode (qB q_M_next) 133 = .ok (.aload_n 0, 1) := by decide +kernel
theorem d_M_next_134 : decode (qB q_M_next) 134 = .ok (.iload 8, 2) := by decide +kernel
theorem d_M_next_136 : decode (qB q_M_next) 136 = .ok (.invokevirtual 121, 3) := by decide +kernel
theorem d_M_next_139 : decode (qB q_M_next) 139 = .ok (.ifCond .eq 10, 3) := by decide +kernel
theorem d_M_next_142 : decode (qB q_M_next) 142 = .ok (.iload 4, 2) := by decide +kernel
theorem d_M_next_144 : decode (qB q_M_next) 144 = .ok (.iconst 1, 1) := by decide +kernel
theorem d_M_next_145 : decode (qB q_M_next) 145 = .ok (.iadd, 1) := by decide +kernel
theorem d_M_next_146 : decode (qB q_M_next) 146 = .ok (.goto 4, 3) := by decide +kernel
theorem d_M_next_149 : decode (qB q_M_next) 149 = .ok (.iconst 0, 1) := by decide +kernel
theorem d_M_next_150 : decode (qB q_M_next) 150 = .ok (.istore 10, 2) := by decide +kernel
theorem d_M_next_152 : decode (qB q_M_next) 152 = .ok (.iload 9, 2) := by decide +kernel
theorem d_M_next_154 : decode (qB q_M_next) 154 = .ok (.ifCond .lt 180, 3) := by decide +kernel
theorem d_M_next_157 : decode (qB q_M_next) 157 = .ok (.aload_n 0, 1) := by decide +kernel
theorem d_M_next_158 : decode (qB q_M_next) 158 = .ok (.iload 8, 2) := by decide +kernel
theorem d_M_next_160 : decode (qB q_M_next) 160 = .ok (.invokevirtual 121, 3) := by decide +kernel
theorem d_M_next_163 : decode (qB q_M_next) 163 = .ok (.ifCond .eq 18, 3) := by decide +kernel
theorem d_M_next_166 : decode (qB q_M_next) 166 = .ok (.iload 10, 2) := by decide +kernel
theorem d_M_next_168 : decode (qB q_M_next) 168 = .ok (.aload_n 0, 1) := by decide +kernel
theorem d_M_next_169 : decode (qB q_M_next) 169 = .ok (.getfield 20, 3) := by decide +kernel
theorem d_M_next_172 : decode (qB q_M_next) 172 = .ok (.iload 8, 2) := by decide +kernel
theorem d_M_next_174 : decode (qB q_M_next) 174 = .ok (.iaload, 1) := by decide +kernel
theorem d_M_next_175 : decode (qB q_M_next) 175 = .ok (.if_icmp .le 6, 3) := by decide +kernel
theorem d_M_next_178 : decode (qB q_M_next) 178 = .ok (.goto 156, 3) := by decide +kernel
theorem d_M_next_181 : decode (qB q_M_next) 181 = .ok (.iload 8, 2) := by decide +kernel
theorem d_M_next_183 : decode (qB q_M_next) 183 = .ok (.iload 7, 2) := by decide +kernel
theorem d_M_next_185 : decode (qB q_M_next) 185 = .ok (.iload 10, 2) := by decide +kernel
theorem d_M_next_187 : decode (qB q_M_next) 187 = .ok (.iload 9, 2) := by decide +kernel
theorem d_M_next_189 : decode (qB q_M_next) 189 = .ok (.invokestatic 182, 3) := by decide +kernel
theorem d_M_next_192 : decode (qB q_M_next) 192 = .ok (.istore 11, 2) := by decide +kernel
theorem d_M_next_194 : decode (qB q_M_next) 194 = .ok (.iload_n 3, 1) := by decide +kernel
theorem d_M_next_195 : decode (qB q_M_next) 195 = .ok (.bipush 16, 2) := by decide +kernel
theorem d_M_next_197 : decode (qB q_M_next) 197 = .ok (.if_icmp .eq 13, 3) := by decide +kernel
theorem d_M_next_200 : decode (qB q_M_next) 200 = .ok (.iload_n 3, 1) := by decide +kernel
theorem d_M_next_201 : decode (qB q_M_next) 201 = .ok (.iload 7, 2) := by decide +kernel
theorem d_M_next_203 : decode (qB q_M_next) 203 = .ok (.if_icmp .eq 7, 3) := by decide +kernel
theorem d_M_next_206 : decode (qB q_M_next) 206 = .ok (.iconst 1, 1) := by decide +kernel
theorem d_M_next_207 : decode (qB q_M_next) 207 = .ok (.goto 4, 3) := by decide +kernel
theorem d_M_next_210 : decode (qB q_M_next) 210 = .ok (.iconst 0, 1) := by decide +kernel
theorem d_M_next_211 : decode (qB q_M_next) 211 = .ok (.istore 12, 2) := by decide +kernel
theorem d_M_next_213 : decode (qB q_M_next) 213 = .ok (.aload_n 0, 1) := by decide +kernel
theorem d_M_next_214 : decode (qB q_M_next) 214 = .ok (.getfield 80, 3) := by decide +kernel
theorem d_M_next_217 : decode (qB q_M_next) 217 = .ok (.iload 11, 2) := by decide +kernel
theorem d_M_next_219 : decode (qB q_M_next) 219 = .ok (.iaload, 1) := by decide +kernel
theorem d_M_next_220 : decode (qB q_M_next) 220 = .ok (.iconst 2, 1) := by decide +kernel
theorem d_M_next_221 : decode (qB q_M_next) 221 = .ok (.if_icmp .ne 84, 3) := by decide +kernel
theorem d_M_next_224 : decode (qB q_M_next) 224 = .ok (.aload_n 0, 1) := by decide +kernel
theorem d_M_next_225 : decode (qB q_M_next) 225 = .ok (.getfield 70, 3) := by decide +kernel
theorem d_M_next_228 : decode (qB q_M_next) 228 = .ok (.iload 11, 2) := by decide +kernel
theorem d_M_next_230 : decode (qB q_M_next) 230 = .ok (.laload, 1) := by decide +kernel
theorem d_M_next_231 : decode (qB q_M_next) 231 = .ok (.iload 7, 2) := by decide +kernel
theorem d_M_next_233 : decode (qB q_M_next) 233 = .ok (.invokestatic 168, 3) := by decide +kernel
theorem d_M_next_236 : decode (qB q_M_next) 236 = .ok (.i2l, 1) := by decide +kernel
theorem d_M_next_237 : decode (qB q_M_next) 237 = .ok (.aload_n 0, 1) := by decide +kernel
theorem d_M_next_238 : decode (qB q_M_next) 238 = .ok (.iload 8, 2) := by decide +kernel
theorem d_M_next_240 : decode (qB q_M_next) 240 = .ok (.iconst (-1), 1) := by decide +kernel
theorem d_M_next_241 : decode (qB q_M_next) 241 = .ok (.invokevirtual 171, 3) := by decide +kernel
theorem d_M_next_244 : decode (qB q_M_next) 244 = .ok (.lmul, 1) := by decide +kernel
theorem d_M_next_245 : decode (qB q_M_next) 245 = .ok (.ladd, 1) := by decide +kernel
theorem d_M_next_246 : decode (qB q_M_next) 246 = .ok (.aload_n 0, 1) := by decide +kernel
theorem d_M_next_247 : decode (qB q_M_next) 247 = .ok (.getfield 70, 3) := by decide +kernel
theorem d_M_next_250 : decode (qB q_M_next) 250 = .ok (.iload_n 1, 1) := by decide +kernel
theorem d_M_next_251 : decode (qB q_M_next) 251 = .ok (.laload, 1) := by decide +kernel
theorem d_M_next_252 : decode (qB q_M_next) 252 = .ok (.lcmp, 1) := by decide +kernel
theorem d_M_next_253 : decode (qB q_M_next) 253 = .ok (.ifCond .ne 52, 3) := by decide +kernel
theorem d_M_next_256 : decode (qB q_M_next) 256 = .ok (.aload_n 0, 1) := by decide +kernel
theorem d_M_next_257 : decode (qB q_M_next) 257 = .ok (.getfield 74, 3) := by decide +kernel
theorem d_M_next_260 : decode (qB q_M_next) 260 = .ok (.iload 11, 2) := by decide +kernel
theorem d_M_next_262 : decode (qB q_M_next) 262 = .ok (.iaload, 1) := by decide +kernel
theorem d_M_next_263 : decode (qB q_M_next) 263 = .ok (.iload 12, 2) := by decide +kernel
theorem d_M_next_265 : decode (qB q_M_next) 265 = .ok (.ifCond .eq 7, 3) := by decide +kernel
theorem d_M_next_268 : decode (qB q_M_next) 268 = .ok (.iconst 1, 1) := by decide +kernel
theorem d_M_next_269 : decode (qB q_M_next) 269 = .ok (.goto 4, 3) := by decide +kernel
theorem d_M_next_272 : decode (qB q_M_next) 272 = .ok (.iconst 0, 1) := by decide +kernel
theorem d_M_next_273 : decode (qB q_M_next) 273 = .ok (.iadd, 1) := by decide +kernel
theorem d_M_next_274 : decode (qB q_M_next) 274 = .ok (.aload_n 0, 1) := by decide +kernel
theorem d_M_next_275 : decode (qB q_M_next) 275 = .ok (.getfield 74, 3) := by decide +kernel
theorem d_M_next_278 : decode (qB q_M_next) 278 = .ok (.iload_n 1, 1) := by decide +kernel
theorem d_M_next_279 : decode (qB q_M_next) 279 = .ok (.iaload, 1) := by decide +kernel
theorem d_M_next_280 : decode (qB q_M_next) 280 = .ok (.if_icmp .ne 25, 3) := by decide +kernel
theorem d_M_next_283 : decode (qB q_M_next) 283 = .ok (.aload_n 0, 1) := by decide +kernel
theorem d_M_next_284 : decode (qB q_M_next) 284 = .ok (.getfield 77, 3) := by decide +kernel
theorem d_M_next_287 : decode (qB q_M_next) 287 = .ok (.iload 11, 2) := by decide +kernel
theorem d_M_next_289 : decode (qB q_M_next) 289 = .ok (.iaload, 1) := by decide +kernel
theorem d_M_next_290 : decode (qB q_M_next) 290 = .ok (.iconst 1, 1) := by decide +kernel
theorem d_M_next_291 : decode (qB q_M_next) 291 = .ok (.iadd, 1) := by decide +kernel
theorem d_M_next_292 : decode (qB q_M_next) 292 = .ok (.aload_n 0, 1) := by decide +kernel
theorem d_M_next_293 : decode (qB q_M_next) 293 = .ok (.getfield 77, 3) := by decide +kernel
theorem d_M_next_296 : decode (qB q_M_next) 296 = .ok (.iload_n 1, 1) := by decide +kernel
theorem d_M_next_297 : decode (qB q_M_next) 297 = .ok (.iaload, 1) := by decide +kernel
theorem d_M_next_298 : decode (qB q_M_next) 298 = .ok (.if_icmp .ne 7, 3) := by decide +kernel
theorem d_M_next_301 : decode (qB q_M_next) 301 = .ok (.iconst 1, 1) := by decide +kernel
theorem d_M_next_302 : decode (qB q_M_next) 302 = .ok (.goto 4, 3) := by decide +kernel
theorem d_M_next_305 : decode (qB q_M_next) 305 = .ok (.iconst 0, 1) := by decide +kernel
theorem d_M_next_306 : decode (qB q_M_next) 306 = .ok (.istore 13, 2) := by decide +kernel
theorem d_M_next_308 : decode (qB q_M_next) 308 = .ok (.iload 13, 2) := by decide +kernel
theorem d_M_next_310 : decode (qB q_M_next) 310 = .ok (.ifCond .eq 24, 3) := by decide +kernel
theorem d_M_next_313 : decode (qB q_M_next) 313 = .ok (.iload 6, 2) := by decide +kernel
theorem d_M_next_315 : decode (qB q_M_next) 315 = .ok (.iconst (-1), 1) := by decide +kernel
theorem d_M_next_316 : decode (qB q_M_next) 316 = .ok (.if_icmp .eq 14, 3) := by decide +kernel
theorem d_M_next_319 : decode (qB q_M_next) 319 = .ok (.iload 8, 2) := by decide +kernel
theorem d_M_next_321 : decode (qB q_M_next) 321 = .ok (.iload 6, 2) := by decide +kernel
theorem d_M_next_323 : decode (qB q_M_next) 323 = .ok (.sipush 612, 3) := by decide +kernel
theorem d_M_next_326 : decode (qB q_M_next) 326 = .ok (.idiv, 1) := by decide +kernel
theorem d_M_next_327 : decode (qB q_M_next) 327 = .ok (.if_icmp .ge 7, 3) := by decide +kernel
theorem d_M_next_330 : decode (qB q_M_next) 330 = .ok (.iload 11, 2) := by decide +kernel
theorem d_M_next_332 : decode (qB q_M_next) 332 = .ok (.istore 6, 2) := by decide +kernel
theorem d_M_next_334 : decode (qB q_M_next) 334 = .ok (.iinc 7 1, 3) := by decide +kernel
theorem d_M_next_337 : decode (qB q_M_next) 337 = .ok (.goto (-303), 3) := by decide +kernel
theorem d_M_next_340 : decode (qB q_M_next) 340 = .ok (.iload 6, 2) := by decide +kernel
theorem d_M_next_342 : decode (qB q_M_next) 342 = .ok (.ireturn, 1) := by decide +kernel
set_option maxRecDepth 10000 in
theorem k_M_next {G : mxG} (hG : mx_GG G) : ∀ pc r, t_M_next pc = some r → mx_Ok G mx_W mx_MT q_M_next pc r := (bn_ok (bn_ok (bn_ok (bn_ok (bn_ok (bn_ok (bn_ok (bl_ok (ok_iload_n rfl d_M_next_0)) (bl_ok (ok_sipush (by decide) d_M_next_1))) (bn_ok (bl_ok (ok_idiv d_M_next_4)) (bn_ok (bl_ok (ok_istore_n rfl d_M_next_5 (by decide))) (bl_ok (ok_iload_n rfl d_M_next_6))))) (bn_ok (bn_ok (bl_ok (ok_bipush (by decide) d_M_next_7)) (bn_ok (bl_ok (ok_idiv d_M_next_9)) (bl_ok (ok_bipush (by decide) d_M_next_10)))) (bn_ok (bl_ok (ok_irem d_M_next_12)) (bn_ok (bl_ok (ok_istore_n rfl d_M_next_13 (by decide))) (bl_ok (ok_iload_n rfl d_M_next_14)))))) (bn_ok (bn_ok (bn_ok (bl_ok (ok_bipush (by decide) d_M_next_15)) (bl_ok (ok_idiv d_M_next_17))) (bn_ok (bl_ok (ok_iconst (by decide) d_M_next_18)) (bn_ok (bl_ok (ok_irem d_M_next_19)) (bl_ok (ok_istore d_M_next_20 (by decide)))))) (bn_ok (bn_ok (bl_ok (ok_iload_n rfl d_M_next_22)) (bn_ok (bl_ok (ok_bipush (by decide) d_M_next_23)) (bl_ok (ok_irem d_M_next_25)))) (bn_ok (bl_ok (ok_istore d_M_next_26 (by decide))) (bn_ok (bl_ok (ok_iconst (by decide) d_M_next_28)) (bl_ok (ok_istore d_M_next_29 (by decide)))))))) (bn_ok (bn_ok (bn_ok (bn_ok (bl_ok (ok_iconst (by decide) d_M_next_31)) (bl_ok (ok_istore d_M_next_32 (by decide)))) (bn_ok (bl_ok (ok_iload d_M_next_34)) (bn_ok (bl_ok (ok_bipush (by decide) d_M_next_36)) (bl_ok (ok_icge d_M_next_38 (by decide)))))) (bn_ok (bn_ok (bl_ok (ok_aload_n rfl d_M_next_41)) (bn_ok (bl_ok (ok_iload d_M_next_42)) (bl_ok (ok_cv mx_W_good (cl_5 hG) d_M_next_44 (mt_M_isHeading) mk_M_isHeading w_760 w_762 ws_M_isHeading (by decide) (by decide))))) (bn_ok (bl_ok (ok_ifeq d_M_next_47 (by decide))) (bn_ok (bl_ok (ok_aload_n rfl d_M_next_50)) (bl_ok (ok_iload_n rfl d_M_next_51)))))) (bn_ok (bn_ok (bn_ok (bl_ok (ok_iload d_M_next_52)) (bn_ok (bl_ok (ok_cv mx_W_good (cl_5 hG) d_M_next_54 (mt_M_onward) mk_M_onward w_791 w_793 ws_M_onward (by decide) (by decide))) (bl_ok (ok_goto d_M_next_57 (by decide))))) (bn_ok (bl_ok (ok_iconst (by decide) d_M_next_60)) (bn_ok (bl_ok (ok_istore d_M_next_61 (by decide))) (bl_ok (ok_iload d_M_next_63))))) (bn_ok (bn_ok (bl_ok (ok_iconst (by decide) d_M_next_65)) (bn_ok (bl_ok (ok_iceq d_M_next_66 (by decide))) (bl_ok (ok_aload_n rfl d_M_next_69)))) (bn_ok (bl_ok (ok_iload d_M_next_70)) (bn_ok (bl_ok (ok_cv mx_W_good (cl_5 hG) d_M_next_72 (mt_M_isShut) mk_M_isShut w_801 w_803 ws_M_isShut (by decide) (by decide))) (bl_ok (ok_ifne d_M_next_75 (by decide))))))))) (bn_ok (bn_ok (bn_ok (bn_ok (bn_ok (bl_ok (ok_aload_n rfl d_M_next_78)) (bl_ok (ok_iload_n rfl d_M_next_79))) (bn_ok (bl_ok (ok_iload d_M_next_80)) (bn_ok (bl_ok (ok_cv mx_W_good (cl_5 hG) d_M_next_82 (mt_M_isFlat) mk_M_isFlat w_805 w_807 ws_M_isFlat (by decide) (by decide))) (bl_ok (ok_ifeq d_M_next_85 (by decide)))))) (bn_ok (bn_ok (bl_ok (ok_aload_n rfl d_M_next_88)) (bn_ok (bl_ok (ok_iload_n rfl d_M_next_89)) (bl_ok (ok_iload d_M_next_90)))) (bn_ok (bl_ok (ok_iload_n rfl d_M_next_92)) (bn_ok (bl_ok (ok_iload d_M_next_93)) (bl_ok (ok_cv mx_W_good (cl_5 hG) d_M_next_95 (mt_M_follows) mk_M_follows w_824 w_826 ws_M_follows (by decide) (by decide))))))) (bn_ok (bn_ok (bn_ok (bl_ok (ok_ifne d_M_next_98 (by decide))) (bn_ok (bl_ok (ok_goto d_M_next_101 (by decide))) (bl_ok (ok_iload d_M_next_104)))) (bn_ok (bl_ok (ok_iload d_M_next_106)) (bn_ok (bl_ok (ok_aload_n rfl d_M_next_108)) (bl_ok (ok_getf d_M_next_109 (cl_5 hG) (by decide) w_626))))) (bn_ok (bn_ok (bl_ok (ok_iceq d_M_next_112 (by decide))) (bn_ok (bl_ok (ok_aload_n rfl d_M_next_115)) (bl_ok (ok_getf d_M_next_116 (cl_5 hG) (by decide) w_628)))) (bn_ok (bl_ok (ok_iload d_M_next_119)) (bn_ok (bl_ok (ok_zald d_M_next_121 (kt_2 hG))) (bl_ok (ok_ifeq d_M_next_122 (by decide)))))))) (bn_ok (bn_ok (bn_ok (bn_ok (bl_ok (ok_iconst (by decide) d_M_next_125)) (bl_ok (ok_goto d_M_next_126 (by decide)))) (bn_ok (bl_ok (ok_iconst (by decide) d_M_next_129)) (bn_ok (bl_ok (ok_isub d_M_next_130)) (bl_ok (ok_istore d_M_next_131 (by decide)))))) (bn_ok (bn_ok (bl_ok (ok_aload_n rfl d_M_next_133)) (bn_ok (bl_ok (ok_iload d_M_next_134)) (bl_ok (ok_cv mx_W_good (cl_5 hG) d_M_next_136 (mt_M_isBridged) mk_M_isBridged w_816 w_818 ws_M_isBridged (by decide) (by decide))))) (bn_ok (bl_ok (ok_ifeq d_M_next_139 (by decide))) (bn_ok (bl_ok (ok_iload d_M_next_142)) (bl_ok (ok_iconst (by decide) d_M_next_144)))))) (bn_ok (bn_ok (bn_ok (bl_ok (ok_iadd d_M_next_145)) (bn_ok (bl_ok (ok_goto d_M_next_146 (by decide))) (bl_ok (ok_iconst (by decide) d_M_next_149)))) (bn_ok (bl_ok (ok_istore d_M_next_150 (by decide))) (bn_ok (bl_ok (ok_iload d_M_next_152)) (bl_ok (ok_iflt d_M_next_154 (by decide)))))) (bn_ok (bn_ok (bl_ok (ok_aload_n rfl d_M_next_157)) (bn_ok (bl_ok (ok_iload d_M_next_158)) (bl_ok (ok_cv mx_W_good (cl_5 hG) d_M_next_160 (mt_M_isBridged) mk_M_isBridged w_816 w_818 ws_M_isBridged (by decide) (by decide))))) (bn_ok (bl_ok (ok_ifeq d_M_next_163 (by decide))) (bn_ok (bl_ok (ok_iload d_M_next_166)) (bl_ok (ok_aload_n rfl d_M_next_168))))))))) (bn_ok (bn_ok (bn_ok (bn_ok (bn_ok (bn_ok (bl_ok (ok_getf d_M_next_169 (cl_5 hG) (by decide) w_608)) (bl_ok (ok_iload d_M_next_172))) (bn_ok (bl_ok (ok_iald d_M_next_174 (kt_0 hG))) (bn_ok (bl_ok (ok_icle d_M_next_175 (by decide))) (bl_ok (ok_goto d_M_next_178 (by decide)))))) (bn_ok (bn_ok (bl_ok (ok_iload d_M_next_181)) (bn_ok (bl_ok (ok_iload d_M_next_183)) (bl_ok (ok_iload d_M_next_185)))) (bn_ok (bl_ok (ok_iload d_M_next_187)) (bn_ok (bl_ok (ok_cs mx_W_good d_M_next_189 (mt_M_labelOf) mk_M_labelOf w_764 w_765 (by decide) (by decide))) (bl_ok (ok_istore d_M_next_192 (by decide))))))) (bn_ok (bn_ok (bn_ok (bl_ok (ok_iload_n rfl d_M_next_194)) (bn_ok (bl_ok (ok_bipush (by decide) d_M_next_195)) (bl_ok (ok_iceq d_M_next_197 (by decide))))) (bn_ok (bl_ok (ok_iload_n rfl d_M_next_200)) (bn_ok (bl_ok (ok_iload d_M_next_201)) (bl_ok (ok_iceq d_M_next_203 (by decide)))))) (bn_ok (bn_ok (bl_ok (ok_iconst (by decide) d_M_next_206)) (bn_ok (bl_ok (ok_goto d_M_next_207 (by decide))) (bl_ok (ok_iconst (by decide) d_M_next_210)))) (bn_ok (bl_ok (ok_istore d_M_next_211 (by decide))) (bn_ok (bl_ok (ok_aload_n rfl d_M_next_213)) (bl_ok (ok_getf d_M_next_214 (cl_5 hG) (by decide) w_632))))))) (bn_ok (bn_ok (bn_ok (bn_ok (bl_ok (ok_iload d_M_next_217)) (bl_ok (ok_iald d_M_next_219 (kt_0 hG)))) (bn_ok (bl_ok (ok_iconst (by decide) d_M_next_220)) (bn_ok (bl_ok (ok_icne d_M_next_221 (by decide))) (bl_ok (ok_aload_n rfl d_M_next_224))))) (bn_ok (bn_ok (bl_ok (ok_getf d_M_next_225 (cl_5 hG) (by decide) w_629)) (bn_ok (bl_ok (ok_iload d_M_next_228)) (bl_ok (ok_lald d_M_next_230 (kt_1 hG))))) (bn_ok (bl_ok (ok_iload d_M_next_231)) (bn_ok (bl_ok (ok_cs mx_W_good d_M_next_233 (mt_M_lengthOf) mk_M_lengthOf w_809 w_810 (by decide) (by decide))) (bl_ok (ok_i2l d_M_next_236)))))) (bn_ok (bn_ok (bn_ok (bl_ok (ok_aload_n rfl d_M_next_237)) (bn_ok (bl_ok (ok_iload d_M_next_238)) (bl_ok (ok_iconst (by decide) d_M_next_240)))) (bn_ok (bl_ok (ok_cv mx_W_good (cl_5 hG) d_M_next_241 (mt_M_costOf) mk_M_costOf w_812 w_814 ws_M_costOf (by decide) (by decide))) (bn_ok (bl_ok (ok_lmul d_M_next_244)) (bl_ok (ok_ladd d_M_next_245))))) (bn_ok (bn_ok (bl_ok (ok_aload_n rfl d_M_next_246)) (bn_ok (bl_ok (ok_getf d_M_next_247 (cl_5 hG) (by decide) w_629)) (bl_ok (ok_iload_n rfl d_M_next_250)))) (bn_ok (bl_ok (ok_lald d_M_next_251 (kt_1 hG))) (bn_ok (bl_ok (ok_lcmp d_M_next_252)) (bl_ok (ok_ifne d_M_next_253 (by decide))))))))) (bn_ok (bn_ok (bn_ok (bn_ok (bn_ok (bl_ok (ok_aload_n rfl d_M_next_256)) (bl_ok (ok_getf d_M_next_257 (cl_5 hG) (by decide) w_630))) (bn_ok (bl_ok (ok_iload d_M_next_260)) (bn_ok (bl_ok (ok_iald d_M_next_262 (kt_0 hG))) (bl_ok (ok_iload d_M_next_263))))) (bn_ok (bn_ok (bl_ok (ok_ifeq d_M_next_265 (by decide))) (bn_ok (bl_ok (ok_iconst (by decide) d_M_next_268)) (bl_ok (ok_goto d_M_next_269 (by decide))))) (bn_ok (bl_ok (ok_iconst (by decide) d_M_next_272)) (bn_ok (bl_ok (ok_iadd d_M_next_273)) (bl_ok (ok_aload_n rfl d_M_next_274)))))) (bn_ok (bn_ok (bn_ok (bl_ok (ok_getf d_M_next_275 (cl_5 hG) (by decide) w_630)) (bn_ok (bl_ok (ok_iload_n rfl d_M_next_278)) (bl_ok (ok_iald d_M_next_279 (kt_0 hG))))) (bn_ok (bl_ok (ok_icne d_M_next_280 (by decide))) (bn_ok (bl_ok (ok_aload_n rfl d_M_next_283)) (bl_ok (ok_getf d_M_next_284 (cl_5 hG) (by decide) w_631))))) (bn_ok (bn_ok (bl_ok (ok_iload d_M_next_287)) (bn_ok (bl_ok (ok_iald d_M_next_289 (kt_0 hG))) (bl_ok (ok_iconst (by decide) d_M_next_290)))) (bn_ok (bl_ok (ok_iadd d_M_next_291)) (bn_ok (bl_ok (ok_aload_n rfl d_M_next_292)) (bl_ok (ok_getf d_M_next_293 (cl_5 hG) (by decide) w_631))))))) (bn_ok (bn_ok (bn_ok (bn_ok (bl_ok (ok_iload_n rfl d_M_next_296)) (bl_ok (ok_iald d_M_next_297 (kt_0 hG)))) (bn_ok (bl_ok (ok_icne d_M_next_298 (by decide))) (bn_ok (bl_ok (ok_iconst (by decide) d_M_next_301)) (bl_ok (ok_goto d_M_next_302 (by decide)))))) (bn_ok (bn_ok (bl_ok (ok_iconst (by decide) d_M_next_305)) (bn_ok (bl_ok (ok_istore d_M_next_306 (by decide))) (bl_ok (ok_iload d_M_next_308)))) (bn_ok (bl_ok (ok_ifeq d_M_next_310 (by decide))) (bn_ok (bl_ok (ok_iload d_M_next_313)) (bl_ok (ok_iconst (by decide) d_M_next_315)))))) (bn_ok (bn_ok (bn_ok (bl_ok (ok_iceq d_M_next_316 (by decide))) (bn_ok (bl_ok (ok_iload d_M_next_319)) (bl_ok (ok_iload d_M_next_321)))) (bn_ok (bl_ok (ok_sipush (by decide) d_M_next_323)) (bn_ok (bl_ok (ok_idiv d_M_next_326)) (bl_ok (ok_icge d_M_next_327 (by decide)))))) (bn_ok (bn_ok (bl_ok (ok_iload d_M_next_330)) (bn_ok (bl_ok (ok_istore d_M_next_332 (by decide))) (bl_ok (ok_iinc d_M_next_334 (by decide) (by decide))))) (bn_ok (bl_ok (ok_goto d_M_next_337 (by decide))) (bn_ok (bl_ok (ok_iload d_M_next_340)) (bl_ok (ok_ireturn d_M_next_342 rfl))))))))))
theorem d_M_run_0 : decode (qB q_M_run) 0 = .ok (.aload_n 0, 1) := by decide +kernel
theorem d_M_run_1 : decode (qB q_M_run) 1 = .ok (.iload_n 1, 1) := by decide +kernel
theorem d_M_run_2 : decode (qB q_M_run) 2 = .ok (.iload_n 2, 1) := by decide +kernel
theorem d_M_run_3 : decode (qB q_M_run) 3 = .ok (.invokevirtual 99, 3) := by decide +kernel
theorem d_M_run_6 : decode (qB q_M_run) 6 = .ok (.ifCond .eq 25, 3) := by decide +kernel
theorem d_M_run_9 : decode (qB q_M_run) 9 = .ok (.aload_n 0, 1) := by decide +kernel
theorem d_M_run_10 : decode (qB q_M_run) 10 = .ok (.iload_n 3, 1) := by decide +kernel
theorem d_M_run_11 : decode (qB q_M_run) 11 = .ok (.iload 4, 2) := by decide +kernel
theorem d_M_run_13 : decode (qB q_M_run) 13 = .ok (.invokevirtual 99, 3) := by decide +kernel
theorem d_M_run_16 : decode (qB q_M_run) 16 = .ok (.ifCond .eq 15, 3) := by decide +kernel
theorem d_M_run_19 : decode (qB q_M_run) 19 = .ok (.lload 5, 2) := by decide +kernel
theorem d_M_run_21 : decode (qB q_M_run) 21 = .ok (.lconst 1, 1) := by decide +kernel
theorem d_M_run_22 : decode (qB q_M_run) 22 = .ok (.ldc2_w 213, 3) := by decide +kernel
theorem d_M_run_25 : decode (qB q_M_run) 25 = .ok (.invokestatic 95, 3) := by decide +kernel
theorem d_M_run_28 : decode (qB q_M_run) 28 = .ok (.ifCond .ne 6, 3) := by decide +kernel
theorem d_M_run_31 : decode (qB q_M_run) 31 = .ok (.bipush (-3), 2) := by decide +kernel
theorem d_M_run_33 : decode (qB q_M_run) 33 = .ok (.ireturn, 1) := by decide +kernel
theorem d_M_run_34 : decode (qB q_M_run) 34 = .ok (.iload_n 2, 1) := by decide +kernel
theorem d_M_run_35 : decode (qB q_M_run) 35 = .ok (.aload_n 0, 1) := by decide +kernel
theorem d_M_run_36 : decode (qB q_M_run) 36 = .ok (.getfield 89, 3) := by decide +kernel
theorem d_M_run_39 : decode (qB q_M_run) 39 = .ok (.imul, 1) := by decide +kernel
theorem d_M_run_40 : decode (qB q_M_run) 40 = .ok (.iload_n 1, 1) := by decide +kernel
theorem d_M_run_41 : decode (qB q_M_run) 41 = .ok (.iadd, 1) := by decide +kernel
theorem d_M_run_42 : decode (qB q_M_run) 42 = .ok (.istore 7, 2) := by decide +kernel
theorem d_M_run_44 : decode (qB q_M_run) 44 = .ok (.iload 4, 2) := by decide +kernel
theorem d_M_run_46 : decode (qB q_M_run) 46 = .ok (.aload_n 0, 1) := by decide +kernel
theorem d_M_run_47 : decode (qB q_M_run) 47 = .ok (.getfield 89, 3) := by decide +kernel
theorem d_M_run_50 : decode (qB q_M_run) 50 = .ok (.imul, 1) := by decide +kernel
theorem d_M_run_51 : decode (qB q_M_run) 51 = .ok (.iload_n 3, 1) := by decide +kernel
theorem d_M_run_52 : decode (qB q_M_run) 52 = .ok (.iadd, 1) := by decide +kernel
theorem d_M_run_53 : decode (qB q_M_run) 53 = .ok (.istore 8, 2) := by decide +kernel
theorem d_M_run_55 : decode (qB q_M_run) 55 = .ok (.iload 7, 2) := by decide +kernel
theorem d_M_run_57 : decode (qB q_M_run) 57 = .ok (.iload 8, 2) := by decide +kernel
theorem d_M_run_59 : decode (qB q_M_run) 59 = .ok (.if_icmp .eq 23, 3) := by decide +kernel
theorem d_M_run_62 : decode (qB q_M_run) 62 = .ok (.aload_n 0, 1) := by decide +kernel
theorem d_M_run_63 : decode (qB q_M_run) 63 = .ok (.getfield 16, 3) := by decide +kernel
theorem d_M_run_66 : decode (qB q_M_run) 66 = .ok (.iload 7, 2) := by decide +kernel
theorem d_M_run_68 : decode (qB q_M_run) 68 = .ok (.baload, 1) := by decide +kernel
theorem d_M_run_69 : decode (qB q_M_run) 69 = .ok (.ifCond .ne 13, 3) := by decide +kernel
theorem d_M_run_72 : decode (qB q_M_run) 72 = .ok (.aload_n 0, 1) := by decide +kernel
theorem d_M_run_73 : decode (qB q_M_run) 73 = .ok (.getfield 16, 3) := by decide +kernel
theorem d_M_run_76 : decode (qB q_M_run) 76 = .ok (.iload 8, 2) := by decide +kernel
theorem d_M_run_78 : decode (qB q_M_run) 78 = .ok (.baload, 1) := by decide +kernel
theorem d_M_run_79 : decode (qB q_M_run) 79 = .ok (.ifCond .eq 6, 3) := by decide +kernel
theorem d_M_run_82 : decode (qB q_M_run) 82 = .ok (.bipush (-3), 2) := by decide +kernel
theorem d_M_run_84 : decode (qB q_M_run) 84 = .ok (.ireturn, 1) := by decide +kernel
theorem d_M_run_85 : decode (qB q_M_run) 85 = .ok (.aload_n 0, 1) := by decide +kernel
theorem d_M_run_86 : decode (qB q_M_run) 86 = .ok (.iload 7, 2) := by decide +kernel
theorem d_M_run_88 : decode (qB q_M_run) 88 = .ok (.putfield 190, 3) := by decide +kernel
theorem d_M_run_91 : decode (qB q_M_run) 91 = .ok (.aload_n 0, 1) := by decide +kernel
theorem d_M_run_92 : decode (qB q_M_run) 92 = .ok (.iload 8, 2) := by decide +kernel
theorem d_M_run_94 : decode (qB q_M_run) 94 = .ok (.putfield 153, 3) := by decide +kernel
theorem d_M_run_97 : decode (qB q_M_run) 97 = .ok (.aload_n 0, 1) := by decide +kernel
theorem d_M_run_98 : decode (qB q_M_run) 98 = .ok (.lload 5, 2) := by decide +kernel
theorem d_M_run_100 : decode (qB q_M_run) 100 = .ok (.l2i, 1) := by decide +kernel
theorem d_M_run_101 : decode (qB q_M_run) 101 = .ok (.putfield 197, 3) := by decide +kernel
theorem d_M_run_104 : decode (qB q_M_run) 104 = .ok (.aload_n 0, 1) := by decide +kernel
theorem d_M_run_105 : decode (qB q_M_run) 105 = .ok (.iconst 0, 1) := by decide +kernel
theorem d_M_run_106 : decode (qB q_M_run) 106 = .ok (.putfield 207, 3) := by decide +kernel
theorem d_M_run_109 : decode (qB q_M_run) 109 = .ok (.aload_n 0, 1) := by decide +kernel
theorem d_M_run_110 : decode (qB q_M_run) 110 = .ok (.iconst (-1), 1) := by decide +kernel
theorem d_M_run_111 : decode (qB q_M_run) 111 = .ok (.putfield 48, 3) := by decide +kernel
theorem d_M_run_114 : decode (qB q_M_run) 114 = .ok (.aload_n 0, 1) := by decide +kernel
theorem d_M_run_115 : decode (qB q_M_run) 115 = .ok (.iconst 0, 1) := by decide +kernel
theorem d_M_run_116 : decode (qB q_M_run) 116 = .ok (.putfield 156, 3) := by decide +kernel
theorem d_M_run_119 : decode (qB q_M_run) 119 = .ok (.iconst 0, 1) := by decide +kernel
theorem d_M_run_120 : decode (qB q_M_run) 120 = .ok (.istore 9, 2) := by decide +kernel
theorem d_M_run_122 : decode (qB q_M_run) 122 = .ok (.iload 9, 2) := by decide +kernel
theorem d_M_run_124 : decode (qB q_M_run) 124 = .ok (.sipush 144, 3) := by decide +kernel
theorem d_M_run_127 : decode (qB q_M_run) 127 = .ok (.if_icmp .ge 17, 3) := by decide +kernel
theorem d_M_run_130 : decode (qB q_M_run) 130 = .ok (.aload_n 0, 1) := by decide +kernel
theorem d_M_run_131 : decode (qB q_M_run) 131 = .ok (.getfield 66, 3) := by decide +kernel
theorem d_M_run_134 : decode (qB q_M_run) 134 = .ok (.iload 9, 2) := by decide +kernel
theorem d_M_run_136 : decode (qB q_M_run) 136 = .ok (.iconst 0, 1) := by decide +kernel
theorem d_M_run_137 : decode (qB q_M_run) 137 = .ok (.bastore, 1) := by decide +kernel
theorem d_M_run_138 : decode (qB q_M_run) 138 = .ok (.iinc 9 1, 3) := by decide +kernel
theorem d_M_run_141 : decode (qB q_M_run) 141 = .ok (.goto (-19), 3) := by decide +kernel
theorem d_M_run_144 : decode (qB q_M_run) 144 = .ok (.aload_n 0, 1) := by decide +kernel
theorem d_M_run_145 : decode (qB q_M_run) 145 = .ok (.invokevirtual 215, 3) := by decide +kernel
theorem d_M_run_148 : decode (qB q_M_run) 148 = .ok (.istore 9, 2) := by decide +kernel
theorem d_M_run_150 : decode (qB q_M_run) 150 = .ok (.iload 9, 2) := by decide +kernel
theorem d_M_run_152 : decode (qB q_M_run) 152 = .ok (.ifCond .ge 8, 3) := by decide +kernel
theorem d_M_run_155 : decode (qB q_M_run) 155 = .ok (.iload 9, 2) := by decide +kernel
theorem d_M_run_157 : decode (qB q_M_run) 157 = .ok (.goto 9, 3) := by decide +kernel
theorem d_M_run_160 : decode (qB q_M_run) 160 = .ok (.aload_n 0, 1) := by decide +kernel
theorem d_M_run_161 : decode (qB q_M_run) 161 = .ok (.iload 9, 2) := by decide +kernel
theorem d_M_run_163 : decode (qB q_M_run) 163 = .ok (.invokevirtual 218, 3) := by decide +kernel
theorem d_M_run_166 : decode (qB q_M_run) 166 = .ok (.ireturn, 1) := by decide +kernel
set_option maxRecDepth 10000 in
theorem k_M_run {G : mxG} (hG : mx_GG G) : ∀ pc r, t_M_run pc = some r → mx_Ok G mx_W mx_MT q_M_run pc r := (bn_ok (bn_ok (bn_ok (bn_ok (bn_ok (bn_ok (bl_ok (ok_aload_n rfl d_M_run_0)) (bl_ok (ok_iload_n rfl d_M_run_1))) (bn_ok (bl_ok (ok_iload_n rfl d_M_run_2)) (bn_ok (bl_ok (ok_cv mx_W_good (cl_5 hG) d_M_run_3 (mt_M_isCell) mk_M_isCell w_707 w_709 ws_M_isCell (by decide) (by decide))) (bl_ok (ok_ifeq d_M_run_6 (by decide)))))) (bn_ok (bn_ok (bl_ok (ok_aload_n rfl d_M_run_9)) (bn_ok (bl_ok (ok_iload_n rfl d_M_run_10)) (bl_ok (ok_iload d_M_run_11)))) (bn_ok (bl_ok (ok_cv mx_W_good (cl_5 hG) d_M_run_13 (mt_M_isCell) mk_M_isCell w_707 w_709 ws_M_isCell (by decide) (by decide))) (bn_ok (bl_ok (ok_ifeq d_M_run_16 (by decide))) (bl_ok (ok_lload d_M_run_19)))))) (bn_ok (bn_ok (bn_ok (bl_ok (ok_lconst (by decide) d_M_run_21)) (bl_ok (ok_ldc2 d_M_run_22 w_755))) (bn_ok (bl_ok (ok_cs mx_W_good d_M_run_25 (mt_M_within) mk_M_within w_711 w_712 (by decide) (by decide))) (bn_ok (bl_ok (ok_ifne d_M_run_28 (by decide))) (bl_ok (ok_bipush (by decide) d_M_run_31))))) (bn_ok (bn_ok (bl_ok (ok_ireturn d_M_run_33 rfl)) (bn_ok (bl_ok (ok_iload_n rfl d_M_run_34)) (bl_ok (ok_aload_n rfl d_M_run_35)))) (bn_ok (bl_ok (ok_getf d_M_run_36 (cl_5 hG) (by decide) w_603)) (bn_ok (bl_ok (ok_imul d_M_run_39)) (bl_ok (ok_iload_n rfl d_M_run_40))))))) (bn_ok (bn_ok (bn_ok (bn_ok (bl_ok (ok_iadd d_M_run_41)) (bl_ok (ok_istore d_M_run_42 (by decide)))) (bn_ok (bl_ok (ok_iload d_M_run_44)) (bn_ok (bl_ok (ok_aload_n rfl d_M_run_46)) (bl_ok (ok_getf d_M_run_47 (cl_5 hG) (by decide) w_603))))) (bn_ok (bn_ok (bl_ok (ok_imul d_M_run_50)) (bn_ok (bl_ok (ok_iload_n rfl d_M_run_51)) (bl_ok (ok_iadd d_M_run_52)))) (bn_ok (bl_ok (ok_istore d_M_run_53 (by decide))) (bn_ok (bl_ok (ok_iload d_M_run_55)) (bl_ok (ok_iload d_M_run_57)))))) (bn_ok (bn_ok (bn_ok (bl_ok (ok_iceq d_M_run_59 (by decide))) (bl_ok (ok_aload_n rfl d_M_run_62))) (bn_ok (bl_ok (ok_getf d_M_run_63 (cl_5 hG) (by decide) w_607)) (bn_ok (bl_ok (ok_iload d_M_run_66)) (bl_ok (ok_zald d_M_run_68 (kt_2 hG)))))) (bn_ok (bn_ok (bl_ok (ok_ifne d_M_run_69 (by decide))) (bn_ok (bl_ok (ok_aload_n rfl d_M_run_72)) (bl_ok (ok_getf d_M_run_73 (cl_5 hG) (by decide) w_607)))) (bn_ok (bl_ok (ok_iload d_M_run_76)) (bn_ok (bl_ok (ok_zald d_M_run_78 (kt_2 hG))) (bl_ok (ok_ifeq d_M_run_79 (by decide))))))))) (bn_ok (bn_ok (bn_ok (bn_ok (bn_ok (bl_ok (ok_bipush (by decide) d_M_run_82)) (bl_ok (ok_ireturn d_M_run_84 rfl))) (bn_ok (bl_ok (ok_aload_n rfl d_M_run_85)) (bn_ok (bl_ok (ok_iload d_M_run_86)) (bl_ok (ok_putf d_M_run_88 (cl_5 hG) (by decide) w_625 rfl (Or.inl rfl)))))) (bn_ok (bn_ok (bl_ok (ok_aload_n rfl d_M_run_91)) (bn_ok (bl_ok (ok_iload d_M_run_92)) (bl_ok (ok_putf d_M_run_94 (cl_5 hG) (by decide) w_626 rfl (Or.inl rfl))))) (bn_ok (bl_ok (ok_aload_n rfl d_M_run_97)) (bn_ok (bl_ok (ok_lload d_M_run_98)) (bl_ok (ok_l2i d_M_run_100)))))) (bn_ok (bn_ok (bn_ok (bl_ok (ok_putf d_M_run_101 (cl_5 hG) (by decide) w_622 rfl (Or.inl rfl))) (bl_ok (ok_aload_n rfl d_M_run_104))) (bn_ok (bl_ok (ok_iconst (by decide) d_M_run_105)) (bn_ok (bl_ok (ok_putf d_M_run_106 (cl_5 hG) (by decide) w_617 rfl (Or.inl rfl))) (bl_ok (ok_aload_n rfl d_M_run_109))))) (bn_ok (bn_ok (bl_ok (ok_iconst (by decide) d_M_run_110)) (bn_ok (bl_ok (ok_putf d_M_run_111 (cl_5 hG) (by decide) w_618 rfl (Or.inl rfl))) (bl_ok (ok_aload_n rfl d_M_run_114)))) (bn_ok (bl_ok (ok_iconst (by decide) d_M_run_115)) (bn_ok (bl_ok (ok_putf d_M_run_116 (cl_5 hG) (by decide) w_627 rfl (Or.inl rfl))) (bl_ok (ok_iconst (by decide) d_M_run_119))))))) (bn_ok (bn_ok (bn_ok (bn_ok (bl_ok (ok_istore d_M_run_120 (by decide))) (bl_ok (ok_iload d_M_run_122))) (bn_ok (bl_ok (ok_sipush (by decide) d_M_run_124)) (bn_ok (bl_ok (ok_icge d_M_run_127 (by decide))) (bl_ok (ok_aload_n rfl d_M_run_130))))) (bn_ok (bn_ok (bl_ok (ok_getf d_M_run_131 (cl_5 hG) (by decide) w_628)) (bn_ok (bl_ok (ok_iload d_M_run_134)) (bl_ok (ok_iconst (by decide) d_M_run_136)))) (bn_ok (bl_ok (ok_zast d_M_run_137 (kt_2 hG))) (bn_ok (bl_ok (ok_iinc d_M_run_138 (by decide) (by decide))) (bl_ok (ok_goto d_M_run_141 (by decide))))))) (bn_ok (bn_ok (bn_ok (bl_ok (ok_aload_n rfl d_M_run_144)) (bl_ok (ok_cv mx_W_good (cl_5 hG) d_M_run_145 (mt_M_search) mk_M_search w_756 w_758 ws_M_search (by decide) (by decide)))) (bn_ok (bl_ok (ok_istore d_M_run_148 (by decide))) (bn_ok (bl_ok (ok_iload d_M_run_150)) (bl_ok (ok_ifge d_M_run_152 (by decide)))))) (bn_ok (bn_ok (bl_ok (ok_iload d_M_run_155)) (bn_ok (bl_ok (ok_goto d_M_run_157 (by decide))) (bl_ok (ok_aload_n rfl d_M_run_160)))) (bn_ok (bl_ok (ok_iload d_M_run_161)) (bn_ok (bl_ok (ok_cv mx_W_good (cl_5 hG) d_M_run_163 (mt_M_keep) mk_M_keep w_831 w_833 ws_M_keep (by decide) (by decide))) (bl_ok (ok_ireturn d_M_run_166 rfl)))))))))
theorem d_M_unlike_0 : decode (qB q_M_unlike) 0 = .ok (.lload_n 3, 1) := by decide +kernel
theorem d_M_unlike_1 : decode (qB q_M_unlike) 1 = .ok (.lconst 1, 1) := by decide +kernel
theorem d_M_unlike_2 : decode (qB q_M_unlike) 2 = .ok (.ldc2_w 221, 3) := by decide +kernel
theorem d_M_unlike_5 : decode (qB q_M_unlike) 5 = .ok (.invokestatic 95, 3) := by decide +kernel
theorem d_M_unlike_8 : decode (qB q_M_unlike) 8 = .ok (.ifCond .eq 16, 3) := by decide +kernel
theorem d_M_unlike_11 : decode (qB q_M_unlike) 11 = .ok (.lload_n 1, 1) := by decide +kernel
theorem d_M_unlike_12 : decode (qB q_M_unlike) 12 = .ok (.lconst 0, 1) := by decide +kernel
theorem d_M_unlike_13 : decode (qB q_M_unlike) 13 = .ok (.lload_n 3, 1) := by decide +kernel
theorem d_M_unlike_14 : decode (qB q_M_unlike) 14 = .ok (.invokestatic 95, 3) := by decide +kernel
theorem d_M_unlike_17 : decode (qB q_M_unlike) 17 = .ok (.ifCond .eq 7, 3) := by decide +kernel
theorem d_M_unlike_20 : decode (qB q_M_unlike) 20 = .ok (.iconst 1, 1) := by decide +kernel
theorem d_M_unlike_21 : decode (qB q_M_unlike) 21 = .ok (.goto 4, 3) := by decide +kernel
theorem d_M_unlike_24 : decode (qB q_M_unlike) 24 = .ok (.iconst 0, 1) := by decide +kernel
theorem d_M_unlike_25 : decode (qB q_M_unlike) 25 = .ok (.istore 5, 2) := by decide +kernel
theorem d_M_unlike_27 : decode (qB q_M_unlike) 27 = .ok (.iload 5, 2) := by decide +kernel
theorem d_M_unlike_29 : decode (qB q_M_unlike) 29 = .ok (.ifCond .eq 43, 3) := by decide +kernel
theorem d_M_unlike_32 : decode (qB q_M_unlike) 32 = .ok (.aload_n 0, 1) := by decide +kernel
theorem d_M_unlike_33 : decode (qB q_M_unlike) 33 = .ok (.getfield 207, 3) := by decide +kernel
theorem d_M_unlike_36 : decode (qB q_M_unlike) 36 = .ok (.ifCond .eq 36, 3) := by decide +kernel
theorem d_M_unlike_39 : decode (qB q_M_unlike) 39 = .ok (.aload_n 0, 1) := by decide +kernel
theorem d_M_unlike_40 : decode (qB q_M_unlike) 40 = .ok (.getfield 207, 3) := by decide +kernel
theorem d_M_unlike_43 : decode (qB q_M_unlike) 43 = .ok (.bipush 6, 2) := by decide +kernel
theorem d_M_unlike_45 : decode (qB q_M_unlike) 45 = .ok (.if_icmp .eq 27, 3) := by decide +kernel
theorem d_M_unlike_48 : decode (qB q_M_unlike) 48 = .ok (.aload_n 0, 1) := by decide +kernel
theorem d_M_unlike_49 : decode (qB q_M_unlike) 49 = .ok (.getfield 16, 3) := by decide +kernel
theorem d_M_unlike_52 : decode (qB q_M_unlike) 52 = .ok (.aload_n 0, 1) := by decide +kernel
theorem d_M_unlike_53 : decode (qB q_M_unlike) 53 = .ok (.getfield 190, 3) := by decide +kernel
theorem d_M_unlike_56 : decode (qB q_M_unlike) 56 = .ok (.baload, 1) := by decide +kernel
theorem d_M_unlike_57 : decode (qB q_M_unlike) 57 = .ok (.ifCond .ne 15, 3) := by decide +kernel
theorem d_M_unlike_60 : decode (qB q_M_unlike) 60 = .ok (.aload_n 0, 1) := by decide +kernel
theorem d_M_unlike_61 : decode (qB q_M_unlike) 61 = .ok (.getfield 16, 3) := by decide +kernel
theorem d_M_unlike_64 : decode (qB q_M_unlike) 64 = .ok (.aload_n 0, 1) := by decide +kernel
theorem d_M_unlike_65 : decode (qB q_M_unlike) 65 = .ok (.getfield 153, 3) := by decide +kernel
theorem d_M_unlike_68 : decode (qB q_M_unlike) 68 = .ok (.baload, 1) := by decide +kernel
theorem d_M_unlike_69 : decode (qB q_M_unlike) 69 = .ok (.ifCond .eq 6, 3) := by decide +kernel
theorem d_M_unlike_72 : decode (qB q_M_unlike) 72 = .ok (.bipush (-3), 2) := by decide +kernel
theorem d_M_unlike_74 : decode (qB q_M_unlike) 74 = .ok (.ireturn, 1) := by decide +kernel
theorem d_M_unlike_75 : decode (qB q_M_unlike) 75 = .ok (.aload_n 0, 1) := by decide +kernel
theorem d_M_unlike_76 : decode (qB q_M_unlike) 76 = .ok (.getfield 51, 3) := by decide +kernel
theorem d_M_unlike_79 : decode (qB q_M_unlike) 79 = .ok (.iconst 0, 1) := by decide +kernel
theorem d_M_unlike_80 : decode (qB q_M_unlike) 80 = .ok (.iaload, 1) := by decide +kernel
theorem d_M_unlike_81 : decode (qB q_M_unlike) 81 = .ok (.iconst 2, 1) := by decide +kernel
theorem d_M_unlike_82 : decode (qB q_M_unlike) 82 = .ok (.isub, 1) := by decide +kernel
theorem d_M_unlike_83 : decode (qB q_M_unlike) 83 = .ok (.i2l, 1) := by decide +kernel
theorem d_M_unlike_84 : decode (qB q_M_unlike) 84 = .ok (.lload_n 1, 1) := by decide +kernel
theorem d_M_unlike_85 : decode (qB q_M_unlike) 85 = .ok (.lmul, 1) := by decide +kernel
theorem d_M_unlike_86 : decode (qB q_M_unlike) 86 = .ok (.lload_n 3, 1) := by decide +kernel
theorem d_M_unlike_87 : decode (qB q_M_unlike) 87 = .ok (.ldiv, 1) := by decide +kernel
theorem d_M_unlike_88 : decode (qB q_M_unlike) 88 = .ok (.lstore 6, 2) := by decide +kernel
theorem d_M_unlike_90 : decode (qB q_M_unlike) 90 = .ok (.aload_n 0, 1) := by decide +kernel
theorem d_M_unlike_91 : decode (qB q_M_unlike) 91 = .ok (.lload 6, 2) := by decide +kernel
theorem d_M_unlike_93 : decode (qB q_M_unlike) 93 = .ok (.ldc2_w 109, 3) := by decide +kernel
theorem d_M_unlike_96 : decode (qB q_M_unlike) 96 = .ok (.lcmp, 1) := by decide +kernel
theorem d_M_unlike_97 : decode (qB q_M_unlike) 97 = .ok (.ifCond .le 8, 3) := by decide +kernel
theorem d_M_unlike_100 : decode (qB q_M_unlike) 100 = .ok (.bipush 8, 2) := by decide +kernel
theorem d_M_unlike_102 : decode (qB q_M_unlike) 102 = .ok (.goto 6, 3) := by decide +kernel
theorem d_M_unlike_105 : decode (qB q_M_unlike) 105 = .ok (.lload 6, 2) := by decide +kernel
theorem d_M_unlike_107 : decode (qB q_M_unlike) 107 = .ok (.l2i, 1) := by decide +kernel
theorem d_M_unlike_108 : decode (qB q_M_unlike) 108 = .ok (.putfield 156, 3) := by decide +kernel
theorem d_M_unlike_111 : decode (qB q_M_unlike) 111 = .ok (.iconst 0, 1) := by decide +kernel
theorem d_M_unlike_112 : decode (qB q_M_unlike) 112 = .ok (.istore 8, 2) := by decide +kernel
theorem d_M_unlike_114 : decode (qB q_M_unlike) 114 = .ok (.iload 8, 2) := by decide +kernel
theorem d_M_unlike_116 : decode (qB q_M_unlike) 116 = .ok (.sipush 144, 3) := by decide +kernel
theorem d_M_unlike_119 : decode (qB q_M_unlike) 119 = .ok (.if_icmp .ge 17, 3) := by decide +kernel
theorem d_M_unlike_122 : decode (qB q_M_unlike) 122 = .ok (.aload_n 0, 1) := by decide +kernel
theorem d_M_unlike_123 : decode (qB q_M_unlike) 123 = .ok (.getfield 66, 3) := by decide +kernel
theorem d_M_unlike_126 : decode (qB q_M_unlike) 126 = .ok (.iload 8, 2) := by decide +kernel
theorem d_M_unlike_128 : decode (qB q_M_unlike) 128 = .ok (.iconst 0, 1) := by decide +kernel
theorem d_M_unlike_129 : decode (qB q_M_unlike) 129 = .ok (.bastore, 1) := by decide +kernel
theorem d_M_unlike_130 : decode (qB q_M_unlike) 130 = .ok (.iinc 8 1, 3) := by decide +kernel
theorem d_M_unlike_133 : decode (qB q_M_unlike) 133 = .ok (.goto (-19), 3) := by decide +kernel
theorem d_M_unlike_136 : decode (qB q_M_unlike) 136 = .ok (.iconst 0, 1) := by decide +kernel
theorem d_M_unlike_137 : decode (qB q_M_unlike) 137 = .ok (.istore 8, 2) := by decide +kernel
theorem d_M_unlike_139 : decode (qB q_M_unlike) 139 = .ok (.iload 8, 2) := by decide +kernel
theorem d_M_unlike_141 : decode (qB q_M_unlike) 141 = .ok (.aload_n 0, 1) := by decide +kernel
theorem d_M_unlike_142 : decode (qB q_M_unlike) 142 = .ok (.getfield 207, 3) := by decide +kernel
theorem d_M_unlike_145 : decode (qB q_M_unlike) 145 = .ok (.if_icmp .ge 50, 3) := by decide +kernel
theorem d_M_unlike_148 : decode (qB q_M_unlike) 148 = .ok (.iconst 0, 1) := by decide +kernel
theorem d_M_unlike_149 : decode (qB q_M_unlike) 149 = .ok (.istore 9, 2) := by decide +kernel
theorem d_M_unlike_151 : decode (qB q_M_unlike) 151 = .ok (.iload 9, 2) := by decide +kernel
theorem d_M_unlike_153 : decode (qB q_M_unlike) 153 = .ok (.aload_n 0, 1) := by decide +kernel
theorem d_M_unlike_154 : decode (qB q_M_unlike) 154 = .ok (.getfield 51, 3) := by decide +kernel
theorem d_M_unlike_157 : decode (qB q_M_unlike) 157 = .ok (.iload 8, 2) := by decide +kernel
theorem d_M_unlike_159 : decode (qB q_M_unlike) 159 = .ok (.iaload, 1) := by decide +kernel
theorem d_M_unlike_160 : decode (qB q_M_unlike) 160 = .ok (.if_icmp .ge 29, 3) := by decide +kernel
theorem d_M_unlike_163 : decode (qB q_M_unlike) 163 = .ok (.aload_n 0, 1) := by decide +kernel
theorem d_M_unlike_164 : decode (qB q_M_unlike) 164 = .ok (.getfield 66, 3) := by decide +kernel
theorem d_M_unlike_167 : decode (qB q_M_unlike) 167 = .ok (.aload_n 0, 1) := by decide +kernel
theorem d_M_unlike_168 : decode (qB q_M_unlike) 168 = .ok (.getfield 54, 3) := by decide +kernel
theorem d_M_unlike_171 : decode (qB q_M_unlike) 171 = .ok (.sipush 5000, 3) := by decide +kernel
theorem d_M_unlike_174 : decode (qB q_M_unlike) 174 = .ok (.iload 8, 2) := by decide +kernel
theorem d_M_unlike_176 : decode (qB q_M_unlike) 176 = .ok (.imul, 1) := by decide +kernel
theorem d_M_unlike_177 : decode (qB q_M_unlike) 177 = .ok (.iload 9, 2) := by decide +kernel
theorem d_M_unlike_179 : decode (qB q_M_unlike) 179 = .ok (.iadd, 1) := by decide +kernel
theorem d_M_unlike_180 : decode (qB q_M_unlike) 180 = .ok (.iaload, 1) := by decide +kernel
theorem d_M_unlike_181 : decode (qB q_M_unlike) 181 = .ok (.iconst 1, 1) := by decide +kernel
theorem d_M_unlike_182 : decode (qB q_M_unlike) 182 = .ok (.bastore, 1) := by decide +kernel
theorem d_M_unlike_183 : decode (qB q_M_unlike) 183 = .ok (.iinc 9 1, 3) := by decide +kernel
theorem d_M_unlike_186 : decode (qB q_M_unlike) 186 = .ok (.goto (-35), 3) := by decide +kernel
theorem d_M_unlike_189 : decode (qB q_M_unlike) 189 = .ok (.iinc 8 1, 3) := by decide +kernel
theorem d_M_unlike_192 : decode (qB q_M_unlike) 192 = .ok (.goto (-53), 3) := by decide +kernel
theorem d_M_unlike_195 : decode (qB q_M_unlike) 195 = .ok (.aload_n 0, 1) := by decide +kernel
theorem d_M_unlike_196 : decode (qB q_M_unlike) 196 = .ok (.getfield 66, 3) := by decide +kernel
theorem d_M_unlike_199 : decode (qB q_M_unlike) 199 = .ok (.aload_n 0, 1) := by decide +kernel
theorem d_M_unlike_200 : decode (qB q_M_unlike) 200 = .ok (.getfield 190, 3) := by decide +kernel
theorem d_M_unlike_203 : decode (qB q_M_unlike) 203 = .ok (.iconst 0, 1) := by decide +kernel
theorem d_M_unlike_204 : decode (qB q_M_unlike) 204 = .ok (.bastore, 1) := by decide +kernel
theorem d_M_unlike_205 : decode (qB q_M_unlike) 205 = .ok (.aload_n 0, 1) := by decide +kernel
theorem d_M_unlike_206 : decode (qB q_M_unlike) 206 = .ok (.getfield 66, 3) := by decide +kernel
theorem d_M_unlike_209 : decode (qB q_M_unlike) 209 = .ok (.aload_n 0, 1) := by decide +kernel
theorem d_M_unlike_210 : decode (qB q_M_unlike) 210 = .ok (.getfield 153, 3) := by decide +kernel
theorem d_M_unlike_213 : decode (qB q_M_unlike) 213 = .ok (.iconst 0, 1) := by decide +kernel
theorem d_M_unlike_214 : decode (qB q_M_unlike) 214 = .ok (.bastore, 1) := by decide +kernel
theorem d_M_unlike_215 : decode (qB q_M_unlike) 215 = .ok (.aload_n 0, 1) := by decide +kernel
theorem d_M_unlike_216 : decode (qB q_M_unlike) 216 = .ok (.invokevirtual 215, 3) := by decide +kernel
theorem d_M_unlike_219 : decode (qB q_M_unlike) 219 = .ok (.istore 8, 2) := by decide +kernel
theorem d_M_unlike_221 : decode (qB q_M_unlike) 221 = .ok (.iload 8, 2) := by decide +kernel
theorem d_M_unlike_223 : decode (qB q_M_unlike) 223 = .ok (.ifCond .ge 8, 3) := by decide +kernel
theorem d_M_unlike_226 : decode (qB q_M_unlike) 226 = .ok (.iload 8, 2) := by decide +kernel
theorem d_M_unlike_228 : decode (qB q_M_unlike) 228 = .ok (.goto 9, 3) := by decide +kernel
theorem d_M_unlike_231 : decode (qB q_M_unlike) 231 = .ok (.aload_n 0, 1) := by decide +kernel
theorem d_M_unlike_232 : decode (qB q_M_unlike) 232 = .ok (.iload 8, 2) := by decide +kernel
theorem d_M_unlike_234 : decode (qB q_M_unlike) 234 = .ok (.invokevirtual 218, 3) := by decide +kernel
theorem d_M_unlike_237 : decode (qB q_M_unlike) 237 = .ok (.ireturn, 1) := by decide +kernel
set_option maxRecDepth 10000 in
theorem k_M_unlike {G : mxG} (hG : mx_GG G) : ∀ pc r, t_M_unlike pc = some r → mx_Ok G mx_W mx_MT q_M_unlike pc r := (bn_ok (bn_ok (bn_ok (bn_ok (bn_ok (bn_ok (bl_ok (ok_lload_n rfl d_M_unlike_0)) (bn_ok (bl_ok (ok_lconst (by decide) d_M_unlike_1)) (bl_ok (ok_ldc2 d_M_unlike_2 w_843)))) (bn_ok (bn_ok (bl_ok (ok_cs mx_W_good d_M_unlike_5 (mt_M_within) mk_M_within w_711 w_712 (by decide) (by decide))) (bl_ok (ok_ifeq d_M_unlike_8 (by decide)))) (bn_ok (bl_ok (ok_lload_n rfl d_M_unlike_11)) (bl_ok (ok_lconst (by decide) d_M_unlike_12))))) (bn_ok (bn_ok (bn_ok (bl_ok (ok_lload_n rfl d_M_unlike_13)) (bl_ok (ok_cs mx_W_good d_M_unlike_14 (mt_M_within) mk_M_within w_711 w_712 (by decide) (by decide)))) (bn_ok (bl_ok (ok_ifeq d_M_unlike_17 (by decide))) (bl_ok (ok_iconst (by decide) d_M_unlike_20)))) (bn_ok (bn_ok (bl_ok (ok_goto d_M_unlike_21 (by decide))) (bl_ok (ok_iconst (by decide) d_M_unlike_24))) (bn_ok (bl_ok (ok_istore d_M_unlike_25 (by decide))) (bl_ok (ok_iload d_M_unlike_27)))))) (bn_ok (bn_ok (bn_ok (bn_ok (bl_ok (ok_ifeq d_M_unlike_29 (by decide))) (bl_ok (ok_aload_n rfl d_M_unlike_32))) (bn_ok (bl_ok (ok_getf d_M_unlike_33 (cl_5 hG) (by decide) w_617)) (bl_ok (ok_ifeq d_M_unlike_36 (by decide))))) (bn_ok (bn_ok (bl_ok (ok_aload_n rfl d_M_unlike_39)) (bl_ok (ok_getf d_M_unlike_40 (cl_5 hG) (by decide) w_617))) (bn_ok (bl_ok (ok_bipush (by decide) d_M_unlike_43)) (bl_ok (ok_iceq d_M_unlike_45 (by decide)))))) (bn_ok (bn_ok (bn_ok (bl_ok (ok_aload_n rfl d_M_unlike_48)) (bl_ok (ok_getf d_M_unlike_49 (cl_5 hG) (by decide) w_607))) (bn_ok (bl_ok (ok_aload_n rfl d_M_unlike_52)) (bl_ok (ok_getf d_M_unlike_53 (cl_5 hG) (by decide) w_625)))) (bn_ok (bn_ok (bl_ok (ok_zald d_M_unlike_56 (kt_2 hG))) (bl_ok (ok_ifne d_M_unlike_57 (by decide)))) (bn_ok (bl_ok (ok_aload_n rfl d_M_unlike_60)) (bl_ok (ok_getf d_M_unlike_61 (cl_5 hG) (by decide) w_607))))))) (bn_ok (bn_ok (bn_ok (bn_ok (bl_ok (ok_aload_n rfl d_M_unlike_64)) (bn_ok (bl_ok (ok_getf d_M_unlike_65 (cl_5 hG) (by decide) w_626)) (bl_ok (ok_zald d_M_unlike_68 (kt_2 hG))))) (bn_ok (bn_ok (bl_ok (ok_ifeq d_M_unlike_69 (by decide))) (bl_ok (ok_bipush (by decide) d_M_unlike_72))) (bn_ok (bl_ok (ok_ireturn d_M_unlike_74 rfl)) (bl_ok (ok_aload_n rfl d_M_unlike_75))))) (bn_ok (bn_ok (bn_ok (bl_ok (ok_getf d_M_unlike_76 (cl_5 hG) (by decide) w_619)) (bl_ok (ok_iconst (by decide) d_M_unlike_79))) (bn_ok (bl_ok (ok_iald d_M_unlike_80 (kt_0 hG))) (bl_ok (ok_iconst (by decide) d_M_unlike_81)))) (bn_ok (bn_ok (bl_ok (ok_isub d_M_unlike_82)) (bl_ok (ok_i2l d_M_unlike_83))) (bn_ok (bl_ok (ok_lload_n rfl d_M_unlike_84)) (bl_ok (ok_lmul d_M_unlike_85)))))) (bn_ok (bn_ok (bn_ok (bn_ok (bl_ok (ok_lload_n rfl d_M_unlike_86)) (bl_ok (ok_ldiv d_M_unlike_87))) (bn_ok (bl_ok (ok_lstore d_M_unlike_88 (by decide))) (bl_ok (ok_aload_n rfl d_M_unlike_90)))) (bn_ok (bn_ok (bl_ok (ok_lload d_M_unlike_91)) (bl_ok (ok_ldc2 d_M_unlike_93 w_725))) (bn_ok (bl_ok (ok_lcmp d_M_unlike_96)) (bl_ok (ok_ifle d_M_unlike_97 (by decide)))))) (bn_ok (bn_ok (bn_ok (bl_ok (ok_bipush (by decide) d_M_unlike_100)) (bl_ok (ok_goto d_M_unlike_102 (by decide)))) (bn_ok (bl_ok (ok_lload d_M_unlike_105)) (bl_ok (ok_l2i d_M_unlike_107)))) (bn_ok (bn_ok (bl_ok (ok_putf d_M_unlike_108 (cl_5 hG) (by decide) w_627 rfl (Or.inl rfl))) (bl_ok (ok_iconst (by decide) d_M_unlike_111))) (bn_ok (bl_ok (ok_istore d_M_unlike_112 (by decide))) (bl_ok (ok_iload d_M_unlike_114)))))))) (bn_ok (bn_ok (bn_ok (bn_ok (bn_ok (bl_ok (ok_sipush (by decide) d_M_unlike_116)) (bn_ok (bl_ok (ok_icge d_M_unlike_119 (by decide))) (bl_ok (ok_aload_n rfl d_M_unlike_122)))) (bn_ok (bn_ok (bl_ok (ok_getf d_M_unlike_123 (cl_5 hG) (by decide) w_628)) (bl_ok (ok_iload d_M_unlike_126))) (bn_ok (bl_ok (ok_iconst (by decide) d_M_unlike_128)) (bl_ok (ok_zast d_M_unlike_129 (kt_2 hG)))))) (bn_ok (bn_ok (bn_ok (bl_ok (ok_iinc d_M_unlike_130 (by decide) (by decide))) (bl_ok (ok_goto d_M_unlike_133 (by decide)))) (bn_ok (bl_ok (ok_iconst (by decide) d_M_unlike_136)) (bl_ok (ok_istore d_M_unlike_137 (by decide))))) (bn_ok (bn_ok (bl_ok (ok_iload d_M_unlike_139)) (bl_ok (ok_aload_n rfl d_M_unlike_141))) (bn_ok (bl_ok (ok_getf d_M_unlike_142 (cl_5 hG) (by decide) w_617)) (bl_ok (ok_icge d_M_unlike_145 (by decide))))))) (bn_ok (bn_ok (bn_ok (bn_ok (bl_ok (ok_iconst (by decide) d_M_unlike_148)) (bl_ok (ok_istore d_M_unlike_149 (by decide)))) (bn_ok (bl_ok (ok_iload d_M_unlike_151)) (bl_ok (ok_aload_n rfl d_M_unlike_153)))) (bn_ok (bn_ok (bl_ok (ok_getf d_M_unlike_154 (cl_5 hG) (by decide) w_619)) (bl_ok (ok_iload d_M_unlike_157))) (bn_ok (bl_ok (ok_iald d_M_unlike_159 (kt_0 hG))) (bl_ok (ok_icge d_M_unlike_160 (by decide)))))) (bn_ok (bn_ok (bn_ok (bl_ok (ok_aload_n rfl d_M_unlike_163)) (bl_ok (ok_getf d_M_unlike_164 (cl_5 hG) (by decide) w_628))) (bn_ok (bl_ok (ok_aload_n rfl d_M_unlike_167)) (bl_ok (ok_getf d_M_unlike_168 (cl_5 hG) (by decide) w_620)))) (bn_ok (bn_ok (bl_ok (ok_sipush (by decide) d_M_unlike_171)) (bl_ok (ok_iload d_M_unlike_174))) (bn_ok (bl_ok (ok_imul d_M_unlike_176)) (bl_ok (ok_iload d_M_unlike_177))))))) (bn_ok (bn_ok (bn_ok (bn_ok (bl_ok (ok_iadd d_M_unlike_179)) (bn_ok (bl_ok (ok_iald d_M_unlike_180 (kt_0 hG))) (bl_ok (ok_iconst (by decide) d_M_unlike_181)))) (bn_ok (bn_ok (bl_ok (ok_zast d_M_unlike_182 (kt_2 hG))) (bl_ok (ok_iinc d_M_unlike_183 (by decide) (by decide)))) (bn_ok (bl_ok (ok_goto d_M_unlike_186 (by decide))) (bl_ok (ok_iinc d_M_unlike_189 (by decide) (by decide)))))) (bn_ok (bn_ok (bn_ok (bl_ok (ok_goto d_M_unlike_192 (by decide))) (bl_ok (ok_aload_n rfl d_M_unlike_195))) (bn_ok (bl_ok (ok_getf d_M_unlike_196 (cl_5 hG) (by decide) w_628)) (bl_ok (ok_aload_n rfl d_M_unlike_199)))) (bn_ok (bn_ok (bl_ok (ok_getf d_M_unlike_200 (cl_5 hG) (by decide) w_625)) (bl_ok (ok_iconst (by decide) d_M_unlike_203))) (bn_ok (bl_ok (ok_zast d_M_unlike_204 (kt_2 hG))) (bl_ok (ok_aload_n rfl d_M_unlike_205)))))) (bn_ok (bn_ok (bn_ok (bn_ok (bl_ok (ok_getf d_M_unlike_206 (cl_5 hG) (by decide) w_628)) (bl_ok (ok_aload_n rfl d_M_unlike_209))) (bn_ok (bl_ok (ok_getf d_M_unlike_210 (cl_5 hG) (by decide) w_626)) (bl_ok (ok_iconst (by decide) d_M_unlike_213)))) (bn_ok (bn_ok (bl_ok (ok_zast d_M_unlike_214 (kt_2 hG))) (bl_ok (ok_aload_n rfl d_M_unlike_215))) (bn_ok (bl_ok (ok_cv mx_W_good (cl_5 hG) d_M_unlike_216 (mt_M_search) mk_M_search w_756 w_758 ws_M_search (by decide) (by decide))) (bl_ok (ok_istore d_M_unlike_219 (by decide)))))) (bn_ok (bn_ok (bn_ok (bl_ok (ok_iload d_M_unlike_221)) (bl_ok (ok_ifge d_M_unlike_223 (by decide)))) (bn_ok (bl_ok (ok_iload d_M_unlike_226)) (bl_ok (ok_goto d_M_unlike_228 (by decide))))) (bn_ok (bn_ok (bl_ok (ok_aload_n rfl d_M_unlike_231)) (bl_ok (ok_iload d_M_unlike_232))) (bn_ok (bl_ok (ok_cv mx_W_good (cl_5 hG) d_M_unlike_234 (mt_M_keep) mk_M_keep w_831 w_833 ws_M_keep (by decide) (by decide))) (bl_ok (ok_ireturn d_M_unlike_237 rfl)))))))))
theorem d_M_bound_0 : decode (qB q_M_bound) 0 = .ok (.aload_n 0, 1) := by decide +kernel
theorem d_M_bound_1 : decode (qB q_M_bound) 1 = .ok (.getfield 62, 3) := by decide +kernel
theorem d_M_bound_4 : decode (qB q_M_bound) 4 = .ok (.lreturn, 1) := by decide +kernel
set_option maxRecDepth 10000 in
theorem k_M_bound {G : mxG} (hG : mx_GG G) : ∀ pc r, t_M_bound pc = some r → mx_Ok G mx_W mx_MT q_M_bound pc r := (bn_ok (bl_ok (ok_aload_n rfl d_M_bound_0)) (bn_ok (bl_ok (ok_getf d_M_bound_1 (cl_5 hG) (by decide) w_623)) (bl_ok (ok_lreturn d_M_bound_4 rfl))))
theorem d_M_proved_0 : decode (qB q_M_proved) 0 = .ok (.aload_n 0, 1) := by decide +kernel
theorem d_M_proved_1 : decode (qB q_M_proved) 1 = .ok (.getfield 193, 3) := by decide +kernel
theorem d_M_proved_4 : decode (qB q_M_proved) 4 = .ok (.ireturn, 1) := by decide +kernel
set_option maxRecDepth 10000 in
theorem k_M_proved {G : mxG} (hG : mx_GG G) : ∀ pc r, t_M_proved pc = some r → mx_Ok G mx_W mx_MT q_M_proved pc r := (bn_ok (bl_ok (ok_aload_n rfl d_M_proved_0)) (bn_ok (bl_ok (ok_getf d_M_proved_1 (cl_5 hG) (by decide) w_624)) (bl_ok (ok_zreturn d_M_proved_4 rfl))))
theorem d_M_at_0 : decode (qB q_M_at) 0 = .ok (.aload_n 0, 1) := by decide +kernel
theorem d_M_at_1 : decode (qB q_M_at) 1 = .ok (.getfield 48, 3) := by decide +kernel
theorem d_M_at_4 : decode (qB q_M_at) 4 = .ok (.iconst (-1), 1) := by decide +kernel
theorem d_M_at_5 : decode (qB q_M_at) 5 = .ok (.if_icmp .eq 29, 3) := by decide +kernel
theorem d_M_at_8 : decode (qB q_M_at) 8 = .ok (.iload_n 1, 1) := by decide +kernel
theorem d_M_at_9 : decode (qB q_M_at) 9 = .ok (.ifCond .lt 25, 3) := by decide +kernel
theorem d_M_at_12 : decode (qB q_M_at) 12 = .ok (.iload_n 1, 1) := by decide +kernel
theorem d_M_at_13 : decode (qB q_M_at) 13 = .ok (.aload_n 0, 1) := by decide +kernel
theorem d_M_at_14 : decode (qB q_M_at) 14 = .ok (.getfield 51, 3) := by decide +kernel
theorem d_M_at_17 : decode (qB q_M_at) 17 = .ok (.aload_n 0, 1) := by decide +kernel
theorem d_M_at_18 : decode (qB q_M_at) 18 = .ok (.getfield 48, 3) := by decide +kernel
theorem d_M_at_21 : decode (qB q_M_at) 21 = .ok (.iaload, 1) := by decide +kernel
theorem d_M_at_22 : decode (qB q_M_at) 22 = .ok (.if_icmp .ge 12, 3) := by decide +kernel
theorem d_M_at_25 : decode (qB q_M_at) 25 = .ok (.iload_n 2, 1) := by decide +kernel
theorem d_M_at_26 : decode (qB q_M_at) 26 = .ok (.ifCond .lt 8, 3) := by decide +kernel
theorem d_M_at_29 : decode (qB q_M_at) 29 = .ok (.iload_n 2, 1) := by decide +kernel
theorem d_M_at_30 : decode (qB q_M_at) 30 = .ok (.iconst 2, 1) := by decide +kernel
theorem d_M_at_31 : decode (qB q_M_at) 31 = .ok (.if_icmp .le 5, 3) := by decide +kernel
theorem d_M_at_34 : decode (qB q_M_at) 34 = .ok (.iconst (-1), 1) := by decide +kernel
theorem d_M_at_35 : decode (qB q_M_at) 35 = .ok (.ireturn, 1) := by decide +kernel
theorem d_M_at_36 : decode (qB q_M_at) 36 = .ok (.aload_n 0, 1) := by decide +kernel
theorem d_M_at_37 : decode (qB q_M_at) 37 = .ok (.getfield 54, 3) := by decide +kernel
theorem d_M_at_40 : decode (qB q_M_at) 40 = .ok (.sipush 5000, 3) := by decide +kernel
theorem d_M_at_43 : decode (qB q_M_at) 43 = .ok (.aload_n 0, 1) := by decide +kernel
theorem d_M_at_44 : decode (qB q_M_at) 44 = .ok (.getfield 48, 3) := by decide +kernel
theorem d_M_at_47 : decode (qB q_M_at) 47 = .ok (.imul, 1) := by decide +kernel
theorem d_M_at_48 : decode (qB q_M_at) 48 = .ok (.iload_n 1, 1) := by decide +kernel
theorem d_M_at_49 : decode (qB q_M_at) 49 = .ok (.iadd, 1) := by decide +kernel
theorem d_M_at_50 : decode (qB q_M_at) 50 = .ok (.iaload, 1) := by decide +kernel
theorem d_M_at_51 : decode (qB q_M_at) 51 = .ok (.istore_n 3, 1) := by decide +kernel
theorem d_M_at_52 : decode (qB q_M_at) 52 = .ok (.iload_n 2, 1) := by decide +kernel
theorem d_M_at_53 : decode (qB q_M_at) 53 = .ok (.ifCond .ne 12, 3) := by decide +kernel
theorem d_M_at_56 : decode (qB q_M_at) 56 = .ok (.iload_n 3, 1) := by decide +kernel
theorem d_M_at_57 : decode (qB q_M_at) 57 = .ok (.aload_n 0, 1) := by decide +kernel
theorem d_M_at_58 : decode (qB q_M_at) 58 = .ok (.getfield 89, 3) := by decide +kernel
theorem d_M_at_61 : decode (qB q_M_at) 61 = .ok (.irem, 1) := by decide +kernel
theorem d_M_at_62 : decode (qB q_M_at) 62 = .ok (.goto 32, 3) := by decide +kernel
theorem d_M_at_65 : decode (qB q_M_at) 65 = .ok (.iload_n 2, 1) := by decide +kernel
theorem d_M_at_66 : decode (qB q_M_at) 66 = .ok (.iconst 1, 1) := by decide +kernel
theorem d_M_at_67 : decode (qB q_M_at) 67 = .ok (.if_icmp .ne 12, 3) := by decide +kernel
theorem d_M_at_70 : decode (qB q_M_at) 70 = .ok (.iload_n 3, 1) := by decide +kernel
theorem d_M_at_71 : decode (qB q_M_at) 71 = .ok (.aload_n 0, 1) := by decide +kernel
theorem d_M_at_72 : decode (qB q_M_at) 72 = .ok (.getfield 89, 3) := by decide +kernel
theorem d_M_at_75 : decode (qB q_M_at) 75 = .ok (.idiv, 1) := by decide +kernel
theorem d_M_at_76 : decode (qB q_M_at) 76 = .ok (.goto 18, 3) := by decide +kernel
theorem d_M_at_79 : decode (qB q_M_at) 79 = .ok (.aload_n 0, 1) := by decide +kernel
theorem d_M_at_80 : decode (qB q_M_at) 80 = .ok (.getfield 57, 3) := by decide +kernel
theorem d_M_at_83 : decode (qB q_M_at) 83 = .ok (.sipush 5000, 3) := by decide +kernel
theorem d_M_at_86 : decode (qB q_M_at) 86 = .ok (.aload_n 0, 1) := by decide +kernel
theorem d_M_at_87 : decode (qB q_M_at) 87 = .ok (.getfield 48, 3) := by decide +kernel
theorem d_M_at_90 : decode (qB q_M_at) 90 = .ok (.imul, 1) := by decide +kernel
theorem d_M_at_91 : decode (qB q_M_at) 91 = .ok (.iload_n 1, 1) := by decide +kernel
theorem d_M_at_92 : decode (qB q_M_at) 92 = .ok (.iadd, 1) := by decide +kernel
theorem d_M_at_93 : decode (qB q_M_at) 93 = .ok (.iaload, 1) := by decide +kernel
theorem d_M_at_94 : decode (qB q_M_at) 94 = .ok (.ireturn, 1) := by decide +kernel
set_option maxRecDepth 10000 in
theorem k_M_at {G : mxG} (hG : mx_GG G) : ∀ pc r, t_M_at pc = some r → mx_Ok G mx_W mx_MT q_M_at pc r := (bn_ok (bn_ok (bn_ok (bn_ok (bn_ok (bl_ok (ok_aload_n rfl d_M_at_0)) (bn_ok (bl_ok (ok_getf d_M_at_1 (cl_5 hG) (by decide) w_618)) (bl_ok (ok_iconst (by decide) d_M_at_4)))) (bn_ok (bl_ok (ok_iceq d_M_at_5 (by decide))) (bn_ok (bl_ok (ok_iload_n rfl d_M_at_8)) (bl_ok (ok_iflt d_M_at_9 (by decide)))))) (bn_ok (bn_ok (bl_ok (ok_iload_n rfl d_M_at_12)) (bn_ok (bl_ok (ok_aload_n rfl d_M_at_13)) (bl_ok (ok_getf d_M_at_14 (cl_5 hG) (by decide) w_619)))) (bn_ok (bn_ok (bl_ok (ok_aload_n rfl d_M_at_17)) (bl_ok (ok_getf d_M_at_18 (cl_5 hG) (by decide) w_618))) (bn_ok (bl_ok (ok_iald d_M_at_21 (kt_0 hG))) (bl_ok (ok_icge d_M_at_22 (by decide))))))) (bn_ok (bn_ok (bn_ok (bl_ok (ok_iload_n rfl d_M_at_25)) (bn_ok (bl_ok (ok_iflt d_M_at_26 (by decide))) (bl_ok (ok_iload_n rfl d_M_at_29)))) (bn_ok (bn_ok (bl_ok (ok_iconst (by decide) d_M_at_30)) (bl_ok (ok_icle d_M_at_31 (by decide)))) (bn_ok (bl_ok (ok_iconst (by decide) d_M_at_34)) (bl_ok (ok_ireturn d_M_at_35 rfl))))) (bn_ok (bn_ok (bl_ok (ok_aload_n rfl d_M_at_36)) (bn_ok (bl_ok (ok_getf d_M_at_37 (cl_5 hG) (by decide) w_620)) (bl_ok (ok_sipush (by decide) d_M_at_40)))) (bn_ok (bn_ok (bl_ok (ok_aload_n rfl d_M_at_43)) (bl_ok (ok_getf d_M_at_44 (cl_5 hG) (by decide) w_618))) (bn_ok (bl_ok (ok_imul d_M_at_47)) (bl_ok (ok_iload_n rfl d_M_at_48))))))) (bn_ok (bn_ok (bn_ok (bn_ok (bl_ok (ok_iadd d_M_at_49)) (bn_ok (bl_ok (ok_iald d_M_at_50 (kt_0 hG))) (bl_ok (ok_istore_n rfl d_M_at_51 (by decide))))) (bn_ok (bn_ok (bl_ok (ok_iload_n rfl d_M_at_52)) (bl_ok (ok_ifne d_M_at_53 (by decide)))) (bn_ok (bl_ok (ok_iload_n rfl d_M_at_56)) (bl_ok (ok_aload_n rfl d_M_at_57))))) (bn_ok (bn_ok (bl_ok (ok_getf d_M_at_58 (cl_5 hG) (by decide) w_603)) (bn_ok (bl_ok (ok_irem d_M_at_61)) (bl_ok (ok_goto d_M_at_62 (by decide))))) (bn_ok (bn_ok (bl_ok (ok_iload_n rfl d_M_at_65)) (bl_ok (ok_iconst (by decide) d_M_at_66))) (bn_ok (bl_ok (ok_icne d_M_at_67 (by decide))) (bl_ok (ok_iload_n rfl d_M_at_70)))))) (bn_ok (bn_ok (bn_ok (bl_ok (ok_aload_n rfl d_M_at_71)) (bn_ok (bl_ok (ok_getf d_M_at_72 (cl_5 hG) (by decide) w_603)) (bl_ok (ok_idiv d_M_at_75)))) (bn_ok (bn_ok (bl_ok (ok_goto d_M_at_76 (by decide))) (bl_ok (ok_aload_n rfl d_M_at_79))) (bn_ok (bl_ok (ok_getf d_M_at_80 (cl_5 hG) (by decide) w_621)) (bl_ok (ok_sipush (by decide) d_M_at_83))))) (bn_ok (bn_ok (bl_ok (ok_aload_n rfl d_M_at_86)) (bn_ok (bl_ok (ok_getf d_M_at_87 (cl_5 hG) (by decide) w_618)) (bl_ok (ok_imul d_M_at_90)))) (bn_ok (bn_ok (bl_ok (ok_iload_n rfl d_M_at_91)) (bl_ok (ok_iadd d_M_at_92))) (bn_ok (bl_ok (ok_iald d_M_at_93 (kt_0 hG))) (bl_ok (ok_ireturn d_M_at_94 rfl))))))))
theorem d_M_wayCost_0 : decode (qB q_M_wayCost) 0 = .ok (.lconst 0, 1) := by decide +kernel
theorem d_M_wayCost_1 : decode (qB q_M_wayCost) 1 = .ok (.lstore_n 3, 1) := by decide +kernel
theorem d_M_wayCost_2 : decode (qB q_M_wayCost) 2 = .ok (.iconst 1, 1) := by decide +kernel
theorem d_M_wayCost_3 : decode (qB q_M_wayCost) 3 = .ok (.istore 5, 2) := by decide +kernel
theorem d_M_wayCost_5 : decode (qB q_M_wayCost) 5 = .ok (.iload 5, 2) := by decide +kernel
theorem d_M_wayCost_7 : decode (qB q_M_wayCost) 7 = .ok (.aload_n 0, 1) := by decide +kernel
theorem d_M_wayCost_8 : decode (qB q_M_wayCost) 8 = .ok (.getfield 51, 3) := by decide +kernel
theorem d_M_wayCost_11 : decode (qB q_M_wayCost) 11 = .ok (.iload_n 1, 1) := by decide +kernel
theorem d_M_wayCost_12 : decode (qB q_M_wayCost) 12 = .ok (.iaload, 1) := by decide +kernel
theorem d_M_wayCost_13 : decode (qB q_M_wayCost) 13 = .ok (.if_icmp .ge 48, 3) := by decide +kernel
theorem d_M_wayCost_16 : decode (qB q_M_wayCost) 16 = .ok (.lload_n 3, 1) := by decide +kernel
theorem d_M_wayCost_17 : decode (qB q_M_wayCost) 17 = .ok (.aload_n 0, 1) := by decide +kernel
theorem d_M_wayCost_18 : decode (qB q_M_wayCost) 18 = .ok (.getfield 57, 3) := by decide +kernel
theorem d_M_wayCost_21 : decode (qB q_M_wayCost) 21 = .ok (.sipush 5000, 3) := by decide +kernel
theorem d_M_wayCost_24 : decode (qB q_M_wayCost) 24 = .ok (.iload_n 1, 1) := by decide +kernel
theorem d_M_wayCost_25 : decode (qB q_M_wayCost) 25 = .ok (.imul, 1) := by decide +kernel
theorem d_M_wayCost_26 : decode (qB q_M_wayCost) 26 = .ok (.iload 5, 2) := by decide +kernel
theorem d_M_wayCost_28 : decode (qB q_M_wayCost) 28 = .ok (.iadd, 1) := by decide +kernel
theorem d_M_wayCost_29 : decode (qB q_M_wayCost) 29 = .ok (.iaload, 1) := by decide +kernel
theorem d_M_wayCost_30 : decode (qB q_M_wayCost) 30 = .ok (.invokestatic 168, 3) := by decide +kernel
theorem d_M_wayCost_33 : decode (qB q_M_wayCost) 33 = .ok (.i2l, 1) := by decide +kernel
theorem d_M_wayCost_34 : decode (qB q_M_wayCost) 34 = .ok (.aload_n 0, 1) := by decide +kernel
theorem d_M_wayCost_35 : decode (qB q_M_wayCost) 35 = .ok (.aload_n 0, 1) := by decide +kernel
theorem d_M_wayCost_36 : decode (qB q_M_wayCost) 36 = .ok (.getfield 54, 3) := by decide +kernel
theorem d_M_wayCost_39 : decode (qB q_M_wayCost) 39 = .ok (.sipush 5000, 3) := by decide +kernel
theorem d_M_wayCost_42 : decode (qB q_M_wayCost) 42 = .ok (.iload_n 1, 1) := by decide +kernel
theorem d_M_wayCost_43 : decode (qB q_M_wayCost) 43 = .ok (.imul, 1) := by decide +kernel
theorem d_M_wayCost_44 : decode (qB q_M_wayCost) 44 = .ok (.iload 5, 2) := by decide +kernel
theorem d_M_wayCost_46 : decode (qB q_M_wayCost) 46 = .ok (.iadd, 1) := by decide +kernel
theorem d_M_wayCost_47 : decode (qB q_M_wayCost) 47 = .ok (.iaload, 1) := by decide +kernel
theorem d_M_wayCost_48 : decode (qB q_M_wayCost) 48 = .ok (.iload_n 2, 1) := by decide +kernel
theorem d_M_wayCost_49 : decode (qB q_M_wayCost) 49 = .ok (.invokevirtual 171, 3) := by decide +kernel
theorem d_M_wayCost_52 : decode (qB q_M_wayCost) 52 = .ok (.lmul, 1) := by decide +kernel
theorem d_M_wayCost_53 : decode (qB q_M_wayCost) 53 = .ok (.ladd, 1) := by decide +kernel
theorem d_M_wayCost_54 : decode (qB q_M_wayCost) 54 = .ok (.lstore_n 3, 1) := by decide +kernel
theorem d_M_wayCost_55 : decode (qB q_M_wayCost) 55 = .ok (.iinc 5 1, 3) := by decide +kernel
theorem d_M_wayCost_58 : decode (qB q_M_wayCost) 58 = .ok (.goto (-53), 3) := by decide +kernel
theorem d_M_wayCost_61 : decode (qB q_M_wayCost) 61 = .ok (.lload_n 3, 1) := by decide +kernel
theorem d_M_wayCost_62 : decode (qB q_M_wayCost) 62 = .ok (.lreturn, 1) := by decide +kernel
set_option maxRecDepth 10000 in
theorem k_M_wayCost {G : mxG} (hG : mx_GG G) : ∀ pc r, t_M_wayCost pc = some r → mx_Ok G mx_W mx_MT q_M_wayCost pc r := (bn_ok (bn_ok (bn_ok (bn_ok (bn_ok (bl_ok (ok_lconst (by decide) d_M_wayCost_0)) (bl_ok (ok_lstore_n rfl d_M_wayCost_1 (by decide)))) (bn_ok (bl_ok (ok_iconst (by decide) d_M_wayCost_2)) (bl_ok (ok_istore d_M_wayCost_3 (by decide))))) (bn_ok (bn_ok (bl_ok (ok_iload d_M_wayCost_5)) (bl_ok (ok_aload_n rfl d_M_wayCost_7))) (bn_ok (bl_ok (ok_getf d_M_wayCost_8 (cl_5 hG) (by decide) w_619)) (bn_ok (bl_ok (ok_iload_n rfl d_M_wayCost_11)) (bl_ok (ok_iald d_M_wayCost_12 (kt_0 hG))))))) (bn_ok (bn_ok (bn_ok (bl_ok (ok_icge d_M_wayCost_13 (by decide))) (bl_ok (ok_lload_n rfl d_M_wayCost_16))) (bn_ok (bl_ok (ok_aload_n rfl d_M_wayCost_17)) (bn_ok (bl_ok (ok_getf d_M_wayCost_18 (cl_5 hG) (by decide) w_621)) (bl_ok (ok_sipush (by decide) d_M_wayCost_21))))) (bn_ok (bn_ok (bl_ok (ok_iload_n rfl d_M_wayCost_24)) (bl_ok (ok_imul d_M_wayCost_25))) (bn_ok (bl_ok (ok_iload d_M_wayCost_26)) (bn_ok (bl_ok (ok_iadd d_M_wayCost_28)) (bl_ok (ok_iald d_M_wayCost_29 (kt_0 hG)))))))) (bn_ok (bn_ok (bn_ok (bn_ok (bl_ok (ok_cs mx_W_good d_M_wayCost_30 (mt_M_lengthOf) mk_M_lengthOf w_809 w_810 (by decide) (by decide))) (bl_ok (ok_i2l d_M_wayCost_33))) (bn_ok (bl_ok (ok_aload_n rfl d_M_wayCost_34)) (bn_ok (bl_ok (ok_aload_n rfl d_M_wayCost_35)) (bl_ok (ok_getf d_M_wayCost_36 (cl_5 hG) (by decide) w_620))))) (bn_ok (bn_ok (bl_ok (ok_sipush (by decide) d_M_wayCost_39)) (bl_ok (ok_iload_n rfl d_M_wayCost_42))) (bn_ok (bl_ok (ok_imul d_M_wayCost_43)) (bn_ok (bl_ok (ok_iload d_M_wayCost_44)) (bl_ok (ok_iadd d_M_wayCost_46)))))) (bn_ok (bn_ok (bn_ok (bl_ok (ok_iald d_M_wayCost_47 (kt_0 hG))) (bl_ok (ok_iload_n rfl d_M_wayCost_48))) (bn_ok (bl_ok (ok_cv mx_W_good (cl_5 hG) d_M_wayCost_49 (mt_M_costOf) mk_M_costOf w_812 w_814 ws_M_costOf (by decide) (by decide))) (bn_ok (bl_ok (ok_lmul d_M_wayCost_52)) (bl_ok (ok_ladd d_M_wayCost_53))))) (bn_ok (bn_ok (bl_ok (ok_lstore_n rfl d_M_wayCost_54 (by decide))) (bl_ok (ok_iinc d_M_wayCost_55 (by decide) (by decide)))) (bn_ok (bl_ok (ok_goto d_M_wayCost_58 (by decide))) (bn_ok (bl_ok (ok_lload_n rfl d_M_wayCost_61)) (bl_ok (ok_lreturn d_M_wayCost_62 rfl))))))))
theorem d_M_wayValue_0 : decode (qB q_M_wayValue) 0 = .ok (.lconst 0, 1) := by decide +kernel
theorem d_M_wayValue_1 : decode (qB q_M_wayValue) 1 = .ok (.lstore_n 3, 1) := by decide +kernel
theorem d_M_wayValue_2 : decode (qB q_M_wayValue) 2 = .ok (.iconst 1, 1) := by decide +kernel
theorem d_M_wayValue_3 : decode (qB q_M_wayValue) 3 = .ok (.istore 5, 2) := by decide +kernel
theorem d_M_wayValue_5 : decode (qB q_M_wayValue) 5 = .ok (.iload 5, 2) := by decide +kernel
theorem d_M_wayValue_7 : decode (qB q_M_wayValue) 7 = .ok (.aload_n 0, 1) := by decide +kernel
theorem d_M_wayValue_8 : decode (qB q_M_wayValue) 8 = .ok (.getfield 51, 3) := by decide +kernel
theorem d_M_wayValue_11 : decode (qB q_M_wayValue) 11 = .ok (.iload_n 1, 1) := by decide +kernel
theorem d_M_wayValue_12 : decode (qB q_M_wayValue) 12 = .ok (.iaload, 1) := by decide +kernel
theorem d_M_wayValue_13 : decode (qB q_M_wayValue) 13 = .ok (.if_icmp .ge 66, 3) := by decide +kernel
theorem d_M_wayValue_16 : decode (qB q_M_wayValue) 16 = .ok (.aload_n 0, 1) := by decide +kernel
theorem d_M_wayValue_17 : decode (qB q_M_wayValue) 17 = .ok (.getfield 54, 3) := by decide +kernel
theorem d_M_wayValue_20 : decode (qB q_M_wayValue) 20 = .ok (.sipush 5000, 3) := by decide +kernel
theorem d_M_wayValue_23 : decode (qB q_M_wayValue) 23 = .ok (.iload_n 1, 1) := by decide +kernel
theorem d_M_wayValue_24 : decode (qB q_M_wayValue) 24 = .ok (.imul, 1) := by decide +kernel
theorem d_M_wayValue_25 : decode (qB q_M_wayValue) 25 = .ok (.iload 5, 2) := by decide +kernel
theorem d_M_wayValue_27 : decode (qB q_M_wayValue) 27 = .ok (.iadd, 1) := by decide +kernel
theorem d_M_wayValue_28 : decode (qB q_M_wayValue) 28 = .ok (.iaload, 1) := by decide +kernel
theorem d_M_wayValue_29 : decode (qB q_M_wayValue) 29 = .ok (.istore 6, 2) := by decide +kernel
theorem d_M_wayValue_31 : decode (qB q_M_wayValue) 31 = .ok (.lload_n 3, 1) := by decide +kernel
theorem d_M_wayValue_32 : decode (qB q_M_wayValue) 32 = .ok (.aload_n 0, 1) := by decide +kernel
theorem d_M_wayValue_33 : decode (qB q_M_wayValue) 33 = .ok (.iload 6, 2) := by decide +kernel
theorem d_M_wayValue_35 : decode (qB q_M_wayValue) 35 = .ok (.invokevirtual 121, 3) := by decide +kernel
theorem d_M_wayValue_38 : decode (qB q_M_wayValue) 38 = .ok (.ifCond .eq 7, 3) := by decide +kernel
theorem d_M_wayValue_41 : decode (qB q_M_wayValue) 41 = .ok (.lconst 0, 1) := by decide +kernel
theorem d_M_wayValue_42 : decode (qB q_M_wayValue) 42 = .ok (.goto 29, 3) := by decide +kernel
theorem d_M_wayValue_45 : decode (qB q_M_wayValue) 45 = .ok (.aload_n 0, 1) := by decide +kernel
theorem d_M_wayValue_46 : decode (qB q_M_wayValue) 46 = .ok (.getfield 57, 3) := by decide +kernel
theorem d_M_wayValue_49 : decode (qB q_M_wayValue) 49 = .ok (.sipush 5000, 3) := by decide +kernel
theorem d_M_wayValue_52 : decode (qB q_M_wayValue) 52 = .ok (.iload_n 1, 1) := by decide +kernel
theorem d_M_wayValue_53 : decode (qB q_M_wayValue) 53 = .ok (.imul, 1) := by decide +kernel
theorem d_M_wayValue_54 : decode (qB q_M_wayValue) 54 = .ok (.iload 5, 2) := by decide +kernel
theorem d_M_wayValue_56 : decode (qB q_M_wayValue) 56 = .ok (.iadd, 1) := by decide +kernel
theorem d_M_wayValue_57 : decode (qB q_M_wayValue) 57 = .ok (.iaload, 1) := by decide +kernel
theorem d_M_wayValue_58 : decode (qB q_M_wayValue) 58 = .ok (.invokestatic 168, 3) := by decide +kernel
theorem d_M_wayValue_61 : decode (qB q_M_wayValue) 61 = .ok (.i2l, 1) := by decide +kernel
theorem d_M_wayValue_62 : decode (qB q_M_wayValue) 62 = .ok (.aload_n 0, 1) := by decide +kernel
theorem d_M_wayValue_63 : decode (qB q_M_wayValue) 63 = .ok (.iload_n 2, 1) := by decide +kernel
theorem d_M_wayValue_64 : decode (qB q_M_wayValue) 64 = .ok (.iload 6, 2) := by decide +kernel
theorem d_M_wayValue_66 : decode (qB q_M_wayValue) 66 = .ok (.invokevirtual 125, 3) := by decide +kernel
theorem d_M_wayValue_69 : decode (qB q_M_wayValue) 69 = .ok (.i2l, 1) := by decide +kernel
theorem d_M_wayValue_70 : decode (qB q_M_wayValue) 70 = .ok (.lmul, 1) := by decide +kernel
theorem d_M_wayValue_71 : decode (qB q_M_wayValue) 71 = .ok (.ladd, 1) := by decide +kernel
theorem d_M_wayValue_72 : decode (qB q_M_wayValue) 72 = .ok (.lstore_n 3, 1) := by decide +kernel
theorem d_M_wayValue_73 : decode (qB q_M_wayValue) 73 = .ok (.iinc 5 1, 3) := by decide +kernel
theorem d_M_wayValue_76 : decode (qB q_M_wayValue) 76 = .ok (.goto (-71), 3) := by decide +kernel
theorem d_M_wayValue_79 : decode (qB q_M_wayValue) 79 = .ok (.lload_n 3, 1) := by decide +kernel
theorem d_M_wayValue_80 : decode (qB q_M_wayValue) 80 = .ok (.lreturn, 1) := by decide +kernel
set_option maxRecDepth 10000 in
theorem k_M_wayValue {G : mxG} (hG : mx_GG G) : ∀ pc r, t_M_wayValue pc = some r → mx_Ok G mx_W mx_MT q_M_wayValue pc r := (bn_ok (bn_ok (bn_ok (bn_ok (bn_ok (bl_ok (ok_lconst (by decide) d_M_wayValue_0)) (bn_ok (bl_ok (ok_lstore_n rfl d_M_wayValue_1 (by decide))) (bl_ok (ok_iconst (by decide) d_M_wayValue_2)))) (bn_ok (bl_ok (ok_istore d_M_wayValue_3 (by decide))) (bn_ok (bl_ok (ok_iload d_M_wayValue_5)) (bl_ok (ok_aload_n rfl d_M_wayValue_7))))) (bn_ok (bn_ok (bl_ok (ok_getf d_M_wayValue_8 (cl_5 hG) (by decide) w_619)) (bn_ok (bl_ok (ok_iload_n rfl d_M_wayValue_11)) (bl_ok (ok_iald d_M_wayValue_12 (kt_0 hG))))) (bn_ok (bl_ok (ok_icge d_M_wayValue_13 (by decide))) (bn_ok (bl_ok (ok_aload_n rfl d_M_wayValue_16)) (bl_ok (ok_getf d_M_wayValue_17 (cl_5 hG) (by decide) w_620)))))) (bn_ok (bn_ok (bn_ok (bl_ok (ok_sipush (by decide) d_M_wayValue_20)) (bn_ok (bl_ok (ok_iload_n rfl d_M_wayValue_23)) (bl_ok (ok_imul d_M_wayValue_24)))) (bn_ok (bl_ok (ok_iload d_M_wayValue_25)) (bn_ok (bl_ok (ok_iadd d_M_wayValue_27)) (bl_ok (ok_iald d_M_wayValue_28 (kt_0 hG)))))) (bn_ok (bn_ok (bl_ok (ok_istore d_M_wayValue_29 (by decide))) (bn_ok (bl_ok (ok_lload_n rfl d_M_wayValue_31)) (bl_ok (ok_aload_n rfl d_M_wayValue_32)))) (bn_ok (bl_ok (ok_iload d_M_wayValue_33)) (bn_ok (bl_ok (ok_cv mx_W_good (cl_5 hG) d_M_wayValue_35 (mt_M_isBridged) mk_M_isBridged w_816 w_818 ws_M_isBridged (by decide) (by decide))) (bl_ok (ok_ifeq d_M_wayValue_38 (by decide)))))))) (bn_ok (bn_ok (bn_ok (bn_ok (bl_ok (ok_lconst (by decide) d_M_wayValue_41)) (bn_ok (bl_ok (ok_goto d_M_wayValue_42 (by decide))) (bl_ok (ok_aload_n rfl d_M_wayValue_45)))) (bn_ok (bl_ok (ok_getf d_M_wayValue_46 (cl_5 hG) (by decide) w_621)) (bn_ok (bl_ok (ok_sipush (by decide) d_M_wayValue_49)) (bl_ok (ok_iload_n rfl d_M_wayValue_52))))) (bn_ok (bn_ok (bl_ok (ok_imul d_M_wayValue_53)) (bn_ok (bl_ok (ok_iload d_M_wayValue_54)) (bl_ok (ok_iadd d_M_wayValue_56)))) (bn_ok (bl_ok (ok_iald d_M_wayValue_57 (kt_0 hG))) (bn_ok (bl_ok (ok_cs mx_W_good d_M_wayValue_58 (mt_M_lengthOf) mk_M_lengthOf w_809 w_810 (by decide) (by decide))) (bl_ok (ok_i2l d_M_wayValue_61)))))) (bn_ok (bn_ok (bn_ok (bl_ok (ok_aload_n rfl d_M_wayValue_62)) (bn_ok (bl_ok (ok_iload_n rfl d_M_wayValue_63)) (bl_ok (ok_iload d_M_wayValue_64)))) (bn_ok (bl_ok (ok_cv mx_W_good (cl_5 hG) d_M_wayValue_66 (mt_M_valueOf) mk_M_valueOf w_820 w_822 ws_M_valueOf (by decide) (by decide))) (bn_ok (bl_ok (ok_i2l d_M_wayValue_69)) (bl_ok (ok_lmul d_M_wayValue_70))))) (bn_ok (bn_ok (bl_ok (ok_ladd d_M_wayValue_71)) (bn_ok (bl_ok (ok_lstore_n rfl d_M_wayValue_72 (by decide))) (bl_ok (ok_iinc d_M_wayValue_73 (by decide) (by decide))))) (bn_ok (bl_ok (ok_goto d_M_wayValue_76 (by decide))) (bn_ok (bl_ok (ok_lload_n rfl d_M_wayValue_79)) (bl_ok (ok_lreturn d_M_wayValue_80 rfl))))))))
theorem d_M_divisor_0 : decode (qB q_M_divisor) 0 = .ok (.lload_n 0, 1) := by decide +kernel
theorem d_M_divisor_1 : decode (qB q_M_divisor) 1 = .ok (.lstore 4, 2) := by decide +kernel
theorem d_M_divisor_3 : decode (qB q_M_divisor) 3 = .ok (.lload_n 2, 1) := by decide +kernel
theorem d_M_divisor_4 : decode (qB q_M_divisor) 4 = .ok (.lstore 6, 2) := by decide +kernel
theorem d_M_divisor_6 : decode (qB q_M_divisor) 6 = .ok (.lload 6, 2) := by decide +kernel
theorem d_M_divisor_8 : decode (qB q_M_divisor) 8 = .ok (.lconst 0, 1) := by decide +kernel
theorem d_M_divisor_9 : decode (qB q_M_divisor) 9 = .ok (.lcmp, 1) := by decide +kernel
theorem d_M_divisor_10 : decode (qB q_M_divisor) 10 = .ok (.ifCond .eq 21, 3) := by decide +kernel
theorem d_M_divisor_13 : decode (qB q_M_divisor) 13 = .ok (.lload 4, 2) := by decide +kernel
theorem d_M_divisor_15 : decode (qB q_M_divisor) 15 = .ok (.lload 6, 2) := by decide +kernel
theorem d_M_divisor_17 : decode (qB q_M_divisor) 17 = .ok (.lrem, 1) := by decide +kernel
theorem d_M_divisor_18 : decode (qB q_M_divisor) 18 = .ok (.lstore 8, 2) := by decide +kernel
theorem d_M_divisor_20 : decode (qB q_M_divisor) 20 = .ok (.lload 6, 2) := by decide +kernel
theorem d_M_divisor_22 : decode (qB q_M_divisor) 22 = .ok (.lstore 4, 2) := by decide +kernel
theorem d_M_divisor_24 : decode (qB q_M_divisor) 24 = .ok (.lload 8, 2) := by decide +kernel
theorem d_M_divisor_26 : decode (qB q_M_divisor) 26 = .ok (.lstore 6, 2) := by decide +kernel
theorem d_M_divisor_28 : decode (qB q_M_divisor) 28 = .ok (.goto (-22), 3) := by decide +kernel
theorem d_M_divisor_31 : decode (qB q_M_divisor) 31 = .ok (.lload 4, 2) := by decide +kernel
theorem d_M_divisor_33 : decode (qB q_M_divisor) 33 = .ok (.lreturn, 1) := by decide +kernel
set_option maxRecDepth 10000 in
theorem k_M_divisor {G : mxG} (hG : mx_GG G) : ∀ pc r, t_M_divisor pc = some r → mx_Ok G mx_W mx_MT q_M_divisor pc r := (bn_ok (bn_ok (bn_ok (bn_ok (bl_ok (ok_lload_n rfl d_M_divisor_0)) (bl_ok (ok_lstore d_M_divisor_1 (by decide)))) (bn_ok (bl_ok (ok_lload_n rfl d_M_divisor_3)) (bl_ok (ok_lstore d_M_divisor_4 (by decide))))) (bn_ok (bn_ok (bl_ok (ok_lload d_M_divisor_6)) (bl_ok (ok_lconst (by decide) d_M_divisor_8))) (bn_ok (bl_ok (ok_lcmp d_M_divisor_9)) (bn_ok (bl_ok (ok_ifeq d_M_divisor_10 (by decide))) (bl_ok (ok_lload d_M_divisor_13)))))) (bn_ok (bn_ok (bn_ok (bl_ok (ok_lload d_M_divisor_15)) (bl_ok (ok_lrem d_M_divisor_17))) (bn_ok (bl_ok (ok_lstore d_M_divisor_18 (by decide))) (bn_ok (bl_ok (ok_lload d_M_divisor_20)) (bl_ok (ok_lstore d_M_divisor_22 (by decide)))))) (bn_ok (bn_ok (bl_ok (ok_lload d_M_divisor_24)) (bl_ok (ok_lstore d_M_divisor_26 (by decide)))) (bn_ok (bl_ok (ok_goto d_M_divisor_28 (by decide))) (bn_ok (bl_ok (ok_lload d_M_divisor_31)) (bl_ok (ok_lreturn d_M_divisor_33 rfl)))))))
theorem d_M_cost_0 : decode (qB q_M_cost) 0 = .ok (.aload_n 0, 1) := by decide +kernel
theorem d_M_cost_1 : decode (qB q_M_cost) 1 = .ok (.getfield 48, 3) := by decide +kernel
theorem d_M_cost_4 : decode (qB q_M_cost) 4 = .ok (.iconst (-1), 1) := by decide +kernel
theorem d_M_cost_5 : decode (qB q_M_cost) 5 = .ok (.if_icmp .eq 12, 3) := by decide +kernel
theorem d_M_cost_8 : decode (qB q_M_cost) 8 = .ok (.iload_n 1, 1) := by decide +kernel
theorem d_M_cost_9 : decode (qB q_M_cost) 9 = .ok (.ifCond .lt 8, 3) := by decide +kernel
theorem d_M_cost_12 : decode (qB q_M_cost) 12 = .ok (.iload_n 1, 1) := by decide +kernel
theorem d_M_cost_13 : decode (qB q_M_cost) 13 = .ok (.iconst 1, 1) := by decide +kernel
theorem d_M_cost_14 : decode (qB q_M_cost) 14 = .ok (.if_icmp .le 7, 3) := by decide +kernel
theorem d_M_cost_17 : decode (qB q_M_cost) 17 = .ok (.ldc2_w 60, 3) := by decide +kernel
theorem d_M_cost_20 : decode (qB q_M_cost) 20 = .ok (.lreturn, 1) := by decide +kernel
theorem d_M_cost_21 : decode (qB q_M_cost) 21 = .ok (.aload_n 0, 1) := by decide +kernel
theorem d_M_cost_22 : decode (qB q_M_cost) 22 = .ok (.aload_n 0, 1) := by decide +kernel
theorem d_M_cost_23 : decode (qB q_M_cost) 23 = .ok (.getfield 48, 3) := by decide +kernel
theorem d_M_cost_26 : decode (qB q_M_cost) 26 = .ok (.iconst (-1), 1) := by decide +kernel
theorem d_M_cost_27 : decode (qB q_M_cost) 27 = .ok (.invokevirtual 223, 3) := by decide +kernel
theorem d_M_cost_30 : decode (qB q_M_cost) 30 = .ok (.lstore_n 2, 1) := by decide +kernel
theorem d_M_cost_31 : decode (qB q_M_cost) 31 = .ok (.lload_n 2, 1) := by decide +kernel
theorem d_M_cost_32 : decode (qB q_M_cost) 32 = .ok (.ldc2_w 117, 3) := by decide +kernel
theorem d_M_cost_35 : decode (qB q_M_cost) 35 = .ok (.invokestatic 226, 3) := by decide +kernel
theorem d_M_cost_38 : decode (qB q_M_cost) 38 = .ok (.lstore 4, 2) := by decide +kernel
theorem d_M_cost_40 : decode (qB q_M_cost) 40 = .ok (.iload_n 1, 1) := by decide +kernel
theorem d_M_cost_41 : decode (qB q_M_cost) 41 = .ok (.ifCond .ne 10, 3) := by decide +kernel
theorem d_M_cost_44 : decode (qB q_M_cost) 44 = .ok (.lload_n 2, 1) := by decide +kernel
theorem d_M_cost_45 : decode (qB q_M_cost) 45 = .ok (.lload 4, 2) := by decide +kernel
theorem d_M_cost_47 : decode (qB q_M_cost) 47 = .ok (.ldiv, 1) := by decide +kernel
theorem d_M_cost_48 : decode (qB q_M_cost) 48 = .ok (.goto 9, 3) := by decide +kernel
theorem d_M_cost_51 : decode (qB q_M_cost) 51 = .ok (.ldc2_w 117, 3) := by decide +kernel
theorem d_M_cost_54 : decode (qB q_M_cost) 54 = .ok (.lload 4, 2) := by decide +kernel
theorem d_M_cost_56 : decode (qB q_M_cost) 56 = .ok (.ldiv, 1) := by decide +kernel
theorem d_M_cost_57 : decode (qB q_M_cost) 57 = .ok (.lreturn, 1) := by decide +kernel
set_option maxRecDepth 10000 in
theorem k_M_cost {G : mxG} (hG : mx_GG G) : ∀ pc r, t_M_cost pc = some r → mx_Ok G mx_W mx_MT q_M_cost pc r := (bn_ok (bn_ok (bn_ok (bn_ok (bl_ok (ok_aload_n rfl d_M_cost_0)) (bn_ok (bl_ok (ok_getf d_M_cost_1 (cl_5 hG) (by decide) w_618)) (bl_ok (ok_iconst (by decide) d_M_cost_4)))) (bn_ok (bn_ok (bl_ok (ok_iceq d_M_cost_5 (by decide))) (bl_ok (ok_iload_n rfl d_M_cost_8))) (bn_ok (bl_ok (ok_iflt d_M_cost_9 (by decide))) (bl_ok (ok_iload_n rfl d_M_cost_12))))) (bn_ok (bn_ok (bn_ok (bl_ok (ok_iconst (by decide) d_M_cost_13)) (bl_ok (ok_icle d_M_cost_14 (by decide)))) (bn_ok (bl_ok (ok_ldc2 d_M_cost_17 w_601)) (bl_ok (ok_lreturn d_M_cost_20 rfl)))) (bn_ok (bn_ok (bl_ok (ok_aload_n rfl d_M_cost_21)) (bl_ok (ok_aload_n rfl d_M_cost_22))) (bn_ok (bl_ok (ok_getf d_M_cost_23 (cl_5 hG) (by decide) w_618)) (bl_ok (ok_iconst (by decide) d_M_cost_26)))))) (bn_ok (bn_ok (bn_ok (bn_ok (bl_ok (ok_cv mx_W_good (cl_5 hG) d_M_cost_27 (mt_M_wayCost) mk_M_wayCost w_860 w_862 ws_M_wayCost (by decide) (by decide))) (bl_ok (ok_lstore_n rfl d_M_cost_30 (by decide)))) (bn_ok (bl_ok (ok_lload_n rfl d_M_cost_31)) (bl_ok (ok_ldc2 d_M_cost_32 w_737)))) (bn_ok (bn_ok (bl_ok (ok_cs mx_W_good d_M_cost_35 (mt_M_divisor) mk_M_divisor w_864 w_865 (by decide) (by decide))) (bl_ok (ok_lstore d_M_cost_38 (by decide)))) (bn_ok (bl_ok (ok_iload_n rfl d_M_cost_40)) (bl_ok (ok_ifne d_M_cost_41 (by decide)))))) (bn_ok (bn_ok (bn_ok (bl_ok (ok_lload_n rfl d_M_cost_44)) (bl_ok (ok_lload d_M_cost_45))) (bn_ok (bl_ok (ok_ldiv d_M_cost_47)) (bl_ok (ok_goto d_M_cost_48 (by decide))))) (bn_ok (bn_ok (bl_ok (ok_ldc2 d_M_cost_51 w_737)) (bl_ok (ok_lload d_M_cost_54))) (bn_ok (bl_ok (ok_ldiv d_M_cost_56)) (bl_ok (ok_lreturn d_M_cost_57 rfl)))))))
theorem d_M_isLess_0 : decode (qB q_M_isLess) 0 = .ok (.lload_n 0, 1) := by decide +kernel
theorem d_M_isLess_1 : decode (qB q_M_isLess) 1 = .ok (.lstore 8, 2) := by decide +kernel
theorem d_M_isLess_3 : decode (qB q_M_isLess) 3 = .ok (.lload_n 2, 1) := by decide +kernel
theorem d_M_isLess_4 : decode (qB q_M_isLess) 4 = .ok (.lstore 10, 2) := by decide +kernel
theorem d_M_isLess_6 : decode (qB q_M_isLess) 6 = .ok (.lload 4, 2) := by decide +kernel
theorem d_M_isLess_8 : decode (qB q_M_isLess) 8 = .ok (.lstore 12, 2) := by decide +kernel
theorem d_M_isLess_10 : decode (qB q_M_isLess) 10 = .ok (.lload 6, 2) := by decide +kernel
theorem d_M_isLess_12 : decode (qB q_M_isLess) 12 = .ok (.lstore 14, 2) := by decide +kernel
theorem d_M_isLess_14 : decode (qB q_M_isLess) 14 = .ok (.iconst 0, 1) := by decide +kernel
theorem d_M_isLess_15 : decode (qB q_M_isLess) 15 = .ok (.istore 16, 2) := by decide +kernel
theorem d_M_isLess_17 : decode (qB q_M_isLess) 17 = .ok (.lload 10, 2) := by decide +kernel
theorem d_M_isLess_19 : decode (qB q_M_isLess) 19 = .ok (.lconst 0, 1) := by decide +kernel
theorem d_M_isLess_20 : decode (qB q_M_isLess) 20 = .ok (.lcmp, 1) := by decide +kernel
theorem d_M_isLess_21 : decode (qB q_M_isLess) 21 = .ok (.ifCond .eq 99, 3) := by decide +kernel
theorem d_M_isLess_24 : decode (qB q_M_isLess) 24 = .ok (.lload 14, 2) := by decide +kernel
theorem d_M_isLess_26 : decode (qB q_M_isLess) 26 = .ok (.lconst 0, 1) := by decide +kernel
theorem d_M_isLess_27 : decode (qB q_M_isLess) 27 = .ok (.lcmp, 1) := by decide +kernel
theorem d_M_isLess_28 : decode (qB q_M_isLess) 28 = .ok (.ifCond .eq 92, 3) := by decide +kernel
theorem d_M_isLess_31 : decode (qB q_M_isLess) 31 = .ok (.lload 8, 2) := by decide +kernel
theorem d_M_isLess_33 : decode (qB q_M_isLess) 33 = .ok (.lload 10, 2) := by decide +kernel
theorem d_M_isLess_35 : decode (qB q_M_isLess) 35 = .ok (.ldiv, 1) := by decide +kernel
theorem d_M_isLess_36 : decode (qB q_M_isLess) 36 = .ok (.lload 12, 2) := by decide +kernel
theorem d_M_isLess_38 : decode (qB q_M_isLess) 38 = .ok (.lload 14, 2) := by decide +kernel
theorem d_M_isLess_40 : decode (qB q_M_isLess) 40 = .ok (.ldiv, 1) := by decide +kernel
theorem d_M_isLess_41 : decode (qB q_M_isLess) 41 = .ok (.lcmp, 1) := by decide +kernel
theorem d_M_isLess_42 : decode (qB q_M_isLess) 42 = .ok (.ifCond .eq 33, 3) := by decide +kernel
theorem d_M_isLess_45 : decode (qB q_M_isLess) 45 = .ok (.iload 16, 2) := by decide +kernel
theorem d_M_isLess_47 : decode (qB q_M_isLess) 47 = .ok (.lload 8, 2) := by decide +kernel
theorem d_M_isLess_49 : decode (qB q_M_isLess) 49 = .ok (.lload 10, 2) := by decide +kernel
theorem d_M_isLess_51 : decode (qB q_M_isLess) 51 = .ok (.ldiv, 1) := by decide +kernel
theorem d_M_isLess_52 : decode (qB q_M_isLess) 52 = .ok (.lload 12, 2) := by decide +kernel
theorem d_M_isLess_54 : decode (qB q_M_isLess) 54 = .ok (.lload 14, 2) := by decide +kernel
theorem d_M_isLess_56 : decode (qB q_M_isLess) 56 = .ok (.ldiv, 1) := by decide +kernel
theorem d_M_isLess_57 : decode (qB q_M_isLess) 57 = .ok (.lcmp, 1) := by decide +kernel
theorem d_M_isLess_58 : decode (qB q_M_isLess) 58 = .ok (.ifCond .ge 7, 3) := by decide +kernel
theorem d_M_isLess_61 : decode (qB q_M_isLess) 61 = .ok (.iconst 1, 1) := by decide +kernel
theorem d_M_isLess_62 : decode (qB q_M_isLess) 62 = .ok (.goto 4, 3) := by decide +kernel
theorem d_M_isLess_65 : decode (qB q_M_isLess) 65 = .ok (.iconst 0, 1) := by decide +kernel
theorem d_M_isLess_66 : decode (qB q_M_isLess) 66 = .ok (.if_icmp .eq 7, 3) := by decide +kernel
theorem d_M_isLess_69 : decode (qB q_M_isLess) 69 = .ok (.iconst 1, 1) := by decide +kernel
theorem d_M_isLess_70 : decode (qB q_M_isLess) 70 = .ok (.goto 4, 3) := by decide +kernel
theorem d_M_isLess_73 : decode (qB q_M_isLess) 73 = .ok (.iconst 0, 1) := by decide +kernel
theorem d_M_isLess_74 : decode (qB q_M_isLess) 74 = .ok (.ireturn, 1) := by decide +kernel
theorem d_M_isLess_75 : decode (qB q_M_isLess) 75 = .ok (.lload 8, 2) := by decide +kernel
theorem d_M_isLess_77 : decode (qB q_M_isLess) 77 = .ok (.lload 10, 2) := by decide +kernel
theorem d_M_isLess_79 : decode (qB q_M_isLess) 79 = .ok (.lrem, 1) := by decide +kernel
theorem d_M_isLess_80 : decode (qB q_M_isLess) 80 = .ok (.lstore 17, 2) := by decide +kernel
theorem d_M_isLess_82 : decode (qB q_M_isLess) 82 = .ok (.lload 12, 2) := by decide +kernel
theorem d_M_isLess_84 : decode (qB q_M_isLess) 84 = .ok (.lload 14, 2) := by decide +kernel
theorem d_M_isLess_86 : decode (qB q_M_isLess) 86 = .ok (.lrem, 1) := by decide +kernel
theorem d_M_isLess_87 : decode (qB q_M_isLess) 87 = .ok (.lstore 19, 2) := by decide +kernel
theorem d_M_isLess_89 : decode (qB q_M_isLess) 89 = .ok (.lload 10, 2) := by decide +kernel
theorem d_M_isLess_91 : decode (qB q_M_isLess) 91 = .ok (.lstore 8, 2) := by decide +kernel
theorem d_M_isLess_93 : decode (qB q_M_isLess) 93 = .ok (.lload 17, 2) := by decide +kernel
theorem d_M_isLess_95 : decode (qB q_M_isLess) 95 = .ok (.lstore 10, 2) := by decide +kernel
theorem d_M_isLess_97 : decode (qB q_M_isLess) 97 = .ok (.lload 14, 2) := by decide +kernel
theorem d_M_isLess_99 : decode (qB q_M_isLess) 99 = .ok (.lstore 12, 2) := by decide +kernel
theorem d_M_isLess_101 : decode (qB q_M_isLess) 101 = .ok (.lload 19, 2) := by decide +kernel
theorem d_M_isLess_103 : decode (qB q_M_isLess) 103 = .ok (.lstore 14, 2) := by decide +kernel
theorem d_M_isLess_105 : decode (qB q_M_isLess) 105 = .ok (.iload 16, 2) := by decide +kernel
theorem d_M_isLess_107 : decode (qB q_M_isLess) 107 = .ok (.ifCond .ne 7, 3) := by decide +kernel
theorem d_M_isLess_110 : decode (qB q_M_isLess) 110 = .ok (.iconst 1, 1) := by decide +kernel
theorem d_M_isLess_111 : decode (qB q_M_isLess) 111 = .ok (.goto 4, 3) := by decide +kernel
theorem d_M_isLess_114 : decode (qB q_M_isLess) 114 = .ok (.iconst 0, 1) := by decide +kernel
theorem d_M_isLess_115 : decode (qB q_M_isLess) 115 = .ok (.istore 16, 2) := by decide +kernel
theorem d_M_isLess_117 : decode (qB q_M_isLess) 117 = .ok (.goto (-100), 3) := by decide +kernel
theorem d_M_isLess_120 : decode (qB q_M_isLess) 120 = .ok (.lload 10, 2) := by decide +kernel
theorem d_M_isLess_122 : decode (qB q_M_isLess) 122 = .ok (.lload 14, 2) := by decide +kernel
theorem d_M_isLess_124 : decode (qB q_M_isLess) 124 = .ok (.lcmp, 1) := by decide +kernel
theorem d_M_isLess_125 : decode (qB q_M_isLess) 125 = .ok (.ifCond .ne 7, 3) := by decide +kernel
theorem d_M_isLess_128 : decode (qB q_M_isLess) 128 = .ok (.iconst 0, 1) := by decide +kernel
theorem d_M_isLess_129 : decode (qB q_M_isLess) 129 = .ok (.goto 25, 3) := by decide +kernel
theorem d_M_isLess_132 : decode (qB q_M_isLess) 132 = .ok (.iload 16, 2) := by decide +kernel
theorem d_M_isLess_134 : decode (qB q_M_isLess) 134 = .ok (.lload 14, 2) := by decide +kernel
theorem d_M_isLess_136 : decode (qB q_M_isLess) 136 = .ok (.lconst 0, 1) := by decide +kernel
theorem d_M_isLess_137 : decode (qB q_M_isLess) 137 = .ok (.lcmp, 1) := by decide +kernel
theorem d_M_isLess_138 : decode (qB q_M_isLess) 138 = .ok (.ifCond .ne 7, 3) := by decide +kernel
theorem d_M_isLess_141 : decode (qB q_M_isLess) 141 = .ok (.iconst 1, 1) := by decide +kernel
theorem d_M_isLess_142 : decode (qB q_M_isLess) 142 = .ok (.goto 4, 3) := by decide +kernel
theorem d_M_isLess_145 : decode (qB q_M_isLess) 145 = .ok (.iconst 0, 1) := by decide +kernel
theorem d_M_isLess_146 : decode (qB q_M_isLess) 146 = .ok (.if_icmp .eq 7, 3) := by decide +kernel
theorem d_M_isLess_149 : decode (qB q_M_isLess) 149 = .ok (.iconst 1, 1) := by decide +kernel
theorem d_M_isLess_150 : decode (qB q_M_isLess) 150 = .ok (.goto 4, 3) := by decide +kernel
theorem d_M_isLess_153 : decode (qB q_M_isLess) 153 = .ok (.iconst 0, 1) := by decide +kernel
theorem d_M_isLess_154 : decode (qB q_M_isLess) 154 = .ok (.ireturn, 1) := by decide +kernel
set_option maxRecDepth 10000 in
theorem k_M_isLess {G : mxG} (hG : mx_GG G) : ∀ pc r, t_M_isLess pc = some r → mx_Ok G mx_W mx_MT q_M_isLess pc r := (bn_ok (bn_ok (bn_ok (bn_ok (bn_ok (bn_ok (bl_ok (ok_lload_n rfl d_M_isLess_0)) (bl_ok (ok_lstore d_M_isLess_1 (by decide)))) (bn_ok (bl_ok (ok_lload_n rfl d_M_isLess_3)) (bn_ok (bl_ok (ok_lstore d_M_isLess_4 (by decide))) (bl_ok (ok_lload d_M_isLess_6))))) (bn_ok (bn_ok (bl_ok (ok_lstore d_M_isLess_8 (by decide))) (bl_ok (ok_lload d_M_isLess_10))) (bn_ok (bl_ok (ok_lstore d_M_isLess_12 (by decide))) (bn_ok (bl_ok (ok_iconst (by decide) d_M_isLess_14)) (bl_ok (ok_istore d_M_isLess_15 (by decide))))))) (bn_ok (bn_ok (bn_ok (bl_ok (ok_lload d_M_isLess_17)) (bl_ok (ok_lconst (by decide) d_M_isLess_19))) (bn_ok (bl_ok (ok_lcmp d_M_isLess_20)) (bn_ok (bl_ok (ok_ifeq d_M_isLess_21 (by decide))) (bl_ok (ok_lload d_M_isLess_24))))) (bn_ok (bn_ok (bl_ok (ok_lconst (by decide) d_M_isLess_26)) (bn_ok (bl_ok (ok_lcmp d_M_isLess_27)) (bl_ok (ok_ifeq d_M_isLess_28 (by decide))))) (bn_ok (bl_ok (ok_lload d_M_isLess_31)) (bn_ok (bl_ok (ok_lload d_M_isLess_33)) (bl_ok (ok_ldiv d_M_isLess_35))))))) (bn_ok (bn_ok (bn_ok (bn_ok (bl_ok (ok_lload d_M_isLess_36)) (bl_ok (ok_lload d_M_isLess_38))) (bn_ok (bl_ok (ok_ldiv d_M_isLess_40)) (bn_ok (bl_ok (ok_lcmp d_M_isLess_41)) (bl_ok (ok_ifeq d_M_isLess_42 (by decide)))))) (bn_ok (bn_ok (bl_ok (ok_iload d_M_isLess_45)) (bl_ok (ok_lload d_M_isLess_47))) (bn_ok (bl_ok (ok_lload d_M_isLess_49)) (bn_ok (bl_ok (ok_ldiv d_M_isLess_51)) (bl_ok (ok_lload d_M_isLess_52)))))) (bn_ok (bn_ok (bn_ok (bl_ok (ok_lload d_M_isLess_54)) (bl_ok (ok_ldiv d_M_isLess_56))) (bn_ok (bl_ok (ok_lcmp d_M_isLess_57)) (bn_ok (bl_ok (ok_ifge d_M_isLess_58 (by decide))) (bl_ok (ok_iconst (by decide) d_M_isLess_61))))) (bn_ok (bn_ok (bl_ok (ok_goto d_M_isLess_62 (by decide))) (bn_ok (bl_ok (ok_iconst (by decide) d_M_isLess_65)) (bl_ok (ok_iceq d_M_isLess_66 (by decide))))) (bn_ok (bl_ok (ok_iconst (by decide) d_M_isLess_69)) (bn_ok (bl_ok (ok_goto d_M_isLess_70 (by decide))) (bl_ok (ok_iconst (by decide) d_M_isLess_73)))))))) (bn_ok (bn_ok (bn_ok (bn_ok (bn_ok (bl_ok (ok_zreturn d_M_isLess_74 rfl)) (bl_ok (ok_lload d_M_isLess_75))) (bn_ok (bl_ok (ok_lload d_M_isLess_77)) (bn_ok (bl_ok (ok_lrem d_M_isLess_79)) (bl_ok (ok_lstore d_M_isLess_80 (by decide)))))) (bn_ok (bn_ok (bl_ok (ok_lload d_M_isLess_82)) (bl_ok (ok_lload d_M_isLess_84))) (bn_ok (bl_ok (ok_lrem d_M_isLess_86)) (bn_ok (bl_ok (ok_lstore d_M_isLess_87 (by decide))) (bl_ok (ok_lload d_M_isLess_89)))))) (bn_ok (bn_ok (bn_ok (bl_ok (ok_lstore d_M_isLess_91 (by decide))) (bl_ok (ok_lload d_M_isLess_93))) (bn_ok (bl_ok (ok_lstore d_M_isLess_95 (by decide))) (bn_ok (bl_ok (ok_lload d_M_isLess_97)) (bl_ok (ok_lstore d_M_isLess_99 (by decide)))))) (bn_ok (bn_ok (bl_ok (ok_lload d_M_isLess_101)) (bn_ok (bl_ok (ok_lstore d_M_isLess_103 (by decide))) (bl_ok (ok_iload d_M_isLess_105)))) (bn_ok (bl_ok (ok_ifne d_M_isLess_107 (by decide))) (bn_ok (bl_ok (ok_iconst (by decide) d_M_isLess_110)) (bl_ok (ok_goto d_M_isLess_111 (by decide)))))))) (bn_ok (bn_ok (bn_ok (bn_ok (bl_ok (ok_iconst (by decide) d_M_isLess_114)) (bl_ok (ok_istore d_M_isLess_115 (by decide)))) (bn_ok (bl_ok (ok_goto d_M_isLess_117 (by decide))) (bn_ok (bl_ok (ok_lload d_M_isLess_120)) (bl_ok (ok_lload d_M_isLess_122))))) (bn_ok (bn_ok (bl_ok (ok_lcmp d_M_isLess_124)) (bn_ok (bl_ok (ok_ifne d_M_isLess_125 (by decide))) (bl_ok (ok_iconst (by decide) d_M_isLess_128)))) (bn_ok (bl_ok (ok_goto d_M_isLess_129 (by decide))) (bn_ok (bl_ok (ok_iload d_M_isLess_132)) (bl_ok (ok_lload d_M_isLess_134)))))) (bn_ok (bn_ok (bn_ok (bl_ok (ok_lconst (by decide) d_M_isLess_136)) (bl_ok (ok_lcmp d_M_isLess_137))) (bn_ok (bl_ok (ok_ifne d_M_isLess_138 (by decide))) (bn_ok (bl_ok (ok_iconst (by decide) d_M_isLess_141)) (bl_ok (ok_goto d_M_isLess_142 (by decide)))))) (bn_ok (bn_ok (bl_ok (ok_iconst (by decide) d_M_isLess_145)) (bn_ok (bl_ok (ok_iceq d_M_isLess_146 (by decide))) (bl_ok (ok_iconst (by decide) d_M_isLess_149)))) (bn_ok (bl_ok (ok_goto d_M_isLess_150 (by decide))) (bn_ok (bl_ok (ok_iconst (by decide) d_M_isLess_153)) (bl_ok (ok_zreturn d_M_isLess_154 rfl)))))))))
theorem d_M_span_0 : decode (qB q_M_span) 0 = .ok (.aload_n 0, 1) := by decide +kernel
theorem d_M_span_1 : decode (qB q_M_span) 1 = .ok (.getfield 48, 3) := by decide +kernel
theorem d_M_span_4 : decode (qB q_M_span) 4 = .ok (.iconst (-1), 1) := by decide +kernel
theorem d_M_span_5 : decode (qB q_M_span) 5 = .ok (.if_icmp .eq 30, 3) := by decide +kernel
theorem d_M_span_8 : decode (qB q_M_span) 8 = .ok (.iload_n 1, 1) := by decide +kernel
theorem d_M_span_9 : decode (qB q_M_span) 9 = .ok (.ifCond .lt 26, 3) := by decide +kernel
theorem d_M_span_12 : decode (qB q_M_span) 12 = .ok (.iload_n 1, 1) := by decide +kernel
theorem d_M_span_13 : decode (qB q_M_span) 13 = .ok (.iconst 3, 1) := by decide +kernel
theorem d_M_span_14 : decode (qB q_M_span) 14 = .ok (.if_icmp .gt 21, 3) := by decide +kernel
theorem d_M_span_17 : decode (qB q_M_span) 17 = .ok (.iload_n 2, 1) := by decide +kernel
theorem d_M_span_18 : decode (qB q_M_span) 18 = .ok (.ifCond .lt 17, 3) := by decide +kernel
theorem d_M_span_21 : decode (qB q_M_span) 21 = .ok (.iload_n 2, 1) := by decide +kernel
theorem d_M_span_22 : decode (qB q_M_span) 22 = .ok (.iconst 1, 1) := by decide +kernel
theorem d_M_span_23 : decode (qB q_M_span) 23 = .ok (.if_icmp .gt 12, 3) := by decide +kernel
theorem d_M_span_26 : decode (qB q_M_span) 26 = .ok (.iload_n 3, 1) := by decide +kernel
theorem d_M_span_27 : decode (qB q_M_span) 27 = .ok (.ifCond .lt 8, 3) := by decide +kernel
theorem d_M_span_30 : decode (qB q_M_span) 30 = .ok (.iload_n 3, 1) := by decide +kernel
theorem d_M_span_31 : decode (qB q_M_span) 31 = .ok (.iconst 1, 1) := by decide +kernel
theorem d_M_span_32 : decode (qB q_M_span) 32 = .ok (.if_icmp .le 7, 3) := by decide +kernel
theorem d_M_span_35 : decode (qB q_M_span) 35 = .ok (.ldc2_w 60, 3) := by decide +kernel
theorem d_M_span_38 : decode (qB q_M_span) 38 = .ok (.lreturn, 1) := by decide +kernel
theorem d_M_span_39 : decode (qB q_M_span) 39 = .ok (.lconst 0, 1) := by decide +kernel
theorem d_M_span_40 : decode (qB q_M_span) 40 = .ok (.lstore 4, 2) := by decide +kernel
theorem d_M_span_42 : decode (qB q_M_span) 42 = .ok (.lconst 1, 1) := by decide +kernel
theorem d_M_span_43 : decode (qB q_M_span) 43 = .ok (.lstore 6, 2) := by decide +kernel
theorem d_M_span_45 : decode (qB q_M_span) 45 = .ok (.lconst 1, 1) := by decide +kernel
theorem d_M_span_46 : decode (qB q_M_span) 46 = .ok (.lstore 8, 2) := by decide +kernel
theorem d_M_span_48 : decode (qB q_M_span) 48 = .ok (.lconst 0, 1) := by decide +kernel
theorem d_M_span_49 : decode (qB q_M_span) 49 = .ok (.lstore 10, 2) := by decide +kernel
theorem d_M_span_51 : decode (qB q_M_span) 51 = .ok (.iconst 0, 1) := by decide +kernel
theorem d_M_span_52 : decode (qB q_M_span) 52 = .ok (.istore 12, 2) := by decide +kernel
theorem d_M_span_54 : decode (qB q_M_span) 54 = .ok (.iconst 0, 1) := by decide +kernel
theorem d_M_span_55 : decode (qB q_M_span) 55 = .ok (.istore 13, 2) := by decide +kernel
theorem d_M_span_57 : decode (qB q_M_span) 57 = .ok (.iload 13, 2) := by decide +kernel
theorem d_M_span_59 : decode (qB q_M_span) 59 = .ok (.aload_n 0, 1) := by decide +kernel
theorem d_M_span_60 : decode (qB q_M_span) 60 = .ok (.getfield 207, 3) := by decide +kernel
theorem d_M_span_63 : decode (qB q_M_span) 63 = .ok (.if_icmp .ge 171, 3) := by decide +kernel
theorem d_M_span_66 : decode (qB q_M_span) 66 = .ok (.aload_n 0, 1) := by decide +kernel
theorem d_M_span_67 : decode (qB q_M_span) 67 = .ok (.aload_n 0, 1) := by decide +kernel
theorem d_M_span_68 : decode (qB q_M_span) 68 = .ok (.getfield 48, 3) := by decide +kernel
theorem d_M_span_71 : decode (qB q_M_span) 71 = .ok (.iload_n 1, 1) := by decide +kernel
theorem d_M_span_72 : decode (qB q_M_span) 72 = .ok (.invokevirtual 223, 3) := by decide +kernel
theorem d_M_span_75 : decode (qB q_M_span) 75 = .ok (.aload_n 0, 1) := by decide +kernel
theorem d_M_span_76 : decode (qB q_M_span) 76 = .ok (.iload 13, 2) := by decide +kernel
theorem d_M_span_78 : decode (qB q_M_span) 78 = .ok (.iload_n 1, 1) := by decide +kernel
theorem d_M_span_79 : decode (qB q_M_span) 79 = .ok (.invokevirtual 223, 3) := by decide +kernel
theorem d_M_span_82 : decode (qB q_M_span) 82 = .ok (.lsub, 1) := by decide +kernel
theorem d_M_span_83 : decode (qB q_M_span) 83 = .ok (.lstore 14, 2) := by decide +kernel
theorem d_M_span_85 : decode (qB q_M_span) 85 = .ok (.ldc2_w 117, 3) := by decide +kernel
theorem d_M_span_88 : decode (qB q_M_span) 88 = .ok (.aload_n 0, 1) := by decide +kernel
theorem d_M_span_89 : decode (qB q_M_span) 89 = .ok (.aload_n 0, 1) := by decide +kernel
theorem d_M_span_90 : decode (qB q_M_span) 90 = .ok (.getfield 48, 3) := by decide +kernel
theorem d_M_span_93 : decode (qB q_M_span) 93 = .ok (.iload_n 1, 1) := by decide +kernel
theorem d_M_span_94 : decode (qB q_M_span) 94 = .ok (.invokevirtual 230, 3) := by decide +kernel
theorem d_M_span_97 : decode (qB q_M_span) 97 = .ok (.aload_n 0, 1) := by decide +kernel
theorem d_M_span_98 : decode (qB q_M_span) 98 = .ok (.iload 13, 2) := by decide +kernel
theorem d_M_span_100 : decode (qB q_M_span) 100 = .ok (.iload_n 1, 1) := by decide +kernel
theorem d_M_span_101 : decode (qB q_M_span) 101 = .ok (.invokevirtual 230, 3) := by decide +kernel
theorem d_M_span_104 : decode (qB q_M_span) 104 = .ok (.lsub, 1) := by decide +kernel
theorem d_M_span_105 : decode (qB q_M_span) 105 = .ok (.lmul, 1) := by decide +kernel
theorem d_M_span_106 : decode (qB q_M_span) 106 = .ok (.lstore 16, 2) := by decide +kernel
theorem d_M_span_108 : decode (qB q_M_span) 108 = .ok (.lload 16, 2) := by decide +kernel
theorem d_M_span_110 : decode (qB q_M_span) 110 = .ok (.lconst 0, 1) := by decide +kernel
theorem d_M_span_111 : decode (qB q_M_span) 111 = .ok (.lcmp, 1) := by decide +kernel
theorem d_M_span_112 : decode (qB q_M_span) 112 = .ok (.ifCond .ne 25, 3) := by decide +kernel
theorem d_M_span_115 : decode (qB q_M_span) 115 = .ok (.iload 12, 2) := by decide +kernel
theorem d_M_span_117 : decode (qB q_M_span) 117 = .ok (.ifCond .ne 10, 3) := by decide +kernel
theorem d_M_span_120 : decode (qB q_M_span) 120 = .ok (.lload 14, 2) := by decide +kernel
theorem d_M_span_122 : decode (qB q_M_span) 122 = .ok (.lconst 0, 1) := by decide +kernel
theorem d_M_span_123 : decode (qB q_M_span) 123 = .ok (.lcmp, 1) := by decide +kernel
theorem d_M_span_124 : decode (qB q_M_span) 124 = .ok (.ifCond .le 7, 3) := by decide +kernel
theorem d_M_span_127 : decode (qB q_M_span) 127 = .ok (.iconst 1, 1) := by decide +kernel
theorem d_M_span_128 : decode (qB q_M_span) 128 = .ok (.goto 4, 3) := by decide +kernel
theorem d_M_span_131 : decode (qB q_M_span) 131 = .ok (.iconst 0, 1) := by decide +kernel
theorem d_M_span_132 : decode (qB q_M_span) 132 = .ok (.istore 12, 2) := by decide +kernel
theorem d_M_span_134 : decode (qB q_M_span) 134 = .ok (.goto 94, 3) := by decide +kernel
theorem d_M_span_137 : decode (qB q_M_span) 137 = .ok (.lload 16, 2) := by decide +kernel
theorem d_M_span_139 : decode (qB q_M_span) 139 = .ok (.lconst 0, 1) := by decide +kernel
theorem d_M_span_140 : decode (qB q_M_span) 140 = .ok (.lcmp, 1) := by decide +kernel
theorem d_M_span_141 : decode (qB q_M_span) 141 = .ok (.ifCond .le 56, 3) := by decide +kernel
theorem d_M_span_144 : decode (qB q_M_span) 144 = .ok (.iload 12, 2) := by decide +kernel
theorem d_M_span_146 : decode (qB q_M_span) 146 = .ok (.ifCond .ne 10, 3) := by decide +kernel
theorem d_M_span_149 : decode (qB q_M_span) 149 = .ok (.lload 14, 2) := by decide +kernel
theorem d_M_span_151 : decode (qB q_M_span) 151 = .ok (.lconst 0, 1) := by decide +kernel
theorem d_M_span_152 : decode (qB q_M_span) 152 = .ok (.lcmp, 1) := by decide +kernel
theorem d_M_span_153 : decode (qB q_M_span) 153 = .ok (.ifCond .le 7, 3) := by decide +kernel
theorem d_M_span_156 : decode (qB q_M_span) 156 = .ok (.iconst 1, 1) := by decide +kernel
theorem d_M_span_157 : decode (qB q_M_span) 157 = .ok (.goto 4, 3) := by decide +kernel
theorem d_M_span_160 : decode (qB q_M_span) 160 = .ok (.iconst 0, 1) := by decide +kernel
theorem d_M_span_161 : decode (qB q_M_span) 161 = .ok (.istore 12, 2) := by decide +kernel
theorem d_M_span_163 : decode (qB q_M_span) 163 = .ok (.lload 14, 2) := by decide +kernel
theorem d_M_span_165 : decode (qB q_M_span) 165 = .ok (.lconst 0, 1) := by decide +kernel
theorem d_M_span_166 : decode (qB q_M_span) 166 = .ok (.lcmp, 1) := by decide +kernel
theorem d_M_span_167 : decode (qB q_M_span) 167 = .ok (.ifCond .gt 61, 3) := by decide +kernel
theorem d_M_span_170 : decode (qB q_M_span) 170 = .ok (.lload 14, 2) := by decide +kernel
theorem d_M_span_172 : decode (qB q_M_span) 172 = .ok (.lneg, 1) := by decide +kernel
theorem d_M_span_173 : decode (qB q_M_span) 173 = .ok (.lload 16, 2) := by decide +kernel
theorem d_M_span_175 : decode (qB q_M_span) 175 = .ok (.lload 8, 2) := by decide +kernel
theorem d_M_span_177 : decode (qB q_M_span) 177 = .ok (.lload 10, 2) := by decide +kernel
theorem d_M_span_179 : decode (qB q_M_span) 179 = .ok (.invokestatic 233, 3) := by decide +kernel
theorem d_M_span_182 : decode (qB q_M_span) 182 = .ok (.ifCond .eq 46, 3) := by decide +kernel
theorem d_M_span_185 : decode (qB q_M_span) 185 = .ok (.lload 14, 2) := by decide +kernel
theorem d_M_span_187 : decode (qB q_M_span) 187 = .ok (.lneg, 1) := by decide +kernel
theorem d_M_span_188 : decode (qB q_M_span) 188 = .ok (.lstore 8, 2) := by decide +kernel
theorem d_M_span_190 : decode (qB q_M_span) 190 = .ok (.lload 16, 2) := by decide +kernel
theorem d_M_span_192 : decode (qB q_M_span) 192 = .ok (.lstore 10, 2) := by decide +kernel
theorem d_M_span_194 : decode (qB q_M_span) 194 = .ok (.goto 34, 3) := by decide +kernel
theorem d_M_span_197 : decode (qB q_M_span) 197 = .ok (.lload 14, 2) := by decide +kernel
theorem d_M_span_199 : decode (qB q_M_span) 199 = .ok (.lconst 0, 1) := by decide +kernel
theorem d_M_span_200 : decode (qB q_M_span) 200 = .ok (.lcmp, 1) := by decide +kernel
theorem d_M_span_201 : decode (qB q_M_span) 201 = .ok (.ifCond .le 27, 3) := by decide +kernel
theorem d_M_span_204 : decode (qB q_M_span) 204 = .ok (.lload 4, 2) := by decide +kernel
theorem d_M_span_206 : decode (qB q_M_span) 206 = .ok (.lload 6, 2) := by decide +kernel
theorem d_M_span_208 : decode (qB q_M_span) 208 = .ok (.lload 14, 2) := by decide +kernel
theorem d_M_span_210 : decode (qB q_M_span) 210 = .ok (.lload 16, 2) := by decide +kernel
theorem d_M_span_212 : decode (qB q_M_span) 212 = .ok (.lneg, 1) := by decide +kernel
theorem d_M_span_213 : decode (qB q_M_span) 213 = .ok (.invokestatic 233, 3) := by decide +kernel
theorem d_M_span_216 : decode (qB q_M_span) 216 = .ok (.ifCond .eq 12, 3) := by decide +kernel
theorem d_M_span_219 : decode (qB q_M_span) 219 = .ok (.lload 14, 2) := by decide +kernel
theorem d_M_span_221 : decode (qB q_M_span) 221 = .ok (.lstore 4, 2) := by decide +kernel
theorem d_M_span_223 : decode (qB q_M_span) 223 = .ok (.lload 16, 2) := by decide +kernel
theorem d_M_span_225 : decode (qB q_M_span) 225 = .ok (.lneg, 1) := by decide +kernel
theorem d_M_span_226 : decode (qB q_M_span) 226 = .ok (.lstore 6, 2) := by decide +kernel
theorem d_M_span_228 : decode (qB q_M_span) 228 = .ok (.iinc 13 1, 3) := by decide +kernel
theorem d_M_span_231 : decode (qB q_M_span) 231 = .ok (.goto (-174), 3) := by decide +kernel
theorem d_M_span_234 : decode (qB q_M_span) 234 = .ok (.iload 12, 2) := by decide +kernel
theorem d_M_span_236 : decode (qB q_M_span) 236 = .ok (.ifCond .ne 17, 3) := by decide +kernel
theorem d_M_span_239 : decode (qB q_M_span) 239 = .ok (.lload 8, 2) := by decide +kernel
theorem d_M_span_241 : decode (qB q_M_span) 241 = .ok (.lload 10, 2) := by decide +kernel
theorem d_M_span_243 : decode (qB q_M_span) 243 = .ok (.lload 4, 2) := by decide +kernel
theorem d_M_span_245 : decode (qB q_M_span) 245 = .ok (.lload 6, 2) := by decide +kernel
theorem d_M_span_247 : decode (qB q_M_span) 247 = .ok (.invokestatic 233, 3) := by decide +kernel
theorem d_M_span_250 : decode (qB q_M_span) 250 = .ok (.ifCond .eq 7, 3) := by decide +kernel
theorem d_M_span_253 : decode (qB q_M_span) 253 = .ok (.iconst 1, 1) := by decide +kernel
theorem d_M_span_254 : decode (qB q_M_span) 254 = .ok (.goto 4, 3) := by decide +kernel
theorem d_M_span_257 : decode (qB q_M_span) 257 = .ok (.iconst 0, 1) := by decide +kernel
theorem d_M_span_258 : decode (qB q_M_span) 258 = .ok (.istore 12, 2) := by decide +kernel
theorem d_M_span_260 : decode (qB q_M_span) 260 = .ok (.iload 12, 2) := by decide +kernel
theorem d_M_span_262 : decode (qB q_M_span) 262 = .ok (.ifCond .eq 15, 3) := by decide +kernel
theorem d_M_span_265 : decode (qB q_M_span) 265 = .ok (.iload_n 3, 1) := by decide +kernel
theorem d_M_span_266 : decode (qB q_M_span) 266 = .ok (.ifCond .ne 9, 3) := by decide +kernel
theorem d_M_span_269 : decode (qB q_M_span) 269 = .ok (.ldc2_w 60, 3) := by decide +kernel
theorem d_M_span_272 : decode (qB q_M_span) 272 = .ok (.goto 4, 3) := by decide +kernel
theorem d_M_span_275 : decode (qB q_M_span) 275 = .ok (.lconst 1, 1) := by decide +kernel
theorem d_M_span_276 : decode (qB q_M_span) 276 = .ok (.lreturn, 1) := by decide +kernel
theorem d_M_span_277 : decode (qB q_M_span) 277 = .ok (.iload_n 2, 1) := by decide +kernel
theorem d_M_span_278 : decode (qB q_M_span) 278 = .ok (.ifCond .ne 8, 3) := by decide +kernel
theorem d_M_span_281 : decode (qB q_M_span) 281 = .ok (.lload 4, 2) := by decide +kernel
theorem d_M_span_283 : decode (qB q_M_span) 283 = .ok (.goto 5, 3) := by decide +kernel
theorem d_M_span_286 : decode (qB q_M_span) 286 = .ok (.lload 8, 2) := by decide +kernel
theorem d_M_span_288 : decode (qB q_M_span) 288 = .ok (.lstore 13, 2) := by decide +kernel
theorem d_M_span_290 : decode (qB q_M_span) 290 = .ok (.iload_n 2, 1) := by decide +kernel
theorem d_M_span_291 : decode (qB q_M_span) 291 = .ok (.ifCond .ne 8, 3) := by decide +kernel
theorem d_M_span_294 : decode (qB q_M_span) 294 = .ok (.lload 6, 2) := by decide +kernel
theorem d_M_span_296 : decode (qB q_M_span) 296 = .ok (.goto 5, 3) := by decide +kernel
theorem d_M_span_299 : decode (qB q_M_span) 299 = .ok (.lload 10, 2) := by decide +kernel
theorem d_M_span_301 : decode (qB q_M_span) 301 = .ok (.lstore 15, 2) := by decide +kernel
theorem d_M_span_303 : decode (qB q_M_span) 303 = .ok (.lload 13, 2) := by decide +kernel
theorem d_M_span_305 : decode (qB q_M_span) 305 = .ok (.lload 15, 2) := by decide +kernel
theorem d_M_span_307 : decode (qB q_M_span) 307 = .ok (.invokestatic 226, 3) := by decide +kernel
theorem d_M_span_310 : decode (qB q_M_span) 310 = .ok (.lstore 17, 2) := by decide +kernel
theorem d_M_span_312 : decode (qB q_M_span) 312 = .ok (.iload_n 3, 1) := by decide +kernel
theorem d_M_span_313 : decode (qB q_M_span) 313 = .ok (.ifCond .ne 11, 3) := by decide +kernel
theorem d_M_span_316 : decode (qB q_M_span) 316 = .ok (.lload 13, 2) := by decide +kernel
theorem d_M_span_318 : decode (qB q_M_span) 318 = .ok (.lload 17, 2) := by decide +kernel
theorem d_M_span_320 : decode (qB q_M_span) 320 = .ok (.ldiv, 1) := by decide +kernel
theorem d_M_span_321 : decode (qB q_M_span) 321 = .ok (.goto 8, 3) := by decide +kernel
theorem d_M_span_324 : decode (qB q_M_span) 324 = .ok (.lload 15, 2) := by decide +kernel
theorem d_M_span_326 : decode (qB q_M_span) 326 = .ok (.lload 17, 2) := by decide +kernel
theorem d_M_span_328 : decode (qB q_M_span) 328 = .ok (.ldiv, 1) := by decide +kernel
theorem d_M_span_329 : decode (qB q_M_span) 329 = .ok (.lreturn, 1) := by decide +kernel
set_option maxRecDepth 10000 in
theorem k_M_span {G : mxG} (hG : mx_GG G) : ∀ pc r, t_M_span pc = some r → mx_Ok G mx_W mx_MT q_M_span pc r := (bn_ok (bn_ok (bn_ok (bn_ok (bn_ok (bn_ok (bn_ok (bl_ok (ok_aload_n rfl d_M_span_0)) (bl_ok (ok_getf d_M_span_1 (cl_5 hG) (by decide) w_618))) (bn_ok (bl_ok (ok_iconst (by decide) d_M_span_4)) (bn_ok (bl_ok (ok_iceq d_M_span_5 (by decide))) (bl_ok (ok_iload_n rfl d_M_span_8))))) (bn_ok (bn_ok (bl_ok (ok_iflt d_M_span_9 (by decide))) (bl_ok (ok_iload_n rfl d_M_span_12))) (bn_ok (bl_ok (ok_iconst (by decide) d_M_span_13)) (bn_ok (bl_ok (ok_icgt d_M_span_14 (by decide))) (bl_ok (ok_iload_n rfl d_M_span_17)))))) (bn_ok (bn_ok (bn_ok (bl_ok (ok_iflt d_M_span_18 (by decide))) (bl_ok (ok_iload_n rfl d_M_span_21))) (bn_ok (bl_ok (ok_iconst (by decide) d_M_span_22)) (bn_ok (bl_ok (ok_icgt d_M_span_23 (by decide))) (bl_ok (ok_iload_n rfl d_M_span_26))))) (bn_ok (bn_ok (bl_ok (ok_iflt d_M_span_27 (by decide))) (bn_ok (bl_ok (ok_iload_n rfl d_M_span_30)) (bl_ok (ok_iconst (by decide) d_M_span_31)))) (bn_ok (bl_ok (ok_icle d_M_span_32 (by decide))) (bn_ok (bl_ok (ok_ldc2 d_M_span_35 w_601)) (bl_ok (ok_lreturn d_M_span_38 rfl))))))) (bn_ok (bn_ok (bn_ok (bn_ok (bl_ok (ok_lconst (by decide) d_M_span_39)) (bl_ok (ok_lstore d_M_span_40 (by decide)))) (bn_ok (bl_ok (ok_lconst (by decide) d_M_span_42)) (bn_ok (bl_ok (ok_lstore d_M_span_43 (by decide))) (bl_ok (ok_lconst (by decide) d_M_span_45))))) (bn_ok (bn_ok (bl_ok (ok_lstore d_M_span_46 (by decide))) (bl_ok (ok_lconst (by decide) d_M_span_48))) (bn_ok (bl_ok (ok_lstore d_M_span_49 (by decide))) (bn_ok (bl_ok (ok_iconst (by decide) d_M_span_51)) (bl_ok (ok_istore d_M_span_52 (by decide))))))) (bn_ok (bn_ok (bn_ok (bl_ok (ok_iconst (by decide) d_M_span_54)) (bl_ok (ok_istore d_M_span_55 (by decide)))) (bn_ok (bl_ok (ok_iload d_M_span_57)) (bn_ok (bl_ok (ok_aload_n rfl d_M_span_59)) (bl_ok (ok_getf d_M_span_60 (cl_5 hG) (by decide) w_617))))) (bn_ok (bn_ok (bl_ok (ok_icge d_M_span_63 (by decide))) (bn_ok (bl_ok (ok_aload_n rfl d_M_span_66)) (bl_ok (ok_aload_n rfl d_M_span_67)))) (bn_ok (bl_ok (ok_getf d_M_span_68 (cl_5 hG) (by decide) w_618)) (bn_ok (bl_ok (ok_iload_n rfl d_M_span_71)) (bl_ok (ok_cv mx_W_good (cl_5 hG) d_M_span_72 (mt_M_wayCost) mk_M_wayCost w_860 w_862 ws_M_wayCost (by decide) (by decide))))))))) (bn_ok (bn_ok (bn_ok (bn_ok (bn_ok (bl_ok (ok_aload_n rfl d_M_span_75)) (bl_ok (ok_iload d_M_span_76))) (bn_ok (bl_ok (ok_iload_n rfl d_M_span_78)) (bn_ok (bl_ok (ok_cv mx_W_good (cl_5 hG) d_M_span_79 (mt_M_wayCost) mk_M_wayCost w_860 w_862 ws_M_wayCost (by decide) (by decide))) (bl_ok (ok_lsub d_M_span_82))))) (bn_ok (bn_ok (bl_ok (ok_lstore d_M_span_83 (by decide))) (bl_ok (ok_ldc2 d_M_span_85 w_737))) (bn_ok (bl_ok (ok_aload_n rfl d_M_span_88)) (bn_ok (bl_ok (ok_aload_n rfl d_M_span_89)) (bl_ok (ok_getf d_M_span_90 (cl_5 hG) (by decide) w_618)))))) (bn_ok (bn_ok (bn_ok (bl_ok (ok_iload_n rfl d_M_span_93)) (bl_ok (ok_cv mx_W_good (cl_5 hG) d_M_span_94 (mt_M_wayValue) mk_M_wayValue w_871 w_873 ws_M_wayValue (by decide) (by decide)))) (bn_ok (bl_ok (ok_aload_n rfl d_M_span_97)) (bn_ok (bl_ok (ok_iload d_M_span_98)) (bl_ok (ok_iload_n rfl d_M_span_100))))) (bn_ok (bn_ok (bl_ok (ok_cv mx_W_good (cl_5 hG) d_M_span_101 (mt_M_wayValue) mk_M_wayValue w_871 w_873 ws_M_wayValue (by decide) (by decide))) (bn_ok (bl_ok (ok_lsub d_M_span_104)) (bl_ok (ok_lmul d_M_span_105)))) (bn_ok (bl_ok (ok_lstore d_M_span_106 (by decide))) (bn_ok (bl_ok (ok_lload d_M_span_108)) (bl_ok (ok_lconst (by decide) d_M_span_110))))))) (bn_ok (bn_ok (bn_ok (bn_ok (bl_ok (ok_lcmp d_M_span_111)) (bl_ok (ok_ifne d_M_span_112 (by decide)))) (bn_ok (bl_ok (ok_iload d_M_span_115)) (bn_ok (bl_ok (ok_ifne d_M_span_117 (by decide))) (bl_ok (ok_lload d_M_span_120))))) (bn_ok (bn_ok (bl_ok (ok_lconst (by decide) d_M_span_122)) (bn_ok (bl_ok (ok_lcmp d_M_span_123)) (bl_ok (ok_ifle d_M_span_124 (by decide))))) (bn_ok (bl_ok (ok_iconst (by decide) d_M_span_127)) (bn_ok (bl_ok (ok_goto d_M_span_128 (by decide))) (bl_ok (ok_iconst (by decide) d_M_span_131)))))) (bn_ok (bn_ok (bn_ok (bl_ok (ok_istore d_M_span_132 (by decide))) (bl_ok (ok_goto d_M_span_134 (by decide)))) (bn_ok (bl_ok (ok_lload d_M_span_137)) (bn_ok (bl_ok (ok_lconst (by decide) d_M_span_139)) (bl_ok (ok_lcmp d_M_span_140))))) (bn_ok (bn_ok (bl_ok (ok_ifle d_M_span_141 (by decide))) (bn_ok (bl_ok (ok_iload d_M_span_144)) (bl_ok (ok_ifne d_M_span_146 (by decide))))) (bn_ok (bl_ok (ok_lload d_M_span_149)) (bn_ok (bl_ok (ok_lconst (by decide) d_M_span_151)) (bl_ok (ok_lcmp d_M_span_152))))))))) (bn_ok (bn_ok (bn_ok (bn_ok (bn_ok (bn_ok (bl_ok (ok_ifle d_M_span_153 (by decide))) (bl_ok (ok_iconst (by decide) d_M_span_156))) (bn_ok (bl_ok (ok_goto d_M_span_157 (by decide))) (bn_ok (bl_ok (ok_iconst (by decide) d_M_span_160)) (bl_ok (ok_istore d_M_span_161 (by decide)))))) (bn_ok (bn_ok (bl_ok (ok_lload d_M_span_163)) (bl_ok (ok_lconst (by decide) d_M_span_165))) (bn_ok (bl_ok (ok_lcmp d_M_span_166)) (bn_ok (bl_ok (ok_ifgt d_M_span_167 (by decide))) (bl_ok (ok_lload d_M_span_170)))))) (bn_ok (bn_ok (bn_ok (bl_ok (ok_lneg d_M_span_172)) (bl_ok (ok_lload d_M_span_173))) (bn_ok (bl_ok (ok_lload d_M_span_175)) (bn_ok (bl_ok (ok_lload d_M_span_177)) (bl_ok (ok_cs mx_W_good d_M_span_179 (mt_M_isLess) mk_M_isLess w_875 w_876 (by decide) (by decide)))))) (bn_ok (bn_ok (bl_ok (ok_ifeq d_M_span_182 (by decide))) (bn_ok (bl_ok (ok_lload d_M_span_185)) (bl_ok (ok_lneg d_M_span_187)))) (bn_ok (bl_ok (ok_lstore d_M_span_188 (by decide))) (bn_ok (bl_ok (ok_lload d_M_span_190)) (bl_ok (ok_lstore d_M_span_192 (by decide)))))))) (bn_ok (bn_ok (bn_ok (bn_ok (bl_ok (ok_goto d_M_span_194 (by decide))) (bl_ok (ok_lload d_M_span_197))) (bn_ok (bl_ok (ok_lconst (by decide) d_M_span_199)) (bn_ok (bl_ok (ok_lcmp d_M_span_200)) (bl_ok (ok_ifle d_M_span_201 (by decide)))))) (bn_ok (bn_ok (bl_ok (ok_lload d_M_span_204)) (bn_ok (bl_ok (ok_lload d_M_span_206)) (bl_ok (ok_lload d_M_span_208)))) (bn_ok (bl_ok (ok_lload d_M_span_210)) (bn_ok (bl_ok (ok_lneg d_M_span_212)) (bl_ok (ok_cs mx_W_good d_M_span_213 (mt_M_isLess) mk_M_isLess w_875 w_876 (by decide) (by decide))))))) (bn_ok (bn_ok (bn_ok (bl_ok (ok_ifeq d_M_span_216 (by decide))) (bl_ok (ok_lload d_M_span_219))) (bn_ok (bl_ok (ok_lstore d_M_span_221 (by decide))) (bn_ok (bl_ok (ok_lload d_M_span_223)) (bl_ok (ok_lneg d_M_span_225))))) (bn_ok (bn_ok (bl_ok (ok_lstore d_M_span_226 (by decide))) (bn_ok (bl_ok (ok_iinc d_M_span_228 (by decide) (by decide))) (bl_ok (ok_goto d_M_span_231 (by decide))))) (bn_ok (bl_ok (ok_iload d_M_span_234)) (bn_ok (bl_ok (ok_ifne d_M_span_236 (by decide))) (bl_ok (ok_lload d_M_span_239)))))))) (bn_ok (bn_ok (bn_ok (bn_ok (bn_ok (bl_ok (ok_lload d_M_span_241)) (bl_ok (ok_lload d_M_span_243))) (bn_ok (bl_ok (ok_lload d_M_span_245)) (bn_ok (bl_ok (ok_cs mx_W_good d_M_span_247 (mt_M_isLess) mk_M_isLess w_875 w_876 (by decide) (by decide))) (bl_ok (ok_ifeq d_M_span_250 (by decide)))))) (bn_ok (bn_ok (bl_ok (ok_iconst (by decide) d_M_span_253)) (bl_ok (ok_goto d_M_span_254 (by decide)))) (bn_ok (bl_ok (ok_iconst (by decide) d_M_span_257)) (bn_ok (bl_ok (ok_istore d_M_span_258 (by decide))) (bl_ok (ok_iload d_M_span_260)))))) (bn_ok (bn_ok (bn_ok (bl_ok (ok_ifeq d_M_span_262 (by decide))) (bl_ok (ok_iload_n rfl d_M_span_265))) (bn_ok (bl_ok (ok_ifne d_M_span_266 (by decide))) (bn_ok (bl_ok (ok_ldc2 d_M_span_269 w_601)) (bl_ok (ok_goto d_M_span_272 (by decide)))))) (bn_ok (bn_ok (bl_ok (ok_lconst (by decide) d_M_span_275)) (bn_ok (bl_ok (ok_lreturn d_M_span_276 rfl)) (bl_ok (ok_iload_n rfl d_M_span_277)))) (bn_ok (bl_ok (ok_ifne d_M_span_278 (by decide))) (bn_ok (bl_ok (ok_lload d_M_span_281)) (bl_ok (ok_goto d_M_span_283 (by decide)))))))) (bn_ok (bn_ok (bn_ok (bn_ok (bl_ok (ok_lload d_M_span_286)) (bl_ok (ok_lstore d_M_span_288 (by decide)))) (bn_ok (bl_ok (ok_iload_n rfl d_M_span_290)) (bn_ok (bl_ok (ok_ifne d_M_span_291 (by decide))) (bl_ok (ok_lload d_M_span_294))))) (bn_ok (bn_ok (bl_ok (ok_goto d_M_span_296 (by decide))) (bn_ok (bl_ok (ok_lload d_M_span_299)) (bl_ok (ok_lstore d_M_span_301 (by decide))))) (bn_ok (bl_ok (ok_lload d_M_span_303)) (bn_ok (bl_ok (ok_lload d_M_span_305)) (bl_ok (ok_cs mx_W_good d_M_span_307 (mt_M_divisor) mk_M_divisor w_864 w_865 (by decide) (by decide))))))) (bn_ok (bn_ok (bn_ok (bl_ok (ok_lstore d_M_span_310 (by decide))) (bl_ok (ok_iload_n rfl d_M_span_312))) (bn_ok (bl_ok (ok_ifne d_M_span_313 (by decide))) (bn_ok (bl_ok (ok_lload d_M_span_316)) (bl_ok (ok_lload d_M_span_318))))) (bn_ok (bn_ok (bl_ok (ok_ldiv d_M_span_320)) (bn_ok (bl_ok (ok_goto d_M_span_321 (by decide))) (bl_ok (ok_lload d_M_span_324)))) (bn_ok (bl_ok (ok_lload d_M_span_326)) (bn_ok (bl_ok (ok_ldiv d_M_span_328)) (bl_ok (ok_lreturn d_M_span_329 rfl))))))))))
