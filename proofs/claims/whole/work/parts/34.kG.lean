theorem d_G_init_0 : decode (qB q_G_init) 0 = .ok (.aload_n 0, 1) := by decide +kernel
theorem d_G_init_1 : decode (qB q_G_init) 1 = .ok (.invokespecial 3, 3) := by decide +kernel
theorem d_G_init_4 : decode (qB q_G_init) 4 = .ok (.aload_n 0, 1) := by decide +kernel
theorem d_G_init_5 : decode (qB q_G_init) 5 = .ok (.iload_n 1, 1) := by decide +kernel
theorem d_G_init_6 : decode (qB q_G_init) 6 = .ok (.putfield 9, 3) := by decide +kernel
theorem d_G_init_9 : decode (qB q_G_init) 9 = .ok (.aload_n 0, 1) := by decide +kernel
theorem d_G_init_10 : decode (qB q_G_init) 10 = .ok (.iload_n 2, 1) := by decide +kernel
theorem d_G_init_11 : decode (qB q_G_init) 11 = .ok (.putfield 15, 3) := by decide +kernel
theorem d_G_init_14 : decode (qB q_G_init) 14 = .ok (.aload_n 0, 1) := by decide +kernel
theorem d_G_init_15 : decode (qB q_G_init) 15 = .ok (.iload_n 1, 1) := by decide +kernel
theorem d_G_init_16 : decode (qB q_G_init) 16 = .ok (.iload_n 2, 1) := by decide +kernel
theorem d_G_init_17 : decode (qB q_G_init) 17 = .ok (.imul, 1) := by decide +kernel
theorem d_G_init_18 : decode (qB q_G_init) 18 = .ok (.putfield 18, 3) := by decide +kernel
theorem d_G_init_21 : decode (qB q_G_init) 21 = .ok (.aload_n 0, 1) := by decide +kernel
theorem d_G_init_22 : decode (qB q_G_init) 22 = .ok (.aload_n 0, 1) := by decide +kernel
theorem d_G_init_23 : decode (qB q_G_init) 23 = .ok (.getfield 18, 3) := by decide +kernel
theorem d_G_init_26 : decode (qB q_G_init) 26 = .ok (.newarray .int, 2) := by decide +kernel
theorem d_G_init_28 : decode (qB q_G_init) 28 = .ok (.putfield 21, 3) := by decide +kernel
theorem d_G_init_31 : decode (qB q_G_init) 31 = .ok (.aload_n 0, 1) := by decide +kernel
theorem d_G_init_32 : decode (qB q_G_init) 32 = .ok (.aload_n 0, 1) := by decide +kernel
theorem d_G_init_33 : decode (qB q_G_init) 33 = .ok (.getfield 18, 3) := by decide +kernel
theorem d_G_init_36 : decode (qB q_G_init) 36 = .ok (.newarray .int, 2) := by decide +kernel
theorem d_G_init_38 : decode (qB q_G_init) 38 = .ok (.putfield 25, 3) := by decide +kernel
theorem d_G_init_41 : decode (qB q_G_init) 41 = .ok (.iconst 0, 1) := by decide +kernel
theorem d_G_init_42 : decode (qB q_G_init) 42 = .ok (.istore_n 3, 1) := by decide +kernel
theorem d_G_init_43 : decode (qB q_G_init) 43 = .ok (.iload_n 3, 1) := by decide +kernel
theorem d_G_init_44 : decode (qB q_G_init) 44 = .ok (.aload_n 0, 1) := by decide +kernel
theorem d_G_init_45 : decode (qB q_G_init) 45 = .ok (.getfield 18, 3) := by decide +kernel
theorem d_G_init_48 : decode (qB q_G_init) 48 = .ok (.if_icmp .ge 27, 3) := by decide +kernel
theorem d_G_init_51 : decode (qB q_G_init) 51 = .ok (.aload_n 0, 1) := by decide +kernel
theorem d_G_init_52 : decode (qB q_G_init) 52 = .ok (.getfield 21, 3) := by decide +kernel
theorem d_G_init_55 : decode (qB q_G_init) 55 = .ok (.iload_n 3, 1) := by decide +kernel
theorem d_G_init_56 : decode (qB q_G_init) 56 = .ok (.iload_n 3, 1) := by decide +kernel
theorem d_G_init_57 : decode (qB q_G_init) 57 = .ok (.iload_n 1, 1) := by decide +kernel
theorem d_G_init_58 : decode (qB q_G_init) 58 = .ok (.irem, 1) := by decide +kernel
theorem d_G_init_59 : decode (qB q_G_init) 59 = .ok (.iastore, 1) := by decide +kernel
theorem d_G_init_60 : decode (qB q_G_init) 60 = .ok (.aload_n 0, 1) := by decide +kernel
theorem d_G_init_61 : decode (qB q_G_init) 61 = .ok (.getfield 25, 3) := by decide +kernel
theorem d_G_init_64 : decode (qB q_G_init) 64 = .ok (.iload_n 3, 1) := by decide +kernel
theorem d_G_init_65 : decode (qB q_G_init) 65 = .ok (.iload_n 3, 1) := by decide +kernel
theorem d_G_init_66 : decode (qB q_G_init) 66 = .ok (.iload_n 1, 1) := by decide +kernel
theorem d_G_init_67 : decode (qB q_G_init) 67 = .ok (.idiv, 1) := by decide +kernel
theorem d_G_init_68 : decode (qB q_G_init) 68 = .ok (.iastore, 1) := by decide +kernel
theorem d_G_init_69 : decode (qB q_G_init) 69 = .ok (.iinc 3 1, 3) := by decide +kernel
theorem d_G_init_72 : decode (qB q_G_init) 72 = .ok (.goto (-29), 3) := by decide +kernel
theorem d_G_init_75 : decode (qB q_G_init) 75 = .ok (.aload_n 0, 1) := by decide +kernel
theorem d_G_init_76 : decode (qB q_G_init) 76 = .ok (.aload_n 0, 1) := by decide +kernel
theorem d_G_init_77 : decode (qB q_G_init) 77 = .ok (.getfield 18, 3) := by decide +kernel
theorem d_G_init_80 : decode (qB q_G_init) 80 = .ok (.bipush 16, 2) := by decide +kernel
theorem d_G_init_82 : decode (qB q_G_init) 82 = .ok (.imul, 1) := by decide +kernel
theorem d_G_init_83 : decode (qB q_G_init) 83 = .ok (.newarray .int, 2) := by decide +kernel
theorem d_G_init_85 : decode (qB q_G_init) 85 = .ok (.putfield 28, 3) := by decide +kernel
theorem d_G_init_88 : decode (qB q_G_init) 88 = .ok (.iconst 0, 1) := by decide +kernel
theorem d_G_init_89 : decode (qB q_G_init) 89 = .ok (.istore_n 3, 1) := by decide +kernel
theorem d_G_init_90 : decode (qB q_G_init) 90 = .ok (.iload_n 3, 1) := by decide +kernel
theorem d_G_init_91 : decode (qB q_G_init) 91 = .ok (.aload_n 0, 1) := by decide +kernel
theorem d_G_init_92 : decode (qB q_G_init) 92 = .ok (.getfield 28, 3) := by decide +kernel
theorem d_G_init_95 : decode (qB q_G_init) 95 = .ok (.arraylength, 1) := by decide +kernel
theorem d_G_init_96 : decode (qB q_G_init) 96 = .ok (.if_icmp .ge 59, 3) := by decide +kernel
theorem d_G_init_99 : decode (qB q_G_init) 99 = .ok (.iload_n 3, 1) := by decide +kernel
theorem d_G_init_100 : decode (qB q_G_init) 100 = .ok (.bipush 16, 2) := by decide +kernel
theorem d_G_init_102 : decode (qB q_G_init) 102 = .ok (.idiv, 1) := by decide +kernel
theorem d_G_init_103 : decode (qB q_G_init) 103 = .ok (.istore 4, 2) := by decide +kernel
theorem d_G_init_105 : decode (qB q_G_init) 105 = .ok (.iload_n 3, 1) := by decide +kernel
theorem d_G_init_106 : decode (qB q_G_init) 106 = .ok (.bipush 16, 2) := by decide +kernel
theorem d_G_init_108 : decode (qB q_G_init) 108 = .ok (.irem, 1) := by decide +kernel
theorem d_G_init_109 : decode (qB q_G_init) 109 = .ok (.istore 5, 2) := by decide +kernel
theorem d_G_init_111 : decode (qB q_G_init) 111 = .ok (.aload_n 0, 1) := by decide +kernel
theorem d_G_init_112 : decode (qB q_G_init) 112 = .ok (.getfield 28, 3) := by decide +kernel
theorem d_G_init_115 : decode (qB q_G_init) 115 = .ok (.iload_n 3, 1) := by decide +kernel
theorem d_G_init_116 : decode (qB q_G_init) 116 = .ok (.aload_n 0, 1) := by decide +kernel
theorem d_G_init_117 : decode (qB q_G_init) 117 = .ok (.aload_n 0, 1) := by decide +kernel
theorem d_G_init_118 : decode (qB q_G_init) 118 = .ok (.getfield 21, 3) := by decide +kernel
theorem d_G_init_121 : decode (qB q_G_init) 121 = .ok (.iload 4, 2) := by decide +kernel
theorem d_G_init_123 : decode (qB q_G_init) 123 = .ok (.iaload, 1) := by decide +kernel
theorem d_G_init_124 : decode (qB q_G_init) 124 = .ok (.getstatic 31, 3) := by decide +kernel
theorem d_G_init_127 : decode (qB q_G_init) 127 = .ok (.iload 5, 2) := by decide +kernel
theorem d_G_init_129 : decode (qB q_G_init) 129 = .ok (.iaload, 1) := by decide +kernel
theorem d_G_init_130 : decode (qB q_G_init) 130 = .ok (.iadd, 1) := by decide +kernel
theorem d_G_init_131 : decode (qB q_G_init) 131 = .ok (.aload_n 0, 1) := by decide +kernel
theorem d_G_init_132 : decode (qB q_G_init) 132 = .ok (.getfield 25, 3) := by decide +kernel
theorem d_G_init_135 : decode (qB q_G_init) 135 = .ok (.iload 4, 2) := by decide +kernel
theorem d_G_init_137 : decode (qB q_G_init) 137 = .ok (.iaload, 1) := by decide +kernel
theorem d_G_init_138 : decode (qB q_G_init) 138 = .ok (.getstatic 34, 3) := by decide +kernel
theorem d_G_init_141 : decode (qB q_G_init) 141 = .ok (.iload 5, 2) := by decide +kernel
theorem d_G_init_143 : decode (qB q_G_init) 143 = .ok (.iaload, 1) := by decide +kernel
theorem d_G_init_144 : decode (qB q_G_init) 144 = .ok (.iadd, 1) := by decide +kernel
theorem d_G_init_145 : decode (qB q_G_init) 145 = .ok (.invokevirtual 37, 3) := by decide +kernel
theorem d_G_init_148 : decode (qB q_G_init) 148 = .ok (.iastore, 1) := by decide +kernel
theorem d_G_init_149 : decode (qB q_G_init) 149 = .ok (.iinc 3 1, 3) := by decide +kernel
theorem d_G_init_152 : decode (qB q_G_init) 152 = .ok (.goto (-62), 3) := by decide +kernel
theorem d_G_init_155 : decode (qB q_G_init) 155 = .ok (.aload_n 0, 1) := by decide +kernel
theorem d_G_init_156 : decode (qB q_G_init) 156 = .ok (.aload_n 0, 1) := by decide +kernel
theorem d_G_init_157 : decode (qB q_G_init) 157 = .ok (.getfield 18, 3) := by decide +kernel
theorem d_G_init_160 : decode (qB q_G_init) 160 = .ok (.newarray .int, 2) := by decide +kernel
theorem d_G_init_162 : decode (qB q_G_init) 162 = .ok (.putfield 41, 3) := by decide +kernel
theorem d_G_init_165 : decode (qB q_G_init) 165 = .ok (.aload_n 0, 1) := by decide +kernel
theorem d_G_init_166 : decode (qB q_G_init) 166 = .ok (.aload_n 0, 1) := by decide +kernel
theorem d_G_init_167 : decode (qB q_G_init) 167 = .ok (.getfield 18, 3) := by decide +kernel
theorem d_G_init_170 : decode (qB q_G_init) 170 = .ok (.newarray .int, 2) := by decide +kernel
theorem d_G_init_172 : decode (qB q_G_init) 172 = .ok (.putfield 44, 3) := by decide +kernel
theorem d_G_init_175 : decode (qB q_G_init) 175 = .ok (.aload_n 0, 1) := by decide +kernel
theorem d_G_init_176 : decode (qB q_G_init) 176 = .ok (.aload_n 0, 1) := by decide +kernel
theorem d_G_init_177 : decode (qB q_G_init) 177 = .ok (.getfield 18, 3) := by decide +kernel
theorem d_G_init_180 : decode (qB q_G_init) 180 = .ok (.newarray .boolean, 2) := by decide +kernel
theorem d_G_init_182 : decode (qB q_G_init) 182 = .ok (.putfield 47, 3) := by decide +kernel
theorem d_G_init_185 : decode (qB q_G_init) 185 = .ok (.aload_n 0, 1) := by decide +kernel
theorem d_G_init_186 : decode (qB q_G_init) 186 = .ok (.aload_n 0, 1) := by decide +kernel
theorem d_G_init_187 : decode (qB q_G_init) 187 = .ok (.getfield 18, 3) := by decide +kernel
theorem d_G_init_190 : decode (qB q_G_init) 190 = .ok (.newarray .int, 2) := by decide +kernel
theorem d_G_init_192 : decode (qB q_G_init) 192 = .ok (.putfield 51, 3) := by decide +kernel
theorem d_G_init_195 : decode (qB q_G_init) 195 = .ok (.aload_n 0, 1) := by decide +kernel
theorem d_G_init_196 : decode (qB q_G_init) 196 = .ok (.aload_n 0, 1) := by decide +kernel
theorem d_G_init_197 : decode (qB q_G_init) 197 = .ok (.getfield 18, 3) := by decide +kernel
theorem d_G_init_200 : decode (qB q_G_init) 200 = .ok (.newarray .int, 2) := by decide +kernel
theorem d_G_init_202 : decode (qB q_G_init) 202 = .ok (.putfield 54, 3) := by decide +kernel
theorem d_G_init_205 : decode (qB q_G_init) 205 = .ok (.aload_n 0, 1) := by decide +kernel
theorem d_G_init_206 : decode (qB q_G_init) 206 = .ok (.aload_n 0, 1) := by decide +kernel
theorem d_G_init_207 : decode (qB q_G_init) 207 = .ok (.getfield 18, 3) := by decide +kernel
theorem d_G_init_210 : decode (qB q_G_init) 210 = .ok (.newarray .int, 2) := by decide +kernel
theorem d_G_init_212 : decode (qB q_G_init) 212 = .ok (.putfield 57, 3) := by decide +kernel
theorem d_G_init_215 : decode (qB q_G_init) 215 = .ok (.aload_n 0, 1) := by decide +kernel
theorem d_G_init_216 : decode (qB q_G_init) 216 = .ok (.aload_n 0, 1) := by decide +kernel
theorem d_G_init_217 : decode (qB q_G_init) 217 = .ok (.getfield 18, 3) := by decide +kernel
theorem d_G_init_220 : decode (qB q_G_init) 220 = .ok (.newarray .int, 2) := by decide +kernel
theorem d_G_init_222 : decode (qB q_G_init) 222 = .ok (.putfield 60, 3) := by decide +kernel
theorem d_G_init_225 : decode (qB q_G_init) 225 = .ok (.aload_n 0, 1) := by decide +kernel
theorem d_G_init_226 : decode (qB q_G_init) 226 = .ok (.iconst 4, 1) := by decide +kernel
theorem d_G_init_227 : decode (qB q_G_init) 227 = .ok (.aload_n 0, 1) := by decide +kernel
theorem d_G_init_228 : decode (qB q_G_init) 228 = .ok (.getfield 18, 3) := by decide +kernel
theorem d_G_init_231 : decode (qB q_G_init) 231 = .ok (.imul, 1) := by decide +kernel
theorem d_G_init_232 : decode (qB q_G_init) 232 = .ok (.newarray .int, 2) := by decide +kernel
theorem d_G_init_234 : decode (qB q_G_init) 234 = .ok (.putfield 63, 3) := by decide +kernel
theorem d_G_init_237 : decode (qB q_G_init) 237 = .ok (.aload_n 0, 1) := by decide +kernel
theorem d_G_init_238 : decode (qB q_G_init) 238 = .ok (.iconst 4, 1) := by decide +kernel
theorem d_G_init_239 : decode (qB q_G_init) 239 = .ok (.newarray .long, 2) := by decide +kernel
theorem d_G_init_241 : decode (qB q_G_init) 241 = .ok (.putfield 66, 3) := by decide +kernel
theorem d_G_init_244 : decode (qB q_G_init) 244 = .ok (.aload_n 0, 1) := by decide +kernel
theorem d_G_init_245 : decode (qB q_G_init) 245 = .ok (.iconst 1, 1) := by decide +kernel
theorem d_G_init_246 : decode (qB q_G_init) 246 = .ok (.putfield 70, 3) := by decide +kernel
theorem d_G_init_249 : decode (qB q_G_init) 249 = .ok (.aload_n 0, 1) := by decide +kernel
theorem d_G_init_250 : decode (qB q_G_init) 250 = .ok (.sipush 9999, 3) := by decide +kernel
theorem d_G_init_253 : decode (qB q_G_init) 253 = .ok (.putfield 73, 3) := by decide +kernel
theorem d_G_init_256 : decode (qB q_G_init) 256 = .ok (.aload_n 0, 1) := by decide +kernel
theorem d_G_init_257 : decode (qB q_G_init) 257 = .ok (.bipush 8, 2) := by decide +kernel
theorem d_G_init_259 : decode (qB q_G_init) 259 = .ok (.putfield 76, 3) := by decide +kernel
theorem d_G_init_262 : decode (qB q_G_init) 262 = .ok (.return_, 1) := by decide +kernel
set_option maxRecDepth 10000 in
theorem k_G_init {G : mxG} (hG : mx_GG G) : ∀ pc r, t_G_init pc = some r → mx_Ok G mx_W mx_MT q_G_init pc r := (bn_ok (bn_ok (bn_ok (bn_ok (bn_ok (bn_ok (bn_ok (bl_ok (ok_aload_n rfl d_G_init_0)) (bl_ok (ok_oin d_G_init_1 w_31 w_18 (w_oc) (by decide) (by decide)))) (bn_ok (bl_ok (ok_aload_n rfl d_G_init_4)) (bl_ok (ok_iload_n rfl d_G_init_5)))) (bn_ok (bn_ok (bl_ok (ok_putf d_G_init_6 (cl_1 hG) (by decide) w_40 rfl (Or.inr ⟨rfl, rfl, rfl⟩))) (bl_ok (ok_aload_n rfl d_G_init_9))) (bn_ok (bl_ok (ok_iload_n rfl d_G_init_10)) (bn_ok (bl_ok (ok_putf d_G_init_11 (cl_1 hG) (by decide) w_41 rfl (Or.inr ⟨rfl, rfl, rfl⟩))) (bl_ok (ok_aload_n rfl d_G_init_14)))))) (bn_ok (bn_ok (bn_ok (bl_ok (ok_iload_n rfl d_G_init_15)) (bl_ok (ok_iload_n rfl d_G_init_16))) (bn_ok (bl_ok (ok_imul d_G_init_17)) (bl_ok (ok_putf d_G_init_18 (cl_1 hG) (by decide) w_43 rfl (Or.inr ⟨rfl, rfl, rfl⟩))))) (bn_ok (bn_ok (bl_ok (ok_aload_n rfl d_G_init_21)) (bl_ok (ok_aload_n rfl d_G_init_22))) (bn_ok (bl_ok (ok_getf d_G_init_23 (cl_1 hG) (by decide) w_43)) (bn_ok (bl_ok (ok_newi d_G_init_26 w_114 (kt_0 hG))) (bl_ok (ok_putf d_G_init_28 (cl_1 hG) (by decide) w_45 rfl (Or.inr ⟨rfl, rfl, rfl⟩)))))))) (bn_ok (bn_ok (bn_ok (bn_ok (bl_ok (ok_aload_n rfl d_G_init_31)) (bl_ok (ok_aload_n rfl d_G_init_32))) (bn_ok (bl_ok (ok_getf d_G_init_33 (cl_1 hG) (by decide) w_43)) (bl_ok (ok_newi d_G_init_36 w_114 (kt_0 hG))))) (bn_ok (bn_ok (bl_ok (ok_putf d_G_init_38 (cl_1 hG) (by decide) w_47 rfl (Or.inr ⟨rfl, rfl, rfl⟩))) (bl_ok (ok_iconst (by decide) d_G_init_41))) (bn_ok (bl_ok (ok_istore_n rfl d_G_init_42 (by decide))) (bn_ok (bl_ok (ok_iload_n rfl d_G_init_43)) (bl_ok (ok_aload_n rfl d_G_init_44)))))) (bn_ok (bn_ok (bn_ok (bl_ok (ok_getf d_G_init_45 (cl_1 hG) (by decide) w_43)) (bl_ok (ok_icge d_G_init_48 (by decide)))) (bn_ok (bl_ok (ok_aload_n rfl d_G_init_51)) (bl_ok (ok_getf d_G_init_52 (cl_1 hG) (by decide) w_45)))) (bn_ok (bn_ok (bl_ok (ok_iload_n rfl d_G_init_55)) (bl_ok (ok_iload_n rfl d_G_init_56))) (bn_ok (bl_ok (ok_iload_n rfl d_G_init_57)) (bn_ok (bl_ok (ok_irem d_G_init_58)) (bl_ok (ok_iast d_G_init_59 (kt_0 hG))))))))) (bn_ok (bn_ok (bn_ok (bn_ok (bn_ok (bl_ok (ok_aload_n rfl d_G_init_60)) (bl_ok (ok_getf d_G_init_61 (cl_1 hG) (by decide) w_47))) (bn_ok (bl_ok (ok_iload_n rfl d_G_init_64)) (bl_ok (ok_iload_n rfl d_G_init_65)))) (bn_ok (bn_ok (bl_ok (ok_iload_n rfl d_G_init_66)) (bl_ok (ok_idiv d_G_init_67))) (bn_ok (bl_ok (ok_iast d_G_init_68 (kt_0 hG))) (bn_ok (bl_ok (ok_iinc d_G_init_69 (by decide) (by decide))) (bl_ok (ok_goto d_G_init_72 (by decide))))))) (bn_ok (bn_ok (bn_ok (bl_ok (ok_aload_n rfl d_G_init_75)) (bl_ok (ok_aload_n rfl d_G_init_76))) (bn_ok (bl_ok (ok_getf d_G_init_77 (cl_1 hG) (by decide) w_43)) (bl_ok (ok_bipush (by decide) d_G_init_80)))) (bn_ok (bn_ok (bl_ok (ok_imul d_G_init_82)) (bl_ok (ok_newi d_G_init_83 w_114 (kt_0 hG)))) (bn_ok (bl_ok (ok_putf d_G_init_85 (cl_1 hG) (by decide) w_49 rfl (Or.inr ⟨rfl, rfl, rfl⟩))) (bn_ok (bl_ok (ok_iconst (by decide) d_G_init_88)) (bl_ok (ok_istore_n rfl d_G_init_89 (by decide)))))))) (bn_ok (bn_ok (bn_ok (bn_ok (bl_ok (ok_iload_n rfl d_G_init_90)) (bl_ok (ok_aload_n rfl d_G_init_91))) (bn_ok (bl_ok (ok_getf d_G_init_92 (cl_1 hG) (by decide) w_49)) (bl_ok (ok_alen d_G_init_95)))) (bn_ok (bn_ok (bl_ok (ok_icge d_G_init_96 (by decide))) (bl_ok (ok_iload_n rfl d_G_init_99))) (bn_ok (bl_ok (ok_bipush (by decide) d_G_init_100)) (bn_ok (bl_ok (ok_idiv d_G_init_102)) (bl_ok (ok_istore d_G_init_103 (by decide))))))) (bn_ok (bn_ok (bn_ok (bl_ok (ok_iload_n rfl d_G_init_105)) (bl_ok (ok_bipush (by decide) d_G_init_106))) (bn_ok (bl_ok (ok_irem d_G_init_108)) (bn_ok (bl_ok (ok_istore d_G_init_109 (by decide))) (bl_ok (ok_aload_n rfl d_G_init_111))))) (bn_ok (bn_ok (bl_ok (ok_getf d_G_init_112 (cl_1 hG) (by decide) w_49)) (bl_ok (ok_iload_n rfl d_G_init_115))) (bn_ok (bl_ok (ok_aload_n rfl d_G_init_116)) (bn_ok (bl_ok (ok_aload_n rfl d_G_init_117)) (bl_ok (ok_getf d_G_init_118 (cl_1 hG) (by decide) w_45))))))))) (bn_ok (bn_ok (bn_ok (bn_ok (bn_ok (bn_ok (bl_ok (ok_iload d_G_init_121)) (bl_ok (ok_iald d_G_init_123 (kt_0 hG)))) (bn_ok (bl_ok (ok_getsN d_G_init_124 (by decide) (mx_zin hG (by decide +kernel)) (mx_nin hG (by decide +kernel : Cond.fieldLinkNest "CorridorCells$Ground" 31 "CorridorCells" "DX" "[I" "CorridorCells" ∈ mx_ns)))) (bl_ok (ok_iload d_G_init_127)))) (bn_ok (bn_ok (bl_ok (ok_iald d_G_init_129 (kt_0 hG))) (bl_ok (ok_iadd d_G_init_130))) (bn_ok (bl_ok (ok_aload_n rfl d_G_init_131)) (bn_ok (bl_ok (ok_getf d_G_init_132 (cl_1 hG) (by decide) w_47)) (bl_ok (ok_iload d_G_init_135)))))) (bn_ok (bn_ok (bn_ok (bl_ok (ok_iald d_G_init_137 (kt_0 hG))) (bl_ok (ok_getsN d_G_init_138 (by decide) (mx_zin hG (by decide +kernel)) (mx_nin hG (by decide +kernel : Cond.fieldLinkNest "CorridorCells$Ground" 34 "CorridorCells" "DY" "[I" "CorridorCells" ∈ mx_ns))))) (bn_ok (bl_ok (ok_iload d_G_init_141)) (bl_ok (ok_iald d_G_init_143 (kt_0 hG))))) (bn_ok (bn_ok (bl_ok (ok_iadd d_G_init_144)) (bl_ok (ok_cv mx_W_good (cl_1 hG) d_G_init_145 (mt_G_numberOf) mk_G_numberOf w_36 w_37 w_38 (by decide) (by decide)))) (bn_ok (bl_ok (ok_iast d_G_init_148 (kt_0 hG))) (bn_ok (bl_ok (ok_iinc d_G_init_149 (by decide) (by decide))) (bl_ok (ok_goto d_G_init_152 (by decide)))))))) (bn_ok (bn_ok (bn_ok (bn_ok (bl_ok (ok_aload_n rfl d_G_init_155)) (bl_ok (ok_aload_n rfl d_G_init_156))) (bn_ok (bl_ok (ok_getf d_G_init_157 (cl_1 hG) (by decide) w_43)) (bl_ok (ok_newi d_G_init_160 w_114 (kt_0 hG))))) (bn_ok (bn_ok (bl_ok (ok_putf d_G_init_162 (cl_1 hG) (by decide) w_50 rfl (Or.inr ⟨rfl, rfl, rfl⟩))) (bl_ok (ok_aload_n rfl d_G_init_165))) (bn_ok (bl_ok (ok_aload_n rfl d_G_init_166)) (bn_ok (bl_ok (ok_getf d_G_init_167 (cl_1 hG) (by decide) w_43)) (bl_ok (ok_newi d_G_init_170 w_114 (kt_0 hG))))))) (bn_ok (bn_ok (bn_ok (bl_ok (ok_putf d_G_init_172 (cl_1 hG) (by decide) w_52 rfl (Or.inr ⟨rfl, rfl, rfl⟩))) (bl_ok (ok_aload_n rfl d_G_init_175))) (bn_ok (bl_ok (ok_aload_n rfl d_G_init_176)) (bn_ok (bl_ok (ok_getf d_G_init_177 (cl_1 hG) (by decide) w_43)) (bl_ok (ok_newz d_G_init_180 w_115 (kt_2 hG)))))) (bn_ok (bn_ok (bl_ok (ok_putf d_G_init_182 (cl_1 hG) (by decide) w_54 rfl (Or.inr ⟨rfl, rfl, rfl⟩))) (bl_ok (ok_aload_n rfl d_G_init_185))) (bn_ok (bl_ok (ok_aload_n rfl d_G_init_186)) (bn_ok (bl_ok (ok_getf d_G_init_187 (cl_1 hG) (by decide) w_43)) (bl_ok (ok_newi d_G_init_190 w_114 (kt_0 hG))))))))) (bn_ok (bn_ok (bn_ok (bn_ok (bn_ok (bl_ok (ok_putf d_G_init_192 (cl_1 hG) (by decide) w_58 rfl (Or.inr ⟨rfl, rfl, rfl⟩))) (bl_ok (ok_aload_n rfl d_G_init_195))) (bn_ok (bl_ok (ok_aload_n rfl d_G_init_196)) (bl_ok (ok_getf d_G_init_197 (cl_1 hG) (by decide) w_43)))) (bn_ok (bn_ok (bl_ok (ok_newi d_G_init_200 w_114 (kt_0 hG))) (bl_ok (ok_putf d_G_init_202 (cl_1 hG) (by decide) w_61 rfl (Or.inr ⟨rfl, rfl, rfl⟩)))) (bn_ok (bl_ok (ok_aload_n rfl d_G_init_205)) (bn_ok (bl_ok (ok_aload_n rfl d_G_init_206)) (bl_ok (ok_getf d_G_init_207 (cl_1 hG) (by decide) w_43)))))) (bn_ok (bn_ok (bn_ok (bl_ok (ok_newi d_G_init_210 w_114 (kt_0 hG))) (bl_ok (ok_putf d_G_init_212 (cl_1 hG) (by decide) w_63 rfl (Or.inr ⟨rfl, rfl, rfl⟩)))) (bn_ok (bl_ok (ok_aload_n rfl d_G_init_215)) (bl_ok (ok_aload_n rfl d_G_init_216)))) (bn_ok (bn_ok (bl_ok (ok_getf d_G_init_217 (cl_1 hG) (by decide) w_43)) (bl_ok (ok_newi d_G_init_220 w_114 (kt_0 hG)))) (bn_ok (bl_ok (ok_putf d_G_init_222 (cl_1 hG) (by decide) w_65 rfl (Or.inr ⟨rfl, rfl, rfl⟩))) (bn_ok (bl_ok (ok_aload_n rfl d_G_init_225)) (bl_ok (ok_iconst (by decide) d_G_init_226))))))) (bn_ok (bn_ok (bn_ok (bn_ok (bl_ok (ok_aload_n rfl d_G_init_227)) (bl_ok (ok_getf d_G_init_228 (cl_1 hG) (by decide) w_43))) (bn_ok (bl_ok (ok_imul d_G_init_231)) (bl_ok (ok_newi d_G_init_232 w_114 (kt_0 hG))))) (bn_ok (bn_ok (bl_ok (ok_putf d_G_init_234 (cl_1 hG) (by decide) w_66 rfl (Or.inr ⟨rfl, rfl, rfl⟩))) (bl_ok (ok_aload_n rfl d_G_init_237))) (bn_ok (bl_ok (ok_iconst (by decide) d_G_init_238)) (bn_ok (bl_ok (ok_newl d_G_init_239 w_116 (kt_1 hG))) (bl_ok (ok_putf d_G_init_241 (cl_1 hG) (by decide) w_68 rfl (Or.inr ⟨rfl, rfl, rfl⟩))))))) (bn_ok (bn_ok (bn_ok (bl_ok (ok_aload_n rfl d_G_init_244)) (bl_ok (ok_iconst (by decide) d_G_init_245))) (bn_ok (bl_ok (ok_putf d_G_init_246 (cl_1 hG) (by decide) w_70 rfl (Or.inl rfl))) (bn_ok (bl_ok (ok_aload_n rfl d_G_init_249)) (bl_ok (ok_sipush (by decide) d_G_init_250))))) (bn_ok (bn_ok (bl_ok (ok_putf d_G_init_253 (cl_1 hG) (by decide) w_72 rfl (Or.inl rfl))) (bl_ok (ok_aload_n rfl d_G_init_256))) (bn_ok (bl_ok (ok_bipush (by decide) d_G_init_257)) (bn_ok (bl_ok (ok_putf d_G_init_259 (cl_1 hG) (by decide) w_74 rfl (Or.inl rfl))) (bl_ok (ok_return d_G_init_262 rfl))))))))))
theorem d_G_numberOf_0 : decode (qB q_G_numberOf) 0 = .ok (.iload_n 1, 1) := by decide +kernel
theorem d_G_numberOf_1 : decode (qB q_G_numberOf) 1 = .ok (.ifCond .lt 23, 3) := by decide +kernel
theorem d_G_numberOf_4 : decode (qB q_G_numberOf) 4 = .ok (.iload_n 1, 1) := by decide +kernel
theorem d_G_numberOf_5 : decode (qB q_G_numberOf) 5 = .ok (.aload_n 0, 1) := by decide +kernel
theorem d_G_numberOf_6 : decode (qB q_G_numberOf) 6 = .ok (.getfield 9, 3) := by decide +kernel
theorem d_G_numberOf_9 : decode (qB q_G_numberOf) 9 = .ok (.if_icmp .ge 15, 3) := by decide +kernel
theorem d_G_numberOf_12 : decode (qB q_G_numberOf) 12 = .ok (.iload_n 2, 1) := by decide +kernel
theorem d_G_numberOf_13 : decode (qB q_G_numberOf) 13 = .ok (.ifCond .lt 11, 3) := by decide +kernel
theorem d_G_numberOf_16 : decode (qB q_G_numberOf) 16 = .ok (.iload_n 2, 1) := by decide +kernel
theorem d_G_numberOf_17 : decode (qB q_G_numberOf) 17 = .ok (.aload_n 0, 1) := by decide +kernel
theorem d_G_numberOf_18 : decode (qB q_G_numberOf) 18 = .ok (.getfield 15, 3) := by decide +kernel
theorem d_G_numberOf_21 : decode (qB q_G_numberOf) 21 = .ok (.if_icmp .lt 7, 3) := by decide +kernel
theorem d_G_numberOf_24 : decode (qB q_G_numberOf) 24 = .ok (.iconst (-1), 1) := by decide +kernel
theorem d_G_numberOf_25 : decode (qB q_G_numberOf) 25 = .ok (.goto 11, 3) := by decide +kernel
theorem d_G_numberOf_28 : decode (qB q_G_numberOf) 28 = .ok (.iload_n 2, 1) := by decide +kernel
theorem d_G_numberOf_29 : decode (qB q_G_numberOf) 29 = .ok (.aload_n 0, 1) := by decide +kernel
theorem d_G_numberOf_30 : decode (qB q_G_numberOf) 30 = .ok (.getfield 9, 3) := by decide +kernel
theorem d_G_numberOf_33 : decode (qB q_G_numberOf) 33 = .ok (.imul, 1) := by decide +kernel
theorem d_G_numberOf_34 : decode (qB q_G_numberOf) 34 = .ok (.iload_n 1, 1) := by decide +kernel
theorem d_G_numberOf_35 : decode (qB q_G_numberOf) 35 = .ok (.iadd, 1) := by decide +kernel
theorem d_G_numberOf_36 : decode (qB q_G_numberOf) 36 = .ok (.ireturn, 1) := by decide +kernel
set_option maxRecDepth 10000 in
theorem k_G_numberOf {G : mxG} (hG : mx_GG G) : ∀ pc r, t_G_numberOf pc = some r → mx_Ok G mx_W mx_MT q_G_numberOf pc r := (bn_ok (bn_ok (bn_ok (bn_ok (bl_ok (ok_iload_n rfl d_G_numberOf_0)) (bl_ok (ok_iflt d_G_numberOf_1 (by decide)))) (bn_ok (bl_ok (ok_iload_n rfl d_G_numberOf_4)) (bn_ok (bl_ok (ok_aload_n rfl d_G_numberOf_5)) (bl_ok (ok_getf d_G_numberOf_6 (cl_1 hG) (by decide) w_40))))) (bn_ok (bn_ok (bl_ok (ok_icge d_G_numberOf_9 (by decide))) (bl_ok (ok_iload_n rfl d_G_numberOf_12))) (bn_ok (bl_ok (ok_iflt d_G_numberOf_13 (by decide))) (bn_ok (bl_ok (ok_iload_n rfl d_G_numberOf_16)) (bl_ok (ok_aload_n rfl d_G_numberOf_17)))))) (bn_ok (bn_ok (bn_ok (bl_ok (ok_getf d_G_numberOf_18 (cl_1 hG) (by decide) w_41)) (bl_ok (ok_iclt d_G_numberOf_21 (by decide)))) (bn_ok (bl_ok (ok_iconst (by decide) d_G_numberOf_24)) (bn_ok (bl_ok (ok_goto d_G_numberOf_25 (by decide))) (bl_ok (ok_iload_n rfl d_G_numberOf_28))))) (bn_ok (bn_ok (bl_ok (ok_aload_n rfl d_G_numberOf_29)) (bn_ok (bl_ok (ok_getf d_G_numberOf_30 (cl_1 hG) (by decide) w_40)) (bl_ok (ok_imul d_G_numberOf_33)))) (bn_ok (bl_ok (ok_iload_n rfl d_G_numberOf_34)) (bn_ok (bl_ok (ok_iadd d_G_numberOf_35)) (bl_ok (ok_ireturn d_G_numberOf_36 rfl)))))))
theorem d_G_isBridged_0 : decode (qB q_G_isBridged) 0 = .ok (.aload_n 0, 1) := by decide +kernel
theorem d_G_isBridged_1 : decode (qB q_G_isBridged) 1 = .ok (.getfield 47, 3) := by decide +kernel
theorem d_G_isBridged_4 : decode (qB q_G_isBridged) 4 = .ok (.iload_n 1, 1) := by decide +kernel
theorem d_G_isBridged_5 : decode (qB q_G_isBridged) 5 = .ok (.baload, 1) := by decide +kernel
theorem d_G_isBridged_6 : decode (qB q_G_isBridged) 6 = .ok (.ifCond .eq 16, 3) := by decide +kernel
theorem d_G_isBridged_9 : decode (qB q_G_isBridged) 9 = .ok (.aload_n 0, 1) := by decide +kernel
theorem d_G_isBridged_10 : decode (qB q_G_isBridged) 10 = .ok (.getfield 51, 3) := by decide +kernel
theorem d_G_isBridged_13 : decode (qB q_G_isBridged) 13 = .ok (.iload_n 1, 1) := by decide +kernel
theorem d_G_isBridged_14 : decode (qB q_G_isBridged) 14 = .ok (.iaload, 1) := by decide +kernel
theorem d_G_isBridged_15 : decode (qB q_G_isBridged) 15 = .ok (.ifCond .le 7, 3) := by decide +kernel
theorem d_G_isBridged_18 : decode (qB q_G_isBridged) 18 = .ok (.iconst 1, 1) := by decide +kernel
theorem d_G_isBridged_19 : decode (qB q_G_isBridged) 19 = .ok (.goto 4, 3) := by decide +kernel
theorem d_G_isBridged_22 : decode (qB q_G_isBridged) 22 = .ok (.iconst 0, 1) := by decide +kernel
theorem d_G_isBridged_23 : decode (qB q_G_isBridged) 23 = .ok (.ireturn, 1) := by decide +kernel
set_option maxRecDepth 10000 in
theorem k_G_isBridged {G : mxG} (hG : mx_GG G) : ∀ pc r, t_G_isBridged pc = some r → mx_Ok G mx_W mx_MT q_G_isBridged pc r := (bn_ok (bn_ok (bn_ok (bl_ok (ok_aload_n rfl d_G_isBridged_0)) (bn_ok (bl_ok (ok_getf d_G_isBridged_1 (cl_1 hG) (by decide) w_54)) (bl_ok (ok_iload_n rfl d_G_isBridged_4)))) (bn_ok (bn_ok (bl_ok (ok_zald d_G_isBridged_5 (kt_2 hG))) (bl_ok (ok_ifeq d_G_isBridged_6 (by decide)))) (bn_ok (bl_ok (ok_aload_n rfl d_G_isBridged_9)) (bl_ok (ok_getf d_G_isBridged_10 (cl_1 hG) (by decide) w_58))))) (bn_ok (bn_ok (bl_ok (ok_iload_n rfl d_G_isBridged_13)) (bn_ok (bl_ok (ok_iald d_G_isBridged_14 (kt_0 hG))) (bl_ok (ok_ifle d_G_isBridged_15 (by decide))))) (bn_ok (bn_ok (bl_ok (ok_iconst (by decide) d_G_isBridged_18)) (bl_ok (ok_goto d_G_isBridged_19 (by decide)))) (bn_ok (bl_ok (ok_iconst (by decide) d_G_isBridged_22)) (bl_ok (ok_zreturn d_G_isBridged_23 rfl))))))
theorem d_G_isClosedOff_0 : decode (qB q_G_isClosedOff) 0 = .ok (.aload_n 0, 1) := by decide +kernel
theorem d_G_isClosedOff_1 : decode (qB q_G_isClosedOff) 1 = .ok (.getfield 47, 3) := by decide +kernel
theorem d_G_isClosedOff_4 : decode (qB q_G_isClosedOff) 4 = .ok (.iload_n 1, 1) := by decide +kernel
theorem d_G_isClosedOff_5 : decode (qB q_G_isClosedOff) 5 = .ok (.baload, 1) := by decide +kernel
theorem d_G_isClosedOff_6 : decode (qB q_G_isClosedOff) 6 = .ok (.ifCond .eq 16, 3) := by decide +kernel
theorem d_G_isClosedOff_9 : decode (qB q_G_isClosedOff) 9 = .ok (.aload_n 0, 1) := by decide +kernel
theorem d_G_isClosedOff_10 : decode (qB q_G_isClosedOff) 10 = .ok (.getfield 51, 3) := by decide +kernel
theorem d_G_isClosedOff_13 : decode (qB q_G_isClosedOff) 13 = .ok (.iload_n 1, 1) := by decide +kernel
theorem d_G_isClosedOff_14 : decode (qB q_G_isClosedOff) 14 = .ok (.iaload, 1) := by decide +kernel
theorem d_G_isClosedOff_15 : decode (qB q_G_isClosedOff) 15 = .ok (.ifCond .ne 7, 3) := by decide +kernel
theorem d_G_isClosedOff_18 : decode (qB q_G_isClosedOff) 18 = .ok (.iconst 1, 1) := by decide +kernel
theorem d_G_isClosedOff_19 : decode (qB q_G_isClosedOff) 19 = .ok (.goto 4, 3) := by decide +kernel
theorem d_G_isClosedOff_22 : decode (qB q_G_isClosedOff) 22 = .ok (.iconst 0, 1) := by decide +kernel
theorem d_G_isClosedOff_23 : decode (qB q_G_isClosedOff) 23 = .ok (.ireturn, 1) := by decide +kernel
set_option maxRecDepth 10000 in
theorem k_G_isClosedOff {G : mxG} (hG : mx_GG G) : ∀ pc r, t_G_isClosedOff pc = some r → mx_Ok G mx_W mx_MT q_G_isClosedOff pc r := (bn_ok (bn_ok (bn_ok (bl_ok (ok_aload_n rfl d_G_isClosedOff_0)) (bn_ok (bl_ok (ok_getf d_G_isClosedOff_1 (cl_1 hG) (by decide) w_54)) (bl_ok (ok_iload_n rfl d_G_isClosedOff_4)))) (bn_ok (bn_ok (bl_ok (ok_zald d_G_isClosedOff_5 (kt_2 hG))) (bl_ok (ok_ifeq d_G_isClosedOff_6 (by decide)))) (bn_ok (bl_ok (ok_aload_n rfl d_G_isClosedOff_9)) (bl_ok (ok_getf d_G_isClosedOff_10 (cl_1 hG) (by decide) w_58))))) (bn_ok (bn_ok (bl_ok (ok_iload_n rfl d_G_isClosedOff_13)) (bn_ok (bl_ok (ok_iald d_G_isClosedOff_14 (kt_0 hG))) (bl_ok (ok_ifne d_G_isClosedOff_15 (by decide))))) (bn_ok (bn_ok (bl_ok (ok_iconst (by decide) d_G_isClosedOff_18)) (bl_ok (ok_goto d_G_isClosedOff_19 (by decide)))) (bn_ok (bl_ok (ok_iconst (by decide) d_G_isClosedOff_22)) (bl_ok (ok_zreturn d_G_isClosedOff_23 rfl))))))
theorem d_G_putMark_0 : decode (qB q_G_putMark) 0 = .ok (.iconst 2, 1) := by decide +kernel
theorem d_G_putMark_1 : decode (qB q_G_putMark) 1 = .ok (.iload_n 2, 1) := by decide +kernel
theorem d_G_putMark_2 : decode (qB q_G_putMark) 2 = .ok (.imul, 1) := by decide +kernel
theorem d_G_putMark_3 : decode (qB q_G_putMark) 3 = .ok (.istore 4, 2) := by decide +kernel
theorem d_G_putMark_5 : decode (qB q_G_putMark) 5 = .ok (.aload_n 0, 1) := by decide +kernel
theorem d_G_putMark_6 : decode (qB q_G_putMark) 6 = .ok (.getfield 60, 3) := by decide +kernel
theorem d_G_putMark_9 : decode (qB q_G_putMark) 9 = .ok (.iload_n 1, 1) := by decide +kernel
theorem d_G_putMark_10 : decode (qB q_G_putMark) 10 = .ok (.iaload, 1) := by decide +kernel
theorem d_G_putMark_11 : decode (qB q_G_putMark) 11 = .ok (.iconst 3, 1) := by decide +kernel
theorem d_G_putMark_12 : decode (qB q_G_putMark) 12 = .ok (.iload 4, 2) := by decide +kernel
theorem d_G_putMark_14 : decode (qB q_G_putMark) 14 = .ok (.ishl, 1) := by decide +kernel
theorem d_G_putMark_15 : decode (qB q_G_putMark) 15 = .ok (.iconst (-1), 1) := by decide +kernel
theorem d_G_putMark_16 : decode (qB q_G_putMark) 16 = .ok (.ixor, 1) := by decide +kernel
theorem d_G_putMark_17 : decode (qB q_G_putMark) 17 = .ok (.iand, 1) := by decide +kernel
theorem d_G_putMark_18 : decode (qB q_G_putMark) 18 = .ok (.iload_n 3, 1) := by decide +kernel
theorem d_G_putMark_19 : decode (qB q_G_putMark) 19 = .ok (.iload 4, 2) := by decide +kernel
theorem d_G_putMark_21 : decode (qB q_G_putMark) 21 = .ok (.ishl, 1) := by decide +kernel
theorem d_G_putMark_22 : decode (qB q_G_putMark) 22 = .ok (.ior, 1) := by decide +kernel
theorem d_G_putMark_23 : decode (qB q_G_putMark) 23 = .ok (.istore 5, 2) := by decide +kernel
theorem d_G_putMark_25 : decode (qB q_G_putMark) 25 = .ok (.aload_n 0, 1) := by decide +kernel
theorem d_G_putMark_26 : decode (qB q_G_putMark) 26 = .ok (.getfield 60, 3) := by decide +kernel
theorem d_G_putMark_29 : decode (qB q_G_putMark) 29 = .ok (.iload_n 1, 1) := by decide +kernel
theorem d_G_putMark_30 : decode (qB q_G_putMark) 30 = .ok (.iload 5, 2) := by decide +kernel
theorem d_G_putMark_32 : decode (qB q_G_putMark) 32 = .ok (.iastore, 1) := by decide +kernel
theorem d_G_putMark_33 : decode (qB q_G_putMark) 33 = .ok (.iload 5, 2) := by decide +kernel
theorem d_G_putMark_35 : decode (qB q_G_putMark) 35 = .ok (.iload 5, 2) := by decide +kernel
theorem d_G_putMark_37 : decode (qB q_G_putMark) 37 = .ok (.iconst 1, 1) := by decide +kernel
theorem d_G_putMark_38 : decode (qB q_G_putMark) 38 = .ok (.ishr, 1) := by decide +kernel
theorem d_G_putMark_39 : decode (qB q_G_putMark) 39 = .ok (.ior, 1) := by decide +kernel
theorem d_G_putMark_40 : decode (qB q_G_putMark) 40 = .ok (.sipush 21845, 3) := by decide +kernel
theorem d_G_putMark_43 : decode (qB q_G_putMark) 43 = .ok (.iand, 1) := by decide +kernel
theorem d_G_putMark_44 : decode (qB q_G_putMark) 44 = .ok (.invokestatic 79, 3) := by decide +kernel
theorem d_G_putMark_47 : decode (qB q_G_putMark) 47 = .ok (.ireturn, 1) := by decide +kernel
set_option maxRecDepth 10000 in
theorem k_G_putMark {G : mxG} (hG : mx_GG G) : ∀ pc r, t_G_putMark pc = some r → mx_Ok G mx_W mx_MT q_G_putMark pc r := (bn_ok (bn_ok (bn_ok (bn_ok (bn_ok (bl_ok (ok_iconst (by decide) d_G_putMark_0)) (bl_ok (ok_iload_n rfl d_G_putMark_1))) (bn_ok (bl_ok (ok_imul d_G_putMark_2)) (bl_ok (ok_istore d_G_putMark_3 (by decide))))) (bn_ok (bn_ok (bl_ok (ok_aload_n rfl d_G_putMark_5)) (bl_ok (ok_getf d_G_putMark_6 (cl_1 hG) (by decide) w_65))) (bn_ok (bl_ok (ok_iload_n rfl d_G_putMark_9)) (bl_ok (ok_iald d_G_putMark_10 (kt_0 hG)))))) (bn_ok (bn_ok (bn_ok (bl_ok (ok_iconst (by decide) d_G_putMark_11)) (bl_ok (ok_iload d_G_putMark_12))) (bn_ok (bl_ok (ok_ishl d_G_putMark_14)) (bl_ok (ok_iconst (by decide) d_G_putMark_15)))) (bn_ok (bn_ok (bl_ok (ok_ixor d_G_putMark_16)) (bl_ok (ok_iand d_G_putMark_17))) (bn_ok (bl_ok (ok_iload_n rfl d_G_putMark_18)) (bl_ok (ok_iload d_G_putMark_19)))))) (bn_ok (bn_ok (bn_ok (bn_ok (bl_ok (ok_ishl d_G_putMark_21)) (bl_ok (ok_ior d_G_putMark_22))) (bn_ok (bl_ok (ok_istore d_G_putMark_23 (by decide))) (bl_ok (ok_aload_n rfl d_G_putMark_25)))) (bn_ok (bn_ok (bl_ok (ok_getf d_G_putMark_26 (cl_1 hG) (by decide) w_65)) (bl_ok (ok_iload_n rfl d_G_putMark_29))) (bn_ok (bl_ok (ok_iload d_G_putMark_30)) (bl_ok (ok_iast d_G_putMark_32 (kt_0 hG)))))) (bn_ok (bn_ok (bn_ok (bl_ok (ok_iload d_G_putMark_33)) (bl_ok (ok_iload d_G_putMark_35))) (bn_ok (bl_ok (ok_iconst (by decide) d_G_putMark_37)) (bl_ok (ok_ishr d_G_putMark_38)))) (bn_ok (bn_ok (bl_ok (ok_ior d_G_putMark_39)) (bl_ok (ok_sipush (by decide) d_G_putMark_40))) (bn_ok (bl_ok (ok_iand d_G_putMark_43)) (bn_ok (bl_ok (ok_cs mx_W_good d_G_putMark_44 (mt_JI_bitCount) mk_JI_bitCount w_297 w_298 (by decide) (by decide))) (bl_ok (ok_ireturn d_G_putMark_47 rfl))))))))
theorem d_G_valueOf_0 : decode (qB q_G_valueOf) 0 = .ok (.aload_n 0, 1) := by decide +kernel
theorem d_G_valueOf_1 : decode (qB q_G_valueOf) 1 = .ok (.getfield 63, 3) := by decide +kernel
theorem d_G_valueOf_4 : decode (qB q_G_valueOf) 4 = .ok (.iload_n 1, 1) := by decide +kernel
theorem d_G_valueOf_5 : decode (qB q_G_valueOf) 5 = .ok (.aload_n 0, 1) := by decide +kernel
theorem d_G_valueOf_6 : decode (qB q_G_valueOf) 6 = .ok (.getfield 18, 3) := by decide +kernel
theorem d_G_valueOf_9 : decode (qB q_G_valueOf) 9 = .ok (.imul, 1) := by decide +kernel
theorem d_G_valueOf_10 : decode (qB q_G_valueOf) 10 = .ok (.iload_n 2, 1) := by decide +kernel
theorem d_G_valueOf_11 : decode (qB q_G_valueOf) 11 = .ok (.iadd, 1) := by decide +kernel
theorem d_G_valueOf_12 : decode (qB q_G_valueOf) 12 = .ok (.iaload, 1) := by decide +kernel
theorem d_G_valueOf_13 : decode (qB q_G_valueOf) 13 = .ok (.i2l, 1) := by decide +kernel
theorem d_G_valueOf_14 : decode (qB q_G_valueOf) 14 = .ok (.lstore_n 3, 1) := by decide +kernel
theorem d_G_valueOf_15 : decode (qB q_G_valueOf) 15 = .ok (.iload_n 1, 1) := by decide +kernel
theorem d_G_valueOf_16 : decode (qB q_G_valueOf) 16 = .ok (.iconst 3, 1) := by decide +kernel
theorem d_G_valueOf_17 : decode (qB q_G_valueOf) 17 = .ok (.if_icmp .eq 5, 3) := by decide +kernel
theorem d_G_valueOf_20 : decode (qB q_G_valueOf) 20 = .ok (.lload_n 3, 1) := by decide +kernel
theorem d_G_valueOf_21 : decode (qB q_G_valueOf) 21 = .ok (.lreturn, 1) := by decide +kernel
theorem d_G_valueOf_22 : decode (qB q_G_valueOf) 22 = .ok (.aload_n 0, 1) := by decide +kernel
theorem d_G_valueOf_23 : decode (qB q_G_valueOf) 23 = .ok (.getfield 60, 3) := by decide +kernel
theorem d_G_valueOf_26 : decode (qB q_G_valueOf) 26 = .ok (.iload_n 2, 1) := by decide +kernel
theorem d_G_valueOf_27 : decode (qB q_G_valueOf) 27 = .ok (.iaload, 1) := by decide +kernel
theorem d_G_valueOf_28 : decode (qB q_G_valueOf) 28 = .ok (.istore 5, 2) := by decide +kernel
theorem d_G_valueOf_30 : decode (qB q_G_valueOf) 30 = .ok (.lload_n 3, 1) := by decide +kernel
theorem d_G_valueOf_31 : decode (qB q_G_valueOf) 31 = .ok (.bipush 10, 2) := by decide +kernel
theorem d_G_valueOf_33 : decode (qB q_G_valueOf) 33 = .ok (.iload 5, 2) := by decide +kernel
theorem d_G_valueOf_35 : decode (qB q_G_valueOf) 35 = .ok (.sipush 21845, 3) := by decide +kernel
theorem d_G_valueOf_38 : decode (qB q_G_valueOf) 38 = .ok (.iand, 1) := by decide +kernel
theorem d_G_valueOf_39 : decode (qB q_G_valueOf) 39 = .ok (.invokestatic 79, 3) := by decide +kernel
theorem d_G_valueOf_42 : decode (qB q_G_valueOf) 42 = .ok (.iconst 2, 1) := by decide +kernel
theorem d_G_valueOf_43 : decode (qB q_G_valueOf) 43 = .ok (.iload 5, 2) := by decide +kernel
theorem d_G_valueOf_45 : decode (qB q_G_valueOf) 45 = .ok (.ldc 85, 2) := by decide +kernel
theorem d_G_valueOf_47 : decode (qB q_G_valueOf) 47 = .ok (.iand, 1) := by decide +kernel
theorem d_G_valueOf_48 : decode (qB q_G_valueOf) 48 = .ok (.invokestatic 79, 3) := by decide +kernel
theorem d_G_valueOf_51 : decode (qB q_G_valueOf) 51 = .ok (.imul, 1) := by decide +kernel
theorem d_G_valueOf_52 : decode (qB q_G_valueOf) 52 = .ok (.iadd, 1) := by decide +kernel
theorem d_G_valueOf_53 : decode (qB q_G_valueOf) 53 = .ok (.imul, 1) := by decide +kernel
theorem d_G_valueOf_54 : decode (qB q_G_valueOf) 54 = .ok (.i2l, 1) := by decide +kernel
theorem d_G_valueOf_55 : decode (qB q_G_valueOf) 55 = .ok (.ladd, 1) := by decide +kernel
theorem d_G_valueOf_56 : decode (qB q_G_valueOf) 56 = .ok (.lreturn, 1) := by decide +kernel
set_option maxRecDepth 10000 in
theorem k_G_valueOf {G : mxG} (hG : mx_GG G) : ∀ pc r, t_G_valueOf pc = some r → mx_Ok G mx_W mx_MT q_G_valueOf pc r := (bn_ok (bn_ok (bn_ok (bn_ok (bn_ok (bl_ok (ok_aload_n rfl d_G_valueOf_0)) (bl_ok (ok_getf d_G_valueOf_1 (cl_1 hG) (by decide) w_66))) (bn_ok (bl_ok (ok_iload_n rfl d_G_valueOf_4)) (bl_ok (ok_aload_n rfl d_G_valueOf_5)))) (bn_ok (bn_ok (bl_ok (ok_getf d_G_valueOf_6 (cl_1 hG) (by decide) w_43)) (bl_ok (ok_imul d_G_valueOf_9))) (bn_ok (bl_ok (ok_iload_n rfl d_G_valueOf_10)) (bn_ok (bl_ok (ok_iadd d_G_valueOf_11)) (bl_ok (ok_iald d_G_valueOf_12 (kt_0 hG))))))) (bn_ok (bn_ok (bn_ok (bl_ok (ok_i2l d_G_valueOf_13)) (bl_ok (ok_lstore_n rfl d_G_valueOf_14 (by decide)))) (bn_ok (bl_ok (ok_iload_n rfl d_G_valueOf_15)) (bn_ok (bl_ok (ok_iconst (by decide) d_G_valueOf_16)) (bl_ok (ok_iceq d_G_valueOf_17 (by decide)))))) (bn_ok (bn_ok (bl_ok (ok_lload_n rfl d_G_valueOf_20)) (bl_ok (ok_lreturn d_G_valueOf_21 rfl))) (bn_ok (bl_ok (ok_aload_n rfl d_G_valueOf_22)) (bn_ok (bl_ok (ok_getf d_G_valueOf_23 (cl_1 hG) (by decide) w_65)) (bl_ok (ok_iload_n rfl d_G_valueOf_26))))))) (bn_ok (bn_ok (bn_ok (bn_ok (bl_ok (ok_iald d_G_valueOf_27 (kt_0 hG))) (bl_ok (ok_istore d_G_valueOf_28 (by decide)))) (bn_ok (bl_ok (ok_lload_n rfl d_G_valueOf_30)) (bl_ok (ok_bipush (by decide) d_G_valueOf_31)))) (bn_ok (bn_ok (bl_ok (ok_iload d_G_valueOf_33)) (bl_ok (ok_sipush (by decide) d_G_valueOf_35))) (bn_ok (bl_ok (ok_iand d_G_valueOf_38)) (bn_ok (bl_ok (ok_cs mx_W_good d_G_valueOf_39 (mt_JI_bitCount) mk_JI_bitCount w_297 w_298 (by decide) (by decide))) (bl_ok (ok_iconst (by decide) d_G_valueOf_42)))))) (bn_ok (bn_ok (bn_ok (bl_ok (ok_iload d_G_valueOf_43)) (bl_ok (ok_ldc d_G_valueOf_45 w_303))) (bn_ok (bl_ok (ok_iand d_G_valueOf_47)) (bn_ok (bl_ok (ok_cs mx_W_good d_G_valueOf_48 (mt_JI_bitCount) mk_JI_bitCount w_297 w_298 (by decide) (by decide))) (bl_ok (ok_imul d_G_valueOf_51))))) (bn_ok (bn_ok (bl_ok (ok_iadd d_G_valueOf_52)) (bl_ok (ok_imul d_G_valueOf_53))) (bn_ok (bl_ok (ok_i2l d_G_valueOf_54)) (bn_ok (bl_ok (ok_ladd d_G_valueOf_55)) (bl_ok (ok_lreturn d_G_valueOf_56 rfl))))))))
theorem d_G_unitCost_0 : decode (qB q_G_unitCost) 0 = .ok (.aload_n 0, 1) := by decide +kernel
theorem d_G_unitCost_1 : decode (qB q_G_unitCost) 1 = .ok (.iload_n 1, 1) := by decide +kernel
theorem d_G_unitCost_2 : decode (qB q_G_unitCost) 2 = .ok (.invokevirtual 86, 3) := by decide +kernel
theorem d_G_unitCost_5 : decode (qB q_G_unitCost) 5 = .ok (.ifCond .eq 15, 3) := by decide +kernel
theorem d_G_unitCost_8 : decode (qB q_G_unitCost) 8 = .ok (.ldc2_w 90, 3) := by decide +kernel
theorem d_G_unitCost_11 : decode (qB q_G_unitCost) 11 = .ok (.aload_n 0, 1) := by decide +kernel
theorem d_G_unitCost_12 : decode (qB q_G_unitCost) 12 = .ok (.getfield 54, 3) := by decide +kernel
theorem d_G_unitCost_15 : decode (qB q_G_unitCost) 15 = .ok (.iload_n 1, 1) := by decide +kernel
theorem d_G_unitCost_16 : decode (qB q_G_unitCost) 16 = .ok (.iaload, 1) := by decide +kernel
theorem d_G_unitCost_17 : decode (qB q_G_unitCost) 17 = .ok (.i2l, 1) := by decide +kernel
theorem d_G_unitCost_18 : decode (qB q_G_unitCost) 18 = .ok (.lmul, 1) := by decide +kernel
theorem d_G_unitCost_19 : decode (qB q_G_unitCost) 19 = .ok (.lreturn, 1) := by decide +kernel
theorem d_G_unitCost_20 : decode (qB q_G_unitCost) 20 = .ok (.ldc2_w 90, 3) := by decide +kernel
theorem d_G_unitCost_23 : decode (qB q_G_unitCost) 23 = .ok (.aload_n 0, 1) := by decide +kernel
theorem d_G_unitCost_24 : decode (qB q_G_unitCost) 24 = .ok (.getfield 41, 3) := by decide +kernel
theorem d_G_unitCost_27 : decode (qB q_G_unitCost) 27 = .ok (.iload_n 1, 1) := by decide +kernel
theorem d_G_unitCost_28 : decode (qB q_G_unitCost) 28 = .ok (.iaload, 1) := by decide +kernel
theorem d_G_unitCost_29 : decode (qB q_G_unitCost) 29 = .ok (.i2l, 1) := by decide +kernel
theorem d_G_unitCost_30 : decode (qB q_G_unitCost) 30 = .ok (.lmul, 1) := by decide +kernel
theorem d_G_unitCost_31 : decode (qB q_G_unitCost) 31 = .ok (.lstore_n 2, 1) := by decide +kernel
theorem d_G_unitCost_32 : decode (qB q_G_unitCost) 32 = .ok (.iconst 0, 1) := by decide +kernel
theorem d_G_unitCost_33 : decode (qB q_G_unitCost) 33 = .ok (.istore 4, 2) := by decide +kernel
theorem d_G_unitCost_35 : decode (qB q_G_unitCost) 35 = .ok (.iload 4, 2) := by decide +kernel
theorem d_G_unitCost_37 : decode (qB q_G_unitCost) 37 = .ok (.iconst 4, 1) := by decide +kernel
theorem d_G_unitCost_38 : decode (qB q_G_unitCost) 38 = .ok (.if_icmp .ge 27, 3) := by decide +kernel
theorem d_G_unitCost_41 : decode (qB q_G_unitCost) 41 = .ok (.lload_n 2, 1) := by decide +kernel
theorem d_G_unitCost_42 : decode (qB q_G_unitCost) 42 = .ok (.aload_n 0, 1) := by decide +kernel
theorem d_G_unitCost_43 : decode (qB q_G_unitCost) 43 = .ok (.getfield 66, 3) := by decide +kernel
theorem d_G_unitCost_46 : decode (qB q_G_unitCost) 46 = .ok (.iload 4, 2) := by decide +kernel
theorem d_G_unitCost_48 : decode (qB q_G_unitCost) 48 = .ok (.laload, 1) := by decide +kernel
theorem d_G_unitCost_49 : decode (qB q_G_unitCost) 49 = .ok (.aload_n 0, 1) := by decide +kernel
theorem d_G_unitCost_50 : decode (qB q_G_unitCost) 50 = .ok (.iload 4, 2) := by decide +kernel
theorem d_G_unitCost_52 : decode (qB q_G_unitCost) 52 = .ok (.iload_n 1, 1) := by decide +kernel
theorem d_G_unitCost_53 : decode (qB q_G_unitCost) 53 = .ok (.invokevirtual 92, 3) := by decide +kernel
theorem d_G_unitCost_56 : decode (qB q_G_unitCost) 56 = .ok (.lmul, 1) := by decide +kernel
theorem d_G_unitCost_57 : decode (qB q_G_unitCost) 57 = .ok (.ladd, 1) := by decide +kernel
theorem d_G_unitCost_58 : decode (qB q_G_unitCost) 58 = .ok (.lstore_n 2, 1) := by decide +kernel
theorem d_G_unitCost_59 : decode (qB q_G_unitCost) 59 = .ok (.iinc 4 1, 3) := by decide +kernel
theorem d_G_unitCost_62 : decode (qB q_G_unitCost) 62 = .ok (.goto (-27), 3) := by decide +kernel
theorem d_G_unitCost_65 : decode (qB q_G_unitCost) 65 = .ok (.lload_n 2, 1) := by decide +kernel
theorem d_G_unitCost_66 : decode (qB q_G_unitCost) 66 = .ok (.lreturn, 1) := by decide +kernel
set_option maxRecDepth 10000 in
theorem k_G_unitCost {G : mxG} (hG : mx_GG G) : ∀ pc r, t_G_unitCost pc = some r → mx_Ok G mx_W mx_MT q_G_unitCost pc r := (bn_ok (bn_ok (bn_ok (bn_ok (bn_ok (bl_ok (ok_aload_n rfl d_G_unitCost_0)) (bl_ok (ok_iload_n rfl d_G_unitCost_1))) (bn_ok (bl_ok (ok_cv mx_W_good (cl_1 hG) d_G_unitCost_2 (mt_G_isBridged) mk_G_isBridged w_288 w_289 w_290 (by decide) (by decide))) (bn_ok (bl_ok (ok_ifeq d_G_unitCost_5 (by decide))) (bl_ok (ok_ldc2 d_G_unitCost_8 w_292))))) (bn_ok (bn_ok (bl_ok (ok_aload_n rfl d_G_unitCost_11)) (bl_ok (ok_getf d_G_unitCost_12 (cl_1 hG) (by decide) w_61))) (bn_ok (bl_ok (ok_iload_n rfl d_G_unitCost_15)) (bn_ok (bl_ok (ok_iald d_G_unitCost_16 (kt_0 hG))) (bl_ok (ok_i2l d_G_unitCost_17)))))) (bn_ok (bn_ok (bn_ok (bl_ok (ok_lmul d_G_unitCost_18)) (bl_ok (ok_lreturn d_G_unitCost_19 rfl))) (bn_ok (bl_ok (ok_ldc2 d_G_unitCost_20 w_292)) (bn_ok (bl_ok (ok_aload_n rfl d_G_unitCost_23)) (bl_ok (ok_getf d_G_unitCost_24 (cl_1 hG) (by decide) w_50))))) (bn_ok (bn_ok (bl_ok (ok_iload_n rfl d_G_unitCost_27)) (bl_ok (ok_iald d_G_unitCost_28 (kt_0 hG)))) (bn_ok (bl_ok (ok_i2l d_G_unitCost_29)) (bn_ok (bl_ok (ok_lmul d_G_unitCost_30)) (bl_ok (ok_lstore_n rfl d_G_unitCost_31 (by decide)))))))) (bn_ok (bn_ok (bn_ok (bn_ok (bl_ok (ok_iconst (by decide) d_G_unitCost_32)) (bl_ok (ok_istore d_G_unitCost_33 (by decide)))) (bn_ok (bl_ok (ok_iload d_G_unitCost_35)) (bn_ok (bl_ok (ok_iconst (by decide) d_G_unitCost_37)) (bl_ok (ok_icge d_G_unitCost_38 (by decide)))))) (bn_ok (bn_ok (bl_ok (ok_lload_n rfl d_G_unitCost_41)) (bl_ok (ok_aload_n rfl d_G_unitCost_42))) (bn_ok (bl_ok (ok_getf d_G_unitCost_43 (cl_1 hG) (by decide) w_68)) (bn_ok (bl_ok (ok_iload d_G_unitCost_46)) (bl_ok (ok_lald d_G_unitCost_48 (kt_1 hG))))))) (bn_ok (bn_ok (bn_ok (bl_ok (ok_aload_n rfl d_G_unitCost_49)) (bl_ok (ok_iload d_G_unitCost_50))) (bn_ok (bl_ok (ok_iload_n rfl d_G_unitCost_52)) (bn_ok (bl_ok (ok_cv mx_W_good (cl_1 hG) d_G_unitCost_53 (mt_G_valueOf) mk_G_valueOf w_293 w_294 w_295 (by decide) (by decide))) (bl_ok (ok_lmul d_G_unitCost_56))))) (bn_ok (bn_ok (bl_ok (ok_ladd d_G_unitCost_57)) (bn_ok (bl_ok (ok_lstore_n rfl d_G_unitCost_58 (by decide))) (bl_ok (ok_iinc d_G_unitCost_59 (by decide) (by decide))))) (bn_ok (bl_ok (ok_goto d_G_unitCost_62 (by decide))) (bn_ok (bl_ok (ok_lload_n rfl d_G_unitCost_65)) (bl_ok (ok_lreturn d_G_unitCost_66 rfl))))))))
theorem d_G_headingStep_0 : decode (qB q_G_headingStep) 0 = .ok (.aload_n 0, 1) := by decide +kernel
theorem d_G_headingStep_1 : decode (qB q_G_headingStep) 1 = .ok (.getfield 70, 3) := by decide +kernel
theorem d_G_headingStep_4 : decode (qB q_G_headingStep) 4 = .ok (.iconst 1, 1) := by decide +kernel
theorem d_G_headingStep_5 : decode (qB q_G_headingStep) 5 = .ok (.if_icmp .ne 7, 3) := by decide +kernel
theorem d_G_headingStep_8 : decode (qB q_G_headingStep) 8 = .ok (.iconst 2, 1) := by decide +kernel
theorem d_G_headingStep_9 : decode (qB q_G_headingStep) 9 = .ok (.goto 4, 3) := by decide +kernel
theorem d_G_headingStep_12 : decode (qB q_G_headingStep) 12 = .ok (.iconst 1, 1) := by decide +kernel
theorem d_G_headingStep_13 : decode (qB q_G_headingStep) 13 = .ok (.ireturn, 1) := by decide +kernel
set_option maxRecDepth 10000 in
theorem k_G_headingStep {G : mxG} (hG : mx_GG G) : ∀ pc r, t_G_headingStep pc = some r → mx_Ok G mx_W mx_MT q_G_headingStep pc r := (bn_ok (bn_ok (bn_ok (bl_ok (ok_aload_n rfl d_G_headingStep_0)) (bl_ok (ok_getf d_G_headingStep_1 (cl_1 hG) (by decide) w_70))) (bn_ok (bl_ok (ok_iconst (by decide) d_G_headingStep_4)) (bl_ok (ok_icne d_G_headingStep_5 (by decide))))) (bn_ok (bn_ok (bl_ok (ok_iconst (by decide) d_G_headingStep_8)) (bl_ok (ok_goto d_G_headingStep_9 (by decide)))) (bn_ok (bl_ok (ok_iconst (by decide) d_G_headingStep_12)) (bl_ok (ok_ireturn d_G_headingStep_13 rfl)))))
theorem d_G_ahead_0 : decode (qB q_G_ahead) 0 = .ok (.aload_n 0, 1) := by decide +kernel
theorem d_G_ahead_1 : decode (qB q_G_ahead) 1 = .ok (.getfield 28, 3) := by decide +kernel
theorem d_G_ahead_4 : decode (qB q_G_ahead) 4 = .ok (.iload_n 1, 1) := by decide +kernel
theorem d_G_ahead_5 : decode (qB q_G_ahead) 5 = .ok (.bipush 16, 2) := by decide +kernel
theorem d_G_ahead_7 : decode (qB q_G_ahead) 7 = .ok (.imul, 1) := by decide +kernel
theorem d_G_ahead_8 : decode (qB q_G_ahead) 8 = .ok (.iload_n 2, 1) := by decide +kernel
theorem d_G_ahead_9 : decode (qB q_G_ahead) 9 = .ok (.iadd, 1) := by decide +kernel
theorem d_G_ahead_10 : decode (qB q_G_ahead) 10 = .ok (.iaload, 1) := by decide +kernel
theorem d_G_ahead_11 : decode (qB q_G_ahead) 11 = .ok (.ireturn, 1) := by decide +kernel
set_option maxRecDepth 10000 in
theorem k_G_ahead {G : mxG} (hG : mx_GG G) : ∀ pc r, t_G_ahead pc = some r → mx_Ok G mx_W mx_MT q_G_ahead pc r := (bn_ok (bn_ok (bn_ok (bl_ok (ok_aload_n rfl d_G_ahead_0)) (bl_ok (ok_getf d_G_ahead_1 (cl_1 hG) (by decide) w_49))) (bn_ok (bl_ok (ok_iload_n rfl d_G_ahead_4)) (bl_ok (ok_bipush (by decide) d_G_ahead_5)))) (bn_ok (bn_ok (bl_ok (ok_imul d_G_ahead_7)) (bl_ok (ok_iload_n rfl d_G_ahead_8))) (bn_ok (bl_ok (ok_iadd d_G_ahead_9)) (bn_ok (bl_ok (ok_iald d_G_ahead_10 (kt_0 hG))) (bl_ok (ok_ireturn d_G_ahead_11 rfl))))))
theorem d_G_behind_0 : decode (qB q_G_behind) 0 = .ok (.aload_n 0, 1) := by decide +kernel
theorem d_G_behind_1 : decode (qB q_G_behind) 1 = .ok (.getfield 28, 3) := by decide +kernel
theorem d_G_behind_4 : decode (qB q_G_behind) 4 = .ok (.iload_n 1, 1) := by decide +kernel
theorem d_G_behind_5 : decode (qB q_G_behind) 5 = .ok (.bipush 16, 2) := by decide +kernel
theorem d_G_behind_7 : decode (qB q_G_behind) 7 = .ok (.imul, 1) := by decide +kernel
theorem d_G_behind_8 : decode (qB q_G_behind) 8 = .ok (.iload_n 2, 1) := by decide +kernel
theorem d_G_behind_9 : decode (qB q_G_behind) 9 = .ok (.bipush 8, 2) := by decide +kernel
theorem d_G_behind_11 : decode (qB q_G_behind) 11 = .ok (.iadd, 1) := by decide +kernel
theorem d_G_behind_12 : decode (qB q_G_behind) 12 = .ok (.bipush 16, 2) := by decide +kernel
theorem d_G_behind_14 : decode (qB q_G_behind) 14 = .ok (.irem, 1) := by decide +kernel
theorem d_G_behind_15 : decode (qB q_G_behind) 15 = .ok (.iadd, 1) := by decide +kernel
theorem d_G_behind_16 : decode (qB q_G_behind) 16 = .ok (.iaload, 1) := by decide +kernel
theorem d_G_behind_17 : decode (qB q_G_behind) 17 = .ok (.ireturn, 1) := by decide +kernel
set_option maxRecDepth 10000 in
theorem k_G_behind {G : mxG} (hG : mx_GG G) : ∀ pc r, t_G_behind pc = some r → mx_Ok G mx_W mx_MT q_G_behind pc r := (bn_ok (bn_ok (bn_ok (bl_ok (ok_aload_n rfl d_G_behind_0)) (bn_ok (bl_ok (ok_getf d_G_behind_1 (cl_1 hG) (by decide) w_49)) (bl_ok (ok_iload_n rfl d_G_behind_4)))) (bn_ok (bl_ok (ok_bipush (by decide) d_G_behind_5)) (bn_ok (bl_ok (ok_imul d_G_behind_7)) (bl_ok (ok_iload_n rfl d_G_behind_8))))) (bn_ok (bn_ok (bl_ok (ok_bipush (by decide) d_G_behind_9)) (bn_ok (bl_ok (ok_iadd d_G_behind_11)) (bl_ok (ok_bipush (by decide) d_G_behind_12)))) (bn_ok (bn_ok (bl_ok (ok_irem d_G_behind_14)) (bl_ok (ok_iadd d_G_behind_15))) (bn_ok (bl_ok (ok_iald d_G_behind_16 (kt_0 hG))) (bl_ok (ok_ireturn d_G_behind_17 rfl))))))
theorem d_G_isTooSteep_0 : decode (qB q_G_isTooSteep) 0 = .ok (.aload_n 0, 1) := by decide +kernel
theorem d_G_isTooSteep_1 : decode (qB q_G_isTooSteep) 1 = .ok (.getfield 44, 3) := by decide +kernel
theorem d_G_isTooSteep_4 : decode (qB q_G_isTooSteep) 4 = .ok (.iload_n 1, 1) := by decide +kernel
theorem d_G_isTooSteep_5 : decode (qB q_G_isTooSteep) 5 = .ok (.iaload, 1) := by decide +kernel
theorem d_G_isTooSteep_6 : decode (qB q_G_isTooSteep) 6 = .ok (.aload_n 0, 1) := by decide +kernel
theorem d_G_isTooSteep_7 : decode (qB q_G_isTooSteep) 7 = .ok (.getfield 44, 3) := by decide +kernel
theorem d_G_isTooSteep_10 : decode (qB q_G_isTooSteep) 10 = .ok (.iload_n 2, 1) := by decide +kernel
theorem d_G_isTooSteep_11 : decode (qB q_G_isTooSteep) 11 = .ok (.iaload, 1) := by decide +kernel
theorem d_G_isTooSteep_12 : decode (qB q_G_isTooSteep) 12 = .ok (.isub, 1) := by decide +kernel
theorem d_G_isTooSteep_13 : decode (qB q_G_isTooSteep) 13 = .ok (.invokestatic 96, 3) := by decide +kernel
theorem d_G_isTooSteep_16 : decode (qB q_G_isTooSteep) 16 = .ok (.aload_n 0, 1) := by decide +kernel
theorem d_G_isTooSteep_17 : decode (qB q_G_isTooSteep) 17 = .ok (.getfield 73, 3) := by decide +kernel
theorem d_G_isTooSteep_20 : decode (qB q_G_isTooSteep) 20 = .ok (.if_icmp .le 7, 3) := by decide +kernel
theorem d_G_isTooSteep_23 : decode (qB q_G_isTooSteep) 23 = .ok (.iconst 1, 1) := by decide +kernel
theorem d_G_isTooSteep_24 : decode (qB q_G_isTooSteep) 24 = .ok (.goto 4, 3) := by decide +kernel
theorem d_G_isTooSteep_27 : decode (qB q_G_isTooSteep) 27 = .ok (.iconst 0, 1) := by decide +kernel
theorem d_G_isTooSteep_28 : decode (qB q_G_isTooSteep) 28 = .ok (.ireturn, 1) := by decide +kernel
set_option maxRecDepth 10000 in
theorem k_G_isTooSteep {G : mxG} (hG : mx_GG G) : ∀ pc r, t_G_isTooSteep pc = some r → mx_Ok G mx_W mx_MT q_G_isTooSteep pc r := (bn_ok (bn_ok (bn_ok (bn_ok (bl_ok (ok_aload_n rfl d_G_isTooSteep_0)) (bl_ok (ok_getf d_G_isTooSteep_1 (cl_1 hG) (by decide) w_52))) (bn_ok (bl_ok (ok_iload_n rfl d_G_isTooSteep_4)) (bl_ok (ok_iald d_G_isTooSteep_5 (kt_0 hG))))) (bn_ok (bn_ok (bl_ok (ok_aload_n rfl d_G_isTooSteep_6)) (bl_ok (ok_getf d_G_isTooSteep_7 (cl_1 hG) (by decide) w_52))) (bn_ok (bl_ok (ok_iload_n rfl d_G_isTooSteep_10)) (bl_ok (ok_iald d_G_isTooSteep_11 (kt_0 hG)))))) (bn_ok (bn_ok (bn_ok (bl_ok (ok_isub d_G_isTooSteep_12)) (bl_ok (ok_cs mx_W_good d_G_isTooSteep_13 (mt_JM_abs) mk_JM_abs w_374 w_375 (by decide) (by decide)))) (bn_ok (bl_ok (ok_aload_n rfl d_G_isTooSteep_16)) (bl_ok (ok_getf d_G_isTooSteep_17 (cl_1 hG) (by decide) w_72)))) (bn_ok (bn_ok (bl_ok (ok_icle d_G_isTooSteep_20 (by decide))) (bl_ok (ok_iconst (by decide) d_G_isTooSteep_23))) (bn_ok (bl_ok (ok_goto d_G_isTooSteep_24 (by decide))) (bn_ok (bl_ok (ok_iconst (by decide) d_G_isTooSteep_27)) (bl_ok (ok_zreturn d_G_isTooSteep_28 rfl)))))))
theorem d_G_moveFrom_0 : decode (qB q_G_moveFrom) 0 = .ok (.aload_n 0, 1) := by decide +kernel
theorem d_G_moveFrom_1 : decode (qB q_G_moveFrom) 1 = .ok (.getfield 70, 3) := by decide +kernel
theorem d_G_moveFrom_4 : decode (qB q_G_moveFrom) 4 = .ok (.iconst 1, 1) := by decide +kernel
theorem d_G_moveFrom_5 : decode (qB q_G_moveFrom) 5 = .ok (.if_icmp .ne 11, 3) := by decide +kernel
theorem d_G_moveFrom_8 : decode (qB q_G_moveFrom) 8 = .ok (.iload_n 3, 1) := by decide +kernel
theorem d_G_moveFrom_9 : decode (qB q_G_moveFrom) 9 = .ok (.iconst 2, 1) := by decide +kernel
theorem d_G_moveFrom_10 : decode (qB q_G_moveFrom) 10 = .ok (.irem, 1) := by decide +kernel
theorem d_G_moveFrom_11 : decode (qB q_G_moveFrom) 11 = .ok (.ifCond .eq 5, 3) := by decide +kernel
theorem d_G_moveFrom_14 : decode (qB q_G_moveFrom) 14 = .ok (.iconst (-1), 1) := by decide +kernel
theorem d_G_moveFrom_15 : decode (qB q_G_moveFrom) 15 = .ok (.ireturn, 1) := by decide +kernel
theorem d_G_moveFrom_16 : decode (qB q_G_moveFrom) 16 = .ok (.aload_n 0, 1) := by decide +kernel
theorem d_G_moveFrom_17 : decode (qB q_G_moveFrom) 17 = .ok (.iload_n 1, 1) := by decide +kernel
theorem d_G_moveFrom_18 : decode (qB q_G_moveFrom) 18 = .ok (.iload_n 3, 1) := by decide +kernel
theorem d_G_moveFrom_19 : decode (qB q_G_moveFrom) 19 = .ok (.invokevirtual 101, 3) := by decide +kernel
theorem d_G_moveFrom_22 : decode (qB q_G_moveFrom) 22 = .ok (.istore 4, 2) := by decide +kernel
theorem d_G_moveFrom_24 : decode (qB q_G_moveFrom) 24 = .ok (.iload 4, 2) := by decide +kernel
theorem d_G_moveFrom_26 : decode (qB q_G_moveFrom) 26 = .ok (.ifCond .lt 22, 3) := by decide +kernel
theorem d_G_moveFrom_29 : decode (qB q_G_moveFrom) 29 = .ok (.aload_n 0, 1) := by decide +kernel
theorem d_G_moveFrom_30 : decode (qB q_G_moveFrom) 30 = .ok (.iload 4, 2) := by decide +kernel
theorem d_G_moveFrom_32 : decode (qB q_G_moveFrom) 32 = .ok (.invokevirtual 104, 3) := by decide +kernel
theorem d_G_moveFrom_35 : decode (qB q_G_moveFrom) 35 = .ok (.ifCond .ne 13, 3) := by decide +kernel
theorem d_G_moveFrom_38 : decode (qB q_G_moveFrom) 38 = .ok (.aload_n 0, 1) := by decide +kernel
theorem d_G_moveFrom_39 : decode (qB q_G_moveFrom) 39 = .ok (.iload_n 1, 1) := by decide +kernel
theorem d_G_moveFrom_40 : decode (qB q_G_moveFrom) 40 = .ok (.iload 4, 2) := by decide +kernel
theorem d_G_moveFrom_42 : decode (qB q_G_moveFrom) 42 = .ok (.invokevirtual 107, 3) := by decide +kernel
theorem d_G_moveFrom_45 : decode (qB q_G_moveFrom) 45 = .ok (.ifCond .eq 5, 3) := by decide +kernel
theorem d_G_moveFrom_48 : decode (qB q_G_moveFrom) 48 = .ok (.iconst (-1), 1) := by decide +kernel
theorem d_G_moveFrom_49 : decode (qB q_G_moveFrom) 49 = .ok (.ireturn, 1) := by decide +kernel
theorem d_G_moveFrom_50 : decode (qB q_G_moveFrom) 50 = .ok (.iload_n 2, 1) := by decide +kernel
theorem d_G_moveFrom_51 : decode (qB q_G_moveFrom) 51 = .ok (.bipush 16, 2) := by decide +kernel
theorem d_G_moveFrom_53 : decode (qB q_G_moveFrom) 53 = .ok (.if_icmp .eq 8, 3) := by decide +kernel
theorem d_G_moveFrom_56 : decode (qB q_G_moveFrom) 56 = .ok (.iload_n 2, 1) := by decide +kernel
theorem d_G_moveFrom_57 : decode (qB q_G_moveFrom) 57 = .ok (.iload_n 3, 1) := by decide +kernel
theorem d_G_moveFrom_58 : decode (qB q_G_moveFrom) 58 = .ok (.if_icmp .ne 6, 3) := by decide +kernel
theorem d_G_moveFrom_61 : decode (qB q_G_moveFrom) 61 = .ok (.iload 4, 2) := by decide +kernel
theorem d_G_moveFrom_63 : decode (qB q_G_moveFrom) 63 = .ok (.ireturn, 1) := by decide +kernel
theorem d_G_moveFrom_64 : decode (qB q_G_moveFrom) 64 = .ok (.iload_n 2, 1) := by decide +kernel
theorem d_G_moveFrom_65 : decode (qB q_G_moveFrom) 65 = .ok (.iload_n 3, 1) := by decide +kernel
theorem d_G_moveFrom_66 : decode (qB q_G_moveFrom) 66 = .ok (.isub, 1) := by decide +kernel
theorem d_G_moveFrom_67 : decode (qB q_G_moveFrom) 67 = .ok (.invokestatic 96, 3) := by decide +kernel
theorem d_G_moveFrom_70 : decode (qB q_G_moveFrom) 70 = .ok (.istore 5, 2) := by decide +kernel
theorem d_G_moveFrom_72 : decode (qB q_G_moveFrom) 72 = .ok (.iload 5, 2) := by decide +kernel
theorem d_G_moveFrom_74 : decode (qB q_G_moveFrom) 74 = .ok (.bipush 16, 2) := by decide +kernel
theorem d_G_moveFrom_76 : decode (qB q_G_moveFrom) 76 = .ok (.iload 5, 2) := by decide +kernel
theorem d_G_moveFrom_78 : decode (qB q_G_moveFrom) 78 = .ok (.isub, 1) := by decide +kernel
theorem d_G_moveFrom_79 : decode (qB q_G_moveFrom) 79 = .ok (.invokestatic 111, 3) := by decide +kernel
theorem d_G_moveFrom_82 : decode (qB q_G_moveFrom) 82 = .ok (.aload_n 0, 1) := by decide +kernel
theorem d_G_moveFrom_83 : decode (qB q_G_moveFrom) 83 = .ok (.getfield 76, 3) := by decide +kernel
theorem d_G_moveFrom_86 : decode (qB q_G_moveFrom) 86 = .ok (.if_icmp .gt 7, 3) := by decide +kernel
theorem d_G_moveFrom_89 : decode (qB q_G_moveFrom) 89 = .ok (.iconst 1, 1) := by decide +kernel
theorem d_G_moveFrom_90 : decode (qB q_G_moveFrom) 90 = .ok (.goto 4, 3) := by decide +kernel
theorem d_G_moveFrom_93 : decode (qB q_G_moveFrom) 93 = .ok (.iconst 0, 1) := by decide +kernel
theorem d_G_moveFrom_94 : decode (qB q_G_moveFrom) 94 = .ok (.istore 6, 2) := by decide +kernel
theorem d_G_moveFrom_96 : decode (qB q_G_moveFrom) 96 = .ok (.iload 6, 2) := by decide +kernel
theorem d_G_moveFrom_98 : decode (qB q_G_moveFrom) 98 = .ok (.ifCond .eq 25, 3) := by decide +kernel
theorem d_G_moveFrom_101 : decode (qB q_G_moveFrom) 101 = .ok (.aload_n 0, 1) := by decide +kernel
theorem d_G_moveFrom_102 : decode (qB q_G_moveFrom) 102 = .ok (.iload_n 1, 1) := by decide +kernel
theorem d_G_moveFrom_103 : decode (qB q_G_moveFrom) 103 = .ok (.invokevirtual 86, 3) := by decide +kernel
theorem d_G_moveFrom_106 : decode (qB q_G_moveFrom) 106 = .ok (.ifCond .ne 17, 3) := by decide +kernel
theorem d_G_moveFrom_109 : decode (qB q_G_moveFrom) 109 = .ok (.aload_n 0, 1) := by decide +kernel
theorem d_G_moveFrom_110 : decode (qB q_G_moveFrom) 110 = .ok (.iload 4, 2) := by decide +kernel
theorem d_G_moveFrom_112 : decode (qB q_G_moveFrom) 112 = .ok (.invokevirtual 86, 3) := by decide +kernel
theorem d_G_moveFrom_115 : decode (qB q_G_moveFrom) 115 = .ok (.ifCond .ne 8, 3) := by decide +kernel
theorem d_G_moveFrom_118 : decode (qB q_G_moveFrom) 118 = .ok (.iload 4, 2) := by decide +kernel
theorem d_G_moveFrom_120 : decode (qB q_G_moveFrom) 120 = .ok (.goto 4, 3) := by decide +kernel
theorem d_G_moveFrom_123 : decode (qB q_G_moveFrom) 123 = .ok (.iconst (-1), 1) := by decide +kernel
theorem d_G_moveFrom_124 : decode (qB q_G_moveFrom) 124 = .ok (.ireturn, 1) := by decide +kernel
set_option maxRecDepth 10000 in
theorem k_G_moveFrom {G : mxG} (hG : mx_GG G) : ∀ pc r, t_G_moveFrom pc = some r → mx_Ok G mx_W mx_MT q_G_moveFrom pc r := (bn_ok (bn_ok (bn_ok (bn_ok (bn_ok (bn_ok (bl_ok (ok_aload_n rfl d_G_moveFrom_0)) (bl_ok (ok_getf d_G_moveFrom_1 (cl_1 hG) (by decide) w_70))) (bn_ok (bl_ok (ok_iconst (by decide) d_G_moveFrom_4)) (bl_ok (ok_icne d_G_moveFrom_5 (by decide))))) (bn_ok (bn_ok (bl_ok (ok_iload_n rfl d_G_moveFrom_8)) (bl_ok (ok_iconst (by decide) d_G_moveFrom_9))) (bn_ok (bl_ok (ok_irem d_G_moveFrom_10)) (bl_ok (ok_ifeq d_G_moveFrom_11 (by decide)))))) (bn_ok (bn_ok (bn_ok (bl_ok (ok_iconst (by decide) d_G_moveFrom_14)) (bl_ok (ok_ireturn d_G_moveFrom_15 rfl))) (bn_ok (bl_ok (ok_aload_n rfl d_G_moveFrom_16)) (bl_ok (ok_iload_n rfl d_G_moveFrom_17)))) (bn_ok (bn_ok (bl_ok (ok_iload_n rfl d_G_moveFrom_18)) (bl_ok (ok_cv mx_W_good (cl_1 hG) d_G_moveFrom_19 (mt_G_ahead) mk_G_ahead w_422 w_423 w_424 (by decide) (by decide)))) (bn_ok (bl_ok (ok_istore d_G_moveFrom_22 (by decide))) (bl_ok (ok_iload d_G_moveFrom_24)))))) (bn_ok (bn_ok (bn_ok (bn_ok (bl_ok (ok_iflt d_G_moveFrom_26 (by decide))) (bl_ok (ok_aload_n rfl d_G_moveFrom_29))) (bn_ok (bl_ok (ok_iload d_G_moveFrom_30)) (bl_ok (ok_cv mx_W_good (cl_1 hG) d_G_moveFrom_32 (mt_G_isClosedOff) mk_G_isClosedOff w_426 w_367 w_368 (by decide) (by decide))))) (bn_ok (bn_ok (bl_ok (ok_ifne d_G_moveFrom_35 (by decide))) (bl_ok (ok_aload_n rfl d_G_moveFrom_38))) (bn_ok (bl_ok (ok_iload_n rfl d_G_moveFrom_39)) (bl_ok (ok_iload d_G_moveFrom_40))))) (bn_ok (bn_ok (bn_ok (bl_ok (ok_cv mx_W_good (cl_1 hG) d_G_moveFrom_42 (mt_G_isTooSteep) mk_G_isTooSteep w_427 w_371 w_372 (by decide) (by decide))) (bl_ok (ok_ifeq d_G_moveFrom_45 (by decide)))) (bn_ok (bl_ok (ok_iconst (by decide) d_G_moveFrom_48)) (bl_ok (ok_ireturn d_G_moveFrom_49 rfl)))) (bn_ok (bn_ok (bl_ok (ok_iload_n rfl d_G_moveFrom_50)) (bl_ok (ok_bipush (by decide) d_G_moveFrom_51))) (bn_ok (bl_ok (ok_iceq d_G_moveFrom_53 (by decide))) (bn_ok (bl_ok (ok_iload_n rfl d_G_moveFrom_56)) (bl_ok (ok_iload_n rfl d_G_moveFrom_57)))))))) (bn_ok (bn_ok (bn_ok (bn_ok (bn_ok (bl_ok (ok_icne d_G_moveFrom_58 (by decide))) (bl_ok (ok_iload d_G_moveFrom_61))) (bn_ok (bl_ok (ok_ireturn d_G_moveFrom_63 rfl)) (bl_ok (ok_iload_n rfl d_G_moveFrom_64)))) (bn_ok (bn_ok (bl_ok (ok_iload_n rfl d_G_moveFrom_65)) (bl_ok (ok_isub d_G_moveFrom_66))) (bn_ok (bl_ok (ok_cs mx_W_good d_G_moveFrom_67 (mt_JM_abs) mk_JM_abs w_374 w_375 (by decide) (by decide))) (bl_ok (ok_istore d_G_moveFrom_70 (by decide)))))) (bn_ok (bn_ok (bn_ok (bl_ok (ok_iload d_G_moveFrom_72)) (bl_ok (ok_bipush (by decide) d_G_moveFrom_74))) (bn_ok (bl_ok (ok_iload d_G_moveFrom_76)) (bl_ok (ok_isub d_G_moveFrom_78)))) (bn_ok (bn_ok (bl_ok (ok_cs mx_W_good d_G_moveFrom_79 (mt_JM_min_I) mk_JM_min_I w_428 w_23 (by decide) (by decide))) (bl_ok (ok_aload_n rfl d_G_moveFrom_82))) (bn_ok (bl_ok (ok_getf d_G_moveFrom_83 (cl_1 hG) (by decide) w_74)) (bn_ok (bl_ok (ok_icgt d_G_moveFrom_86 (by decide))) (bl_ok (ok_iconst (by decide) d_G_moveFrom_89))))))) (bn_ok (bn_ok (bn_ok (bn_ok (bl_ok (ok_goto d_G_moveFrom_90 (by decide))) (bl_ok (ok_iconst (by decide) d_G_moveFrom_93))) (bn_ok (bl_ok (ok_istore d_G_moveFrom_94 (by decide))) (bl_ok (ok_iload d_G_moveFrom_96)))) (bn_ok (bn_ok (bl_ok (ok_ifeq d_G_moveFrom_98 (by decide))) (bl_ok (ok_aload_n rfl d_G_moveFrom_101))) (bn_ok (bl_ok (ok_iload_n rfl d_G_moveFrom_102)) (bl_ok (ok_cv mx_W_good (cl_1 hG) d_G_moveFrom_103 (mt_G_isBridged) mk_G_isBridged w_288 w_289 w_290 (by decide) (by decide)))))) (bn_ok (bn_ok (bn_ok (bl_ok (ok_ifne d_G_moveFrom_106 (by decide))) (bl_ok (ok_aload_n rfl d_G_moveFrom_109))) (bn_ok (bl_ok (ok_iload d_G_moveFrom_110)) (bl_ok (ok_cv mx_W_good (cl_1 hG) d_G_moveFrom_112 (mt_G_isBridged) mk_G_isBridged w_288 w_289 w_290 (by decide) (by decide))))) (bn_ok (bn_ok (bl_ok (ok_ifne d_G_moveFrom_115 (by decide))) (bl_ok (ok_iload d_G_moveFrom_118))) (bn_ok (bl_ok (ok_goto d_G_moveFrom_120 (by decide))) (bn_ok (bl_ok (ok_iconst (by decide) d_G_moveFrom_123)) (bl_ok (ok_ireturn d_G_moveFrom_124 rfl)))))))))
theorem d_G_bridgedUpTo_0 : decode (qB q_G_bridgedUpTo) 0 = .ok (.aload_n 0, 1) := by decide +kernel
theorem d_G_bridgedUpTo_1 : decode (qB q_G_bridgedUpTo) 1 = .ok (.iload_n 1, 1) := by decide +kernel
theorem d_G_bridgedUpTo_2 : decode (qB q_G_bridgedUpTo) 2 = .ok (.invokevirtual 86, 3) := by decide +kernel
theorem d_G_bridgedUpTo_5 : decode (qB q_G_bridgedUpTo) 5 = .ok (.ifCond .ne 5, 3) := by decide +kernel
theorem d_G_bridgedUpTo_8 : decode (qB q_G_bridgedUpTo) 8 = .ok (.iconst 0, 1) := by decide +kernel
theorem d_G_bridgedUpTo_9 : decode (qB q_G_bridgedUpTo) 9 = .ok (.ireturn, 1) := by decide +kernel
theorem d_G_bridgedUpTo_10 : decode (qB q_G_bridgedUpTo) 10 = .ok (.iload_n 2, 1) := by decide +kernel
theorem d_G_bridgedUpTo_11 : decode (qB q_G_bridgedUpTo) 11 = .ok (.aload_n 0, 1) := by decide +kernel
theorem d_G_bridgedUpTo_12 : decode (qB q_G_bridgedUpTo) 12 = .ok (.getfield 51, 3) := by decide +kernel
theorem d_G_bridgedUpTo_15 : decode (qB q_G_bridgedUpTo) 15 = .ok (.iload_n 1, 1) := by decide +kernel
theorem d_G_bridgedUpTo_16 : decode (qB q_G_bridgedUpTo) 16 = .ok (.iaload, 1) := by decide +kernel
theorem d_G_bridgedUpTo_17 : decode (qB q_G_bridgedUpTo) 17 = .ok (.if_icmp .ge 9, 3) := by decide +kernel
theorem d_G_bridgedUpTo_20 : decode (qB q_G_bridgedUpTo) 20 = .ok (.iload_n 2, 1) := by decide +kernel
theorem d_G_bridgedUpTo_21 : decode (qB q_G_bridgedUpTo) 21 = .ok (.iconst 1, 1) := by decide +kernel
theorem d_G_bridgedUpTo_22 : decode (qB q_G_bridgedUpTo) 22 = .ok (.iadd, 1) := by decide +kernel
theorem d_G_bridgedUpTo_23 : decode (qB q_G_bridgedUpTo) 23 = .ok (.goto 4, 3) := by decide +kernel
theorem d_G_bridgedUpTo_26 : decode (qB q_G_bridgedUpTo) 26 = .ok (.iconst (-1), 1) := by decide +kernel
theorem d_G_bridgedUpTo_27 : decode (qB q_G_bridgedUpTo) 27 = .ok (.ireturn, 1) := by decide +kernel
set_option maxRecDepth 10000 in
theorem k_G_bridgedUpTo {G : mxG} (hG : mx_GG G) : ∀ pc r, t_G_bridgedUpTo pc = some r → mx_Ok G mx_W mx_MT q_G_bridgedUpTo pc r := (bn_ok (bn_ok (bn_ok (bn_ok (bl_ok (ok_aload_n rfl d_G_bridgedUpTo_0)) (bl_ok (ok_iload_n rfl d_G_bridgedUpTo_1))) (bn_ok (bl_ok (ok_cv mx_W_good (cl_1 hG) d_G_bridgedUpTo_2 (mt_G_isBridged) mk_G_isBridged w_288 w_289 w_290 (by decide) (by decide))) (bl_ok (ok_ifne d_G_bridgedUpTo_5 (by decide))))) (bn_ok (bn_ok (bl_ok (ok_iconst (by decide) d_G_bridgedUpTo_8)) (bl_ok (ok_ireturn d_G_bridgedUpTo_9 rfl))) (bn_ok (bl_ok (ok_iload_n rfl d_G_bridgedUpTo_10)) (bn_ok (bl_ok (ok_aload_n rfl d_G_bridgedUpTo_11)) (bl_ok (ok_getf d_G_bridgedUpTo_12 (cl_1 hG) (by decide) w_58)))))) (bn_ok (bn_ok (bn_ok (bl_ok (ok_iload_n rfl d_G_bridgedUpTo_15)) (bl_ok (ok_iald d_G_bridgedUpTo_16 (kt_0 hG)))) (bn_ok (bl_ok (ok_icge d_G_bridgedUpTo_17 (by decide))) (bl_ok (ok_iload_n rfl d_G_bridgedUpTo_20)))) (bn_ok (bn_ok (bl_ok (ok_iconst (by decide) d_G_bridgedUpTo_21)) (bl_ok (ok_iadd d_G_bridgedUpTo_22))) (bn_ok (bl_ok (ok_goto d_G_bridgedUpTo_23 (by decide))) (bn_ok (bl_ok (ok_iconst (by decide) d_G_bridgedUpTo_26)) (bl_ok (ok_ireturn d_G_bridgedUpTo_27 rfl)))))))
