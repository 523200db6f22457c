theorem d_M_init_0 : decode (qB q_M_init) 0 = .ok (.aload_n 0, 1) := by decide +kernel
theorem d_M_init_1 : decode (qB q_M_init) 1 = .ok (.invokespecial 1, 3) := by decide +kernel
theorem d_M_init_4 : decode (qB q_M_init) 4 = .ok (.aload_n 0, 1) := by decide +kernel
theorem d_M_init_5 : decode (qB q_M_init) 5 = .ok (.sipush 144, 3) := by decide +kernel
theorem d_M_init_8 : decode (qB q_M_init) 8 = .ok (.newarray .int, 2) := by decide +kernel
theorem d_M_init_10 : decode (qB q_M_init) 10 = .ok (.putfield 7, 3) := by decide +kernel
theorem d_M_init_13 : decode (qB q_M_init) 13 = .ok (.aload_n 0, 1) := by decide +kernel
theorem d_M_init_14 : decode (qB q_M_init) 14 = .ok (.sipush 144, 3) := by decide +kernel
theorem d_M_init_17 : decode (qB q_M_init) 17 = .ok (.newarray .int, 2) := by decide +kernel
theorem d_M_init_19 : decode (qB q_M_init) 19 = .ok (.putfield 13, 3) := by decide +kernel
theorem d_M_init_22 : decode (qB q_M_init) 22 = .ok (.aload_n 0, 1) := by decide +kernel
theorem d_M_init_23 : decode (qB q_M_init) 23 = .ok (.sipush 144, 3) := by decide +kernel
theorem d_M_init_26 : decode (qB q_M_init) 26 = .ok (.newarray .boolean, 2) := by decide +kernel
theorem d_M_init_28 : decode (qB q_M_init) 28 = .ok (.putfield 16, 3) := by decide +kernel
theorem d_M_init_31 : decode (qB q_M_init) 31 = .ok (.aload_n 0, 1) := by decide +kernel
theorem d_M_init_32 : decode (qB q_M_init) 32 = .ok (.sipush 144, 3) := by decide +kernel
theorem d_M_init_35 : decode (qB q_M_init) 35 = .ok (.newarray .int, 2) := by decide +kernel
theorem d_M_init_37 : decode (qB q_M_init) 37 = .ok (.putfield 20, 3) := by decide +kernel
theorem d_M_init_40 : decode (qB q_M_init) 40 = .ok (.aload_n 0, 1) := by decide +kernel
theorem d_M_init_41 : decode (qB q_M_init) 41 = .ok (.sipush 144, 3) := by decide +kernel
theorem d_M_init_44 : decode (qB q_M_init) 44 = .ok (.newarray .int, 2) := by decide +kernel
theorem d_M_init_46 : decode (qB q_M_init) 46 = .ok (.putfield 23, 3) := by decide +kernel
theorem d_M_init_49 : decode (qB q_M_init) 49 = .ok (.aload_n 0, 1) := by decide +kernel
theorem d_M_init_50 : decode (qB q_M_init) 50 = .ok (.sipush 576, 3) := by decide +kernel
theorem d_M_init_53 : decode (qB q_M_init) 53 = .ok (.newarray .int, 2) := by decide +kernel
theorem d_M_init_55 : decode (qB q_M_init) 55 = .ok (.putfield 26, 3) := by decide +kernel
theorem d_M_init_58 : decode (qB q_M_init) 58 = .ok (.aload_n 0, 1) := by decide +kernel
theorem d_M_init_59 : decode (qB q_M_init) 59 = .ok (.sipush 1152, 3) := by decide +kernel
theorem d_M_init_62 : decode (qB q_M_init) 62 = .ok (.newarray .int, 2) := by decide +kernel
theorem d_M_init_64 : decode (qB q_M_init) 64 = .ok (.putfield 29, 3) := by decide +kernel
theorem d_M_init_67 : decode (qB q_M_init) 67 = .ok (.aload_n 0, 1) := by decide +kernel
theorem d_M_init_68 : decode (qB q_M_init) 68 = .ok (.sipush 144, 3) := by decide +kernel
theorem d_M_init_71 : decode (qB q_M_init) 71 = .ok (.newarray .int, 2) := by decide +kernel
theorem d_M_init_73 : decode (qB q_M_init) 73 = .ok (.putfield 32, 3) := by decide +kernel
theorem d_M_init_76 : decode (qB q_M_init) 76 = .ok (.aload_n 0, 1) := by decide +kernel
theorem d_M_init_77 : decode (qB q_M_init) 77 = .ok (.iconst 4, 1) := by decide +kernel
theorem d_M_init_78 : decode (qB q_M_init) 78 = .ok (.newarray .int, 2) := by decide +kernel
theorem d_M_init_80 : decode (qB q_M_init) 80 = .ok (.putfield 35, 3) := by decide +kernel
theorem d_M_init_83 : decode (qB q_M_init) 83 = .ok (.aload_n 0, 1) := by decide +kernel
theorem d_M_init_84 : decode (qB q_M_init) 84 = .ok (.iconst 1, 1) := by decide +kernel
theorem d_M_init_85 : decode (qB q_M_init) 85 = .ok (.putfield 38, 3) := by decide +kernel
theorem d_M_init_88 : decode (qB q_M_init) 88 = .ok (.aload_n 0, 1) := by decide +kernel
theorem d_M_init_89 : decode (qB q_M_init) 89 = .ok (.sipush 9999, 3) := by decide +kernel
theorem d_M_init_92 : decode (qB q_M_init) 92 = .ok (.putfield 42, 3) := by decide +kernel
theorem d_M_init_95 : decode (qB q_M_init) 95 = .ok (.aload_n 0, 1) := by decide +kernel
theorem d_M_init_96 : decode (qB q_M_init) 96 = .ok (.bipush 8, 2) := by decide +kernel
theorem d_M_init_98 : decode (qB q_M_init) 98 = .ok (.putfield 45, 3) := by decide +kernel
theorem d_M_init_101 : decode (qB q_M_init) 101 = .ok (.aload_n 0, 1) := by decide +kernel
theorem d_M_init_102 : decode (qB q_M_init) 102 = .ok (.iconst (-1), 1) := by decide +kernel
theorem d_M_init_103 : decode (qB q_M_init) 103 = .ok (.putfield 48, 3) := by decide +kernel
theorem d_M_init_106 : decode (qB q_M_init) 106 = .ok (.aload_n 0, 1) := by decide +kernel
theorem d_M_init_107 : decode (qB q_M_init) 107 = .ok (.bipush 6, 2) := by decide +kernel
theorem d_M_init_109 : decode (qB q_M_init) 109 = .ok (.newarray .int, 2) := by decide +kernel
theorem d_M_init_111 : decode (qB q_M_init) 111 = .ok (.putfield 51, 3) := by decide +kernel
theorem d_M_init_114 : decode (qB q_M_init) 114 = .ok (.aload_n 0, 1) := by decide +kernel
theorem d_M_init_115 : decode (qB q_M_init) 115 = .ok (.sipush 30000, 3) := by decide +kernel
theorem d_M_init_118 : decode (qB q_M_init) 118 = .ok (.newarray .int, 2) := by decide +kernel
theorem d_M_init_120 : decode (qB q_M_init) 120 = .ok (.putfield 54, 3) := by decide +kernel
theorem d_M_init_123 : decode (qB q_M_init) 123 = .ok (.aload_n 0, 1) := by decide +kernel
theorem d_M_init_124 : decode (qB q_M_init) 124 = .ok (.sipush 30000, 3) := by decide +kernel
theorem d_M_init_127 : decode (qB q_M_init) 127 = .ok (.newarray .int, 2) := by decide +kernel
theorem d_M_init_129 : decode (qB q_M_init) 129 = .ok (.putfield 57, 3) := by decide +kernel
theorem d_M_init_132 : decode (qB q_M_init) 132 = .ok (.aload_n 0, 1) := by decide +kernel
theorem d_M_init_133 : decode (qB q_M_init) 133 = .ok (.ldc2_w 60, 3) := by decide +kernel
theorem d_M_init_136 : decode (qB q_M_init) 136 = .ok (.putfield 62, 3) := by decide +kernel
theorem d_M_init_139 : decode (qB q_M_init) 139 = .ok (.aload_n 0, 1) := by decide +kernel
theorem d_M_init_140 : decode (qB q_M_init) 140 = .ok (.sipush 144, 3) := by decide +kernel
theorem d_M_init_143 : decode (qB q_M_init) 143 = .ok (.newarray .boolean, 2) := by decide +kernel
theorem d_M_init_145 : decode (qB q_M_init) 145 = .ok (.putfield 66, 3) := by decide +kernel
theorem d_M_init_148 : decode (qB q_M_init) 148 = .ok (.aload_n 0, 1) := by decide +kernel
theorem d_M_init_149 : decode (qB q_M_init) 149 = .ok (.ldc 69, 2) := by decide +kernel
theorem d_M_init_151 : decode (qB q_M_init) 151 = .ok (.newarray .long, 2) := by decide +kernel
theorem d_M_init_153 : decode (qB q_M_init) 153 = .ok (.putfield 70, 3) := by decide +kernel
theorem d_M_init_156 : decode (qB q_M_init) 156 = .ok (.aload_n 0, 1) := by decide +kernel
theorem d_M_init_157 : decode (qB q_M_init) 157 = .ok (.ldc 69, 2) := by decide +kernel
theorem d_M_init_159 : decode (qB q_M_init) 159 = .ok (.newarray .int, 2) := by decide +kernel
theorem d_M_init_161 : decode (qB q_M_init) 161 = .ok (.putfield 74, 3) := by decide +kernel
theorem d_M_init_164 : decode (qB q_M_init) 164 = .ok (.aload_n 0, 1) := by decide +kernel
theorem d_M_init_165 : decode (qB q_M_init) 165 = .ok (.ldc 69, 2) := by decide +kernel
theorem d_M_init_167 : decode (qB q_M_init) 167 = .ok (.newarray .int, 2) := by decide +kernel
theorem d_M_init_169 : decode (qB q_M_init) 169 = .ok (.putfield 77, 3) := by decide +kernel
theorem d_M_init_172 : decode (qB q_M_init) 172 = .ok (.aload_n 0, 1) := by decide +kernel
theorem d_M_init_173 : decode (qB q_M_init) 173 = .ok (.ldc 69, 2) := by decide +kernel
theorem d_M_init_175 : decode (qB q_M_init) 175 = .ok (.newarray .int, 2) := by decide +kernel
theorem d_M_init_177 : decode (qB q_M_init) 177 = .ok (.putfield 80, 3) := by decide +kernel
theorem d_M_init_180 : decode (qB q_M_init) 180 = .ok (.aload_n 0, 1) := by decide +kernel
theorem d_M_init_181 : decode (qB q_M_init) 181 = .ok (.ldc 69, 2) := by decide +kernel
theorem d_M_init_183 : decode (qB q_M_init) 183 = .ok (.newarray .int, 2) := by decide +kernel
theorem d_M_init_185 : decode (qB q_M_init) 185 = .ok (.putfield 83, 3) := by decide +kernel
theorem d_M_init_188 : decode (qB q_M_init) 188 = .ok (.aload_n 0, 1) := by decide +kernel
theorem d_M_init_189 : decode (qB q_M_init) 189 = .ok (.ldc 69, 2) := by decide +kernel
theorem d_M_init_191 : decode (qB q_M_init) 191 = .ok (.newarray .int, 2) := by decide +kernel
theorem d_M_init_193 : decode (qB q_M_init) 193 = .ok (.putfield 86, 3) := by decide +kernel
theorem d_M_init_196 : decode (qB q_M_init) 196 = .ok (.aload_n 0, 1) := by decide +kernel
theorem d_M_init_197 : decode (qB q_M_init) 197 = .ok (.iload_n 1, 1) := by decide +kernel
theorem d_M_init_198 : decode (qB q_M_init) 198 = .ok (.iconst 1, 1) := by decide +kernel
theorem d_M_init_199 : decode (qB q_M_init) 199 = .ok (.if_icmp .ge 7, 3) := by decide +kernel
theorem d_M_init_202 : decode (qB q_M_init) 202 = .ok (.iconst 1, 1) := by decide +kernel
theorem d_M_init_203 : decode (qB q_M_init) 203 = .ok (.goto 15, 3) := by decide +kernel
theorem d_M_init_206 : decode (qB q_M_init) 206 = .ok (.iload_n 1, 1) := by decide +kernel
theorem d_M_init_207 : decode (qB q_M_init) 207 = .ok (.bipush 12, 2) := by decide +kernel
theorem d_M_init_209 : decode (qB q_M_init) 209 = .ok (.if_icmp .le 8, 3) := by decide +kernel
theorem d_M_init_212 : decode (qB q_M_init) 212 = .ok (.bipush 12, 2) := by decide +kernel
theorem d_M_init_214 : decode (qB q_M_init) 214 = .ok (.goto 4, 3) := by decide +kernel
theorem d_M_init_217 : decode (qB q_M_init) 217 = .ok (.iload_n 1, 1) := by decide +kernel
theorem d_M_init_218 : decode (qB q_M_init) 218 = .ok (.putfield 89, 3) := by decide +kernel
theorem d_M_init_221 : decode (qB q_M_init) 221 = .ok (.aload_n 0, 1) := by decide +kernel
theorem d_M_init_222 : decode (qB q_M_init) 222 = .ok (.iload_n 2, 1) := by decide +kernel
theorem d_M_init_223 : decode (qB q_M_init) 223 = .ok (.iconst 1, 1) := by decide +kernel
theorem d_M_init_224 : decode (qB q_M_init) 224 = .ok (.if_icmp .ge 7, 3) := by decide +kernel
theorem d_M_init_227 : decode (qB q_M_init) 227 = .ok (.iconst 1, 1) := by decide +kernel
theorem d_M_init_228 : decode (qB q_M_init) 228 = .ok (.goto 15, 3) := by decide +kernel
theorem d_M_init_231 : decode (qB q_M_init) 231 = .ok (.iload_n 2, 1) := by decide +kernel
theorem d_M_init_232 : decode (qB q_M_init) 232 = .ok (.bipush 12, 2) := by decide +kernel
theorem d_M_init_234 : decode (qB q_M_init) 234 = .ok (.if_icmp .le 8, 3) := by decide +kernel
theorem d_M_init_237 : decode (qB q_M_init) 237 = .ok (.bipush 12, 2) := by decide +kernel
theorem d_M_init_239 : decode (qB q_M_init) 239 = .ok (.goto 4, 3) := by decide +kernel
theorem d_M_init_242 : decode (qB q_M_init) 242 = .ok (.iload_n 2, 1) := by decide +kernel
theorem d_M_init_243 : decode (qB q_M_init) 243 = .ok (.putfield 92, 3) := by decide +kernel
theorem d_M_init_246 : decode (qB q_M_init) 246 = .ok (.return_, 1) := by decide +kernel
set_option maxRecDepth 10000 in
theorem k_M_init {G : mxG} (hG : mx_GG G) : ∀ pc r, t_M_init pc = some r → mx_Ok G mx_W mx_MT q_M_init pc r := (bn_ok (bn_ok (bn_ok (bn_ok (bn_ok (bn_ok (bl_ok (ok_aload_n rfl d_M_init_0)) (bn_ok (bl_ok (ok_oin d_M_init_1 w_600 w_18 (w_oc) (by decide) (by decide))) (bl_ok (ok_aload_n rfl d_M_init_4)))) (bn_ok (bn_ok (bl_ok (ok_sipush (by decide) d_M_init_5)) (bl_ok (ok_newi d_M_init_8 w_114 (kt_0 hG)))) (bn_ok (bl_ok (ok_putf d_M_init_10 (cl_5 hG) (by decide) w_605 rfl (Or.inr ⟨rfl, rfl, rfl⟩))) (bl_ok (ok_aload_n rfl d_M_init_13))))) (bn_ok (bn_ok (bn_ok (bl_ok (ok_sipush (by decide) d_M_init_14)) (bl_ok (ok_newi d_M_init_17 w_114 (kt_0 hG)))) (bn_ok (bl_ok (ok_putf d_M_init_19 (cl_5 hG) (by decide) w_606 rfl (Or.inr ⟨rfl, rfl, rfl⟩))) (bl_ok (ok_aload_n rfl d_M_init_22)))) (bn_ok (bn_ok (bl_ok (ok_sipush (by decide) d_M_init_23)) (bl_ok (ok_newz d_M_init_26 w_115 (kt_2 hG)))) (bn_ok (bl_ok (ok_putf d_M_init_28 (cl_5 hG) (by decide) w_607 rfl (Or.inr ⟨rfl, rfl, rfl⟩))) (bl_ok (ok_aload_n rfl d_M_init_31)))))) (bn_ok (bn_ok (bn_ok (bl_ok (ok_sipush (by decide) d_M_init_32)) (bn_ok (bl_ok (ok_newi d_M_init_35 w_114 (kt_0 hG))) (bl_ok (ok_putf d_M_init_37 (cl_5 hG) (by decide) w_608 rfl (Or.inr ⟨rfl, rfl, rfl⟩))))) (bn_ok (bn_ok (bl_ok (ok_aload_n rfl d_M_init_40)) (bl_ok (ok_sipush (by decide) d_M_init_41))) (bn_ok (bl_ok (ok_newi d_M_init_44 w_114 (kt_0 hG))) (bl_ok (ok_putf d_M_init_46 (cl_5 hG) (by decide) w_609 rfl (Or.inr ⟨rfl, rfl, rfl⟩)))))) (bn_ok (bn_ok (bn_ok (bl_ok (ok_aload_n rfl d_M_init_49)) (bl_ok (ok_sipush (by decide) d_M_init_50))) (bn_ok (bl_ok (ok_newi d_M_init_53 w_114 (kt_0 hG))) (bl_ok (ok_putf d_M_init_55 (cl_5 hG) (by decide) w_610 rfl (Or.inr ⟨rfl, rfl, rfl⟩))))) (bn_ok (bn_ok (bl_ok (ok_aload_n rfl d_M_init_58)) (bl_ok (ok_sipush (by decide) d_M_init_59))) (bn_ok (bl_ok (ok_newi d_M_init_62 w_114 (kt_0 hG))) (bl_ok (ok_putf d_M_init_64 (cl_5 hG) (by decide) w_611 rfl (Or.inr ⟨rfl, rfl, rfl⟩)))))))) (bn_ok (bn_ok (bn_ok (bn_ok (bl_ok (ok_aload_n rfl d_M_init_67)) (bn_ok (bl_ok (ok_sipush (by decide) d_M_init_68)) (bl_ok (ok_newi d_M_init_71 w_114 (kt_0 hG))))) (bn_ok (bn_ok (bl_ok (ok_putf d_M_init_73 (cl_5 hG) (by decide) w_612 rfl (Or.inr ⟨rfl, rfl, rfl⟩))) (bl_ok (ok_aload_n rfl d_M_init_76))) (bn_ok (bl_ok (ok_iconst (by decide) d_M_init_77)) (bl_ok (ok_newi d_M_init_78 w_114 (kt_0 hG)))))) (bn_ok (bn_ok (bn_ok (bl_ok (ok_putf d_M_init_80 (cl_5 hG) (by decide) w_613 rfl (Or.inr ⟨rfl, rfl, rfl⟩))) (bl_ok (ok_aload_n rfl d_M_init_83))) (bn_ok (bl_ok (ok_iconst (by decide) d_M_init_84)) (bl_ok (ok_putf d_M_init_85 (cl_5 hG) (by decide) w_614 rfl (Or.inl rfl))))) (bn_ok (bn_ok (bl_ok (ok_aload_n rfl d_M_init_88)) (bl_ok (ok_sipush (by decide) d_M_init_89))) (bn_ok (bl_ok (ok_putf d_M_init_92 (cl_5 hG) (by decide) w_615 rfl (Or.inl rfl))) (bl_ok (ok_aload_n rfl d_M_init_95)))))) (bn_ok (bn_ok (bn_ok (bl_ok (ok_bipush (by decide) d_M_init_96)) (bn_ok (bl_ok (ok_putf d_M_init_98 (cl_5 hG) (by decide) w_616 rfl (Or.inl rfl))) (bl_ok (ok_aload_n rfl d_M_init_101)))) (bn_ok (bn_ok (bl_ok (ok_iconst (by decide) d_M_init_102)) (bl_ok (ok_putf d_M_init_103 (cl_5 hG) (by decide) w_618 rfl (Or.inl rfl)))) (bn_ok (bl_ok (ok_aload_n rfl d_M_init_106)) (bl_ok (ok_bipush (by decide) d_M_init_107))))) (bn_ok (bn_ok (bn_ok (bl_ok (ok_newi d_M_init_109 w_114 (kt_0 hG))) (bl_ok (ok_putf d_M_init_111 (cl_5 hG) (by decide) w_619 rfl (Or.inr ⟨rfl, rfl, rfl⟩)))) (bn_ok (bl_ok (ok_aload_n rfl d_M_init_114)) (bl_ok (ok_sipush (by decide) d_M_init_115)))) (bn_ok (bn_ok (bl_ok (ok_newi d_M_init_118 w_114 (kt_0 hG))) (bl_ok (ok_putf d_M_init_120 (cl_5 hG) (by decide) w_620 rfl (Or.inr ⟨rfl, rfl, rfl⟩)))) (bn_ok (bl_ok (ok_aload_n rfl d_M_init_123)) (bl_ok (ok_sipush (by decide) d_M_init_124)))))))) (bn_ok (bn_ok (bn_ok (bn_ok (bn_ok (bl_ok (ok_newi d_M_init_127 w_114 (kt_0 hG))) (bn_ok (bl_ok (ok_putf d_M_init_129 (cl_5 hG) (by decide) w_621 rfl (Or.inr ⟨rfl, rfl, rfl⟩))) (bl_ok (ok_aload_n rfl d_M_init_132)))) (bn_ok (bn_ok (bl_ok (ok_ldc2 d_M_init_133 w_601)) (bl_ok (ok_putf d_M_init_136 (cl_5 hG) (by decide) w_623 rfl (Or.inl rfl)))) (bn_ok (bl_ok (ok_aload_n rfl d_M_init_139)) (bl_ok (ok_sipush (by decide) d_M_init_140))))) (bn_ok (bn_ok (bn_ok (bl_ok (ok_newz d_M_init_143 w_115 (kt_2 hG))) (bl_ok (ok_putf d_M_init_145 (cl_5 hG) (by decide) w_628 rfl (Or.inr ⟨rfl, rfl, rfl⟩)))) (bn_ok (bl_ok (ok_aload_n rfl d_M_init_148)) (bl_ok (ok_ldc d_M_init_149 w_602)))) (bn_ok (bn_ok (bl_ok (ok_newl d_M_init_151 w_116 (kt_1 hG))) (bl_ok (ok_putf d_M_init_153 (cl_5 hG) (by decide) w_629 rfl (Or.inr ⟨rfl, rfl, rfl⟩)))) (bn_ok (bl_ok (ok_aload_n rfl d_M_init_156)) (bl_ok (ok_ldc d_M_init_157 w_602)))))) (bn_ok (bn_ok (bn_ok (bl_ok (ok_newi d_M_init_159 w_114 (kt_0 hG))) (bn_ok (bl_ok (ok_putf d_M_init_161 (cl_5 hG) (by decide) w_630 rfl (Or.inr ⟨rfl, rfl, rfl⟩))) (bl_ok (ok_aload_n rfl d_M_init_164)))) (bn_ok (bn_ok (bl_ok (ok_ldc d_M_init_165 w_602)) (bl_ok (ok_newi d_M_init_167 w_114 (kt_0 hG)))) (bn_ok (bl_ok (ok_putf d_M_init_169 (cl_5 hG) (by decide) w_631 rfl (Or.inr ⟨rfl, rfl, rfl⟩))) (bl_ok (ok_aload_n rfl d_M_init_172))))) (bn_ok (bn_ok (bn_ok (bl_ok (ok_ldc d_M_init_173 w_602)) (bl_ok (ok_newi d_M_init_175 w_114 (kt_0 hG)))) (bn_ok (bl_ok (ok_putf d_M_init_177 (cl_5 hG) (by decide) w_632 rfl (Or.inr ⟨rfl, rfl, rfl⟩))) (bl_ok (ok_aload_n rfl d_M_init_180)))) (bn_ok (bn_ok (bl_ok (ok_ldc d_M_init_181 w_602)) (bl_ok (ok_newi d_M_init_183 w_114 (kt_0 hG)))) (bn_ok (bl_ok (ok_putf d_M_init_185 (cl_5 hG) (by decide) w_633 rfl (Or.inr ⟨rfl, rfl, rfl⟩))) (bl_ok (ok_aload_n rfl d_M_init_188))))))) (bn_ok (bn_ok (bn_ok (bn_ok (bl_ok (ok_ldc d_M_init_189 w_602)) (bn_ok (bl_ok (ok_newi d_M_init_191 w_114 (kt_0 hG))) (bl_ok (ok_putf d_M_init_193 (cl_5 hG) (by decide) w_635 rfl (Or.inr ⟨rfl, rfl, rfl⟩))))) (bn_ok (bn_ok (bl_ok (ok_aload_n rfl d_M_init_196)) (bl_ok (ok_iload_n rfl d_M_init_197))) (bn_ok (bl_ok (ok_iconst (by decide) d_M_init_198)) (bl_ok (ok_icge d_M_init_199 (by decide)))))) (bn_ok (bn_ok (bn_ok (bl_ok (ok_iconst (by decide) d_M_init_202)) (bl_ok (ok_goto d_M_init_203 (by decide)))) (bn_ok (bl_ok (ok_iload_n rfl d_M_init_206)) (bl_ok (ok_bipush (by decide) d_M_init_207)))) (bn_ok (bn_ok (bl_ok (ok_icle d_M_init_209 (by decide))) (bl_ok (ok_bipush (by decide) d_M_init_212))) (bn_ok (bl_ok (ok_goto d_M_init_214 (by decide))) (bl_ok (ok_iload_n rfl d_M_init_217)))))) (bn_ok (bn_ok (bn_ok (bl_ok (ok_putf d_M_init_218 (cl_5 hG) (by decide) w_603 rfl (Or.inr ⟨rfl, rfl, rfl⟩))) (bn_ok (bl_ok (ok_aload_n rfl d_M_init_221)) (bl_ok (ok_iload_n rfl d_M_init_222)))) (bn_ok (bn_ok (bl_ok (ok_iconst (by decide) d_M_init_223)) (bl_ok (ok_icge d_M_init_224 (by decide)))) (bn_ok (bl_ok (ok_iconst (by decide) d_M_init_227)) (bl_ok (ok_goto d_M_init_228 (by decide)))))) (bn_ok (bn_ok (bn_ok (bl_ok (ok_iload_n rfl d_M_init_231)) (bl_ok (ok_bipush (by decide) d_M_init_232))) (bn_ok (bl_ok (ok_icle d_M_init_234 (by decide))) (bl_ok (ok_bipush (by decide) d_M_init_237)))) (bn_ok (bn_ok (bl_ok (ok_goto d_M_init_239 (by decide))) (bl_ok (ok_iload_n rfl d_M_init_242))) (bn_ok (bl_ok (ok_putf d_M_init_243 (cl_5 hG) (by decide) w_604 rfl (Or.inr ⟨rfl, rfl, rfl⟩))) (bl_ok (ok_return d_M_init_246 rfl)))))))))
theorem d_M_within_0 : decode (qB q_M_within) 0 = .ok (.lload_n 0, 1) := by decide +kernel
theorem d_M_within_1 : decode (qB q_M_within) 1 = .ok (.lload_n 2, 1) := by decide +kernel
theorem d_M_within_2 : decode (qB q_M_within) 2 = .ok (.lcmp, 1) := by decide +kernel
theorem d_M_within_3 : decode (qB q_M_within) 3 = .ok (.ifCond .lt 14, 3) := by decide +kernel
theorem d_M_within_6 : decode (qB q_M_within) 6 = .ok (.lload_n 0, 1) := by decide +kernel
theorem d_M_within_7 : decode (qB q_M_within) 7 = .ok (.lload 4, 2) := by decide +kernel
theorem d_M_within_9 : decode (qB q_M_within) 9 = .ok (.lcmp, 1) := by decide +kernel
theorem d_M_within_10 : decode (qB q_M_within) 10 = .ok (.ifCond .gt 7, 3) := by decide +kernel
theorem d_M_within_13 : decode (qB q_M_within) 13 = .ok (.iconst 1, 1) := by decide +kernel
theorem d_M_within_14 : decode (qB q_M_within) 14 = .ok (.goto 4, 3) := by decide +kernel
theorem d_M_within_17 : decode (qB q_M_within) 17 = .ok (.iconst 0, 1) := by decide +kernel
theorem d_M_within_18 : decode (qB q_M_within) 18 = .ok (.ireturn, 1) := by decide +kernel
set_option maxRecDepth 10000 in
theorem k_M_within {G : mxG} (hG : mx_GG G) : ∀ pc r, t_M_within pc = some r → mx_Ok G mx_W mx_MT q_M_within pc r := (bn_ok (bn_ok (bn_ok (bl_ok (ok_lload_n rfl d_M_within_0)) (bn_ok (bl_ok (ok_lload_n rfl d_M_within_1)) (bl_ok (ok_lcmp d_M_within_2)))) (bn_ok (bl_ok (ok_iflt d_M_within_3 (by decide))) (bn_ok (bl_ok (ok_lload_n rfl d_M_within_6)) (bl_ok (ok_lload d_M_within_7))))) (bn_ok (bn_ok (bl_ok (ok_lcmp d_M_within_9)) (bn_ok (bl_ok (ok_ifgt d_M_within_10 (by decide))) (bl_ok (ok_iconst (by decide) d_M_within_13)))) (bn_ok (bl_ok (ok_goto d_M_within_14 (by decide))) (bn_ok (bl_ok (ok_iconst (by decide) d_M_within_17)) (bl_ok (ok_zreturn d_M_within_18 rfl))))))
theorem d_M_isCell_0 : decode (qB q_M_isCell) 0 = .ok (.iload_n 1, 1) := by decide +kernel
theorem d_M_isCell_1 : decode (qB q_M_isCell) 1 = .ok (.i2l, 1) := by decide +kernel
theorem d_M_isCell_2 : decode (qB q_M_isCell) 2 = .ok (.lconst 0, 1) := by decide +kernel
theorem d_M_isCell_3 : decode (qB q_M_isCell) 3 = .ok (.aload_n 0, 1) := by decide +kernel
theorem d_M_isCell_4 : decode (qB q_M_isCell) 4 = .ok (.getfield 89, 3) := by decide +kernel
theorem d_M_isCell_7 : decode (qB q_M_isCell) 7 = .ok (.i2l, 1) := by decide +kernel
theorem d_M_isCell_8 : decode (qB q_M_isCell) 8 = .ok (.lconst 1, 1) := by decide +kernel
theorem d_M_isCell_9 : decode (qB q_M_isCell) 9 = .ok (.lsub, 1) := by decide +kernel
theorem d_M_isCell_10 : decode (qB q_M_isCell) 10 = .ok (.invokestatic 95, 3) := by decide +kernel
theorem d_M_isCell_13 : decode (qB q_M_isCell) 13 = .ok (.ifCond .eq 23, 3) := by decide +kernel
theorem d_M_isCell_16 : decode (qB q_M_isCell) 16 = .ok (.iload_n 2, 1) := by decide +kernel
theorem d_M_isCell_17 : decode (qB q_M_isCell) 17 = .ok (.i2l, 1) := by decide +kernel
theorem d_M_isCell_18 : decode (qB q_M_isCell) 18 = .ok (.lconst 0, 1) := by decide +kernel
theorem d_M_isCell_19 : decode (qB q_M_isCell) 19 = .ok (.aload_n 0, 1) := by decide +kernel
theorem d_M_isCell_20 : decode (qB q_M_isCell) 20 = .ok (.getfield 92, 3) := by decide +kernel
theorem d_M_isCell_23 : decode (qB q_M_isCell) 23 = .ok (.i2l, 1) := by decide +kernel
theorem d_M_isCell_24 : decode (qB q_M_isCell) 24 = .ok (.lconst 1, 1) := by decide +kernel
theorem d_M_isCell_25 : decode (qB q_M_isCell) 25 = .ok (.lsub, 1) := by decide +kernel
theorem d_M_isCell_26 : decode (qB q_M_isCell) 26 = .ok (.invokestatic 95, 3) := by decide +kernel
theorem d_M_isCell_29 : decode (qB q_M_isCell) 29 = .ok (.ifCond .eq 7, 3) := by decide +kernel
theorem d_M_isCell_32 : decode (qB q_M_isCell) 32 = .ok (.iconst 1, 1) := by decide +kernel
theorem d_M_isCell_33 : decode (qB q_M_isCell) 33 = .ok (.goto 4, 3) := by decide +kernel
theorem d_M_isCell_36 : decode (qB q_M_isCell) 36 = .ok (.iconst 0, 1) := by decide +kernel
theorem d_M_isCell_37 : decode (qB q_M_isCell) 37 = .ok (.ireturn, 1) := by decide +kernel
set_option maxRecDepth 10000 in
theorem k_M_isCell {G : mxG} (hG : mx_GG G) : ∀ pc r, t_M_isCell pc = some r → mx_Ok G mx_W mx_MT q_M_isCell pc r := (bn_ok (bn_ok (bn_ok (bn_ok (bl_ok (ok_iload_n rfl d_M_isCell_0)) (bn_ok (bl_ok (ok_i2l d_M_isCell_1)) (bl_ok (ok_lconst (by decide) d_M_isCell_2)))) (bn_ok (bl_ok (ok_aload_n rfl d_M_isCell_3)) (bn_ok (bl_ok (ok_getf d_M_isCell_4 (cl_5 hG) (by decide) w_603)) (bl_ok (ok_i2l d_M_isCell_7))))) (bn_ok (bn_ok (bl_ok (ok_lconst (by decide) d_M_isCell_8)) (bn_ok (bl_ok (ok_lsub d_M_isCell_9)) (bl_ok (ok_cs mx_W_good d_M_isCell_10 (mt_M_within) mk_M_within w_711 w_712 (by decide) (by decide))))) (bn_ok (bl_ok (ok_ifeq d_M_isCell_13 (by decide))) (bn_ok (bl_ok (ok_iload_n rfl d_M_isCell_16)) (bl_ok (ok_i2l d_M_isCell_17)))))) (bn_ok (bn_ok (bn_ok (bl_ok (ok_lconst (by decide) d_M_isCell_18)) (bn_ok (bl_ok (ok_aload_n rfl d_M_isCell_19)) (bl_ok (ok_getf d_M_isCell_20 (cl_5 hG) (by decide) w_604)))) (bn_ok (bl_ok (ok_i2l d_M_isCell_23)) (bn_ok (bl_ok (ok_lconst (by decide) d_M_isCell_24)) (bl_ok (ok_lsub d_M_isCell_25))))) (bn_ok (bn_ok (bl_ok (ok_cs mx_W_good d_M_isCell_26 (mt_M_within) mk_M_within w_711 w_712 (by decide) (by decide))) (bn_ok (bl_ok (ok_ifeq d_M_isCell_29 (by decide))) (bl_ok (ok_iconst (by decide) d_M_isCell_32)))) (bn_ok (bl_ok (ok_goto d_M_isCell_33 (by decide))) (bn_ok (bl_ok (ok_iconst (by decide) d_M_isCell_36)) (bl_ok (ok_zreturn d_M_isCell_37 rfl)))))))
theorem d_M_cell_0 : decode (qB q_M_cell) 0 = .ok (.aload_n 0, 1) := by decide +kernel
theorem d_M_cell_1 : decode (qB q_M_cell) 1 = .ok (.iload_n 1, 1) := by decide +kernel
theorem d_M_cell_2 : decode (qB q_M_cell) 2 = .ok (.iload_n 2, 1) := by decide +kernel
theorem d_M_cell_3 : decode (qB q_M_cell) 3 = .ok (.invokevirtual 99, 3) := by decide +kernel
theorem d_M_cell_6 : decode (qB q_M_cell) 6 = .ok (.ifCond .eq 28, 3) := by decide +kernel
theorem d_M_cell_9 : decode (qB q_M_cell) 9 = .ok (.iload_n 3, 1) := by decide +kernel
theorem d_M_cell_10 : decode (qB q_M_cell) 10 = .ok (.i2l, 1) := by decide +kernel
theorem d_M_cell_11 : decode (qB q_M_cell) 11 = .ok (.lconst 0, 1) := by decide +kernel
theorem d_M_cell_12 : decode (qB q_M_cell) 12 = .ok (.ldc2_w 103, 3) := by decide +kernel
theorem d_M_cell_15 : decode (qB q_M_cell) 15 = .ok (.invokestatic 95, 3) := by decide +kernel
theorem d_M_cell_18 : decode (qB q_M_cell) 18 = .ok (.ifCond .eq 16, 3) := by decide +kernel
theorem d_M_cell_21 : decode (qB q_M_cell) 21 = .ok (.iload 4, 2) := by decide +kernel
theorem d_M_cell_23 : decode (qB q_M_cell) 23 = .ok (.i2l, 1) := by decide +kernel
theorem d_M_cell_24 : decode (qB q_M_cell) 24 = .ok (.lconst 0, 1) := by decide +kernel
theorem d_M_cell_25 : decode (qB q_M_cell) 25 = .ok (.ldc2_w 105, 3) := by decide +kernel
theorem d_M_cell_28 : decode (qB q_M_cell) 28 = .ok (.invokestatic 95, 3) := by decide +kernel
theorem d_M_cell_31 : decode (qB q_M_cell) 31 = .ok (.ifCond .ne 5, 3) := by decide +kernel
theorem d_M_cell_34 : decode (qB q_M_cell) 34 = .ok (.iconst 0, 1) := by decide +kernel
theorem d_M_cell_35 : decode (qB q_M_cell) 35 = .ok (.ireturn, 1) := by decide +kernel
theorem d_M_cell_36 : decode (qB q_M_cell) 36 = .ok (.aload_n 0, 1) := by decide +kernel
theorem d_M_cell_37 : decode (qB q_M_cell) 37 = .ok (.getfield 7, 3) := by decide +kernel
theorem d_M_cell_40 : decode (qB q_M_cell) 40 = .ok (.iload_n 2, 1) := by decide +kernel
theorem d_M_cell_41 : decode (qB q_M_cell) 41 = .ok (.aload_n 0, 1) := by decide +kernel
theorem d_M_cell_42 : decode (qB q_M_cell) 42 = .ok (.getfield 89, 3) := by decide +kernel
theorem d_M_cell_45 : decode (qB q_M_cell) 45 = .ok (.imul, 1) := by decide +kernel
theorem d_M_cell_46 : decode (qB q_M_cell) 46 = .ok (.iload_n 1, 1) := by decide +kernel
theorem d_M_cell_47 : decode (qB q_M_cell) 47 = .ok (.iadd, 1) := by decide +kernel
theorem d_M_cell_48 : decode (qB q_M_cell) 48 = .ok (.iload_n 3, 1) := by decide +kernel
theorem d_M_cell_49 : decode (qB q_M_cell) 49 = .ok (.iastore, 1) := by decide +kernel
theorem d_M_cell_50 : decode (qB q_M_cell) 50 = .ok (.aload_n 0, 1) := by decide +kernel
theorem d_M_cell_51 : decode (qB q_M_cell) 51 = .ok (.getfield 13, 3) := by decide +kernel
theorem d_M_cell_54 : decode (qB q_M_cell) 54 = .ok (.iload_n 2, 1) := by decide +kernel
theorem d_M_cell_55 : decode (qB q_M_cell) 55 = .ok (.aload_n 0, 1) := by decide +kernel
theorem d_M_cell_56 : decode (qB q_M_cell) 56 = .ok (.getfield 89, 3) := by decide +kernel
theorem d_M_cell_59 : decode (qB q_M_cell) 59 = .ok (.imul, 1) := by decide +kernel
theorem d_M_cell_60 : decode (qB q_M_cell) 60 = .ok (.iload_n 1, 1) := by decide +kernel
theorem d_M_cell_61 : decode (qB q_M_cell) 61 = .ok (.iadd, 1) := by decide +kernel
theorem d_M_cell_62 : decode (qB q_M_cell) 62 = .ok (.iload 4, 2) := by decide +kernel
theorem d_M_cell_64 : decode (qB q_M_cell) 64 = .ok (.iastore, 1) := by decide +kernel
theorem d_M_cell_65 : decode (qB q_M_cell) 65 = .ok (.iconst 1, 1) := by decide +kernel
theorem d_M_cell_66 : decode (qB q_M_cell) 66 = .ok (.ireturn, 1) := by decide +kernel
set_option maxRecDepth 10000 in
theorem k_M_cell {G : mxG} (hG : mx_GG G) : ∀ pc r, t_M_cell pc = some r → mx_Ok G mx_W mx_MT q_M_cell pc r := (bn_ok (bn_ok (bn_ok (bn_ok (bn_ok (bl_ok (ok_aload_n rfl d_M_cell_0)) (bl_ok (ok_iload_n rfl d_M_cell_1))) (bn_ok (bl_ok (ok_iload_n rfl d_M_cell_2)) (bn_ok (bl_ok (ok_cv mx_W_good (cl_5 hG) d_M_cell_3 (mt_M_isCell) mk_M_isCell w_707 w_709 ws_M_isCell (by decide) (by decide))) (bl_ok (ok_ifeq d_M_cell_6 (by decide)))))) (bn_ok (bn_ok (bl_ok (ok_iload_n rfl d_M_cell_9)) (bl_ok (ok_i2l d_M_cell_10))) (bn_ok (bl_ok (ok_lconst (by decide) d_M_cell_11)) (bn_ok (bl_ok (ok_ldc2 d_M_cell_12 w_714)) (bl_ok (ok_cs mx_W_good d_M_cell_15 (mt_M_within) mk_M_within w_711 w_712 (by decide) (by decide))))))) (bn_ok (bn_ok (bn_ok (bl_ok (ok_ifeq d_M_cell_18 (by decide))) (bl_ok (ok_iload d_M_cell_21))) (bn_ok (bl_ok (ok_i2l d_M_cell_23)) (bn_ok (bl_ok (ok_lconst (by decide) d_M_cell_24)) (bl_ok (ok_ldc2 d_M_cell_25 w_715))))) (bn_ok (bn_ok (bl_ok (ok_cs mx_W_good d_M_cell_28 (mt_M_within) mk_M_within w_711 w_712 (by decide) (by decide))) (bl_ok (ok_ifne d_M_cell_31 (by decide)))) (bn_ok (bl_ok (ok_iconst (by decide) d_M_cell_34)) (bn_ok (bl_ok (ok_zreturn d_M_cell_35 rfl)) (bl_ok (ok_aload_n rfl d_M_cell_36))))))) (bn_ok (bn_ok (bn_ok (bn_ok (bl_ok (ok_getf d_M_cell_37 (cl_5 hG) (by decide) w_605)) (bl_ok (ok_iload_n rfl d_M_cell_40))) (bn_ok (bl_ok (ok_aload_n rfl d_M_cell_41)) (bn_ok (bl_ok (ok_getf d_M_cell_42 (cl_5 hG) (by decide) w_603)) (bl_ok (ok_imul d_M_cell_45))))) (bn_ok (bn_ok (bl_ok (ok_iload_n rfl d_M_cell_46)) (bl_ok (ok_iadd d_M_cell_47))) (bn_ok (bl_ok (ok_iload_n rfl d_M_cell_48)) (bn_ok (bl_ok (ok_iast d_M_cell_49 (kt_0 hG))) (bl_ok (ok_aload_n rfl d_M_cell_50)))))) (bn_ok (bn_ok (bn_ok (bl_ok (ok_getf d_M_cell_51 (cl_5 hG) (by decide) w_606)) (bl_ok (ok_iload_n rfl d_M_cell_54))) (bn_ok (bl_ok (ok_aload_n rfl d_M_cell_55)) (bn_ok (bl_ok (ok_getf d_M_cell_56 (cl_5 hG) (by decide) w_603)) (bl_ok (ok_imul d_M_cell_59))))) (bn_ok (bn_ok (bl_ok (ok_iload_n rfl d_M_cell_60)) (bn_ok (bl_ok (ok_iadd d_M_cell_61)) (bl_ok (ok_iload d_M_cell_62)))) (bn_ok (bl_ok (ok_iast d_M_cell_64 (kt_0 hG))) (bn_ok (bl_ok (ok_iconst (by decide) d_M_cell_65)) (bl_ok (ok_zreturn d_M_cell_66 rfl))))))))
theorem d_M_bar_0 : decode (qB q_M_bar) 0 = .ok (.aload_n 0, 1) := by decide +kernel
theorem d_M_bar_1 : decode (qB q_M_bar) 1 = .ok (.iload_n 1, 1) := by decide +kernel
theorem d_M_bar_2 : decode (qB q_M_bar) 2 = .ok (.iload_n 2, 1) := by decide +kernel
theorem d_M_bar_3 : decode (qB q_M_bar) 3 = .ok (.invokevirtual 99, 3) := by decide +kernel
theorem d_M_bar_6 : decode (qB q_M_bar) 6 = .ok (.ifCond .eq 19, 3) := by decide +kernel
theorem d_M_bar_9 : decode (qB q_M_bar) 9 = .ok (.aload_n 0, 1) := by decide +kernel
theorem d_M_bar_10 : decode (qB q_M_bar) 10 = .ok (.getfield 16, 3) := by decide +kernel
theorem d_M_bar_13 : decode (qB q_M_bar) 13 = .ok (.iload_n 2, 1) := by decide +kernel
theorem d_M_bar_14 : decode (qB q_M_bar) 14 = .ok (.aload_n 0, 1) := by decide +kernel
theorem d_M_bar_15 : decode (qB q_M_bar) 15 = .ok (.getfield 89, 3) := by decide +kernel
theorem d_M_bar_18 : decode (qB q_M_bar) 18 = .ok (.imul, 1) := by decide +kernel
theorem d_M_bar_19 : decode (qB q_M_bar) 19 = .ok (.iload_n 1, 1) := by decide +kernel
theorem d_M_bar_20 : decode (qB q_M_bar) 20 = .ok (.iadd, 1) := by decide +kernel
theorem d_M_bar_21 : decode (qB q_M_bar) 21 = .ok (.baload, 1) := by decide +kernel
theorem d_M_bar_22 : decode (qB q_M_bar) 22 = .ok (.ifCond .eq 5, 3) := by decide +kernel
theorem d_M_bar_25 : decode (qB q_M_bar) 25 = .ok (.iconst 0, 1) := by decide +kernel
theorem d_M_bar_26 : decode (qB q_M_bar) 26 = .ok (.ireturn, 1) := by decide +kernel
theorem d_M_bar_27 : decode (qB q_M_bar) 27 = .ok (.aload_n 0, 1) := by decide +kernel
theorem d_M_bar_28 : decode (qB q_M_bar) 28 = .ok (.getfield 16, 3) := by decide +kernel
theorem d_M_bar_31 : decode (qB q_M_bar) 31 = .ok (.iload_n 2, 1) := by decide +kernel
theorem d_M_bar_32 : decode (qB q_M_bar) 32 = .ok (.aload_n 0, 1) := by decide +kernel
theorem d_M_bar_33 : decode (qB q_M_bar) 33 = .ok (.getfield 89, 3) := by decide +kernel
theorem d_M_bar_36 : decode (qB q_M_bar) 36 = .ok (.imul, 1) := by decide +kernel
theorem d_M_bar_37 : decode (qB q_M_bar) 37 = .ok (.iload_n 1, 1) := by decide +kernel
theorem d_M_bar_38 : decode (qB q_M_bar) 38 = .ok (.iadd, 1) := by decide +kernel
theorem d_M_bar_39 : decode (qB q_M_bar) 39 = .ok (.iconst 1, 1) := by decide +kernel
theorem d_M_bar_40 : decode (qB q_M_bar) 40 = .ok (.bastore, 1) := by decide +kernel
theorem d_M_bar_41 : decode (qB q_M_bar) 41 = .ok (.iconst 1, 1) := by decide +kernel
theorem d_M_bar_42 : decode (qB q_M_bar) 42 = .ok (.ireturn, 1) := by decide +kernel
set_option maxRecDepth 10000 in
theorem k_M_bar {G : mxG} (hG : mx_GG G) : ∀ pc r, t_M_bar pc = some r → mx_Ok G mx_W mx_MT q_M_bar pc r := (bn_ok (bn_ok (bn_ok (bn_ok (bl_ok (ok_aload_n rfl d_M_bar_0)) (bn_ok (bl_ok (ok_iload_n rfl d_M_bar_1)) (bl_ok (ok_iload_n rfl d_M_bar_2)))) (bn_ok (bn_ok (bl_ok (ok_cv mx_W_good (cl_5 hG) d_M_bar_3 (mt_M_isCell) mk_M_isCell w_707 w_709 ws_M_isCell (by decide) (by decide))) (bl_ok (ok_ifeq d_M_bar_6 (by decide)))) (bn_ok (bl_ok (ok_aload_n rfl d_M_bar_9)) (bl_ok (ok_getf d_M_bar_10 (cl_5 hG) (by decide) w_607))))) (bn_ok (bn_ok (bl_ok (ok_iload_n rfl d_M_bar_13)) (bn_ok (bl_ok (ok_aload_n rfl d_M_bar_14)) (bl_ok (ok_getf d_M_bar_15 (cl_5 hG) (by decide) w_603)))) (bn_ok (bn_ok (bl_ok (ok_imul d_M_bar_18)) (bl_ok (ok_iload_n rfl d_M_bar_19))) (bn_ok (bl_ok (ok_iadd d_M_bar_20)) (bl_ok (ok_zald d_M_bar_21 (kt_2 hG))))))) (bn_ok (bn_ok (bn_ok (bl_ok (ok_ifeq d_M_bar_22 (by decide))) (bn_ok (bl_ok (ok_iconst (by decide) d_M_bar_25)) (bl_ok (ok_zreturn d_M_bar_26 rfl)))) (bn_ok (bn_ok (bl_ok (ok_aload_n rfl d_M_bar_27)) (bl_ok (ok_getf d_M_bar_28 (cl_5 hG) (by decide) w_607))) (bn_ok (bl_ok (ok_iload_n rfl d_M_bar_31)) (bl_ok (ok_aload_n rfl d_M_bar_32))))) (bn_ok (bn_ok (bn_ok (bl_ok (ok_getf d_M_bar_33 (cl_5 hG) (by decide) w_603)) (bl_ok (ok_imul d_M_bar_36))) (bn_ok (bl_ok (ok_iload_n rfl d_M_bar_37)) (bl_ok (ok_iadd d_M_bar_38)))) (bn_ok (bn_ok (bl_ok (ok_iconst (by decide) d_M_bar_39)) (bl_ok (ok_zast d_M_bar_40 (kt_2 hG)))) (bn_ok (bl_ok (ok_iconst (by decide) d_M_bar_41)) (bl_ok (ok_zreturn d_M_bar_42 rfl)))))))
theorem d_M_moves_0 : decode (qB q_M_moves) 0 = .ok (.iload_n 1, 1) := by decide +kernel
theorem d_M_moves_1 : decode (qB q_M_moves) 1 = .ok (.i2l, 1) := by decide +kernel
theorem d_M_moves_2 : decode (qB q_M_moves) 2 = .ok (.lconst 1, 1) := by decide +kernel
theorem d_M_moves_3 : decode (qB q_M_moves) 3 = .ok (.ldc2_w 107, 3) := by decide +kernel
theorem d_M_moves_6 : decode (qB q_M_moves) 6 = .ok (.invokestatic 95, 3) := by decide +kernel
theorem d_M_moves_9 : decode (qB q_M_moves) 9 = .ok (.ifCond .eq 27, 3) := by decide +kernel
theorem d_M_moves_12 : decode (qB q_M_moves) 12 = .ok (.iload_n 2, 1) := by decide +kernel
theorem d_M_moves_13 : decode (qB q_M_moves) 13 = .ok (.i2l, 1) := by decide +kernel
theorem d_M_moves_14 : decode (qB q_M_moves) 14 = .ok (.lconst 0, 1) := by decide +kernel
theorem d_M_moves_15 : decode (qB q_M_moves) 15 = .ok (.ldc2_w 105, 3) := by decide +kernel
theorem d_M_moves_18 : decode (qB q_M_moves) 18 = .ok (.invokestatic 95, 3) := by decide +kernel
theorem d_M_moves_21 : decode (qB q_M_moves) 21 = .ok (.ifCond .eq 15, 3) := by decide +kernel
theorem d_M_moves_24 : decode (qB q_M_moves) 24 = .ok (.iload_n 3, 1) := by decide +kernel
theorem d_M_moves_25 : decode (qB q_M_moves) 25 = .ok (.i2l, 1) := by decide +kernel
theorem d_M_moves_26 : decode (qB q_M_moves) 26 = .ok (.lconst 0, 1) := by decide +kernel
theorem d_M_moves_27 : decode (qB q_M_moves) 27 = .ok (.ldc2_w 109, 3) := by decide +kernel
theorem d_M_moves_30 : decode (qB q_M_moves) 30 = .ok (.invokestatic 95, 3) := by decide +kernel
theorem d_M_moves_33 : decode (qB q_M_moves) 33 = .ok (.ifCond .ne 5, 3) := by decide +kernel
theorem d_M_moves_36 : decode (qB q_M_moves) 36 = .ok (.iconst 0, 1) := by decide +kernel
theorem d_M_moves_37 : decode (qB q_M_moves) 37 = .ok (.ireturn, 1) := by decide +kernel
theorem d_M_moves_38 : decode (qB q_M_moves) 38 = .ok (.aload_n 0, 1) := by decide +kernel
theorem d_M_moves_39 : decode (qB q_M_moves) 39 = .ok (.iload_n 1, 1) := by decide +kernel
theorem d_M_moves_40 : decode (qB q_M_moves) 40 = .ok (.putfield 38, 3) := by decide +kernel
theorem d_M_moves_43 : decode (qB q_M_moves) 43 = .ok (.aload_n 0, 1) := by decide +kernel
theorem d_M_moves_44 : decode (qB q_M_moves) 44 = .ok (.iload_n 2, 1) := by decide +kernel
theorem d_M_moves_45 : decode (qB q_M_moves) 45 = .ok (.putfield 42, 3) := by decide +kernel
theorem d_M_moves_48 : decode (qB q_M_moves) 48 = .ok (.aload_n 0, 1) := by decide +kernel
theorem d_M_moves_49 : decode (qB q_M_moves) 49 = .ok (.iload_n 3, 1) := by decide +kernel
theorem d_M_moves_50 : decode (qB q_M_moves) 50 = .ok (.putfield 45, 3) := by decide +kernel
theorem d_M_moves_53 : decode (qB q_M_moves) 53 = .ok (.iconst 1, 1) := by decide +kernel
theorem d_M_moves_54 : decode (qB q_M_moves) 54 = .ok (.ireturn, 1) := by decide +kernel
set_option maxRecDepth 10000 in
theorem k_M_moves {G : mxG} (hG : mx_GG G) : ∀ pc r, t_M_moves pc = some r → mx_Ok G mx_W mx_MT q_M_moves pc r := (bn_ok (bn_ok (bn_ok (bn_ok (bl_ok (ok_iload_n rfl d_M_moves_0)) (bn_ok (bl_ok (ok_i2l d_M_moves_1)) (bl_ok (ok_lconst (by decide) d_M_moves_2)))) (bn_ok (bn_ok (bl_ok (ok_ldc2 d_M_moves_3 w_724)) (bl_ok (ok_cs mx_W_good d_M_moves_6 (mt_M_within) mk_M_within w_711 w_712 (by decide) (by decide)))) (bn_ok (bl_ok (ok_ifeq d_M_moves_9 (by decide))) (bl_ok (ok_iload_n rfl d_M_moves_12))))) (bn_ok (bn_ok (bn_ok (bl_ok (ok_i2l d_M_moves_13)) (bl_ok (ok_lconst (by decide) d_M_moves_14))) (bn_ok (bl_ok (ok_ldc2 d_M_moves_15 w_715)) (bl_ok (ok_cs mx_W_good d_M_moves_18 (mt_M_within) mk_M_within w_711 w_712 (by decide) (by decide))))) (bn_ok (bn_ok (bl_ok (ok_ifeq d_M_moves_21 (by decide))) (bl_ok (ok_iload_n rfl d_M_moves_24))) (bn_ok (bl_ok (ok_i2l d_M_moves_25)) (bl_ok (ok_lconst (by decide) d_M_moves_26)))))) (bn_ok (bn_ok (bn_ok (bn_ok (bl_ok (ok_ldc2 d_M_moves_27 w_725)) (bl_ok (ok_cs mx_W_good d_M_moves_30 (mt_M_within) mk_M_within w_711 w_712 (by decide) (by decide)))) (bn_ok (bl_ok (ok_ifne d_M_moves_33 (by decide))) (bl_ok (ok_iconst (by decide) d_M_moves_36)))) (bn_ok (bn_ok (bl_ok (ok_zreturn d_M_moves_37 rfl)) (bl_ok (ok_aload_n rfl d_M_moves_38))) (bn_ok (bl_ok (ok_iload_n rfl d_M_moves_39)) (bl_ok (ok_putf d_M_moves_40 (cl_5 hG) (by decide) w_614 rfl (Or.inl rfl)))))) (bn_ok (bn_ok (bn_ok (bl_ok (ok_aload_n rfl d_M_moves_43)) (bl_ok (ok_iload_n rfl d_M_moves_44))) (bn_ok (bl_ok (ok_putf d_M_moves_45 (cl_5 hG) (by decide) w_615 rfl (Or.inl rfl))) (bl_ok (ok_aload_n rfl d_M_moves_48)))) (bn_ok (bn_ok (bl_ok (ok_iload_n rfl d_M_moves_49)) (bl_ok (ok_putf d_M_moves_50 (cl_5 hG) (by decide) w_616 rfl (Or.inl rfl)))) (bn_ok (bl_ok (ok_iconst (by decide) d_M_moves_53)) (bl_ok (ok_zreturn d_M_moves_54 rfl)))))))
theorem d_M_aim_0 : decode (qB q_M_aim) 0 = .ok (.iload_n 1, 1) := by decide +kernel
theorem d_M_aim_1 : decode (qB q_M_aim) 1 = .ok (.i2l, 1) := by decide +kernel
theorem d_M_aim_2 : decode (qB q_M_aim) 2 = .ok (.lconst 0, 1) := by decide +kernel
theorem d_M_aim_3 : decode (qB q_M_aim) 3 = .ok (.ldc2_w 111, 3) := by decide +kernel
theorem d_M_aim_6 : decode (qB q_M_aim) 6 = .ok (.invokestatic 95, 3) := by decide +kernel
theorem d_M_aim_9 : decode (qB q_M_aim) 9 = .ok (.ifCond .eq 24, 3) := by decide +kernel
theorem d_M_aim_12 : decode (qB q_M_aim) 12 = .ok (.aload_n 0, 1) := by decide +kernel
theorem d_M_aim_13 : decode (qB q_M_aim) 13 = .ok (.iload_n 2, 1) := by decide +kernel
theorem d_M_aim_14 : decode (qB q_M_aim) 14 = .ok (.iload_n 3, 1) := by decide +kernel
theorem d_M_aim_15 : decode (qB q_M_aim) 15 = .ok (.invokevirtual 99, 3) := by decide +kernel
theorem d_M_aim_18 : decode (qB q_M_aim) 18 = .ok (.ifCond .eq 15, 3) := by decide +kernel
theorem d_M_aim_21 : decode (qB q_M_aim) 21 = .ok (.lload 4, 2) := by decide +kernel
theorem d_M_aim_23 : decode (qB q_M_aim) 23 = .ok (.lconst 0, 1) := by decide +kernel
theorem d_M_aim_24 : decode (qB q_M_aim) 24 = .ok (.ldc2_w 103, 3) := by decide +kernel
theorem d_M_aim_27 : decode (qB q_M_aim) 27 = .ok (.invokestatic 95, 3) := by decide +kernel
theorem d_M_aim_30 : decode (qB q_M_aim) 30 = .ok (.ifCond .ne 5, 3) := by decide +kernel
theorem d_M_aim_33 : decode (qB q_M_aim) 33 = .ok (.iconst 0, 1) := by decide +kernel
theorem d_M_aim_34 : decode (qB q_M_aim) 34 = .ok (.ireturn, 1) := by decide +kernel
theorem d_M_aim_35 : decode (qB q_M_aim) 35 = .ok (.aload_n 0, 1) := by decide +kernel
theorem d_M_aim_36 : decode (qB q_M_aim) 36 = .ok (.getfield 26, 3) := by decide +kernel
theorem d_M_aim_39 : decode (qB q_M_aim) 39 = .ok (.sipush 144, 3) := by decide +kernel
theorem d_M_aim_42 : decode (qB q_M_aim) 42 = .ok (.iload_n 1, 1) := by decide +kernel
theorem d_M_aim_43 : decode (qB q_M_aim) 43 = .ok (.imul, 1) := by decide +kernel
theorem d_M_aim_44 : decode (qB q_M_aim) 44 = .ok (.iload_n 3, 1) := by decide +kernel
theorem d_M_aim_45 : decode (qB q_M_aim) 45 = .ok (.aload_n 0, 1) := by decide +kernel
theorem d_M_aim_46 : decode (qB q_M_aim) 46 = .ok (.getfield 89, 3) := by decide +kernel
theorem d_M_aim_49 : decode (qB q_M_aim) 49 = .ok (.imul, 1) := by decide +kernel
theorem d_M_aim_50 : decode (qB q_M_aim) 50 = .ok (.iadd, 1) := by decide +kernel
theorem d_M_aim_51 : decode (qB q_M_aim) 51 = .ok (.iload_n 2, 1) := by decide +kernel
theorem d_M_aim_52 : decode (qB q_M_aim) 52 = .ok (.iadd, 1) := by decide +kernel
theorem d_M_aim_53 : decode (qB q_M_aim) 53 = .ok (.lload 4, 2) := by decide +kernel
theorem d_M_aim_55 : decode (qB q_M_aim) 55 = .ok (.l2i, 1) := by decide +kernel
theorem d_M_aim_56 : decode (qB q_M_aim) 56 = .ok (.iastore, 1) := by decide +kernel
theorem d_M_aim_57 : decode (qB q_M_aim) 57 = .ok (.iconst 1, 1) := by decide +kernel
theorem d_M_aim_58 : decode (qB q_M_aim) 58 = .ok (.ireturn, 1) := by decide +kernel
set_option maxRecDepth 10000 in
theorem k_M_aim {G : mxG} (hG : mx_GG G) : ∀ pc r, t_M_aim pc = some r → mx_Ok G mx_W mx_MT q_M_aim pc r := (bn_ok (bn_ok (bn_ok (bn_ok (bn_ok (bl_ok (ok_iload_n rfl d_M_aim_0)) (bl_ok (ok_i2l d_M_aim_1))) (bn_ok (bl_ok (ok_lconst (by decide) d_M_aim_2)) (bl_ok (ok_ldc2 d_M_aim_3 w_730)))) (bn_ok (bn_ok (bl_ok (ok_cs mx_W_good d_M_aim_6 (mt_M_within) mk_M_within w_711 w_712 (by decide) (by decide))) (bl_ok (ok_ifeq d_M_aim_9 (by decide)))) (bn_ok (bl_ok (ok_aload_n rfl d_M_aim_12)) (bl_ok (ok_iload_n rfl d_M_aim_13))))) (bn_ok (bn_ok (bn_ok (bl_ok (ok_iload_n rfl d_M_aim_14)) (bl_ok (ok_cv mx_W_good (cl_5 hG) d_M_aim_15 (mt_M_isCell) mk_M_isCell w_707 w_709 ws_M_isCell (by decide) (by decide)))) (bn_ok (bl_ok (ok_ifeq d_M_aim_18 (by decide))) (bl_ok (ok_lload d_M_aim_21)))) (bn_ok (bn_ok (bl_ok (ok_lconst (by decide) d_M_aim_23)) (bl_ok (ok_ldc2 d_M_aim_24 w_714))) (bn_ok (bl_ok (ok_cs mx_W_good d_M_aim_27 (mt_M_within) mk_M_within w_711 w_712 (by decide) (by decide))) (bn_ok (bl_ok (ok_ifne d_M_aim_30 (by decide))) (bl_ok (ok_iconst (by decide) d_M_aim_33))))))) (bn_ok (bn_ok (bn_ok (bn_ok (bl_ok (ok_zreturn d_M_aim_34 rfl)) (bl_ok (ok_aload_n rfl d_M_aim_35))) (bn_ok (bl_ok (ok_getf d_M_aim_36 (cl_5 hG) (by decide) w_610)) (bl_ok (ok_sipush (by decide) d_M_aim_39)))) (bn_ok (bn_ok (bl_ok (ok_iload_n rfl d_M_aim_42)) (bl_ok (ok_imul d_M_aim_43))) (bn_ok (bl_ok (ok_iload_n rfl d_M_aim_44)) (bn_ok (bl_ok (ok_aload_n rfl d_M_aim_45)) (bl_ok (ok_getf d_M_aim_46 (cl_5 hG) (by decide) w_603)))))) (bn_ok (bn_ok (bn_ok (bl_ok (ok_imul d_M_aim_49)) (bl_ok (ok_iadd d_M_aim_50))) (bn_ok (bl_ok (ok_iload_n rfl d_M_aim_51)) (bl_ok (ok_iadd d_M_aim_52)))) (bn_ok (bn_ok (bl_ok (ok_lload d_M_aim_53)) (bl_ok (ok_l2i d_M_aim_55))) (bn_ok (bl_ok (ok_iast d_M_aim_56 (kt_0 hG))) (bn_ok (bl_ok (ok_iconst (by decide) d_M_aim_57)) (bl_ok (ok_zreturn d_M_aim_58 rfl))))))))
theorem d_M_weight_0 : decode (qB q_M_weight) 0 = .ok (.iload_n 1, 1) := by decide +kernel
theorem d_M_weight_1 : decode (qB q_M_weight) 1 = .ok (.i2l, 1) := by decide +kernel
theorem d_M_weight_2 : decode (qB q_M_weight) 2 = .ok (.lconst 0, 1) := by decide +kernel
theorem d_M_weight_3 : decode (qB q_M_weight) 3 = .ok (.ldc2_w 111, 3) := by decide +kernel
theorem d_M_weight_6 : decode (qB q_M_weight) 6 = .ok (.invokestatic 95, 3) := by decide +kernel
theorem d_M_weight_9 : decode (qB q_M_weight) 9 = .ok (.ifCond .eq 26, 3) := by decide +kernel
theorem d_M_weight_12 : decode (qB q_M_weight) 12 = .ok (.lload_n 2, 1) := by decide +kernel
theorem d_M_weight_13 : decode (qB q_M_weight) 13 = .ok (.lconst 0, 1) := by decide +kernel
theorem d_M_weight_14 : decode (qB q_M_weight) 14 = .ok (.ldc2_w 113, 3) := by decide +kernel
theorem d_M_weight_17 : decode (qB q_M_weight) 17 = .ok (.invokestatic 95, 3) := by decide +kernel
theorem d_M_weight_20 : decode (qB q_M_weight) 20 = .ok (.ifCond .eq 15, 3) := by decide +kernel
theorem d_M_weight_23 : decode (qB q_M_weight) 23 = .ok (.lload 4, 2) := by decide +kernel
theorem d_M_weight_25 : decode (qB q_M_weight) 25 = .ok (.lconst 1, 1) := by decide +kernel
theorem d_M_weight_26 : decode (qB q_M_weight) 26 = .ok (.ldc2_w 115, 3) := by decide +kernel
theorem d_M_weight_29 : decode (qB q_M_weight) 29 = .ok (.invokestatic 95, 3) := by decide +kernel
theorem d_M_weight_32 : decode (qB q_M_weight) 32 = .ok (.ifCond .ne 5, 3) := by decide +kernel
theorem d_M_weight_35 : decode (qB q_M_weight) 35 = .ok (.iconst 0, 1) := by decide +kernel
theorem d_M_weight_36 : decode (qB q_M_weight) 36 = .ok (.ireturn, 1) := by decide +kernel
theorem d_M_weight_37 : decode (qB q_M_weight) 37 = .ok (.aload_n 0, 1) := by decide +kernel
theorem d_M_weight_38 : decode (qB q_M_weight) 38 = .ok (.getfield 35, 3) := by decide +kernel
theorem d_M_weight_41 : decode (qB q_M_weight) 41 = .ok (.iload_n 1, 1) := by decide +kernel
theorem d_M_weight_42 : decode (qB q_M_weight) 42 = .ok (.ldc2_w 117, 3) := by decide +kernel
theorem d_M_weight_45 : decode (qB q_M_weight) 45 = .ok (.lload_n 2, 1) := by decide +kernel
theorem d_M_weight_46 : decode (qB q_M_weight) 46 = .ok (.lmul, 1) := by decide +kernel
theorem d_M_weight_47 : decode (qB q_M_weight) 47 = .ok (.lload 4, 2) := by decide +kernel
theorem d_M_weight_49 : decode (qB q_M_weight) 49 = .ok (.ldiv, 1) := by decide +kernel
theorem d_M_weight_50 : decode (qB q_M_weight) 50 = .ok (.l2i, 1) := by decide +kernel
theorem d_M_weight_51 : decode (qB q_M_weight) 51 = .ok (.iastore, 1) := by decide +kernel
theorem d_M_weight_52 : decode (qB q_M_weight) 52 = .ok (.iconst 1, 1) := by decide +kernel
theorem d_M_weight_53 : decode (qB q_M_weight) 53 = .ok (.ireturn, 1) := by decide +kernel
set_option maxRecDepth 10000 in
theorem k_M_weight {G : mxG} (hG : mx_GG G) : ∀ pc r, t_M_weight pc = some r → mx_Ok G mx_W mx_MT q_M_weight pc r := (bn_ok (bn_ok (bn_ok (bn_ok (bl_ok (ok_iload_n rfl d_M_weight_0)) (bn_ok (bl_ok (ok_i2l d_M_weight_1)) (bl_ok (ok_lconst (by decide) d_M_weight_2)))) (bn_ok (bn_ok (bl_ok (ok_ldc2 d_M_weight_3 w_730)) (bl_ok (ok_cs mx_W_good d_M_weight_6 (mt_M_within) mk_M_within w_711 w_712 (by decide) (by decide)))) (bn_ok (bl_ok (ok_ifeq d_M_weight_9 (by decide))) (bl_ok (ok_lload_n rfl d_M_weight_12))))) (bn_ok (bn_ok (bn_ok (bl_ok (ok_lconst (by decide) d_M_weight_13)) (bl_ok (ok_ldc2 d_M_weight_14 w_735))) (bn_ok (bl_ok (ok_cs mx_W_good d_M_weight_17 (mt_M_within) mk_M_within w_711 w_712 (by decide) (by decide))) (bl_ok (ok_ifeq d_M_weight_20 (by decide))))) (bn_ok (bn_ok (bl_ok (ok_lload d_M_weight_23)) (bl_ok (ok_lconst (by decide) d_M_weight_25))) (bn_ok (bl_ok (ok_ldc2 d_M_weight_26 w_736)) (bl_ok (ok_cs mx_W_good d_M_weight_29 (mt_M_within) mk_M_within w_711 w_712 (by decide) (by decide))))))) (bn_ok (bn_ok (bn_ok (bl_ok (ok_ifne d_M_weight_32 (by decide))) (bn_ok (bl_ok (ok_iconst (by decide) d_M_weight_35)) (bl_ok (ok_zreturn d_M_weight_36 rfl)))) (bn_ok (bn_ok (bl_ok (ok_aload_n rfl d_M_weight_37)) (bl_ok (ok_getf d_M_weight_38 (cl_5 hG) (by decide) w_613))) (bn_ok (bl_ok (ok_iload_n rfl d_M_weight_41)) (bl_ok (ok_ldc2 d_M_weight_42 w_737))))) (bn_ok (bn_ok (bn_ok (bl_ok (ok_lload_n rfl d_M_weight_45)) (bl_ok (ok_lmul d_M_weight_46))) (bn_ok (bl_ok (ok_lload d_M_weight_47)) (bl_ok (ok_ldiv d_M_weight_49)))) (bn_ok (bn_ok (bl_ok (ok_l2i d_M_weight_50)) (bl_ok (ok_iast d_M_weight_51 (kt_0 hG)))) (bn_ok (bl_ok (ok_iconst (by decide) d_M_weight_52)) (bl_ok (ok_zreturn d_M_weight_53 rfl)))))))
theorem d_M_bridge_0 : decode (qB q_M_bridge) 0 = .ok (.aload_n 0, 1) := by decide +kernel
theorem d_M_bridge_1 : decode (qB q_M_bridge) 1 = .ok (.iload_n 1, 1) := by decide +kernel
theorem d_M_bridge_2 : decode (qB q_M_bridge) 2 = .ok (.iload_n 2, 1) := by decide +kernel
theorem d_M_bridge_3 : decode (qB q_M_bridge) 3 = .ok (.invokevirtual 99, 3) := by decide +kernel
theorem d_M_bridge_6 : decode (qB q_M_bridge) 6 = .ok (.ifCond .eq 27, 3) := by decide +kernel
theorem d_M_bridge_9 : decode (qB q_M_bridge) 9 = .ok (.iload_n 3, 1) := by decide +kernel
theorem d_M_bridge_10 : decode (qB q_M_bridge) 10 = .ok (.i2l, 1) := by decide +kernel
theorem d_M_bridge_11 : decode (qB q_M_bridge) 11 = .ok (.lconst 1, 1) := by decide +kernel
theorem d_M_bridge_12 : decode (qB q_M_bridge) 12 = .ok (.ldc2_w 111, 3) := by decide +kernel
theorem d_M_bridge_15 : decode (qB q_M_bridge) 15 = .ok (.invokestatic 95, 3) := by decide +kernel
theorem d_M_bridge_18 : decode (qB q_M_bridge) 18 = .ok (.ifCond .eq 15, 3) := by decide +kernel
theorem d_M_bridge_21 : decode (qB q_M_bridge) 21 = .ok (.lload 4, 2) := by decide +kernel
theorem d_M_bridge_23 : decode (qB q_M_bridge) 23 = .ok (.lconst 0, 1) := by decide +kernel
theorem d_M_bridge_24 : decode (qB q_M_bridge) 24 = .ok (.ldc2_w 105, 3) := by decide +kernel
theorem d_M_bridge_27 : decode (qB q_M_bridge) 27 = .ok (.invokestatic 95, 3) := by decide +kernel
theorem d_M_bridge_30 : decode (qB q_M_bridge) 30 = .ok (.ifCond .ne 5, 3) := by decide +kernel
theorem d_M_bridge_33 : decode (qB q_M_bridge) 33 = .ok (.iconst 0, 1) := by decide +kernel
theorem d_M_bridge_34 : decode (qB q_M_bridge) 34 = .ok (.ireturn, 1) := by decide +kernel
theorem d_M_bridge_35 : decode (qB q_M_bridge) 35 = .ok (.aload_n 0, 1) := by decide +kernel
theorem d_M_bridge_36 : decode (qB q_M_bridge) 36 = .ok (.getfield 20, 3) := by decide +kernel
theorem d_M_bridge_39 : decode (qB q_M_bridge) 39 = .ok (.iload_n 2, 1) := by decide +kernel
theorem d_M_bridge_40 : decode (qB q_M_bridge) 40 = .ok (.aload_n 0, 1) := by decide +kernel
theorem d_M_bridge_41 : decode (qB q_M_bridge) 41 = .ok (.getfield 89, 3) := by decide +kernel
theorem d_M_bridge_44 : decode (qB q_M_bridge) 44 = .ok (.imul, 1) := by decide +kernel
theorem d_M_bridge_45 : decode (qB q_M_bridge) 45 = .ok (.iload_n 1, 1) := by decide +kernel
theorem d_M_bridge_46 : decode (qB q_M_bridge) 46 = .ok (.iadd, 1) := by decide +kernel
theorem d_M_bridge_47 : decode (qB q_M_bridge) 47 = .ok (.iload_n 3, 1) := by decide +kernel
theorem d_M_bridge_48 : decode (qB q_M_bridge) 48 = .ok (.iastore, 1) := by decide +kernel
theorem d_M_bridge_49 : decode (qB q_M_bridge) 49 = .ok (.aload_n 0, 1) := by decide +kernel
theorem d_M_bridge_50 : decode (qB q_M_bridge) 50 = .ok (.getfield 23, 3) := by decide +kernel
theorem d_M_bridge_53 : decode (qB q_M_bridge) 53 = .ok (.iload_n 2, 1) := by decide +kernel
theorem d_M_bridge_54 : decode (qB q_M_bridge) 54 = .ok (.aload_n 0, 1) := by decide +kernel
theorem d_M_bridge_55 : decode (qB q_M_bridge) 55 = .ok (.getfield 89, 3) := by decide +kernel
theorem d_M_bridge_58 : decode (qB q_M_bridge) 58 = .ok (.imul, 1) := by decide +kernel
theorem d_M_bridge_59 : decode (qB q_M_bridge) 59 = .ok (.iload_n 1, 1) := by decide +kernel
theorem d_M_bridge_60 : decode (qB q_M_bridge) 60 = .ok (.iadd, 1) := by decide +kernel
theorem d_M_bridge_61 : decode (qB q_M_bridge) 61 = .ok (.lload 4, 2) := by decide +kernel
theorem d_M_bridge_63 : decode (qB q_M_bridge) 63 = .ok (.l2i, 1) := by decide +kernel
theorem d_M_bridge_64 : decode (qB q_M_bridge) 64 = .ok (.iastore, 1) := by decide +kernel
theorem d_M_bridge_65 : decode (qB q_M_bridge) 65 = .ok (.iconst 1, 1) := by decide +kernel
theorem d_M_bridge_66 : decode (qB q_M_bridge) 66 = .ok (.ireturn, 1) := by decide +kernel
set_option maxRecDepth 10000 in
theorem k_M_bridge {G : mxG} (hG : mx_GG G) : ∀ pc r, t_M_bridge pc = some r → mx_Ok G mx_W mx_MT q_M_bridge pc r := (bn_ok (bn_ok (bn_ok (bn_ok (bn_ok (bl_ok (ok_aload_n rfl d_M_bridge_0)) (bl_ok (ok_iload_n rfl d_M_bridge_1))) (bn_ok (bl_ok (ok_iload_n rfl d_M_bridge_2)) (bn_ok (bl_ok (ok_cv mx_W_good (cl_5 hG) d_M_bridge_3 (mt_M_isCell) mk_M_isCell w_707 w_709 ws_M_isCell (by decide) (by decide))) (bl_ok (ok_ifeq d_M_bridge_6 (by decide)))))) (bn_ok (bn_ok (bl_ok (ok_iload_n rfl d_M_bridge_9)) (bl_ok (ok_i2l d_M_bridge_10))) (bn_ok (bl_ok (ok_lconst (by decide) d_M_bridge_11)) (bn_ok (bl_ok (ok_ldc2 d_M_bridge_12 w_730)) (bl_ok (ok_cs mx_W_good d_M_bridge_15 (mt_M_within) mk_M_within w_711 w_712 (by decide) (by decide))))))) (bn_ok (bn_ok (bn_ok (bl_ok (ok_ifeq d_M_bridge_18 (by decide))) (bl_ok (ok_lload d_M_bridge_21))) (bn_ok (bl_ok (ok_lconst (by decide) d_M_bridge_23)) (bn_ok (bl_ok (ok_ldc2 d_M_bridge_24 w_715)) (bl_ok (ok_cs mx_W_good d_M_bridge_27 (mt_M_within) mk_M_within w_711 w_712 (by decide) (by decide)))))) (bn_ok (bn_ok (bl_ok (ok_ifne d_M_bridge_30 (by decide))) (bl_ok (ok_iconst (by decide) d_M_bridge_33))) (bn_ok (bl_ok (ok_zreturn d_M_bridge_34 rfl)) (bn_ok (bl_ok (ok_aload_n rfl d_M_bridge_35)) (bl_ok (ok_getf d_M_bridge_36 (cl_5 hG) (by decide) w_608))))))) (bn_ok (bn_ok (bn_ok (bn_ok (bl_ok (ok_iload_n rfl d_M_bridge_39)) (bl_ok (ok_aload_n rfl d_M_bridge_40))) (bn_ok (bl_ok (ok_getf d_M_bridge_41 (cl_5 hG) (by decide) w_603)) (bn_ok (bl_ok (ok_imul d_M_bridge_44)) (bl_ok (ok_iload_n rfl d_M_bridge_45))))) (bn_ok (bn_ok (bl_ok (ok_iadd d_M_bridge_46)) (bl_ok (ok_iload_n rfl d_M_bridge_47))) (bn_ok (bl_ok (ok_iast d_M_bridge_48 (kt_0 hG))) (bn_ok (bl_ok (ok_aload_n rfl d_M_bridge_49)) (bl_ok (ok_getf d_M_bridge_50 (cl_5 hG) (by decide) w_609)))))) (bn_ok (bn_ok (bn_ok (bl_ok (ok_iload_n rfl d_M_bridge_53)) (bl_ok (ok_aload_n rfl d_M_bridge_54))) (bn_ok (bl_ok (ok_getf d_M_bridge_55 (cl_5 hG) (by decide) w_603)) (bn_ok (bl_ok (ok_imul d_M_bridge_58)) (bl_ok (ok_iload_n rfl d_M_bridge_59))))) (bn_ok (bn_ok (bl_ok (ok_iadd d_M_bridge_60)) (bn_ok (bl_ok (ok_lload d_M_bridge_61)) (bl_ok (ok_l2i d_M_bridge_63)))) (bn_ok (bl_ok (ok_iast d_M_bridge_64 (kt_0 hG))) (bn_ok (bl_ok (ok_iconst (by decide) d_M_bridge_65)) (bl_ok (ok_zreturn d_M_bridge_66 rfl))))))))
theorem d_M_mark_0 : decode (qB q_M_mark) 0 = .ok (.iload_n 1, 1) := by decide +kernel
theorem d_M_mark_1 : decode (qB q_M_mark) 1 = .ok (.i2l, 1) := by decide +kernel
theorem d_M_mark_2 : decode (qB q_M_mark) 2 = .ok (.lconst 0, 1) := by decide +kernel
theorem d_M_mark_3 : decode (qB q_M_mark) 3 = .ok (.ldc2_w 119, 3) := by decide +kernel
theorem d_M_mark_6 : decode (qB q_M_mark) 6 = .ok (.invokestatic 95, 3) := by decide +kernel
theorem d_M_mark_9 : decode (qB q_M_mark) 9 = .ok (.ifCond .eq 25, 3) := by decide +kernel
theorem d_M_mark_12 : decode (qB q_M_mark) 12 = .ok (.aload_n 0, 1) := by decide +kernel
theorem d_M_mark_13 : decode (qB q_M_mark) 13 = .ok (.iload_n 2, 1) := by decide +kernel
theorem d_M_mark_14 : decode (qB q_M_mark) 14 = .ok (.iload_n 3, 1) := by decide +kernel
theorem d_M_mark_15 : decode (qB q_M_mark) 15 = .ok (.invokevirtual 99, 3) := by decide +kernel
theorem d_M_mark_18 : decode (qB q_M_mark) 18 = .ok (.ifCond .eq 16, 3) := by decide +kernel
theorem d_M_mark_21 : decode (qB q_M_mark) 21 = .ok (.iload 4, 2) := by decide +kernel
theorem d_M_mark_23 : decode (qB q_M_mark) 23 = .ok (.i2l, 1) := by decide +kernel
theorem d_M_mark_24 : decode (qB q_M_mark) 24 = .ok (.lconst 0, 1) := by decide +kernel
theorem d_M_mark_25 : decode (qB q_M_mark) 25 = .ok (.ldc2_w 111, 3) := by decide +kernel
theorem d_M_mark_28 : decode (qB q_M_mark) 28 = .ok (.invokestatic 95, 3) := by decide +kernel
theorem d_M_mark_31 : decode (qB q_M_mark) 31 = .ok (.ifCond .ne 5, 3) := by decide +kernel
theorem d_M_mark_34 : decode (qB q_M_mark) 34 = .ok (.iconst (-1), 1) := by decide +kernel
theorem d_M_mark_35 : decode (qB q_M_mark) 35 = .ok (.ireturn, 1) := by decide +kernel
theorem d_M_mark_36 : decode (qB q_M_mark) 36 = .ok (.iload_n 3, 1) := by decide +kernel
theorem d_M_mark_37 : decode (qB q_M_mark) 37 = .ok (.aload_n 0, 1) := by decide +kernel
theorem d_M_mark_38 : decode (qB q_M_mark) 38 = .ok (.getfield 89, 3) := by decide +kernel
theorem d_M_mark_41 : decode (qB q_M_mark) 41 = .ok (.imul, 1) := by decide +kernel
theorem d_M_mark_42 : decode (qB q_M_mark) 42 = .ok (.iload_n 2, 1) := by decide +kernel
theorem d_M_mark_43 : decode (qB q_M_mark) 43 = .ok (.iadd, 1) := by decide +kernel
theorem d_M_mark_44 : decode (qB q_M_mark) 44 = .ok (.istore 5, 2) := by decide +kernel
theorem d_M_mark_46 : decode (qB q_M_mark) 46 = .ok (.aload_n 0, 1) := by decide +kernel
theorem d_M_mark_47 : decode (qB q_M_mark) 47 = .ok (.getfield 29, 3) := by decide +kernel
theorem d_M_mark_50 : decode (qB q_M_mark) 50 = .ok (.sipush 144, 3) := by decide +kernel
theorem d_M_mark_53 : decode (qB q_M_mark) 53 = .ok (.iload_n 1, 1) := by decide +kernel
theorem d_M_mark_54 : decode (qB q_M_mark) 54 = .ok (.imul, 1) := by decide +kernel
theorem d_M_mark_55 : decode (qB q_M_mark) 55 = .ok (.iload 5, 2) := by decide +kernel
theorem d_M_mark_57 : decode (qB q_M_mark) 57 = .ok (.iadd, 1) := by decide +kernel
theorem d_M_mark_58 : decode (qB q_M_mark) 58 = .ok (.iload 4, 2) := by decide +kernel
theorem d_M_mark_60 : decode (qB q_M_mark) 60 = .ok (.iastore, 1) := by decide +kernel
theorem d_M_mark_61 : decode (qB q_M_mark) 61 = .ok (.iconst 0, 1) := by decide +kernel
theorem d_M_mark_62 : decode (qB q_M_mark) 62 = .ok (.istore 6, 2) := by decide +kernel
theorem d_M_mark_64 : decode (qB q_M_mark) 64 = .ok (.iconst 0, 1) := by decide +kernel
theorem d_M_mark_65 : decode (qB q_M_mark) 65 = .ok (.istore 7, 2) := by decide +kernel
theorem d_M_mark_67 : decode (qB q_M_mark) 67 = .ok (.iload 7, 2) := by decide +kernel
theorem d_M_mark_69 : decode (qB q_M_mark) 69 = .ok (.bipush 8, 2) := by decide +kernel
theorem d_M_mark_71 : decode (qB q_M_mark) 71 = .ok (.if_icmp .ge 36, 3) := by decide +kernel
theorem d_M_mark_74 : decode (qB q_M_mark) 74 = .ok (.iload 6, 2) := by decide +kernel
theorem d_M_mark_76 : decode (qB q_M_mark) 76 = .ok (.aload_n 0, 1) := by decide +kernel
theorem d_M_mark_77 : decode (qB q_M_mark) 77 = .ok (.getfield 29, 3) := by decide +kernel
theorem d_M_mark_80 : decode (qB q_M_mark) 80 = .ok (.sipush 144, 3) := by decide +kernel
theorem d_M_mark_83 : decode (qB q_M_mark) 83 = .ok (.iload 7, 2) := by decide +kernel
theorem d_M_mark_85 : decode (qB q_M_mark) 85 = .ok (.imul, 1) := by decide +kernel
theorem d_M_mark_86 : decode (qB q_M_mark) 86 = .ok (.iload 5, 2) := by decide +kernel
theorem d_M_mark_88 : decode (qB q_M_mark) 88 = .ok (.iadd, 1) := by decide +kernel
theorem d_M_mark_89 : decode (qB q_M_mark) 89 = .ok (.iaload, 1) := by decide +kernel
theorem d_M_mark_90 : decode (qB q_M_mark) 90 = .ok (.ifCond .le 7, 3) := by decide +kernel
theorem d_M_mark_93 : decode (qB q_M_mark) 93 = .ok (.iconst 1, 1) := by decide +kernel
theorem d_M_mark_94 : decode (qB q_M_mark) 94 = .ok (.goto 4, 3) := by decide +kernel
theorem d_M_mark_97 : decode (qB q_M_mark) 97 = .ok (.iconst 0, 1) := by decide +kernel
theorem d_M_mark_98 : decode (qB q_M_mark) 98 = .ok (.iadd, 1) := by decide +kernel
theorem d_M_mark_99 : decode (qB q_M_mark) 99 = .ok (.istore 6, 2) := by decide +kernel
theorem d_M_mark_101 : decode (qB q_M_mark) 101 = .ok (.iinc 7 1, 3) := by decide +kernel
theorem d_M_mark_104 : decode (qB q_M_mark) 104 = .ok (.goto (-37), 3) := by decide +kernel
theorem d_M_mark_107 : decode (qB q_M_mark) 107 = .ok (.iload 6, 2) := by decide +kernel
theorem d_M_mark_109 : decode (qB q_M_mark) 109 = .ok (.ireturn, 1) := by decide +kernel
set_option maxRecDepth 10000 in
theorem k_M_mark {G : mxG} (hG : mx_GG G) : ∀ pc r, t_M_mark pc = some r → mx_Ok G mx_W mx_MT q_M_mark pc r := (bn_ok (bn_ok (bn_ok (bn_ok (bn_ok (bl_ok (ok_iload_n rfl d_M_mark_0)) (bn_ok (bl_ok (ok_i2l d_M_mark_1)) (bl_ok (ok_lconst (by decide) d_M_mark_2)))) (bn_ok (bn_ok (bl_ok (ok_ldc2 d_M_mark_3 w_746)) (bl_ok (ok_cs mx_W_good d_M_mark_6 (mt_M_within) mk_M_within w_711 w_712 (by decide) (by decide)))) (bn_ok (bl_ok (ok_ifeq d_M_mark_9 (by decide))) (bl_ok (ok_aload_n rfl d_M_mark_12))))) (bn_ok (bn_ok (bn_ok (bl_ok (ok_iload_n rfl d_M_mark_13)) (bl_ok (ok_iload_n rfl d_M_mark_14))) (bn_ok (bl_ok (ok_cv mx_W_good (cl_5 hG) d_M_mark_15 (mt_M_isCell) mk_M_isCell w_707 w_709 ws_M_isCell (by decide) (by decide))) (bl_ok (ok_ifeq d_M_mark_18 (by decide))))) (bn_ok (bn_ok (bl_ok (ok_iload d_M_mark_21)) (bl_ok (ok_i2l d_M_mark_23))) (bn_ok (bl_ok (ok_lconst (by decide) d_M_mark_24)) (bl_ok (ok_ldc2 d_M_mark_25 w_730)))))) (bn_ok (bn_ok (bn_ok (bl_ok (ok_cs mx_W_good d_M_mark_28 (mt_M_within) mk_M_within w_711 w_712 (by decide) (by decide))) (bn_ok (bl_ok (ok_ifne d_M_mark_31 (by decide))) (bl_ok (ok_iconst (by decide) d_M_mark_34)))) (bn_ok (bn_ok (bl_ok (ok_ireturn d_M_mark_35 rfl)) (bl_ok (ok_iload_n rfl d_M_mark_36))) (bn_ok (bl_ok (ok_aload_n rfl d_M_mark_37)) (bl_ok (ok_getf d_M_mark_38 (cl_5 hG) (by decide) w_603))))) (bn_ok (bn_ok (bn_ok (bl_ok (ok_imul d_M_mark_41)) (bl_ok (ok_iload_n rfl d_M_mark_42))) (bn_ok (bl_ok (ok_iadd d_M_mark_43)) (bl_ok (ok_istore d_M_mark_44 (by decide))))) (bn_ok (bn_ok (bl_ok (ok_aload_n rfl d_M_mark_46)) (bl_ok (ok_getf d_M_mark_47 (cl_5 hG) (by decide) w_611))) (bn_ok (bl_ok (ok_sipush (by decide) d_M_mark_50)) (bl_ok (ok_iload_n rfl d_M_mark_53))))))) (bn_ok (bn_ok (bn_ok (bn_ok (bl_ok (ok_imul d_M_mark_54)) (bn_ok (bl_ok (ok_iload d_M_mark_55)) (bl_ok (ok_iadd d_M_mark_57)))) (bn_ok (bn_ok (bl_ok (ok_iload d_M_mark_58)) (bl_ok (ok_iast d_M_mark_60 (kt_0 hG)))) (bn_ok (bl_ok (ok_iconst (by decide) d_M_mark_61)) (bl_ok (ok_istore d_M_mark_62 (by decide)))))) (bn_ok (bn_ok (bn_ok (bl_ok (ok_iconst (by decide) d_M_mark_64)) (bl_ok (ok_istore d_M_mark_65 (by decide)))) (bn_ok (bl_ok (ok_iload d_M_mark_67)) (bl_ok (ok_bipush (by decide) d_M_mark_69)))) (bn_ok (bn_ok (bl_ok (ok_icge d_M_mark_71 (by decide))) (bl_ok (ok_iload d_M_mark_74))) (bn_ok (bl_ok (ok_aload_n rfl d_M_mark_76)) (bl_ok (ok_getf d_M_mark_77 (cl_5 hG) (by decide) w_611)))))) (bn_ok (bn_ok (bn_ok (bn_ok (bl_ok (ok_sipush (by decide) d_M_mark_80)) (bl_ok (ok_iload d_M_mark_83))) (bn_ok (bl_ok (ok_imul d_M_mark_85)) (bl_ok (ok_iload d_M_mark_86)))) (bn_ok (bn_ok (bl_ok (ok_iadd d_M_mark_88)) (bl_ok (ok_iald d_M_mark_89 (kt_0 hG)))) (bn_ok (bl_ok (ok_ifle d_M_mark_90 (by decide))) (bl_ok (ok_iconst (by decide) d_M_mark_93))))) (bn_ok (bn_ok (bn_ok (bl_ok (ok_goto d_M_mark_94 (by decide))) (bl_ok (ok_iconst (by decide) d_M_mark_97))) (bn_ok (bl_ok (ok_iadd d_M_mark_98)) (bl_ok (ok_istore d_M_mark_99 (by decide))))) (bn_ok (bn_ok (bl_ok (ok_iinc d_M_mark_101 (by decide) (by decide))) (bl_ok (ok_goto d_M_mark_104 (by decide)))) (bn_ok (bl_ok (ok_iload d_M_mark_107)) (bl_ok (ok_ireturn d_M_mark_109 rfl))))))))
theorem d_M_zone_0 : decode (qB q_M_zone) 0 = .ok (.iload_n 1, 1) := by decide +kernel
theorem d_M_zone_1 : decode (qB q_M_zone) 1 = .ok (.i2l, 1) := by decide +kernel
theorem d_M_zone_2 : decode (qB q_M_zone) 2 = .ok (.lconst 0, 1) := by decide +kernel
theorem d_M_zone_3 : decode (qB q_M_zone) 3 = .ok (.ldc2_w 119, 3) := by decide +kernel
theorem d_M_zone_6 : decode (qB q_M_zone) 6 = .ok (.invokestatic 95, 3) := by decide +kernel
theorem d_M_zone_9 : decode (qB q_M_zone) 9 = .ok (.ifCond .eq 12, 3) := by decide +kernel
theorem d_M_zone_12 : decode (qB q_M_zone) 12 = .ok (.aload_n 0, 1) := by decide +kernel
theorem d_M_zone_13 : decode (qB q_M_zone) 13 = .ok (.iload_n 2, 1) := by decide +kernel
theorem d_M_zone_14 : decode (qB q_M_zone) 14 = .ok (.iload_n 3, 1) := by decide +kernel
theorem d_M_zone_15 : decode (qB q_M_zone) 15 = .ok (.invokevirtual 99, 3) := by decide +kernel
theorem d_M_zone_18 : decode (qB q_M_zone) 18 = .ok (.ifCond .ne 5, 3) := by decide +kernel
theorem d_M_zone_21 : decode (qB q_M_zone) 21 = .ok (.iconst (-1), 1) := by decide +kernel
theorem d_M_zone_22 : decode (qB q_M_zone) 22 = .ok (.ireturn, 1) := by decide +kernel
theorem d_M_zone_23 : decode (qB q_M_zone) 23 = .ok (.aload_n 0, 1) := by decide +kernel
theorem d_M_zone_24 : decode (qB q_M_zone) 24 = .ok (.getfield 32, 3) := by decide +kernel
theorem d_M_zone_27 : decode (qB q_M_zone) 27 = .ok (.iload_n 3, 1) := by decide +kernel
theorem d_M_zone_28 : decode (qB q_M_zone) 28 = .ok (.aload_n 0, 1) := by decide +kernel
theorem d_M_zone_29 : decode (qB q_M_zone) 29 = .ok (.getfield 89, 3) := by decide +kernel
theorem d_M_zone_32 : decode (qB q_M_zone) 32 = .ok (.imul, 1) := by decide +kernel
theorem d_M_zone_33 : decode (qB q_M_zone) 33 = .ok (.iload_n 2, 1) := by decide +kernel
theorem d_M_zone_34 : decode (qB q_M_zone) 34 = .ok (.iadd, 1) := by decide +kernel
theorem d_M_zone_35 : decode (qB q_M_zone) 35 = .ok (.iaload, 1) := by decide +kernel
theorem d_M_zone_36 : decode (qB q_M_zone) 36 = .ok (.istore 4, 2) := by decide +kernel
theorem d_M_zone_38 : decode (qB q_M_zone) 38 = .ok (.aload_n 0, 1) := by decide +kernel
theorem d_M_zone_39 : decode (qB q_M_zone) 39 = .ok (.getfield 32, 3) := by decide +kernel
theorem d_M_zone_42 : decode (qB q_M_zone) 42 = .ok (.iload_n 3, 1) := by decide +kernel
theorem d_M_zone_43 : decode (qB q_M_zone) 43 = .ok (.aload_n 0, 1) := by decide +kernel
theorem d_M_zone_44 : decode (qB q_M_zone) 44 = .ok (.getfield 89, 3) := by decide +kernel
theorem d_M_zone_47 : decode (qB q_M_zone) 47 = .ok (.imul, 1) := by decide +kernel
theorem d_M_zone_48 : decode (qB q_M_zone) 48 = .ok (.iload_n 2, 1) := by decide +kernel
theorem d_M_zone_49 : decode (qB q_M_zone) 49 = .ok (.iadd, 1) := by decide +kernel
theorem d_M_zone_50 : decode (qB q_M_zone) 50 = .ok (.iload_n 1, 1) := by decide +kernel
theorem d_M_zone_51 : decode (qB q_M_zone) 51 = .ok (.iastore, 1) := by decide +kernel
theorem d_M_zone_52 : decode (qB q_M_zone) 52 = .ok (.iload 4, 2) := by decide +kernel
theorem d_M_zone_54 : decode (qB q_M_zone) 54 = .ok (.ireturn, 1) := by decide +kernel
set_option maxRecDepth 10000 in
theorem k_M_zone {G : mxG} (hG : mx_GG G) : ∀ pc r, t_M_zone pc = some r → mx_Ok G mx_W mx_MT q_M_zone pc r := (bn_ok (bn_ok (bn_ok (bn_ok (bn_ok (bl_ok (ok_iload_n rfl d_M_zone_0)) (bl_ok (ok_i2l d_M_zone_1))) (bn_ok (bl_ok (ok_lconst (by decide) d_M_zone_2)) (bl_ok (ok_ldc2 d_M_zone_3 w_746)))) (bn_ok (bn_ok (bl_ok (ok_cs mx_W_good d_M_zone_6 (mt_M_within) mk_M_within w_711 w_712 (by decide) (by decide))) (bl_ok (ok_ifeq d_M_zone_9 (by decide)))) (bn_ok (bl_ok (ok_aload_n rfl d_M_zone_12)) (bl_ok (ok_iload_n rfl d_M_zone_13))))) (bn_ok (bn_ok (bn_ok (bl_ok (ok_iload_n rfl d_M_zone_14)) (bl_ok (ok_cv mx_W_good (cl_5 hG) d_M_zone_15 (mt_M_isCell) mk_M_isCell w_707 w_709 ws_M_isCell (by decide) (by decide)))) (bn_ok (bl_ok (ok_ifne d_M_zone_18 (by decide))) (bl_ok (ok_iconst (by decide) d_M_zone_21)))) (bn_ok (bn_ok (bl_ok (ok_ireturn d_M_zone_22 rfl)) (bl_ok (ok_aload_n rfl d_M_zone_23))) (bn_ok (bl_ok (ok_getf d_M_zone_24 (cl_5 hG) (by decide) w_612)) (bn_ok (bl_ok (ok_iload_n rfl d_M_zone_27)) (bl_ok (ok_aload_n rfl d_M_zone_28))))))) (bn_ok (bn_ok (bn_ok (bn_ok (bl_ok (ok_getf d_M_zone_29 (cl_5 hG) (by decide) w_603)) (bl_ok (ok_imul d_M_zone_32))) (bn_ok (bl_ok (ok_iload_n rfl d_M_zone_33)) (bl_ok (ok_iadd d_M_zone_34)))) (bn_ok (bn_ok (bl_ok (ok_iald d_M_zone_35 (kt_0 hG))) (bl_ok (ok_istore d_M_zone_36 (by decide)))) (bn_ok (bl_ok (ok_aload_n rfl d_M_zone_38)) (bn_ok (bl_ok (ok_getf d_M_zone_39 (cl_5 hG) (by decide) w_612)) (bl_ok (ok_iload_n rfl d_M_zone_42)))))) (bn_ok (bn_ok (bn_ok (bl_ok (ok_aload_n rfl d_M_zone_43)) (bl_ok (ok_getf d_M_zone_44 (cl_5 hG) (by decide) w_603))) (bn_ok (bl_ok (ok_imul d_M_zone_47)) (bl_ok (ok_iload_n rfl d_M_zone_48)))) (bn_ok (bn_ok (bl_ok (ok_iadd d_M_zone_49)) (bl_ok (ok_iload_n rfl d_M_zone_50))) (bn_ok (bl_ok (ok_iast d_M_zone_51 (kt_0 hG))) (bn_ok (bl_ok (ok_iload d_M_zone_52)) (bl_ok (ok_ireturn d_M_zone_54 rfl))))))))
theorem d_M_isBridged_0 : decode (qB q_M_isBridged) 0 = .ok (.aload_n 0, 1) := by decide +kernel
theorem d_M_isBridged_1 : decode (qB q_M_isBridged) 1 = .ok (.getfield 16, 3) := by decide +kernel
theorem d_M_isBridged_4 : decode (qB q_M_isBridged) 4 = .ok (.iload_n 1, 1) := by decide +kernel
theorem d_M_isBridged_5 : decode (qB q_M_isBridged) 5 = .ok (.baload, 1) := by decide +kernel
theorem d_M_isBridged_6 : decode (qB q_M_isBridged) 6 = .ok (.ifCond .eq 16, 3) := by decide +kernel
theorem d_M_isBridged_9 : decode (qB q_M_isBridged) 9 = .ok (.aload_n 0, 1) := by decide +kernel
theorem d_M_isBridged_10 : decode (qB q_M_isBridged) 10 = .ok (.getfield 20, 3) := by decide +kernel
theorem d_M_isBridged_13 : decode (qB q_M_isBridged) 13 = .ok (.iload_n 1, 1) := by decide +kernel
theorem d_M_isBridged_14 : decode (qB q_M_isBridged) 14 = .ok (.iaload, 1) := by decide +kernel
theorem d_M_isBridged_15 : decode (qB q_M_isBridged) 15 = .ok (.ifCond .le 7, 3) := by decide +kernel
theorem d_M_isBridged_18 : decode (qB q_M_isBridged) 18 = .ok (.iconst 1, 1) := by decide +kernel
theorem d_M_isBridged_19 : decode (qB q_M_isBridged) 19 = .ok (.goto 4, 3) := by decide +kernel
theorem d_M_isBridged_22 : decode (qB q_M_isBridged) 22 = .ok (.iconst 0, 1) := by decide +kernel
theorem d_M_isBridged_23 : decode (qB q_M_isBridged) 23 = .ok (.ireturn, 1) := by decide +kernel
set_option maxRecDepth 10000 in
theorem k_M_isBridged {G : mxG} (hG : mx_GG G) : ∀ pc r, t_M_isBridged pc = some r → mx_Ok G mx_W mx_MT q_M_isBridged pc r := (bn_ok (bn_ok (bn_ok (bl_ok (ok_aload_n rfl d_M_isBridged_0)) (bn_ok (bl_ok (ok_getf d_M_isBridged_1 (cl_5 hG) (by decide) w_607)) (bl_ok (ok_iload_n rfl d_M_isBridged_4)))) (bn_ok (bn_ok (bl_ok (ok_zald d_M_isBridged_5 (kt_2 hG))) (bl_ok (ok_ifeq d_M_isBridged_6 (by decide)))) (bn_ok (bl_ok (ok_aload_n rfl d_M_isBridged_9)) (bl_ok (ok_getf d_M_isBridged_10 (cl_5 hG) (by decide) w_608))))) (bn_ok (bn_ok (bl_ok (ok_iload_n rfl d_M_isBridged_13)) (bn_ok (bl_ok (ok_iald d_M_isBridged_14 (kt_0 hG))) (bl_ok (ok_ifle d_M_isBridged_15 (by decide))))) (bn_ok (bn_ok (bl_ok (ok_iconst (by decide) d_M_isBridged_18)) (bl_ok (ok_goto d_M_isBridged_19 (by decide)))) (bn_ok (bl_ok (ok_iconst (by decide) d_M_isBridged_22)) (bl_ok (ok_zreturn d_M_isBridged_23 rfl))))))
theorem d_M_isShut_0 : decode (qB q_M_isShut) 0 = .ok (.aload_n 0, 1) := by decide +kernel
theorem d_M_isShut_1 : decode (qB q_M_isShut) 1 = .ok (.getfield 16, 3) := by decide +kernel
theorem d_M_isShut_4 : decode (qB q_M_isShut) 4 = .ok (.iload_n 1, 1) := by decide +kernel
theorem d_M_isShut_5 : decode (qB q_M_isShut) 5 = .ok (.baload, 1) := by decide +kernel
theorem d_M_isShut_6 : decode (qB q_M_isShut) 6 = .ok (.ifCond .eq 16, 3) := by decide +kernel
theorem d_M_isShut_9 : decode (qB q_M_isShut) 9 = .ok (.aload_n 0, 1) := by decide +kernel
theorem d_M_isShut_10 : decode (qB q_M_isShut) 10 = .ok (.getfield 20, 3) := by decide +kernel
theorem d_M_isShut_13 : decode (qB q_M_isShut) 13 = .ok (.iload_n 1, 1) := by decide +kernel
theorem d_M_isShut_14 : decode (qB q_M_isShut) 14 = .ok (.iaload, 1) := by decide +kernel
theorem d_M_isShut_15 : decode (qB q_M_isShut) 15 = .ok (.ifCond .ne 7, 3) := by decide +kernel
theorem d_M_isShut_18 : decode (qB q_M_isShut) 18 = .ok (.iconst 1, 1) := by decide +kernel
theorem d_M_isShut_19 : decode (qB q_M_isShut) 19 = .ok (.goto 4, 3) := by decide +kernel
theorem d_M_isShut_22 : decode (qB q_M_isShut) 22 = .ok (.iconst 0, 1) := by decide +kernel
theorem d_M_isShut_23 : decode (qB q_M_isShut) 23 = .ok (.ireturn, 1) := by decide +kernel
set_option maxRecDepth 10000 in
theorem k_M_isShut {G : mxG} (hG : mx_GG G) : ∀ pc r, t_M_isShut pc = some r → mx_Ok G mx_W mx_MT q_M_isShut pc r := (bn_ok (bn_ok (bn_ok (bl_ok (ok_aload_n rfl d_M_isShut_0)) (bn_ok (bl_ok (ok_getf d_M_isShut_1 (cl_5 hG) (by decide) w_607)) (bl_ok (ok_iload_n rfl d_M_isShut_4)))) (bn_ok (bn_ok (bl_ok (ok_zald d_M_isShut_5 (kt_2 hG))) (bl_ok (ok_ifeq d_M_isShut_6 (by decide)))) (bn_ok (bl_ok (ok_aload_n rfl d_M_isShut_9)) (bl_ok (ok_getf d_M_isShut_10 (cl_5 hG) (by decide) w_608))))) (bn_ok (bn_ok (bl_ok (ok_iload_n rfl d_M_isShut_13)) (bn_ok (bl_ok (ok_iald d_M_isShut_14 (kt_0 hG))) (bl_ok (ok_ifne d_M_isShut_15 (by decide))))) (bn_ok (bn_ok (bl_ok (ok_iconst (by decide) d_M_isShut_18)) (bl_ok (ok_goto d_M_isShut_19 (by decide)))) (bn_ok (bl_ok (ok_iconst (by decide) d_M_isShut_22)) (bl_ok (ok_zreturn d_M_isShut_23 rfl))))))
theorem d_M_valueOf_0 : decode (qB q_M_valueOf) 0 = .ok (.aload_n 0, 1) := by decide +kernel
theorem d_M_valueOf_1 : decode (qB q_M_valueOf) 1 = .ok (.getfield 26, 3) := by decide +kernel
theorem d_M_valueOf_4 : decode (qB q_M_valueOf) 4 = .ok (.sipush 144, 3) := by decide +kernel
theorem d_M_valueOf_7 : decode (qB q_M_valueOf) 7 = .ok (.iload_n 1, 1) := by decide +kernel
theorem d_M_valueOf_8 : decode (qB q_M_valueOf) 8 = .ok (.imul, 1) := by decide +kernel
theorem d_M_valueOf_9 : decode (qB q_M_valueOf) 9 = .ok (.iload_n 2, 1) := by decide +kernel
theorem d_M_valueOf_10 : decode (qB q_M_valueOf) 10 = .ok (.iadd, 1) := by decide +kernel
theorem d_M_valueOf_11 : decode (qB q_M_valueOf) 11 = .ok (.iaload, 1) := by decide +kernel
theorem d_M_valueOf_12 : decode (qB q_M_valueOf) 12 = .ok (.istore_n 3, 1) := by decide +kernel
theorem d_M_valueOf_13 : decode (qB q_M_valueOf) 13 = .ok (.iconst 0, 1) := by decide +kernel
theorem d_M_valueOf_14 : decode (qB q_M_valueOf) 14 = .ok (.istore 4, 2) := by decide +kernel
theorem d_M_valueOf_16 : decode (qB q_M_valueOf) 16 = .ok (.iload 4, 2) := by decide +kernel
theorem d_M_valueOf_18 : decode (qB q_M_valueOf) 18 = .ok (.bipush 8, 2) := by decide +kernel
theorem d_M_valueOf_20 : decode (qB q_M_valueOf) 20 = .ok (.if_icmp .ge 33, 3) := by decide +kernel
theorem d_M_valueOf_23 : decode (qB q_M_valueOf) 23 = .ok (.iload_n 1, 1) := by decide +kernel
theorem d_M_valueOf_24 : decode (qB q_M_valueOf) 24 = .ok (.iconst 3, 1) := by decide +kernel
theorem d_M_valueOf_25 : decode (qB q_M_valueOf) 25 = .ok (.if_icmp .ne 28, 3) := by decide +kernel
theorem d_M_valueOf_28 : decode (qB q_M_valueOf) 28 = .ok (.iload_n 3, 1) := by decide +kernel
theorem d_M_valueOf_29 : decode (qB q_M_valueOf) 29 = .ok (.bipush 10, 2) := by decide +kernel
theorem d_M_valueOf_31 : decode (qB q_M_valueOf) 31 = .ok (.aload_n 0, 1) := by decide +kernel
theorem d_M_valueOf_32 : decode (qB q_M_valueOf) 32 = .ok (.getfield 29, 3) := by decide +kernel
theorem d_M_valueOf_35 : decode (qB q_M_valueOf) 35 = .ok (.sipush 144, 3) := by decide +kernel
theorem d_M_valueOf_38 : decode (qB q_M_valueOf) 38 = .ok (.iload 4, 2) := by decide +kernel
theorem d_M_valueOf_40 : decode (qB q_M_valueOf) 40 = .ok (.imul, 1) := by decide +kernel
theorem d_M_valueOf_41 : decode (qB q_M_valueOf) 41 = .ok (.iload_n 2, 1) := by decide +kernel
theorem d_M_valueOf_42 : decode (qB q_M_valueOf) 42 = .ok (.iadd, 1) := by decide +kernel
theorem d_M_valueOf_43 : decode (qB q_M_valueOf) 43 = .ok (.iaload, 1) := by decide +kernel
theorem d_M_valueOf_44 : decode (qB q_M_valueOf) 44 = .ok (.imul, 1) := by decide +kernel
theorem d_M_valueOf_45 : decode (qB q_M_valueOf) 45 = .ok (.iadd, 1) := by decide +kernel
theorem d_M_valueOf_46 : decode (qB q_M_valueOf) 46 = .ok (.istore_n 3, 1) := by decide +kernel
theorem d_M_valueOf_47 : decode (qB q_M_valueOf) 47 = .ok (.iinc 4 1, 3) := by decide +kernel
theorem d_M_valueOf_50 : decode (qB q_M_valueOf) 50 = .ok (.goto (-34), 3) := by decide +kernel
theorem d_M_valueOf_53 : decode (qB q_M_valueOf) 53 = .ok (.iload_n 3, 1) := by decide +kernel
theorem d_M_valueOf_54 : decode (qB q_M_valueOf) 54 = .ok (.ireturn, 1) := by decide +kernel
set_option maxRecDepth 10000 in
theorem k_M_valueOf {G : mxG} (hG : mx_GG G) : ∀ pc r, t_M_valueOf pc = some r → mx_Ok G mx_W mx_MT q_M_valueOf pc r := (bn_ok (bn_ok (bn_ok (bn_ok (bn_ok (bl_ok (ok_aload_n rfl d_M_valueOf_0)) (bl_ok (ok_getf d_M_valueOf_1 (cl_5 hG) (by decide) w_610))) (bn_ok (bl_ok (ok_sipush (by decide) d_M_valueOf_4)) (bl_ok (ok_iload_n rfl d_M_valueOf_7)))) (bn_ok (bn_ok (bl_ok (ok_imul d_M_valueOf_8)) (bl_ok (ok_iload_n rfl d_M_valueOf_9))) (bn_ok (bl_ok (ok_iadd d_M_valueOf_10)) (bl_ok (ok_iald d_M_valueOf_11 (kt_0 hG)))))) (bn_ok (bn_ok (bn_ok (bl_ok (ok_istore_n rfl d_M_valueOf_12 (by decide))) (bl_ok (ok_iconst (by decide) d_M_valueOf_13))) (bn_ok (bl_ok (ok_istore d_M_valueOf_14 (by decide))) (bl_ok (ok_iload d_M_valueOf_16)))) (bn_ok (bn_ok (bl_ok (ok_bipush (by decide) d_M_valueOf_18)) (bl_ok (ok_icge d_M_valueOf_20 (by decide)))) (bn_ok (bl_ok (ok_iload_n rfl d_M_valueOf_23)) (bn_ok (bl_ok (ok_iconst (by decide) d_M_valueOf_24)) (bl_ok (ok_icne d_M_valueOf_25 (by decide)))))))) (bn_ok (bn_ok (bn_ok (bn_ok (bl_ok (ok_iload_n rfl d_M_valueOf_28)) (bl_ok (ok_bipush (by decide) d_M_valueOf_29))) (bn_ok (bl_ok (ok_aload_n rfl d_M_valueOf_31)) (bl_ok (ok_getf d_M_valueOf_32 (cl_5 hG) (by decide) w_611)))) (bn_ok (bn_ok (bl_ok (ok_sipush (by decide) d_M_valueOf_35)) (bl_ok (ok_iload d_M_valueOf_38))) (bn_ok (bl_ok (ok_imul d_M_valueOf_40)) (bl_ok (ok_iload_n rfl d_M_valueOf_41))))) (bn_ok (bn_ok (bn_ok (bl_ok (ok_iadd d_M_valueOf_42)) (bl_ok (ok_iald d_M_valueOf_43 (kt_0 hG)))) (bn_ok (bl_ok (ok_imul d_M_valueOf_44)) (bl_ok (ok_iadd d_M_valueOf_45)))) (bn_ok (bn_ok (bl_ok (ok_istore_n rfl d_M_valueOf_46 (by decide))) (bl_ok (ok_iinc d_M_valueOf_47 (by decide) (by decide)))) (bn_ok (bl_ok (ok_goto d_M_valueOf_50 (by decide))) (bn_ok (bl_ok (ok_iload_n rfl d_M_valueOf_53)) (bl_ok (ok_ireturn d_M_valueOf_54 rfl))))))))
theorem d_M_costOf_0 : decode (qB q_M_costOf) 0 = .ok (.aload_n 0, 1) := by decide +kernel
theorem d_M_costOf_1 : decode (qB q_M_costOf) 1 = .ok (.iload_n 1, 1) := by decide +kernel
theorem d_M_costOf_2 : decode (qB q_M_costOf) 2 = .ok (.invokevirtual 121, 3) := by decide +kernel
theorem d_M_costOf_5 : decode (qB q_M_costOf) 5 = .ok (.ifCond .eq 15, 3) := by decide +kernel
theorem d_M_costOf_8 : decode (qB q_M_costOf) 8 = .ok (.ldc2_w 117, 3) := by decide +kernel
theorem d_M_costOf_11 : decode (qB q_M_costOf) 11 = .ok (.aload_n 0, 1) := by decide +kernel
theorem d_M_costOf_12 : decode (qB q_M_costOf) 12 = .ok (.getfield 23, 3) := by decide +kernel
theorem d_M_costOf_15 : decode (qB q_M_costOf) 15 = .ok (.iload_n 1, 1) := by decide +kernel
theorem d_M_costOf_16 : decode (qB q_M_costOf) 16 = .ok (.iaload, 1) := by decide +kernel
theorem d_M_costOf_17 : decode (qB q_M_costOf) 17 = .ok (.i2l, 1) := by decide +kernel
theorem d_M_costOf_18 : decode (qB q_M_costOf) 18 = .ok (.lmul, 1) := by decide +kernel
theorem d_M_costOf_19 : decode (qB q_M_costOf) 19 = .ok (.lreturn, 1) := by decide +kernel
theorem d_M_costOf_20 : decode (qB q_M_costOf) 20 = .ok (.ldc2_w 117, 3) := by decide +kernel
theorem d_M_costOf_23 : decode (qB q_M_costOf) 23 = .ok (.aload_n 0, 1) := by decide +kernel
theorem d_M_costOf_24 : decode (qB q_M_costOf) 24 = .ok (.getfield 7, 3) := by decide +kernel
theorem d_M_costOf_27 : decode (qB q_M_costOf) 27 = .ok (.iload_n 1, 1) := by decide +kernel
theorem d_M_costOf_28 : decode (qB q_M_costOf) 28 = .ok (.iaload, 1) := by decide +kernel
theorem d_M_costOf_29 : decode (qB q_M_costOf) 29 = .ok (.i2l, 1) := by decide +kernel
theorem d_M_costOf_30 : decode (qB q_M_costOf) 30 = .ok (.lmul, 1) := by decide +kernel
theorem d_M_costOf_31 : decode (qB q_M_costOf) 31 = .ok (.lstore_n 3, 1) := by decide +kernel
theorem d_M_costOf_32 : decode (qB q_M_costOf) 32 = .ok (.iconst 0, 1) := by decide +kernel
theorem d_M_costOf_33 : decode (qB q_M_costOf) 33 = .ok (.istore 5, 2) := by decide +kernel
theorem d_M_costOf_35 : decode (qB q_M_costOf) 35 = .ok (.iload 5, 2) := by decide +kernel
theorem d_M_costOf_37 : decode (qB q_M_costOf) 37 = .ok (.iconst 4, 1) := by decide +kernel
theorem d_M_costOf_38 : decode (qB q_M_costOf) 38 = .ok (.if_icmp .ge 39, 3) := by decide +kernel
theorem d_M_costOf_41 : decode (qB q_M_costOf) 41 = .ok (.lload_n 3, 1) := by decide +kernel
theorem d_M_costOf_42 : decode (qB q_M_costOf) 42 = .ok (.iload 5, 2) := by decide +kernel
theorem d_M_costOf_44 : decode (qB q_M_costOf) 44 = .ok (.iload_n 2, 1) := by decide +kernel
theorem d_M_costOf_45 : decode (qB q_M_costOf) 45 = .ok (.if_icmp .ne 7, 3) := by decide +kernel
theorem d_M_costOf_48 : decode (qB q_M_costOf) 48 = .ok (.lconst 0, 1) := by decide +kernel
theorem d_M_costOf_49 : decode (qB q_M_costOf) 49 = .ok (.goto 20, 3) := by decide +kernel
theorem d_M_costOf_52 : decode (qB q_M_costOf) 52 = .ok (.aload_n 0, 1) := by decide +kernel
theorem d_M_costOf_53 : decode (qB q_M_costOf) 53 = .ok (.getfield 35, 3) := by decide +kernel
theorem d_M_costOf_56 : decode (qB q_M_costOf) 56 = .ok (.iload 5, 2) := by decide +kernel
theorem d_M_costOf_58 : decode (qB q_M_costOf) 58 = .ok (.iaload, 1) := by decide +kernel
theorem d_M_costOf_59 : decode (qB q_M_costOf) 59 = .ok (.i2l, 1) := by decide +kernel
theorem d_M_costOf_60 : decode (qB q_M_costOf) 60 = .ok (.aload_n 0, 1) := by decide +kernel
theorem d_M_costOf_61 : decode (qB q_M_costOf) 61 = .ok (.iload 5, 2) := by decide +kernel
theorem d_M_costOf_63 : decode (qB q_M_costOf) 63 = .ok (.iload_n 1, 1) := by decide +kernel
theorem d_M_costOf_64 : decode (qB q_M_costOf) 64 = .ok (.invokevirtual 125, 3) := by decide +kernel
theorem d_M_costOf_67 : decode (qB q_M_costOf) 67 = .ok (.i2l, 1) := by decide +kernel
theorem d_M_costOf_68 : decode (qB q_M_costOf) 68 = .ok (.lmul, 1) := by decide +kernel
theorem d_M_costOf_69 : decode (qB q_M_costOf) 69 = .ok (.ladd, 1) := by decide +kernel
theorem d_M_costOf_70 : decode (qB q_M_costOf) 70 = .ok (.lstore_n 3, 1) := by decide +kernel
theorem d_M_costOf_71 : decode (qB q_M_costOf) 71 = .ok (.iinc 5 1, 3) := by decide +kernel
theorem d_M_costOf_74 : decode (qB q_M_costOf) 74 = .ok (.goto (-39), 3) := by decide +kernel
theorem d_M_costOf_77 : decode (qB q_M_costOf) 77 = .ok (.lload_n 3, 1) := by decide +kernel
theorem d_M_costOf_78 : decode (qB q_M_costOf) 78 = .ok (.lreturn, 1) := by decide +kernel
set_option maxRecDepth 10000 in
theorem k_M_costOf {G : mxG} (hG : mx_GG G) : ∀ pc r, t_M_costOf pc = some r → mx_Ok G mx_W mx_MT q_M_costOf pc r := (bn_ok (bn_ok (bn_ok (bn_ok (bn_ok (bl_ok (ok_aload_n rfl d_M_costOf_0)) (bn_ok (bl_ok (ok_iload_n rfl d_M_costOf_1)) (bl_ok (ok_cv mx_W_good (cl_5 hG) d_M_costOf_2 (mt_M_isBridged) mk_M_isBridged w_816 w_818 ws_M_isBridged (by decide) (by decide))))) (bn_ok (bl_ok (ok_ifeq d_M_costOf_5 (by decide))) (bn_ok (bl_ok (ok_ldc2 d_M_costOf_8 w_737)) (bl_ok (ok_aload_n rfl d_M_costOf_11))))) (bn_ok (bn_ok (bl_ok (ok_getf d_M_costOf_12 (cl_5 hG) (by decide) w_609)) (bn_ok (bl_ok (ok_iload_n rfl d_M_costOf_15)) (bl_ok (ok_iald d_M_costOf_16 (kt_0 hG))))) (bn_ok (bl_ok (ok_i2l d_M_costOf_17)) (bn_ok (bl_ok (ok_lmul d_M_costOf_18)) (bl_ok (ok_lreturn d_M_costOf_19 rfl)))))) (bn_ok (bn_ok (bn_ok (bl_ok (ok_ldc2 d_M_costOf_20 w_737)) (bn_ok (bl_ok (ok_aload_n rfl d_M_costOf_23)) (bl_ok (ok_getf d_M_costOf_24 (cl_5 hG) (by decide) w_605)))) (bn_ok (bl_ok (ok_iload_n rfl d_M_costOf_27)) (bn_ok (bl_ok (ok_iald d_M_costOf_28 (kt_0 hG))) (bl_ok (ok_i2l d_M_costOf_29))))) (bn_ok (bn_ok (bl_ok (ok_lmul d_M_costOf_30)) (bn_ok (bl_ok (ok_lstore_n rfl d_M_costOf_31 (by decide))) (bl_ok (ok_iconst (by decide) d_M_costOf_32)))) (bn_ok (bl_ok (ok_istore d_M_costOf_33 (by decide))) (bn_ok (bl_ok (ok_iload d_M_costOf_35)) (bl_ok (ok_iconst (by decide) d_M_costOf_37))))))) (bn_ok (bn_ok (bn_ok (bn_ok (bl_ok (ok_icge d_M_costOf_38 (by decide))) (bn_ok (bl_ok (ok_lload_n rfl d_M_costOf_41)) (bl_ok (ok_iload d_M_costOf_42)))) (bn_ok (bl_ok (ok_iload_n rfl d_M_costOf_44)) (bn_ok (bl_ok (ok_icne d_M_costOf_45 (by decide))) (bl_ok (ok_lconst (by decide) d_M_costOf_48))))) (bn_ok (bn_ok (bl_ok (ok_goto d_M_costOf_49 (by decide))) (bn_ok (bl_ok (ok_aload_n rfl d_M_costOf_52)) (bl_ok (ok_getf d_M_costOf_53 (cl_5 hG) (by decide) w_613)))) (bn_ok (bl_ok (ok_iload d_M_costOf_56)) (bn_ok (bl_ok (ok_iald d_M_costOf_58 (kt_0 hG))) (bl_ok (ok_i2l d_M_costOf_59)))))) (bn_ok (bn_ok (bn_ok (bl_ok (ok_aload_n rfl d_M_costOf_60)) (bn_ok (bl_ok (ok_iload d_M_costOf_61)) (bl_ok (ok_iload_n rfl d_M_costOf_63)))) (bn_ok (bl_ok (ok_cv mx_W_good (cl_5 hG) d_M_costOf_64 (mt_M_valueOf) mk_M_valueOf w_820 w_822 ws_M_valueOf (by decide) (by decide))) (bn_ok (bl_ok (ok_i2l d_M_costOf_67)) (bl_ok (ok_lmul d_M_costOf_68))))) (bn_ok (bn_ok (bl_ok (ok_ladd d_M_costOf_69)) (bn_ok (bl_ok (ok_lstore_n rfl d_M_costOf_70 (by decide))) (bl_ok (ok_iinc d_M_costOf_71 (by decide) (by decide))))) (bn_ok (bl_ok (ok_goto d_M_costOf_74 (by decide))) (bn_ok (bl_ok (ok_lload_n rfl d_M_costOf_77)) (bl_ok (ok_lreturn d_M_costOf_78 rfl))))))))
theorem d_M_stepX_0 : decode (qB q_M_stepX) 0 = .ok (.iload_n 0, 1) := by decide +kernel
theorem d_M_stepX_1 : decode (qB q_M_stepX) 1 = .ok (.bipush 8, 2) := by decide +kernel
theorem d_M_stepX_3 : decode (qB q_M_stepX) 3 = .ok (.irem, 1) := by decide +kernel
theorem d_M_stepX_4 : decode (qB q_M_stepX) 4 = .ok (.istore_n 1, 1) := by decide +kernel
theorem d_M_stepX_5 : decode (qB q_M_stepX) 5 = .ok (.iload_n 1, 1) := by decide +kernel
theorem d_M_stepX_6 : decode (qB q_M_stepX) 6 = .ok (.iconst 1, 1) := by decide +kernel
theorem d_M_stepX_7 : decode (qB q_M_stepX) 7 = .ok (.if_icmp .ne 7, 3) := by decide +kernel
theorem d_M_stepX_10 : decode (qB q_M_stepX) 10 = .ok (.iconst 2, 1) := by decide +kernel
theorem d_M_stepX_11 : decode (qB q_M_stepX) 11 = .ok (.goto 33, 3) := by decide +kernel
theorem d_M_stepX_14 : decode (qB q_M_stepX) 14 = .ok (.iload_n 1, 1) := by decide +kernel
theorem d_M_stepX_15 : decode (qB q_M_stepX) 15 = .ok (.bipush 7, 2) := by decide +kernel
theorem d_M_stepX_17 : decode (qB q_M_stepX) 17 = .ok (.if_icmp .ne 8, 3) := by decide +kernel
theorem d_M_stepX_20 : decode (qB q_M_stepX) 20 = .ok (.bipush (-2), 2) := by decide +kernel
theorem d_M_stepX_22 : decode (qB q_M_stepX) 22 = .ok (.goto 22, 3) := by decide +kernel
theorem d_M_stepX_25 : decode (qB q_M_stepX) 25 = .ok (.iload_n 1, 1) := by decide +kernel
theorem d_M_stepX_26 : decode (qB q_M_stepX) 26 = .ok (.iconst 4, 1) := by decide +kernel
theorem d_M_stepX_27 : decode (qB q_M_stepX) 27 = .ok (.if_icmp .ne 7, 3) := by decide +kernel
theorem d_M_stepX_30 : decode (qB q_M_stepX) 30 = .ok (.iconst 0, 1) := by decide +kernel
theorem d_M_stepX_31 : decode (qB q_M_stepX) 31 = .ok (.goto 13, 3) := by decide +kernel
theorem d_M_stepX_34 : decode (qB q_M_stepX) 34 = .ok (.iload_n 1, 1) := by decide +kernel
theorem d_M_stepX_35 : decode (qB q_M_stepX) 35 = .ok (.iconst 4, 1) := by decide +kernel
theorem d_M_stepX_36 : decode (qB q_M_stepX) 36 = .ok (.if_icmp .ge 7, 3) := by decide +kernel
theorem d_M_stepX_39 : decode (qB q_M_stepX) 39 = .ok (.iconst 1, 1) := by decide +kernel
theorem d_M_stepX_40 : decode (qB q_M_stepX) 40 = .ok (.goto 4, 3) := by decide +kernel
theorem d_M_stepX_43 : decode (qB q_M_stepX) 43 = .ok (.iconst (-1), 1) := by decide +kernel
theorem d_M_stepX_44 : decode (qB q_M_stepX) 44 = .ok (.istore_n 2, 1) := by decide +kernel
theorem d_M_stepX_45 : decode (qB q_M_stepX) 45 = .ok (.iload_n 0, 1) := by decide +kernel
theorem d_M_stepX_46 : decode (qB q_M_stepX) 46 = .ok (.bipush 8, 2) := by decide +kernel
theorem d_M_stepX_48 : decode (qB q_M_stepX) 48 = .ok (.if_icmp .ge 7, 3) := by decide +kernel
theorem d_M_stepX_51 : decode (qB q_M_stepX) 51 = .ok (.iload_n 2, 1) := by decide +kernel
theorem d_M_stepX_52 : decode (qB q_M_stepX) 52 = .ok (.goto 5, 3) := by decide +kernel
theorem d_M_stepX_55 : decode (qB q_M_stepX) 55 = .ok (.iload_n 2, 1) := by decide +kernel
theorem d_M_stepX_56 : decode (qB q_M_stepX) 56 = .ok (.ineg, 1) := by decide +kernel
theorem d_M_stepX_57 : decode (qB q_M_stepX) 57 = .ok (.ireturn, 1) := by decide +kernel
set_option maxRecDepth 10000 in
theorem k_M_stepX {G : mxG} (hG : mx_GG G) : ∀ pc r, t_M_stepX pc = some r → mx_Ok G mx_W mx_MT q_M_stepX pc r := (bn_ok (bn_ok (bn_ok (bn_ok (bn_ok (bl_ok (ok_iload_n rfl d_M_stepX_0)) (bl_ok (ok_bipush (by decide) d_M_stepX_1))) (bn_ok (bl_ok (ok_irem d_M_stepX_3)) (bl_ok (ok_istore_n rfl d_M_stepX_4 (by decide))))) (bn_ok (bn_ok (bl_ok (ok_iload_n rfl d_M_stepX_5)) (bl_ok (ok_iconst (by decide) d_M_stepX_6))) (bn_ok (bl_ok (ok_icne d_M_stepX_7 (by decide))) (bl_ok (ok_iconst (by decide) d_M_stepX_10))))) (bn_ok (bn_ok (bn_ok (bl_ok (ok_goto d_M_stepX_11 (by decide))) (bl_ok (ok_iload_n rfl d_M_stepX_14))) (bn_ok (bl_ok (ok_bipush (by decide) d_M_stepX_15)) (bl_ok (ok_icne d_M_stepX_17 (by decide))))) (bn_ok (bn_ok (bl_ok (ok_bipush (by decide) d_M_stepX_20)) (bl_ok (ok_goto d_M_stepX_22 (by decide)))) (bn_ok (bl_ok (ok_iload_n rfl d_M_stepX_25)) (bn_ok (bl_ok (ok_iconst (by decide) d_M_stepX_26)) (bl_ok (ok_icne d_M_stepX_27 (by decide)))))))) (bn_ok (bn_ok (bn_ok (bn_ok (bl_ok (ok_iconst (by decide) d_M_stepX_30)) (bl_ok (ok_goto d_M_stepX_31 (by decide)))) (bn_ok (bl_ok (ok_iload_n rfl d_M_stepX_34)) (bl_ok (ok_iconst (by decide) d_M_stepX_35)))) (bn_ok (bn_ok (bl_ok (ok_icge d_M_stepX_36 (by decide))) (bl_ok (ok_iconst (by decide) d_M_stepX_39))) (bn_ok (bl_ok (ok_goto d_M_stepX_40 (by decide))) (bl_ok (ok_iconst (by decide) d_M_stepX_43))))) (bn_ok (bn_ok (bn_ok (bl_ok (ok_istore_n rfl d_M_stepX_44 (by decide))) (bl_ok (ok_iload_n rfl d_M_stepX_45))) (bn_ok (bl_ok (ok_bipush (by decide) d_M_stepX_46)) (bl_ok (ok_icge d_M_stepX_48 (by decide))))) (bn_ok (bn_ok (bl_ok (ok_iload_n rfl d_M_stepX_51)) (bl_ok (ok_goto d_M_stepX_52 (by decide)))) (bn_ok (bl_ok (ok_iload_n rfl d_M_stepX_55)) (bn_ok (bl_ok (ok_ineg d_M_stepX_56)) (bl_ok (ok_ireturn d_M_stepX_57 rfl))))))))
theorem d_M_stepY_0 : decode (qB q_M_stepY) 0 = .ok (.iload_n 0, 1) := by decide +kernel
theorem d_M_stepY_1 : decode (qB q_M_stepY) 1 = .ok (.bipush 8, 2) := by decide +kernel
theorem d_M_stepY_3 : decode (qB q_M_stepY) 3 = .ok (.irem, 1) := by decide +kernel
theorem d_M_stepY_4 : decode (qB q_M_stepY) 4 = .ok (.istore_n 1, 1) := by decide +kernel
theorem d_M_stepY_5 : decode (qB q_M_stepY) 5 = .ok (.iload_n 1, 1) := by decide +kernel
theorem d_M_stepY_6 : decode (qB q_M_stepY) 6 = .ok (.ifCond .ne 7, 3) := by decide +kernel
theorem d_M_stepY_9 : decode (qB q_M_stepY) 9 = .ok (.iconst 0, 1) := by decide +kernel
theorem d_M_stepY_10 : decode (qB q_M_stepY) 10 = .ok (.goto 18, 3) := by decide +kernel
theorem d_M_stepY_13 : decode (qB q_M_stepY) 13 = .ok (.iload_n 1, 1) := by decide +kernel
theorem d_M_stepY_14 : decode (qB q_M_stepY) 14 = .ok (.iconst 3, 1) := by decide +kernel
theorem d_M_stepY_15 : decode (qB q_M_stepY) 15 = .ok (.if_icmp .eq 8, 3) := by decide +kernel
theorem d_M_stepY_18 : decode (qB q_M_stepY) 18 = .ok (.iload_n 1, 1) := by decide +kernel
theorem d_M_stepY_19 : decode (qB q_M_stepY) 19 = .ok (.iconst 5, 1) := by decide +kernel
theorem d_M_stepY_20 : decode (qB q_M_stepY) 20 = .ok (.if_icmp .ne 7, 3) := by decide +kernel
theorem d_M_stepY_23 : decode (qB q_M_stepY) 23 = .ok (.iconst 2, 1) := by decide +kernel
theorem d_M_stepY_24 : decode (qB q_M_stepY) 24 = .ok (.goto 4, 3) := by decide +kernel
theorem d_M_stepY_27 : decode (qB q_M_stepY) 27 = .ok (.iconst 1, 1) := by decide +kernel
theorem d_M_stepY_28 : decode (qB q_M_stepY) 28 = .ok (.istore_n 2, 1) := by decide +kernel
theorem d_M_stepY_29 : decode (qB q_M_stepY) 29 = .ok (.iload_n 0, 1) := by decide +kernel
theorem d_M_stepY_30 : decode (qB q_M_stepY) 30 = .ok (.bipush 8, 2) := by decide +kernel
theorem d_M_stepY_32 : decode (qB q_M_stepY) 32 = .ok (.if_icmp .ge 7, 3) := by decide +kernel
theorem d_M_stepY_35 : decode (qB q_M_stepY) 35 = .ok (.iload_n 2, 1) := by decide +kernel
theorem d_M_stepY_36 : decode (qB q_M_stepY) 36 = .ok (.goto 5, 3) := by decide +kernel
theorem d_M_stepY_39 : decode (qB q_M_stepY) 39 = .ok (.iload_n 2, 1) := by decide +kernel
theorem d_M_stepY_40 : decode (qB q_M_stepY) 40 = .ok (.ineg, 1) := by decide +kernel
theorem d_M_stepY_41 : decode (qB q_M_stepY) 41 = .ok (.ireturn, 1) := by decide +kernel
set_option maxRecDepth 10000 in
theorem k_M_stepY {G : mxG} (hG : mx_GG G) : ∀ pc r, t_M_stepY pc = some r → mx_Ok G mx_W mx_MT q_M_stepY pc r := (bn_ok (bn_ok (bn_ok (bn_ok (bl_ok (ok_iload_n rfl d_M_stepY_0)) (bn_ok (bl_ok (ok_bipush (by decide) d_M_stepY_1)) (bl_ok (ok_irem d_M_stepY_3)))) (bn_ok (bl_ok (ok_istore_n rfl d_M_stepY_4 (by decide))) (bn_ok (bl_ok (ok_iload_n rfl d_M_stepY_5)) (bl_ok (ok_ifne d_M_stepY_6 (by decide)))))) (bn_ok (bn_ok (bl_ok (ok_iconst (by decide) d_M_stepY_9)) (bn_ok (bl_ok (ok_goto d_M_stepY_10 (by decide))) (bl_ok (ok_iload_n rfl d_M_stepY_13)))) (bn_ok (bn_ok (bl_ok (ok_iconst (by decide) d_M_stepY_14)) (bl_ok (ok_iceq d_M_stepY_15 (by decide)))) (bn_ok (bl_ok (ok_iload_n rfl d_M_stepY_18)) (bl_ok (ok_iconst (by decide) d_M_stepY_19)))))) (bn_ok (bn_ok (bn_ok (bl_ok (ok_icne d_M_stepY_20 (by decide))) (bn_ok (bl_ok (ok_iconst (by decide) d_M_stepY_23)) (bl_ok (ok_goto d_M_stepY_24 (by decide))))) (bn_ok (bl_ok (ok_iconst (by decide) d_M_stepY_27)) (bn_ok (bl_ok (ok_istore_n rfl d_M_stepY_28 (by decide))) (bl_ok (ok_iload_n rfl d_M_stepY_29))))) (bn_ok (bn_ok (bl_ok (ok_bipush (by decide) d_M_stepY_30)) (bn_ok (bl_ok (ok_icge d_M_stepY_32 (by decide))) (bl_ok (ok_iload_n rfl d_M_stepY_35)))) (bn_ok (bn_ok (bl_ok (ok_goto d_M_stepY_36 (by decide))) (bl_ok (ok_iload_n rfl d_M_stepY_39))) (bn_ok (bl_ok (ok_ineg d_M_stepY_40)) (bl_ok (ok_ireturn d_M_stepY_41 rfl)))))))
theorem d_M_lengthOf_0 : decode (qB q_M_lengthOf) 0 = .ok (.iload_n 0, 1) := by decide +kernel
theorem d_M_lengthOf_1 : decode (qB q_M_lengthOf) 1 = .ok (.iconst 2, 1) := by decide +kernel
theorem d_M_lengthOf_2 : decode (qB q_M_lengthOf) 2 = .ok (.irem, 1) := by decide +kernel
theorem d_M_lengthOf_3 : decode (qB q_M_lengthOf) 3 = .ok (.iconst 1, 1) := by decide +kernel
theorem d_M_lengthOf_4 : decode (qB q_M_lengthOf) 4 = .ok (.if_icmp .ne 8, 3) := by decide +kernel
theorem d_M_lengthOf_7 : decode (qB q_M_lengthOf) 7 = .ok (.bipush 22, 2) := by decide +kernel
theorem d_M_lengthOf_9 : decode (qB q_M_lengthOf) 9 = .ok (.goto 16, 3) := by decide +kernel
theorem d_M_lengthOf_12 : decode (qB q_M_lengthOf) 12 = .ok (.iload_n 0, 1) := by decide +kernel
theorem d_M_lengthOf_13 : decode (qB q_M_lengthOf) 13 = .ok (.iconst 4, 1) := by decide +kernel
theorem d_M_lengthOf_14 : decode (qB q_M_lengthOf) 14 = .ok (.irem, 1) := by decide +kernel
theorem d_M_lengthOf_15 : decode (qB q_M_lengthOf) 15 = .ok (.ifCond .ne 8, 3) := by decide +kernel
theorem d_M_lengthOf_18 : decode (qB q_M_lengthOf) 18 = .ok (.bipush 10, 2) := by decide +kernel
theorem d_M_lengthOf_20 : decode (qB q_M_lengthOf) 20 = .ok (.goto 5, 3) := by decide +kernel
theorem d_M_lengthOf_23 : decode (qB q_M_lengthOf) 23 = .ok (.bipush 14, 2) := by decide +kernel
theorem d_M_lengthOf_25 : decode (qB q_M_lengthOf) 25 = .ok (.ireturn, 1) := by decide +kernel
set_option maxRecDepth 10000 in
theorem k_M_lengthOf {G : mxG} (hG : mx_GG G) : ∀ pc r, t_M_lengthOf pc = some r → mx_Ok G mx_W mx_MT q_M_lengthOf pc r := (bn_ok (bn_ok (bn_ok (bl_ok (ok_iload_n rfl d_M_lengthOf_0)) (bn_ok (bl_ok (ok_iconst (by decide) d_M_lengthOf_1)) (bl_ok (ok_irem d_M_lengthOf_2)))) (bn_ok (bn_ok (bl_ok (ok_iconst (by decide) d_M_lengthOf_3)) (bl_ok (ok_icne d_M_lengthOf_4 (by decide)))) (bn_ok (bl_ok (ok_bipush (by decide) d_M_lengthOf_7)) (bl_ok (ok_goto d_M_lengthOf_9 (by decide)))))) (bn_ok (bn_ok (bn_ok (bl_ok (ok_iload_n rfl d_M_lengthOf_12)) (bl_ok (ok_iconst (by decide) d_M_lengthOf_13))) (bn_ok (bl_ok (ok_irem d_M_lengthOf_14)) (bl_ok (ok_ifne d_M_lengthOf_15 (by decide))))) (bn_ok (bn_ok (bl_ok (ok_bipush (by decide) d_M_lengthOf_18)) (bl_ok (ok_goto d_M_lengthOf_20 (by decide)))) (bn_ok (bl_ok (ok_bipush (by decide) d_M_lengthOf_23)) (bl_ok (ok_ireturn d_M_lengthOf_25 rfl))))))
theorem d_M_differ_0 : decode (qB q_M_differ) 0 = .ok (.iload_n 0, 1) := by decide +kernel
theorem d_M_differ_1 : decode (qB q_M_differ) 1 = .ok (.iload_n 1, 1) := by decide +kernel
theorem d_M_differ_2 : decode (qB q_M_differ) 2 = .ok (.if_icmp .le 9, 3) := by decide +kernel
theorem d_M_differ_5 : decode (qB q_M_differ) 5 = .ok (.iload_n 0, 1) := by decide +kernel
theorem d_M_differ_6 : decode (qB q_M_differ) 6 = .ok (.iload_n 1, 1) := by decide +kernel
theorem d_M_differ_7 : decode (qB q_M_differ) 7 = .ok (.isub, 1) := by decide +kernel
theorem d_M_differ_8 : decode (qB q_M_differ) 8 = .ok (.goto 6, 3) := by decide +kernel
theorem d_M_differ_11 : decode (qB q_M_differ) 11 = .ok (.iload_n 1, 1) := by decide +kernel
theorem d_M_differ_12 : decode (qB q_M_differ) 12 = .ok (.iload_n 0, 1) := by decide +kernel
theorem d_M_differ_13 : decode (qB q_M_differ) 13 = .ok (.isub, 1) := by decide +kernel
theorem d_M_differ_14 : decode (qB q_M_differ) 14 = .ok (.istore_n 2, 1) := by decide +kernel
theorem d_M_differ_15 : decode (qB q_M_differ) 15 = .ok (.iload_n 2, 1) := by decide +kernel
theorem d_M_differ_16 : decode (qB q_M_differ) 16 = .ok (.bipush 8, 2) := by decide +kernel
theorem d_M_differ_18 : decode (qB q_M_differ) 18 = .ok (.if_icmp .le 10, 3) := by decide +kernel
theorem d_M_differ_21 : decode (qB q_M_differ) 21 = .ok (.bipush 16, 2) := by decide +kernel
theorem d_M_differ_23 : decode (qB q_M_differ) 23 = .ok (.iload_n 2, 1) := by decide +kernel
theorem d_M_differ_24 : decode (qB q_M_differ) 24 = .ok (.isub, 1) := by decide +kernel
theorem d_M_differ_25 : decode (qB q_M_differ) 25 = .ok (.goto 4, 3) := by decide +kernel
theorem d_M_differ_28 : decode (qB q_M_differ) 28 = .ok (.iload_n 2, 1) := by decide +kernel
theorem d_M_differ_29 : decode (qB q_M_differ) 29 = .ok (.ireturn, 1) := by decide +kernel
set_option maxRecDepth 10000 in
theorem k_M_differ {G : mxG} (hG : mx_GG G) : ∀ pc r, t_M_differ pc = some r → mx_Ok G mx_W mx_MT q_M_differ pc r := (bn_ok (bn_ok (bn_ok (bn_ok (bl_ok (ok_iload_n rfl d_M_differ_0)) (bl_ok (ok_iload_n rfl d_M_differ_1))) (bn_ok (bl_ok (ok_icle d_M_differ_2 (by decide))) (bn_ok (bl_ok (ok_iload_n rfl d_M_differ_5)) (bl_ok (ok_iload_n rfl d_M_differ_6))))) (bn_ok (bn_ok (bl_ok (ok_isub d_M_differ_7)) (bl_ok (ok_goto d_M_differ_8 (by decide)))) (bn_ok (bl_ok (ok_iload_n rfl d_M_differ_11)) (bn_ok (bl_ok (ok_iload_n rfl d_M_differ_12)) (bl_ok (ok_isub d_M_differ_13)))))) (bn_ok (bn_ok (bn_ok (bl_ok (ok_istore_n rfl d_M_differ_14 (by decide))) (bl_ok (ok_iload_n rfl d_M_differ_15))) (bn_ok (bl_ok (ok_bipush (by decide) d_M_differ_16)) (bn_ok (bl_ok (ok_icle d_M_differ_18 (by decide))) (bl_ok (ok_bipush (by decide) d_M_differ_21))))) (bn_ok (bn_ok (bl_ok (ok_iload_n rfl d_M_differ_23)) (bl_ok (ok_isub d_M_differ_24))) (bn_ok (bl_ok (ok_goto d_M_differ_25 (by decide))) (bn_ok (bl_ok (ok_iload_n rfl d_M_differ_28)) (bl_ok (ok_ireturn d_M_differ_29 rfl)))))))
theorem d_M_isHeading_0 : decode (qB q_M_isHeading) 0 = .ok (.aload_n 0, 1) := by decide +kernel
theorem d_M_isHeading_1 : decode (qB q_M_isHeading) 1 = .ok (.getfield 38, 3) := by decide +kernel
theorem d_M_isHeading_4 : decode (qB q_M_isHeading) 4 = .ok (.iconst 2, 1) := by decide +kernel
theorem d_M_isHeading_5 : decode (qB q_M_isHeading) 5 = .ok (.if_icmp .eq 9, 3) := by decide +kernel
theorem d_M_isHeading_8 : decode (qB q_M_isHeading) 8 = .ok (.iload_n 1, 1) := by decide +kernel
theorem d_M_isHeading_9 : decode (qB q_M_isHeading) 9 = .ok (.iconst 2, 1) := by decide +kernel
theorem d_M_isHeading_10 : decode (qB q_M_isHeading) 10 = .ok (.irem, 1) := by decide +kernel
theorem d_M_isHeading_11 : decode (qB q_M_isHeading) 11 = .ok (.ifCond .ne 7, 3) := by decide +kernel
theorem d_M_isHeading_14 : decode (qB q_M_isHeading) 14 = .ok (.iconst 1, 1) := by decide +kernel
theorem d_M_isHeading_15 : decode (qB q_M_isHeading) 15 = .ok (.goto 4, 3) := by decide +kernel
theorem d_M_isHeading_18 : decode (qB q_M_isHeading) 18 = .ok (.iconst 0, 1) := by decide +kernel
theorem d_M_isHeading_19 : decode (qB q_M_isHeading) 19 = .ok (.ireturn, 1) := by decide +kernel
set_option maxRecDepth 10000 in
theorem k_M_isHeading {G : mxG} (hG : mx_GG G) : ∀ pc r, t_M_isHeading pc = some r → mx_Ok G mx_W mx_MT q_M_isHeading pc r := (bn_ok (bn_ok (bn_ok (bl_ok (ok_aload_n rfl d_M_isHeading_0)) (bn_ok (bl_ok (ok_getf d_M_isHeading_1 (cl_5 hG) (by decide) w_614)) (bl_ok (ok_iconst (by decide) d_M_isHeading_4)))) (bn_ok (bl_ok (ok_iceq d_M_isHeading_5 (by decide))) (bn_ok (bl_ok (ok_iload_n rfl d_M_isHeading_8)) (bl_ok (ok_iconst (by decide) d_M_isHeading_9))))) (bn_ok (bn_ok (bl_ok (ok_irem d_M_isHeading_10)) (bn_ok (bl_ok (ok_ifne d_M_isHeading_11 (by decide))) (bl_ok (ok_iconst (by decide) d_M_isHeading_14)))) (bn_ok (bl_ok (ok_goto d_M_isHeading_15 (by decide))) (bn_ok (bl_ok (ok_iconst (by decide) d_M_isHeading_18)) (bl_ok (ok_zreturn d_M_isHeading_19 rfl))))))
theorem d_M_onward_0 : decode (qB q_M_onward) 0 = .ok (.iload_n 1, 1) := by decide +kernel
theorem d_M_onward_1 : decode (qB q_M_onward) 1 = .ok (.aload_n 0, 1) := by decide +kernel
theorem d_M_onward_2 : decode (qB q_M_onward) 2 = .ok (.getfield 89, 3) := by decide +kernel
theorem d_M_onward_5 : decode (qB q_M_onward) 5 = .ok (.irem, 1) := by decide +kernel
theorem d_M_onward_6 : decode (qB q_M_onward) 6 = .ok (.iload_n 2, 1) := by decide +kernel
theorem d_M_onward_7 : decode (qB q_M_onward) 7 = .ok (.invokestatic 129, 3) := by decide +kernel
theorem d_M_onward_10 : decode (qB q_M_onward) 10 = .ok (.iadd, 1) := by decide +kernel
theorem d_M_onward_11 : decode (qB q_M_onward) 11 = .ok (.istore_n 3, 1) := by decide +kernel
theorem d_M_onward_12 : decode (qB q_M_onward) 12 = .ok (.iload_n 1, 1) := by decide +kernel
theorem d_M_onward_13 : decode (qB q_M_onward) 13 = .ok (.aload_n 0, 1) := by decide +kernel
theorem d_M_onward_14 : decode (qB q_M_onward) 14 = .ok (.getfield 89, 3) := by decide +kernel
theorem d_M_onward_17 : decode (qB q_M_onward) 17 = .ok (.idiv, 1) := by decide +kernel
theorem d_M_onward_18 : decode (qB q_M_onward) 18 = .ok (.iload_n 2, 1) := by decide +kernel
theorem d_M_onward_19 : decode (qB q_M_onward) 19 = .ok (.invokestatic 133, 3) := by decide +kernel
theorem d_M_onward_22 : decode (qB q_M_onward) 22 = .ok (.iadd, 1) := by decide +kernel
theorem d_M_onward_23 : decode (qB q_M_onward) 23 = .ok (.istore 4, 2) := by decide +kernel
theorem d_M_onward_25 : decode (qB q_M_onward) 25 = .ok (.aload_n 0, 1) := by decide +kernel
theorem d_M_onward_26 : decode (qB q_M_onward) 26 = .ok (.iload_n 3, 1) := by decide +kernel
theorem d_M_onward_27 : decode (qB q_M_onward) 27 = .ok (.iload 4, 2) := by decide +kernel
theorem d_M_onward_29 : decode (qB q_M_onward) 29 = .ok (.invokevirtual 99, 3) := by decide +kernel
theorem d_M_onward_32 : decode (qB q_M_onward) 32 = .ok (.ifCond .eq 15, 3) := by decide +kernel
theorem d_M_onward_35 : decode (qB q_M_onward) 35 = .ok (.iload 4, 2) := by decide +kernel
theorem d_M_onward_37 : decode (qB q_M_onward) 37 = .ok (.aload_n 0, 1) := by decide +kernel
theorem d_M_onward_38 : decode (qB q_M_onward) 38 = .ok (.getfield 89, 3) := by decide +kernel
theorem d_M_onward_41 : decode (qB q_M_onward) 41 = .ok (.imul, 1) := by decide +kernel
theorem d_M_onward_42 : decode (qB q_M_onward) 42 = .ok (.iload_n 3, 1) := by decide +kernel
theorem d_M_onward_43 : decode (qB q_M_onward) 43 = .ok (.iadd, 1) := by decide +kernel
theorem d_M_onward_44 : decode (qB q_M_onward) 44 = .ok (.goto 4, 3) := by decide +kernel
theorem d_M_onward_47 : decode (qB q_M_onward) 47 = .ok (.iconst (-1), 1) := by decide +kernel
theorem d_M_onward_48 : decode (qB q_M_onward) 48 = .ok (.ireturn, 1) := by decide +kernel
set_option maxRecDepth 10000 in
theorem k_M_onward {G : mxG} (hG : mx_GG G) : ∀ pc r, t_M_onward pc = some r → mx_Ok G mx_W mx_MT q_M_onward pc r := (bn_ok (bn_ok (bn_ok (bn_ok (bl_ok (ok_iload_n rfl d_M_onward_0)) (bn_ok (bl_ok (ok_aload_n rfl d_M_onward_1)) (bl_ok (ok_getf d_M_onward_2 (cl_5 hG) (by decide) w_603)))) (bn_ok (bn_ok (bl_ok (ok_irem d_M_onward_5)) (bl_ok (ok_iload_n rfl d_M_onward_6))) (bn_ok (bl_ok (ok_cs mx_W_good d_M_onward_7 (mt_M_stepX) mk_M_stepX w_795 w_796 (by decide) (by decide))) (bl_ok (ok_iadd d_M_onward_10))))) (bn_ok (bn_ok (bn_ok (bl_ok (ok_istore_n rfl d_M_onward_11 (by decide))) (bl_ok (ok_iload_n rfl d_M_onward_12))) (bn_ok (bl_ok (ok_aload_n rfl d_M_onward_13)) (bl_ok (ok_getf d_M_onward_14 (cl_5 hG) (by decide) w_603)))) (bn_ok (bn_ok (bl_ok (ok_idiv d_M_onward_17)) (bl_ok (ok_iload_n rfl d_M_onward_18))) (bn_ok (bl_ok (ok_cs mx_W_good d_M_onward_19 (mt_M_stepY) mk_M_stepY w_798 w_799 (by decide) (by decide))) (bl_ok (ok_iadd d_M_onward_22)))))) (bn_ok (bn_ok (bn_ok (bl_ok (ok_istore d_M_onward_23 (by decide))) (bn_ok (bl_ok (ok_aload_n rfl d_M_onward_25)) (bl_ok (ok_iload_n rfl d_M_onward_26)))) (bn_ok (bn_ok (bl_ok (ok_iload d_M_onward_27)) (bl_ok (ok_cv mx_W_good (cl_5 hG) d_M_onward_29 (mt_M_isCell) mk_M_isCell w_707 w_709 ws_M_isCell (by decide) (by decide)))) (bn_ok (bl_ok (ok_ifeq d_M_onward_32 (by decide))) (bl_ok (ok_iload d_M_onward_35))))) (bn_ok (bn_ok (bn_ok (bl_ok (ok_aload_n rfl d_M_onward_37)) (bl_ok (ok_getf d_M_onward_38 (cl_5 hG) (by decide) w_603))) (bn_ok (bl_ok (ok_imul d_M_onward_41)) (bl_ok (ok_iload_n rfl d_M_onward_42)))) (bn_ok (bn_ok (bl_ok (ok_iadd d_M_onward_43)) (bl_ok (ok_goto d_M_onward_44 (by decide)))) (bn_ok (bl_ok (ok_iconst (by decide) d_M_onward_47)) (bl_ok (ok_ireturn d_M_onward_48 rfl)))))))
