theorem d_S_rowOf_0 : decode (qB q_S_rowOf) 0 = .ok (.iload_n 3, 1) := by decide +kernel
theorem d_S_rowOf_1 : decode (qB q_S_rowOf) 1 = .ok (.ifCond .le 9, 3) := by decide +kernel
theorem d_S_rowOf_4 : decode (qB q_S_rowOf) 4 = .ok (.iload_n 3, 1) := by decide +kernel
theorem d_S_rowOf_5 : decode (qB q_S_rowOf) 5 = .ok (.iconst 1, 1) := by decide +kernel
theorem d_S_rowOf_6 : decode (qB q_S_rowOf) 6 = .ok (.isub, 1) := by decide +kernel
theorem d_S_rowOf_7 : decode (qB q_S_rowOf) 7 = .ok (.goto 4, 3) := by decide +kernel
theorem d_S_rowOf_10 : decode (qB q_S_rowOf) 10 = .ok (.iconst 0, 1) := by decide +kernel
theorem d_S_rowOf_11 : decode (qB q_S_rowOf) 11 = .ok (.istore 5, 2) := by decide +kernel
theorem d_S_rowOf_13 : decode (qB q_S_rowOf) 13 = .ok (.aload_n 0, 1) := by decide +kernel
theorem d_S_rowOf_14 : decode (qB q_S_rowOf) 14 = .ok (.getfield 30, 3) := by decide +kernel
theorem d_S_rowOf_17 : decode (qB q_S_rowOf) 17 = .ok (.iload_n 1, 1) := by decide +kernel
theorem d_S_rowOf_18 : decode (qB q_S_rowOf) 18 = .ok (.iaload, 1) := by decide +kernel
theorem d_S_rowOf_19 : decode (qB q_S_rowOf) 19 = .ok (.iload 5, 2) := by decide +kernel
theorem d_S_rowOf_21 : decode (qB q_S_rowOf) 21 = .ok (.bipush 17, 2) := by decide +kernel
theorem d_S_rowOf_23 : decode (qB q_S_rowOf) 23 = .ok (.imul, 1) := by decide +kernel
theorem d_S_rowOf_24 : decode (qB q_S_rowOf) 24 = .ok (.iload_n 2, 1) := by decide +kernel
theorem d_S_rowOf_25 : decode (qB q_S_rowOf) 25 = .ok (.iadd, 1) := by decide +kernel
theorem d_S_rowOf_26 : decode (qB q_S_rowOf) 26 = .ok (.aload_n 0, 1) := by decide +kernel
theorem d_S_rowOf_27 : decode (qB q_S_rowOf) 27 = .ok (.getfield 72, 3) := by decide +kernel
theorem d_S_rowOf_30 : decode (qB q_S_rowOf) 30 = .ok (.imul, 1) := by decide +kernel
theorem d_S_rowOf_31 : decode (qB q_S_rowOf) 31 = .ok (.iadd, 1) := by decide +kernel
theorem d_S_rowOf_32 : decode (qB q_S_rowOf) 32 = .ok (.iload 4, 2) := by decide +kernel
theorem d_S_rowOf_34 : decode (qB q_S_rowOf) 34 = .ok (.iadd, 1) := by decide +kernel
theorem d_S_rowOf_35 : decode (qB q_S_rowOf) 35 = .ok (.ireturn, 1) := by decide +kernel
set_option maxRecDepth 10000 in
theorem k_S_rowOf {G : mxG} (hG : mx_GG G) : ∀ pc r, t_S_rowOf pc = some r → mx_Ok G mx_W mx_MT q_S_rowOf pc r := (bn_ok (bn_ok (bn_ok (bn_ok (bl_ok (ok_iload_n rfl d_S_rowOf_0)) (bn_ok (bl_ok (ok_ifle d_S_rowOf_1 (by decide))) (bl_ok (ok_iload_n rfl d_S_rowOf_4)))) (bn_ok (bl_ok (ok_iconst (by decide) d_S_rowOf_5)) (bn_ok (bl_ok (ok_isub d_S_rowOf_6)) (bl_ok (ok_goto d_S_rowOf_7 (by decide)))))) (bn_ok (bn_ok (bl_ok (ok_iconst (by decide) d_S_rowOf_10)) (bn_ok (bl_ok (ok_istore d_S_rowOf_11 (by decide))) (bl_ok (ok_aload_n rfl d_S_rowOf_13)))) (bn_ok (bl_ok (ok_getf d_S_rowOf_14 (cl_2 hG) (by decide) w_152)) (bn_ok (bl_ok (ok_iload_n rfl d_S_rowOf_17)) (bl_ok (ok_iald d_S_rowOf_18 (kt_0 hG))))))) (bn_ok (bn_ok (bn_ok (bl_ok (ok_iload d_S_rowOf_19)) (bn_ok (bl_ok (ok_bipush (by decide) d_S_rowOf_21)) (bl_ok (ok_imul d_S_rowOf_23)))) (bn_ok (bl_ok (ok_iload_n rfl d_S_rowOf_24)) (bn_ok (bl_ok (ok_iadd d_S_rowOf_25)) (bl_ok (ok_aload_n rfl d_S_rowOf_26))))) (bn_ok (bn_ok (bl_ok (ok_getf d_S_rowOf_27 (cl_2 hG) (by decide) w_158)) (bn_ok (bl_ok (ok_imul d_S_rowOf_30)) (bl_ok (ok_iadd d_S_rowOf_31)))) (bn_ok (bl_ok (ok_iload d_S_rowOf_32)) (bn_ok (bl_ok (ok_iadd d_S_rowOf_34)) (bl_ok (ok_ireturn d_S_rowOf_35 rfl)))))))
theorem d_S_codeOf_0 : decode (qB q_S_codeOf) 0 = .ok (.iload_n 0, 1) := by decide +kernel
theorem d_S_codeOf_1 : decode (qB q_S_codeOf) 1 = .ok (.sipush 612, 3) := by decide +kernel
theorem d_S_codeOf_4 : decode (qB q_S_codeOf) 4 = .ok (.imul, 1) := by decide +kernel
theorem d_S_codeOf_5 : decode (qB q_S_codeOf) 5 = .ok (.iload_n 1, 1) := by decide +kernel
theorem d_S_codeOf_6 : decode (qB q_S_codeOf) 6 = .ok (.bipush 36, 2) := by decide +kernel
theorem d_S_codeOf_8 : decode (qB q_S_codeOf) 8 = .ok (.imul, 1) := by decide +kernel
theorem d_S_codeOf_9 : decode (qB q_S_codeOf) 9 = .ok (.iadd, 1) := by decide +kernel
theorem d_S_codeOf_10 : decode (qB q_S_codeOf) 10 = .ok (.iload_n 2, 1) := by decide +kernel
theorem d_S_codeOf_11 : decode (qB q_S_codeOf) 11 = .ok (.bipush 9, 2) := by decide +kernel
theorem d_S_codeOf_13 : decode (qB q_S_codeOf) 13 = .ok (.imul, 1) := by decide +kernel
theorem d_S_codeOf_14 : decode (qB q_S_codeOf) 14 = .ok (.iadd, 1) := by decide +kernel
theorem d_S_codeOf_15 : decode (qB q_S_codeOf) 15 = .ok (.iload_n 3, 1) := by decide +kernel
theorem d_S_codeOf_16 : decode (qB q_S_codeOf) 16 = .ok (.iadd, 1) := by decide +kernel
theorem d_S_codeOf_17 : decode (qB q_S_codeOf) 17 = .ok (.ireturn, 1) := by decide +kernel
set_option maxRecDepth 10000 in
theorem k_S_codeOf {G : mxG} (hG : mx_GG G) : ∀ pc r, t_S_codeOf pc = some r → mx_Ok G mx_W mx_MT q_S_codeOf pc r := (bn_ok (bn_ok (bn_ok (bl_ok (ok_iload_n rfl d_S_codeOf_0)) (bn_ok (bl_ok (ok_sipush (by decide) d_S_codeOf_1)) (bl_ok (ok_imul d_S_codeOf_4)))) (bn_ok (bn_ok (bl_ok (ok_iload_n rfl d_S_codeOf_5)) (bl_ok (ok_bipush (by decide) d_S_codeOf_6))) (bn_ok (bl_ok (ok_imul d_S_codeOf_8)) (bl_ok (ok_iadd d_S_codeOf_9))))) (bn_ok (bn_ok (bl_ok (ok_iload_n rfl d_S_codeOf_10)) (bn_ok (bl_ok (ok_bipush (by decide) d_S_codeOf_11)) (bl_ok (ok_imul d_S_codeOf_13)))) (bn_ok (bn_ok (bl_ok (ok_iadd d_S_codeOf_14)) (bl_ok (ok_iload_n rfl d_S_codeOf_15))) (bn_ok (bl_ok (ok_iadd d_S_codeOf_16)) (bl_ok (ok_ireturn d_S_codeOf_17 rfl))))))
theorem d_S_headingOf_0 : decode (qB q_S_headingOf) 0 = .ok (.iload_n 0, 1) := by decide +kernel
theorem d_S_headingOf_1 : decode (qB q_S_headingOf) 1 = .ok (.sipush 612, 3) := by decide +kernel
theorem d_S_headingOf_4 : decode (qB q_S_headingOf) 4 = .ok (.irem, 1) := by decide +kernel
theorem d_S_headingOf_5 : decode (qB q_S_headingOf) 5 = .ok (.bipush 36, 2) := by decide +kernel
theorem d_S_headingOf_7 : decode (qB q_S_headingOf) 7 = .ok (.idiv, 1) := by decide +kernel
theorem d_S_headingOf_8 : decode (qB q_S_headingOf) 8 = .ok (.ireturn, 1) := by decide +kernel
set_option maxRecDepth 10000 in
theorem k_S_headingOf {G : mxG} (hG : mx_GG G) : ∀ pc r, t_S_headingOf pc = some r → mx_Ok G mx_W mx_MT q_S_headingOf pc r := (bn_ok (bn_ok (bl_ok (ok_iload_n rfl d_S_headingOf_0)) (bn_ok (bl_ok (ok_sipush (by decide) d_S_headingOf_1)) (bl_ok (ok_irem d_S_headingOf_4)))) (bn_ok (bl_ok (ok_bipush (by decide) d_S_headingOf_5)) (bn_ok (bl_ok (ok_idiv d_S_headingOf_7)) (bl_ok (ok_ireturn d_S_headingOf_8 rfl)))))
theorem d_S_bridgedOf_0 : decode (qB q_S_bridgedOf) 0 = .ok (.iload_n 0, 1) := by decide +kernel
theorem d_S_bridgedOf_1 : decode (qB q_S_bridgedOf) 1 = .ok (.bipush 36, 2) := by decide +kernel
theorem d_S_bridgedOf_3 : decode (qB q_S_bridgedOf) 3 = .ok (.irem, 1) := by decide +kernel
theorem d_S_bridgedOf_4 : decode (qB q_S_bridgedOf) 4 = .ok (.bipush 9, 2) := by decide +kernel
theorem d_S_bridgedOf_6 : decode (qB q_S_bridgedOf) 6 = .ok (.idiv, 1) := by decide +kernel
theorem d_S_bridgedOf_7 : decode (qB q_S_bridgedOf) 7 = .ok (.ireturn, 1) := by decide +kernel
set_option maxRecDepth 10000 in
theorem k_S_bridgedOf {G : mxG} (hG : mx_GG G) : ∀ pc r, t_S_bridgedOf pc = some r → mx_Ok G mx_W mx_MT q_S_bridgedOf pc r := (bn_ok (bn_ok (bl_ok (ok_iload_n rfl d_S_bridgedOf_0)) (bn_ok (bl_ok (ok_bipush (by decide) d_S_bridgedOf_1)) (bl_ok (ok_irem d_S_bridgedOf_3)))) (bn_ok (bl_ok (ok_bipush (by decide) d_S_bridgedOf_4)) (bn_ok (bl_ok (ok_idiv d_S_bridgedOf_6)) (bl_ok (ok_ireturn d_S_bridgedOf_7 rfl)))))
