theorem d_JI_bitCount_0 : decode (qB q_JI_bitCount) 0 = .ok (.iload_n 0, 1) := by decide +kernel
theorem d_JI_bitCount_1 : decode (qB q_JI_bitCount) 1 = .ok (.iload_n 0, 1) := by decide +kernel
theorem d_JI_bitCount_2 : decode (qB q_JI_bitCount) 2 = .ok (.iconst 1, 1) := by decide +kernel
theorem d_JI_bitCount_3 : decode (qB q_JI_bitCount) 3 = .ok (.iushr, 1) := by decide +kernel
theorem d_JI_bitCount_4 : decode (qB q_JI_bitCount) 4 = .ok (.ldc_w 265, 3) := by decide +kernel
theorem d_JI_bitCount_7 : decode (qB q_JI_bitCount) 7 = .ok (.iand, 1) := by decide +kernel
theorem d_JI_bitCount_8 : decode (qB q_JI_bitCount) 8 = .ok (.isub, 1) := by decide +kernel
theorem d_JI_bitCount_9 : decode (qB q_JI_bitCount) 9 = .ok (.istore_n 0, 1) := by decide +kernel
theorem d_JI_bitCount_10 : decode (qB q_JI_bitCount) 10 = .ok (.iload_n 0, 1) := by decide +kernel
theorem d_JI_bitCount_11 : decode (qB q_JI_bitCount) 11 = .ok (.ldc_w 266, 3) := by decide +kernel
theorem d_JI_bitCount_14 : decode (qB q_JI_bitCount) 14 = .ok (.iand, 1) := by decide +kernel
theorem d_JI_bitCount_15 : decode (qB q_JI_bitCount) 15 = .ok (.iload_n 0, 1) := by decide +kernel
theorem d_JI_bitCount_16 : decode (qB q_JI_bitCount) 16 = .ok (.iconst 2, 1) := by decide +kernel
theorem d_JI_bitCount_17 : decode (qB q_JI_bitCount) 17 = .ok (.iushr, 1) := by decide +kernel
theorem d_JI_bitCount_18 : decode (qB q_JI_bitCount) 18 = .ok (.ldc_w 266, 3) := by decide +kernel
theorem d_JI_bitCount_21 : decode (qB q_JI_bitCount) 21 = .ok (.iand, 1) := by decide +kernel
theorem d_JI_bitCount_22 : decode (qB q_JI_bitCount) 22 = .ok (.iadd, 1) := by decide +kernel
theorem d_JI_bitCount_23 : decode (qB q_JI_bitCount) 23 = .ok (.istore_n 0, 1) := by decide +kernel
theorem d_JI_bitCount_24 : decode (qB q_JI_bitCount) 24 = .ok (.iload_n 0, 1) := by decide +kernel
theorem d_JI_bitCount_25 : decode (qB q_JI_bitCount) 25 = .ok (.iload_n 0, 1) := by decide +kernel
theorem d_JI_bitCount_26 : decode (qB q_JI_bitCount) 26 = .ok (.iconst 4, 1) := by decide +kernel
theorem d_JI_bitCount_27 : decode (qB q_JI_bitCount) 27 = .ok (.iushr, 1) := by decide +kernel
theorem d_JI_bitCount_28 : decode (qB q_JI_bitCount) 28 = .ok (.iadd, 1) := by decide +kernel
theorem d_JI_bitCount_29 : decode (qB q_JI_bitCount) 29 = .ok (.ldc_w 267, 3) := by decide +kernel
theorem d_JI_bitCount_32 : decode (qB q_JI_bitCount) 32 = .ok (.iand, 1) := by decide +kernel
theorem d_JI_bitCount_33 : decode (qB q_JI_bitCount) 33 = .ok (.istore_n 0, 1) := by decide +kernel
theorem d_JI_bitCount_34 : decode (qB q_JI_bitCount) 34 = .ok (.iload_n 0, 1) := by decide +kernel
theorem d_JI_bitCount_35 : decode (qB q_JI_bitCount) 35 = .ok (.iload_n 0, 1) := by decide +kernel
theorem d_JI_bitCount_36 : decode (qB q_JI_bitCount) 36 = .ok (.bipush 8, 2) := by decide +kernel
theorem d_JI_bitCount_38 : decode (qB q_JI_bitCount) 38 = .ok (.iushr, 1) := by decide +kernel
theorem d_JI_bitCount_39 : decode (qB q_JI_bitCount) 39 = .ok (.iadd, 1) := by decide +kernel
theorem d_JI_bitCount_40 : decode (qB q_JI_bitCount) 40 = .ok (.istore_n 0, 1) := by decide +kernel
theorem d_JI_bitCount_41 : decode (qB q_JI_bitCount) 41 = .ok (.iload_n 0, 1) := by decide +kernel
theorem d_JI_bitCount_42 : decode (qB q_JI_bitCount) 42 = .ok (.iload_n 0, 1) := by decide +kernel
theorem d_JI_bitCount_43 : decode (qB q_JI_bitCount) 43 = .ok (.bipush 16, 2) := by decide +kernel
theorem d_JI_bitCount_45 : decode (qB q_JI_bitCount) 45 = .ok (.iushr, 1) := by decide +kernel
theorem d_JI_bitCount_46 : decode (qB q_JI_bitCount) 46 = .ok (.iadd, 1) := by decide +kernel
theorem d_JI_bitCount_47 : decode (qB q_JI_bitCount) 47 = .ok (.istore_n 0, 1) := by decide +kernel
theorem d_JI_bitCount_48 : decode (qB q_JI_bitCount) 48 = .ok (.iload_n 0, 1) := by decide +kernel
theorem d_JI_bitCount_49 : decode (qB q_JI_bitCount) 49 = .ok (.bipush 63, 2) := by decide +kernel
theorem d_JI_bitCount_51 : decode (qB q_JI_bitCount) 51 = .ok (.iand, 1) := by decide +kernel
theorem d_JI_bitCount_52 : decode (qB q_JI_bitCount) 52 = .ok (.ireturn, 1) := by decide +kernel
set_option maxRecDepth 10000 in
theorem k_JI_bitCount {G : mxG} (hG : mx_GG G) : ∀ pc r, t_JI_bitCount pc = some r → mx_Ok G mx_W mx_MT q_JI_bitCount pc r := (bn_ok (bn_ok (bn_ok (bn_ok (bn_ok (bl_ok (ok_iload_n rfl d_JI_bitCount_0)) (bl_ok (ok_iload_n rfl d_JI_bitCount_1))) (bn_ok (bl_ok (ok_iconst (by decide) d_JI_bitCount_2)) (bn_ok (bl_ok (ok_iushr d_JI_bitCount_3)) (bl_ok (ok_ldcw d_JI_bitCount_4 w_300))))) (bn_ok (bn_ok (bl_ok (ok_iand d_JI_bitCount_7)) (bl_ok (ok_isub d_JI_bitCount_8))) (bn_ok (bl_ok (ok_istore_n rfl d_JI_bitCount_9 (by decide))) (bn_ok (bl_ok (ok_iload_n rfl d_JI_bitCount_10)) (bl_ok (ok_ldcw d_JI_bitCount_11 w_301)))))) (bn_ok (bn_ok (bn_ok (bl_ok (ok_iand d_JI_bitCount_14)) (bl_ok (ok_iload_n rfl d_JI_bitCount_15))) (bn_ok (bl_ok (ok_iconst (by decide) d_JI_bitCount_16)) (bn_ok (bl_ok (ok_iushr d_JI_bitCount_17)) (bl_ok (ok_ldcw d_JI_bitCount_18 w_301))))) (bn_ok (bn_ok (bl_ok (ok_iand d_JI_bitCount_21)) (bn_ok (bl_ok (ok_iadd d_JI_bitCount_22)) (bl_ok (ok_istore_n rfl d_JI_bitCount_23 (by decide))))) (bn_ok (bl_ok (ok_iload_n rfl d_JI_bitCount_24)) (bn_ok (bl_ok (ok_iload_n rfl d_JI_bitCount_25)) (bl_ok (ok_iconst (by decide) d_JI_bitCount_26))))))) (bn_ok (bn_ok (bn_ok (bn_ok (bl_ok (ok_iushr d_JI_bitCount_27)) (bl_ok (ok_iadd d_JI_bitCount_28))) (bn_ok (bl_ok (ok_ldcw d_JI_bitCount_29 w_302)) (bn_ok (bl_ok (ok_iand d_JI_bitCount_32)) (bl_ok (ok_istore_n rfl d_JI_bitCount_33 (by decide)))))) (bn_ok (bn_ok (bl_ok (ok_iload_n rfl d_JI_bitCount_34)) (bl_ok (ok_iload_n rfl d_JI_bitCount_35))) (bn_ok (bl_ok (ok_bipush (by decide) d_JI_bitCount_36)) (bn_ok (bl_ok (ok_iushr d_JI_bitCount_38)) (bl_ok (ok_iadd d_JI_bitCount_39)))))) (bn_ok (bn_ok (bn_ok (bl_ok (ok_istore_n rfl d_JI_bitCount_40 (by decide))) (bl_ok (ok_iload_n rfl d_JI_bitCount_41))) (bn_ok (bl_ok (ok_iload_n rfl d_JI_bitCount_42)) (bn_ok (bl_ok (ok_bipush (by decide) d_JI_bitCount_43)) (bl_ok (ok_iushr d_JI_bitCount_45))))) (bn_ok (bn_ok (bl_ok (ok_iadd d_JI_bitCount_46)) (bn_ok (bl_ok (ok_istore_n rfl d_JI_bitCount_47 (by decide))) (bl_ok (ok_iload_n rfl d_JI_bitCount_48)))) (bn_ok (bl_ok (ok_bipush (by decide) d_JI_bitCount_49)) (bn_ok (bl_ok (ok_iand d_JI_bitCount_51)) (bl_ok (ok_ireturn d_JI_bitCount_52 rfl))))))))
