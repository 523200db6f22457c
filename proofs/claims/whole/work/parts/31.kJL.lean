theorem d_JL_compare_0 : decode (qB q_JL_compare) 0 = .ok (.lload_n 0, 1) := by decide +kernel
theorem d_JL_compare_1 : decode (qB q_JL_compare) 1 = .ok (.lload_n 2, 1) := by decide +kernel
theorem d_JL_compare_2 : decode (qB q_JL_compare) 2 = .ok (.lcmp, 1) := by decide +kernel
theorem d_JL_compare_3 : decode (qB q_JL_compare) 3 = .ok (.ifCond .ge 7, 3) := by decide +kernel
theorem d_JL_compare_6 : decode (qB q_JL_compare) 6 = .ok (.iconst (-1), 1) := by decide +kernel
theorem d_JL_compare_7 : decode (qB q_JL_compare) 7 = .ok (.goto 14, 3) := by decide +kernel
theorem d_JL_compare_10 : decode (qB q_JL_compare) 10 = .ok (.lload_n 0, 1) := by decide +kernel
theorem d_JL_compare_11 : decode (qB q_JL_compare) 11 = .ok (.lload_n 2, 1) := by decide +kernel
theorem d_JL_compare_12 : decode (qB q_JL_compare) 12 = .ok (.lcmp, 1) := by decide +kernel
theorem d_JL_compare_13 : decode (qB q_JL_compare) 13 = .ok (.ifCond .ne 7, 3) := by decide +kernel
theorem d_JL_compare_16 : decode (qB q_JL_compare) 16 = .ok (.iconst 0, 1) := by decide +kernel
theorem d_JL_compare_17 : decode (qB q_JL_compare) 17 = .ok (.goto 4, 3) := by decide +kernel
theorem d_JL_compare_20 : decode (qB q_JL_compare) 20 = .ok (.iconst 1, 1) := by decide +kernel
theorem d_JL_compare_21 : decode (qB q_JL_compare) 21 = .ok (.ireturn, 1) := by decide +kernel
set_option maxRecDepth 10000 in
theorem k_JL_compare {G : mxG} (hG : mx_GG G) : ∀ pc r, t_JL_compare pc = some r → mx_Ok G mx_W mx_MT q_JL_compare pc r := (bn_ok (bn_ok (bn_ok (bl_ok (ok_lload_n rfl d_JL_compare_0)) (bn_ok (bl_ok (ok_lload_n rfl d_JL_compare_1)) (bl_ok (ok_lcmp d_JL_compare_2)))) (bn_ok (bn_ok (bl_ok (ok_ifge d_JL_compare_3 (by decide))) (bl_ok (ok_iconst (by decide) d_JL_compare_6))) (bn_ok (bl_ok (ok_goto d_JL_compare_7 (by decide))) (bl_ok (ok_lload_n rfl d_JL_compare_10))))) (bn_ok (bn_ok (bl_ok (ok_lload_n rfl d_JL_compare_11)) (bn_ok (bl_ok (ok_lcmp d_JL_compare_12)) (bl_ok (ok_ifne d_JL_compare_13 (by decide))))) (bn_ok (bn_ok (bl_ok (ok_iconst (by decide) d_JL_compare_16)) (bl_ok (ok_goto d_JL_compare_17 (by decide)))) (bn_ok (bl_ok (ok_iconst (by decide) d_JL_compare_20)) (bl_ok (ok_ireturn d_JL_compare_21 rfl))))))
