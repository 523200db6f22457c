theorem d_JM_abs_0 : decode (qB q_JM_abs) 0 = .ok (.iload_n 0, 1) := by decide +kernel
theorem d_JM_abs_1 : decode (qB q_JM_abs) 1 = .ok (.ifCond .ge 8, 3) := by decide +kernel
theorem d_JM_abs_4 : decode (qB q_JM_abs) 4 = .ok (.iload_n 0, 1) := by decide +kernel
theorem d_JM_abs_5 : decode (qB q_JM_abs) 5 = .ok (.ineg, 1) := by decide +kernel
theorem d_JM_abs_6 : decode (qB q_JM_abs) 6 = .ok (.goto 4, 3) := by decide +kernel
theorem d_JM_abs_9 : decode (qB q_JM_abs) 9 = .ok (.iload_n 0, 1) := by decide +kernel
theorem d_JM_abs_10 : decode (qB q_JM_abs) 10 = .ok (.ireturn, 1) := by decide +kernel
set_option maxRecDepth 10000 in
theorem k_JM_abs {G : mxG} (hG : mx_GG G) : ∀ pc r, t_JM_abs pc = some r → mx_Ok G mx_W mx_MT q_JM_abs pc r := (bn_ok (bn_ok (bl_ok (ok_iload_n rfl d_JM_abs_0)) (bn_ok (bl_ok (ok_ifge d_JM_abs_1 (by decide))) (bl_ok (ok_iload_n rfl d_JM_abs_4)))) (bn_ok (bn_ok (bl_ok (ok_ineg d_JM_abs_5)) (bl_ok (ok_goto d_JM_abs_6 (by decide)))) (bn_ok (bl_ok (ok_iload_n rfl d_JM_abs_9)) (bl_ok (ok_ireturn d_JM_abs_10 rfl)))))
theorem d_JM_max_0 : decode (qB q_JM_max) 0 = .ok (.iload_n 0, 1) := by decide +kernel
theorem d_JM_max_1 : decode (qB q_JM_max) 1 = .ok (.iload_n 1, 1) := by decide +kernel
theorem d_JM_max_2 : decode (qB q_JM_max) 2 = .ok (.if_icmp .lt 7, 3) := by decide +kernel
theorem d_JM_max_5 : decode (qB q_JM_max) 5 = .ok (.iload_n 0, 1) := by decide +kernel
theorem d_JM_max_6 : decode (qB q_JM_max) 6 = .ok (.goto 4, 3) := by decide +kernel
theorem d_JM_max_9 : decode (qB q_JM_max) 9 = .ok (.iload_n 1, 1) := by decide +kernel
theorem d_JM_max_10 : decode (qB q_JM_max) 10 = .ok (.ireturn, 1) := by decide +kernel
set_option maxRecDepth 10000 in
theorem k_JM_max {G : mxG} (hG : mx_GG G) : ∀ pc r, t_JM_max pc = some r → mx_Ok G mx_W mx_MT q_JM_max pc r := (bn_ok (bn_ok (bl_ok (ok_iload_n rfl d_JM_max_0)) (bn_ok (bl_ok (ok_iload_n rfl d_JM_max_1)) (bl_ok (ok_iclt d_JM_max_2 (by decide))))) (bn_ok (bn_ok (bl_ok (ok_iload_n rfl d_JM_max_5)) (bl_ok (ok_goto d_JM_max_6 (by decide)))) (bn_ok (bl_ok (ok_iload_n rfl d_JM_max_9)) (bl_ok (ok_ireturn d_JM_max_10 rfl)))))
theorem d_JM_min_I_0 : decode (qB q_JM_min_I) 0 = .ok (.iload_n 0, 1) := by decide +kernel
theorem d_JM_min_I_1 : decode (qB q_JM_min_I) 1 = .ok (.iload_n 1, 1) := by decide +kernel
theorem d_JM_min_I_2 : decode (qB q_JM_min_I) 2 = .ok (.if_icmp .gt 7, 3) := by decide +kernel
theorem d_JM_min_I_5 : decode (qB q_JM_min_I) 5 = .ok (.iload_n 0, 1) := by decide +kernel
theorem d_JM_min_I_6 : decode (qB q_JM_min_I) 6 = .ok (.goto 4, 3) := by decide +kernel
theorem d_JM_min_I_9 : decode (qB q_JM_min_I) 9 = .ok (.iload_n 1, 1) := by decide +kernel
theorem d_JM_min_I_10 : decode (qB q_JM_min_I) 10 = .ok (.ireturn, 1) := by decide +kernel
set_option maxRecDepth 10000 in
theorem k_JM_min_I {G : mxG} (hG : mx_GG G) : ∀ pc r, t_JM_min_I pc = some r → mx_Ok G mx_W mx_MT q_JM_min_I pc r := (bn_ok (bn_ok (bl_ok (ok_iload_n rfl d_JM_min_I_0)) (bn_ok (bl_ok (ok_iload_n rfl d_JM_min_I_1)) (bl_ok (ok_icgt d_JM_min_I_2 (by decide))))) (bn_ok (bn_ok (bl_ok (ok_iload_n rfl d_JM_min_I_5)) (bl_ok (ok_goto d_JM_min_I_6 (by decide)))) (bn_ok (bl_ok (ok_iload_n rfl d_JM_min_I_9)) (bl_ok (ok_ireturn d_JM_min_I_10 rfl)))))
theorem d_JM_min_J_0 : decode (qB q_JM_min_J) 0 = .ok (.lload_n 0, 1) := by decide +kernel
theorem d_JM_min_J_1 : decode (qB q_JM_min_J) 1 = .ok (.lload_n 2, 1) := by decide +kernel
theorem d_JM_min_J_2 : decode (qB q_JM_min_J) 2 = .ok (.lcmp, 1) := by decide +kernel
theorem d_JM_min_J_3 : decode (qB q_JM_min_J) 3 = .ok (.ifCond .gt 7, 3) := by decide +kernel
theorem d_JM_min_J_6 : decode (qB q_JM_min_J) 6 = .ok (.lload_n 0, 1) := by decide +kernel
theorem d_JM_min_J_7 : decode (qB q_JM_min_J) 7 = .ok (.goto 4, 3) := by decide +kernel
theorem d_JM_min_J_10 : decode (qB q_JM_min_J) 10 = .ok (.lload_n 2, 1) := by decide +kernel
theorem d_JM_min_J_11 : decode (qB q_JM_min_J) 11 = .ok (.lreturn, 1) := by decide +kernel
set_option maxRecDepth 10000 in
theorem k_JM_min_J {G : mxG} (hG : mx_GG G) : ∀ pc r, t_JM_min_J pc = some r → mx_Ok G mx_W mx_MT q_JM_min_J pc r := (bn_ok (bn_ok (bn_ok (bl_ok (ok_lload_n rfl d_JM_min_J_0)) (bl_ok (ok_lload_n rfl d_JM_min_J_1))) (bn_ok (bl_ok (ok_lcmp d_JM_min_J_2)) (bl_ok (ok_ifgt d_JM_min_J_3 (by decide))))) (bn_ok (bn_ok (bl_ok (ok_lload_n rfl d_JM_min_J_6)) (bl_ok (ok_goto d_JM_min_J_7 (by decide)))) (bn_ok (bl_ok (ok_lload_n rfl d_JM_min_J_10)) (bl_ok (ok_lreturn d_JM_min_J_11 rfl)))))
