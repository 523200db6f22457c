theorem d_L_cell_0 : decode (qB q_L_cell) 0 = .ok (.iload_n 1, 1) := by decide +kernel
theorem d_L_cell_1 : decode (qB q_L_cell) 1 = .ok (.aload_n 0, 1) := by decide +kernel
theorem d_L_cell_2 : decode (qB q_L_cell) 2 = .ok (.arraylength, 1) := by decide +kernel
theorem d_L_cell_3 : decode (qB q_L_cell) 3 = .ok (.if_icmp .ge 9, 3) := by decide +kernel
theorem d_L_cell_6 : decode (qB q_L_cell) 6 = .ok (.aload_n 0, 1) := by decide +kernel
theorem d_L_cell_7 : decode (qB q_L_cell) 7 = .ok (.iload_n 1, 1) := by decide +kernel
theorem d_L_cell_8 : decode (qB q_L_cell) 8 = .ok (.iaload, 1) := by decide +kernel
theorem d_L_cell_9 : decode (qB q_L_cell) 9 = .ok (.goto 4, 3) := by decide +kernel
theorem d_L_cell_12 : decode (qB q_L_cell) 12 = .ok (.iconst 0, 1) := by decide +kernel
theorem d_L_cell_13 : decode (qB q_L_cell) 13 = .ok (.ireturn, 1) := by decide +kernel
set_option maxRecDepth 10000 in
theorem k_L_cell {G : mxG} (hG : mx_GG G) : ∀ pc r, t_L_cell pc = some r → mx_Ok G mx_W mx_MT q_L_cell pc r := (bn_ok (bn_ok (bn_ok (bl_ok (ok_iload_n rfl d_L_cell_0)) (bl_ok (ok_aload_n rfl d_L_cell_1))) (bn_ok (bl_ok (ok_alen d_L_cell_2)) (bn_ok (bl_ok (ok_icge d_L_cell_3 (by decide))) (bl_ok (ok_aload_n rfl d_L_cell_6))))) (bn_ok (bn_ok (bl_ok (ok_iload_n rfl d_L_cell_7)) (bl_ok (ok_iald d_L_cell_8 (kt_0 hG)))) (bn_ok (bl_ok (ok_goto d_L_cell_9 (by decide))) (bn_ok (bl_ok (ok_iconst (by decide) d_L_cell_12)) (bl_ok (ok_ireturn d_L_cell_13 rfl))))))
