theorem d_JA_rangeCheck_0 : decode (qB q_JA_rangeCheck) 0 = .ok (.iload_n 1, 1) := by decide +kernel
theorem d_JA_rangeCheck_1 : decode (qB q_JA_rangeCheck) 1 = .ok (.iload_n 2, 1) := by decide +kernel
theorem d_JA_rangeCheck_2 : decode (qB q_JA_rangeCheck) 2 = .ok (.if_icmp .le 44, 3) := by decide +kernel
theorem d_JA_rangeCheck_46 : decode (qB q_JA_rangeCheck) 46 = .ok (.iload_n 1, 1) := by decide +kernel
theorem d_JA_rangeCheck_47 : decode (qB q_JA_rangeCheck) 47 = .ok (.ifCond .ge 12, 3) := by decide +kernel
theorem d_JA_rangeCheck_59 : decode (qB q_JA_rangeCheck) 59 = .ok (.iload_n 2, 1) := by decide +kernel
theorem d_JA_rangeCheck_60 : decode (qB q_JA_rangeCheck) 60 = .ok (.iload_n 0, 1) := by decide +kernel
theorem d_JA_rangeCheck_61 : decode (qB q_JA_rangeCheck) 61 = .ok (.if_icmp .le 12, 3) := by decide +kernel
theorem d_JA_rangeCheck_73 : decode (qB q_JA_rangeCheck) 73 = .ok (.return_, 1) := by decide +kernel
set_option maxRecDepth 10000 in
theorem k_JA_rangeCheck {G : mxG} (hG : mx_GG G) : ∀ pc r, t_JA_rangeCheck pc = some r → mx_Ok G mx_W mx_MT q_JA_rangeCheck pc r := (bn_ok (bn_ok (bn_ok (bl_ok (ok_iload_n rfl d_JA_rangeCheck_0)) (bl_ok (ok_iload_n rfl d_JA_rangeCheck_1))) (bn_ok (bl_ok (ok_icle d_JA_rangeCheck_2 (by decide))) (bl_ok (ok_iload_n rfl d_JA_rangeCheck_46)))) (bn_ok (bn_ok (bl_ok (ok_ifge d_JA_rangeCheck_47 (by decide))) (bl_ok (ok_iload_n rfl d_JA_rangeCheck_59))) (bn_ok (bl_ok (ok_iload_n rfl d_JA_rangeCheck_60)) (bn_ok (bl_ok (ok_icle d_JA_rangeCheck_61 (by decide))) (bl_ok (ok_return d_JA_rangeCheck_73 rfl))))))
theorem d_JA_fill_0 : decode (qB q_JA_fill) 0 = .ok (.aload_n 0, 1) := by decide +kernel
theorem d_JA_fill_1 : decode (qB q_JA_fill) 1 = .ok (.arraylength, 1) := by decide +kernel
theorem d_JA_fill_2 : decode (qB q_JA_fill) 2 = .ok (.iload_n 1, 1) := by decide +kernel
theorem d_JA_fill_3 : decode (qB q_JA_fill) 3 = .ok (.iload_n 2, 1) := by decide +kernel
theorem d_JA_fill_4 : decode (qB q_JA_fill) 4 = .ok (.invokestatic 13, 3) := by decide +kernel
theorem d_JA_fill_7 : decode (qB q_JA_fill) 7 = .ok (.iload_n 1, 1) := by decide +kernel
theorem d_JA_fill_8 : decode (qB q_JA_fill) 8 = .ok (.istore 4, 2) := by decide +kernel
theorem d_JA_fill_10 : decode (qB q_JA_fill) 10 = .ok (.iload 4, 2) := by decide +kernel
theorem d_JA_fill_12 : decode (qB q_JA_fill) 12 = .ok (.iload_n 2, 1) := by decide +kernel
theorem d_JA_fill_13 : decode (qB q_JA_fill) 13 = .ok (.if_icmp .ge 14, 3) := by decide +kernel
theorem d_JA_fill_16 : decode (qB q_JA_fill) 16 = .ok (.aload_n 0, 1) := by decide +kernel
theorem d_JA_fill_17 : decode (qB q_JA_fill) 17 = .ok (.iload 4, 2) := by decide +kernel
theorem d_JA_fill_19 : decode (qB q_JA_fill) 19 = .ok (.iload_n 3, 1) := by decide +kernel
theorem d_JA_fill_20 : decode (qB q_JA_fill) 20 = .ok (.iastore, 1) := by decide +kernel
theorem d_JA_fill_21 : decode (qB q_JA_fill) 21 = .ok (.iinc 4 1, 3) := by decide +kernel
theorem d_JA_fill_24 : decode (qB q_JA_fill) 24 = .ok (.goto (-14), 3) := by decide +kernel
theorem d_JA_fill_27 : decode (qB q_JA_fill) 27 = .ok (.return_, 1) := by decide +kernel
set_option maxRecDepth 10000 in
theorem k_JA_fill {G : mxG} (hG : mx_GG G) : ∀ pc r, t_JA_fill pc = some r → mx_Ok G mx_W mx_MT q_JA_fill pc r := (bn_ok (bn_ok (bn_ok (bn_ok (bl_ok (ok_aload_n rfl d_JA_fill_0)) (bl_ok (ok_alen d_JA_fill_1))) (bn_ok (bl_ok (ok_iload_n rfl d_JA_fill_2)) (bl_ok (ok_iload_n rfl d_JA_fill_3)))) (bn_ok (bn_ok (bl_ok (ok_cs mx_W_good d_JA_fill_4 (mt_JA_rangeCheck) mk_JA_rangeCheck w_312 w_313 (by decide) (by decide))) (bl_ok (ok_iload_n rfl d_JA_fill_7))) (bn_ok (bl_ok (ok_istore d_JA_fill_8 (by decide))) (bl_ok (ok_iload d_JA_fill_10))))) (bn_ok (bn_ok (bn_ok (bl_ok (ok_iload_n rfl d_JA_fill_12)) (bl_ok (ok_icge d_JA_fill_13 (by decide)))) (bn_ok (bl_ok (ok_aload_n rfl d_JA_fill_16)) (bl_ok (ok_iload d_JA_fill_17)))) (bn_ok (bn_ok (bl_ok (ok_iload_n rfl d_JA_fill_19)) (bl_ok (ok_iast d_JA_fill_20 (kt_0 hG)))) (bn_ok (bl_ok (ok_iinc d_JA_fill_21 (by decide) (by decide))) (bn_ok (bl_ok (ok_goto d_JA_fill_24 (by decide))) (bl_ok (ok_return d_JA_fill_27 rfl)))))))
