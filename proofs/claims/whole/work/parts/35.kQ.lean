theorem d_Q_init_0 : decode (qB q_Q_init) 0 = .ok (.aload_n 0, 1) := by decide +kernel
theorem d_Q_init_1 : decode (qB q_Q_init) 1 = .ok (.invokespecial 5, 3) := by decide +kernel
theorem d_Q_init_4 : decode (qB q_Q_init) 4 = .ok (.aload_n 0, 1) := by decide +kernel
theorem d_Q_init_5 : decode (qB q_Q_init) 5 = .ok (.iload_n 1, 1) := by decide +kernel
theorem d_Q_init_6 : decode (qB q_Q_init) 6 = .ok (.newarray .long, 2) := by decide +kernel
theorem d_Q_init_8 : decode (qB q_Q_init) 8 = .ok (.putfield 11, 3) := by decide +kernel
theorem d_Q_init_11 : decode (qB q_Q_init) 11 = .ok (.aload_n 0, 1) := by decide +kernel
theorem d_Q_init_12 : decode (qB q_Q_init) 12 = .ok (.iload_n 1, 1) := by decide +kernel
theorem d_Q_init_13 : decode (qB q_Q_init) 13 = .ok (.newarray .long, 2) := by decide +kernel
theorem d_Q_init_15 : decode (qB q_Q_init) 15 = .ok (.putfield 15, 3) := by decide +kernel
theorem d_Q_init_18 : decode (qB q_Q_init) 18 = .ok (.aload_n 0, 1) := by decide +kernel
theorem d_Q_init_19 : decode (qB q_Q_init) 19 = .ok (.iload_n 1, 1) := by decide +kernel
theorem d_Q_init_20 : decode (qB q_Q_init) 20 = .ok (.newarray .int, 2) := by decide +kernel
theorem d_Q_init_22 : decode (qB q_Q_init) 22 = .ok (.putfield 18, 3) := by decide +kernel
theorem d_Q_init_25 : decode (qB q_Q_init) 25 = .ok (.aload_n 0, 1) := by decide +kernel
theorem d_Q_init_26 : decode (qB q_Q_init) 26 = .ok (.iload_n 1, 1) := by decide +kernel
theorem d_Q_init_27 : decode (qB q_Q_init) 27 = .ok (.newarray .int, 2) := by decide +kernel
theorem d_Q_init_29 : decode (qB q_Q_init) 29 = .ok (.putfield 22, 3) := by decide +kernel
theorem d_Q_init_32 : decode (qB q_Q_init) 32 = .ok (.aload_n 0, 1) := by decide +kernel
theorem d_Q_init_33 : decode (qB q_Q_init) 33 = .ok (.iconst 0, 1) := by decide +kernel
theorem d_Q_init_34 : decode (qB q_Q_init) 34 = .ok (.putfield 25, 3) := by decide +kernel
theorem d_Q_init_37 : decode (qB q_Q_init) 37 = .ok (.aload_n 0, 1) := by decide +kernel
theorem d_Q_init_38 : decode (qB q_Q_init) 38 = .ok (.iconst 0, 1) := by decide +kernel
theorem d_Q_init_39 : decode (qB q_Q_init) 39 = .ok (.putfield 29, 3) := by decide +kernel
theorem d_Q_init_42 : decode (qB q_Q_init) 42 = .ok (.return_, 1) := by decide +kernel
set_option maxRecDepth 10000 in
theorem k_Q_init {G : mxG} (hG : mx_GG G) : ∀ pc r, t_Q_init pc = some r → mx_Ok G mx_W mx_MT q_Q_init pc r := (bn_ok (bn_ok (bn_ok (bn_ok (bl_ok (ok_aload_n rfl d_Q_init_0)) (bn_ok (bl_ok (ok_oin d_Q_init_1 w_128 w_18 (w_oc) (by decide) (by decide))) (bl_ok (ok_aload_n rfl d_Q_init_4)))) (bn_ok (bl_ok (ok_iload_n rfl d_Q_init_5)) (bn_ok (bl_ok (ok_newl d_Q_init_6 w_116 (kt_1 hG))) (bl_ok (ok_putf d_Q_init_8 (cl_3 hG) (by decide) w_129 rfl (Or.inl rfl)))))) (bn_ok (bn_ok (bl_ok (ok_aload_n rfl d_Q_init_11)) (bn_ok (bl_ok (ok_iload_n rfl d_Q_init_12)) (bl_ok (ok_newl d_Q_init_13 w_116 (kt_1 hG))))) (bn_ok (bl_ok (ok_putf d_Q_init_15 (cl_3 hG) (by decide) w_131 rfl (Or.inl rfl))) (bn_ok (bl_ok (ok_aload_n rfl d_Q_init_18)) (bl_ok (ok_iload_n rfl d_Q_init_19)))))) (bn_ok (bn_ok (bn_ok (bl_ok (ok_newi d_Q_init_20 w_114 (kt_0 hG))) (bn_ok (bl_ok (ok_putf d_Q_init_22 (cl_3 hG) (by decide) w_132 rfl (Or.inl rfl))) (bl_ok (ok_aload_n rfl d_Q_init_25)))) (bn_ok (bl_ok (ok_iload_n rfl d_Q_init_26)) (bn_ok (bl_ok (ok_newi d_Q_init_27 w_114 (kt_0 hG))) (bl_ok (ok_putf d_Q_init_29 (cl_3 hG) (by decide) w_133 rfl (Or.inl rfl)))))) (bn_ok (bn_ok (bl_ok (ok_aload_n rfl d_Q_init_32)) (bn_ok (bl_ok (ok_iconst (by decide) d_Q_init_33)) (bl_ok (ok_putf d_Q_init_34 (cl_3 hG) (by decide) w_134 rfl (Or.inl rfl))))) (bn_ok (bn_ok (bl_ok (ok_aload_n rfl d_Q_init_37)) (bl_ok (ok_iconst (by decide) d_Q_init_38))) (bn_ok (bl_ok (ok_putf d_Q_init_39 (cl_3 hG) (by decide) w_135 rfl (Or.inl rfl))) (bl_ok (ok_return d_Q_init_42 rfl)))))))
theorem d_Q_reset_0 : decode (qB q_Q_reset) 0 = .ok (.iload_n 1, 1) := by decide +kernel
theorem d_Q_reset_1 : decode (qB q_Q_reset) 1 = .ok (.aload_n 0, 1) := by decide +kernel
theorem d_Q_reset_2 : decode (qB q_Q_reset) 2 = .ok (.getfield 18, 3) := by decide +kernel
theorem d_Q_reset_5 : decode (qB q_Q_reset) 5 = .ok (.arraylength, 1) := by decide +kernel
theorem d_Q_reset_6 : decode (qB q_Q_reset) 6 = .ok (.if_icmp .le 35, 3) := by decide +kernel
theorem d_Q_reset_9 : decode (qB q_Q_reset) 9 = .ok (.iconst 2, 1) := by decide +kernel
theorem d_Q_reset_10 : decode (qB q_Q_reset) 10 = .ok (.iload_n 1, 1) := by decide +kernel
theorem d_Q_reset_11 : decode (qB q_Q_reset) 11 = .ok (.imul, 1) := by decide +kernel
theorem d_Q_reset_12 : decode (qB q_Q_reset) 12 = .ok (.istore_n 2, 1) := by decide +kernel
theorem d_Q_reset_13 : decode (qB q_Q_reset) 13 = .ok (.aload_n 0, 1) := by decide +kernel
theorem d_Q_reset_14 : decode (qB q_Q_reset) 14 = .ok (.iload_n 2, 1) := by decide +kernel
theorem d_Q_reset_15 : decode (qB q_Q_reset) 15 = .ok (.newarray .long, 2) := by decide +kernel
theorem d_Q_reset_17 : decode (qB q_Q_reset) 17 = .ok (.putfield 11, 3) := by decide +kernel
theorem d_Q_reset_20 : decode (qB q_Q_reset) 20 = .ok (.aload_n 0, 1) := by decide +kernel
theorem d_Q_reset_21 : decode (qB q_Q_reset) 21 = .ok (.iload_n 2, 1) := by decide +kernel
theorem d_Q_reset_22 : decode (qB q_Q_reset) 22 = .ok (.newarray .long, 2) := by decide +kernel
theorem d_Q_reset_24 : decode (qB q_Q_reset) 24 = .ok (.putfield 15, 3) := by decide +kernel
theorem d_Q_reset_27 : decode (qB q_Q_reset) 27 = .ok (.aload_n 0, 1) := by decide +kernel
theorem d_Q_reset_28 : decode (qB q_Q_reset) 28 = .ok (.iload_n 2, 1) := by decide +kernel
theorem d_Q_reset_29 : decode (qB q_Q_reset) 29 = .ok (.newarray .int, 2) := by decide +kernel
theorem d_Q_reset_31 : decode (qB q_Q_reset) 31 = .ok (.putfield 18, 3) := by decide +kernel
theorem d_Q_reset_34 : decode (qB q_Q_reset) 34 = .ok (.aload_n 0, 1) := by decide +kernel
theorem d_Q_reset_35 : decode (qB q_Q_reset) 35 = .ok (.iload_n 2, 1) := by decide +kernel
theorem d_Q_reset_36 : decode (qB q_Q_reset) 36 = .ok (.newarray .int, 2) := by decide +kernel
theorem d_Q_reset_38 : decode (qB q_Q_reset) 38 = .ok (.putfield 22, 3) := by decide +kernel
theorem d_Q_reset_41 : decode (qB q_Q_reset) 41 = .ok (.aload_n 0, 1) := by decide +kernel
theorem d_Q_reset_42 : decode (qB q_Q_reset) 42 = .ok (.iload_n 1, 1) := by decide +kernel
theorem d_Q_reset_43 : decode (qB q_Q_reset) 43 = .ok (.putfield 25, 3) := by decide +kernel
theorem d_Q_reset_46 : decode (qB q_Q_reset) 46 = .ok (.aload_n 0, 1) := by decide +kernel
theorem d_Q_reset_47 : decode (qB q_Q_reset) 47 = .ok (.iconst 0, 1) := by decide +kernel
theorem d_Q_reset_48 : decode (qB q_Q_reset) 48 = .ok (.putfield 29, 3) := by decide +kernel
theorem d_Q_reset_51 : decode (qB q_Q_reset) 51 = .ok (.aload_n 0, 1) := by decide +kernel
theorem d_Q_reset_52 : decode (qB q_Q_reset) 52 = .ok (.getfield 18, 3) := by decide +kernel
theorem d_Q_reset_55 : decode (qB q_Q_reset) 55 = .ok (.iconst 0, 1) := by decide +kernel
theorem d_Q_reset_56 : decode (qB q_Q_reset) 56 = .ok (.iload_n 1, 1) := by decide +kernel
theorem d_Q_reset_57 : decode (qB q_Q_reset) 57 = .ok (.iconst (-1), 1) := by decide +kernel
theorem d_Q_reset_58 : decode (qB q_Q_reset) 58 = .ok (.invokestatic 32, 3) := by decide +kernel
theorem d_Q_reset_61 : decode (qB q_Q_reset) 61 = .ok (.return_, 1) := by decide +kernel
set_option maxRecDepth 10000 in
theorem k_Q_reset {G : mxG} (hG : mx_GG G) : ∀ pc r, t_Q_reset pc = some r → mx_Ok G mx_W mx_MT q_Q_reset pc r := (bn_ok (bn_ok (bn_ok (bn_ok (bn_ok (bl_ok (ok_iload_n rfl d_Q_reset_0)) (bl_ok (ok_aload_n rfl d_Q_reset_1))) (bn_ok (bl_ok (ok_getf d_Q_reset_2 (cl_3 hG) (by decide) w_132)) (bl_ok (ok_alen d_Q_reset_5)))) (bn_ok (bn_ok (bl_ok (ok_icle d_Q_reset_6 (by decide))) (bl_ok (ok_iconst (by decide) d_Q_reset_9))) (bn_ok (bl_ok (ok_iload_n rfl d_Q_reset_10)) (bn_ok (bl_ok (ok_imul d_Q_reset_11)) (bl_ok (ok_istore_n rfl d_Q_reset_12 (by decide))))))) (bn_ok (bn_ok (bn_ok (bl_ok (ok_aload_n rfl d_Q_reset_13)) (bl_ok (ok_iload_n rfl d_Q_reset_14))) (bn_ok (bl_ok (ok_newl d_Q_reset_15 w_116 (kt_1 hG))) (bn_ok (bl_ok (ok_putf d_Q_reset_17 (cl_3 hG) (by decide) w_129 rfl (Or.inl rfl))) (bl_ok (ok_aload_n rfl d_Q_reset_20))))) (bn_ok (bn_ok (bl_ok (ok_iload_n rfl d_Q_reset_21)) (bl_ok (ok_newl d_Q_reset_22 w_116 (kt_1 hG)))) (bn_ok (bl_ok (ok_putf d_Q_reset_24 (cl_3 hG) (by decide) w_131 rfl (Or.inl rfl))) (bn_ok (bl_ok (ok_aload_n rfl d_Q_reset_27)) (bl_ok (ok_iload_n rfl d_Q_reset_28))))))) (bn_ok (bn_ok (bn_ok (bn_ok (bl_ok (ok_newi d_Q_reset_29 w_114 (kt_0 hG))) (bl_ok (ok_putf d_Q_reset_31 (cl_3 hG) (by decide) w_132 rfl (Or.inl rfl)))) (bn_ok (bl_ok (ok_aload_n rfl d_Q_reset_34)) (bl_ok (ok_iload_n rfl d_Q_reset_35)))) (bn_ok (bn_ok (bl_ok (ok_newi d_Q_reset_36 w_114 (kt_0 hG))) (bl_ok (ok_putf d_Q_reset_38 (cl_3 hG) (by decide) w_133 rfl (Or.inl rfl)))) (bn_ok (bl_ok (ok_aload_n rfl d_Q_reset_41)) (bn_ok (bl_ok (ok_iload_n rfl d_Q_reset_42)) (bl_ok (ok_putf d_Q_reset_43 (cl_3 hG) (by decide) w_134 rfl (Or.inl rfl))))))) (bn_ok (bn_ok (bn_ok (bl_ok (ok_aload_n rfl d_Q_reset_46)) (bl_ok (ok_iconst (by decide) d_Q_reset_47))) (bn_ok (bl_ok (ok_putf d_Q_reset_48 (cl_3 hG) (by decide) w_135 rfl (Or.inl rfl))) (bn_ok (bl_ok (ok_aload_n rfl d_Q_reset_51)) (bl_ok (ok_getf d_Q_reset_52 (cl_3 hG) (by decide) w_132))))) (bn_ok (bn_ok (bl_ok (ok_iconst (by decide) d_Q_reset_55)) (bl_ok (ok_iload_n rfl d_Q_reset_56))) (bn_ok (bl_ok (ok_iconst (by decide) d_Q_reset_57)) (bn_ok (bl_ok (ok_cs mx_W_good d_Q_reset_58 (mt_JA_fill) mk_JA_fill w_309 w_310 (by decide) (by decide))) (bl_ok (ok_return d_Q_reset_61 rfl))))))))
theorem d_Q_codeOf_0 : decode (qB q_Q_codeOf) 0 = .ok (.aload_n 0, 1) := by decide +kernel
theorem d_Q_codeOf_1 : decode (qB q_Q_codeOf) 1 = .ok (.getfield 15, 3) := by decide +kernel
theorem d_Q_codeOf_4 : decode (qB q_Q_codeOf) 4 = .ok (.iload_n 1, 1) := by decide +kernel
theorem d_Q_codeOf_5 : decode (qB q_Q_codeOf) 5 = .ok (.laload, 1) := by decide +kernel
theorem d_Q_codeOf_6 : decode (qB q_Q_codeOf) 6 = .ok (.ldc2_w 38, 3) := by decide +kernel
theorem d_Q_codeOf_9 : decode (qB q_Q_codeOf) 9 = .ok (.land, 1) := by decide +kernel
theorem d_Q_codeOf_10 : decode (qB q_Q_codeOf) 10 = .ok (.l2i, 1) := by decide +kernel
theorem d_Q_codeOf_11 : decode (qB q_Q_codeOf) 11 = .ok (.ireturn, 1) := by decide +kernel
set_option maxRecDepth 10000 in
theorem k_Q_codeOf {G : mxG} (hG : mx_GG G) : ∀ pc r, t_Q_codeOf pc = some r → mx_Ok G mx_W mx_MT q_Q_codeOf pc r := (bn_ok (bn_ok (bn_ok (bl_ok (ok_aload_n rfl d_Q_codeOf_0)) (bl_ok (ok_getf d_Q_codeOf_1 (cl_3 hG) (by decide) w_131))) (bn_ok (bl_ok (ok_iload_n rfl d_Q_codeOf_4)) (bl_ok (ok_lald d_Q_codeOf_5 (kt_1 hG))))) (bn_ok (bn_ok (bl_ok (ok_ldc2 d_Q_codeOf_6 w_354)) (bl_ok (ok_land d_Q_codeOf_9))) (bn_ok (bl_ok (ok_l2i d_Q_codeOf_10)) (bl_ok (ok_ireturn d_Q_codeOf_11 rfl)))))
theorem d_Q_stepsOf_0 : decode (qB q_Q_stepsOf) 0 = .ok (.aload_n 0, 1) := by decide +kernel
theorem d_Q_stepsOf_1 : decode (qB q_Q_stepsOf) 1 = .ok (.getfield 15, 3) := by decide +kernel
theorem d_Q_stepsOf_4 : decode (qB q_Q_stepsOf) 4 = .ok (.iload_n 1, 1) := by decide +kernel
theorem d_Q_stepsOf_5 : decode (qB q_Q_stepsOf) 5 = .ok (.laload, 1) := by decide +kernel
theorem d_Q_stepsOf_6 : decode (qB q_Q_stepsOf) 6 = .ok (.bipush 18, 2) := by decide +kernel
theorem d_Q_stepsOf_8 : decode (qB q_Q_stepsOf) 8 = .ok (.lshr, 1) := by decide +kernel
theorem d_Q_stepsOf_9 : decode (qB q_Q_stepsOf) 9 = .ok (.lreturn, 1) := by decide +kernel
set_option maxRecDepth 10000 in
theorem k_Q_stepsOf {G : mxG} (hG : mx_GG G) : ∀ pc r, t_Q_stepsOf pc = some r → mx_Ok G mx_W mx_MT q_Q_stepsOf pc r := (bn_ok (bn_ok (bl_ok (ok_aload_n rfl d_Q_stepsOf_0)) (bn_ok (bl_ok (ok_getf d_Q_stepsOf_1 (cl_3 hG) (by decide) w_131)) (bl_ok (ok_iload_n rfl d_Q_stepsOf_4)))) (bn_ok (bn_ok (bl_ok (ok_lald d_Q_stepsOf_5 (kt_1 hG))) (bl_ok (ok_bipush (by decide) d_Q_stepsOf_6))) (bn_ok (bl_ok (ok_lshr d_Q_stepsOf_8)) (bl_ok (ok_lreturn d_Q_stepsOf_9 rfl)))))
theorem d_Q_movesOf_0 : decode (qB q_Q_movesOf) 0 = .ok (.aload_n 0, 1) := by decide +kernel
theorem d_Q_movesOf_1 : decode (qB q_Q_movesOf) 1 = .ok (.iload_n 1, 1) := by decide +kernel
theorem d_Q_movesOf_2 : decode (qB q_Q_movesOf) 2 = .ok (.invokevirtual 40, 3) := by decide +kernel
theorem d_Q_movesOf_5 : decode (qB q_Q_movesOf) 5 = .ok (.ldc2_w 38, 3) := by decide +kernel
theorem d_Q_movesOf_8 : decode (qB q_Q_movesOf) 8 = .ok (.land, 1) := by decide +kernel
theorem d_Q_movesOf_9 : decode (qB q_Q_movesOf) 9 = .ok (.l2i, 1) := by decide +kernel
theorem d_Q_movesOf_10 : decode (qB q_Q_movesOf) 10 = .ok (.ireturn, 1) := by decide +kernel
set_option maxRecDepth 10000 in
theorem k_Q_movesOf {G : mxG} (hG : mx_GG G) : ∀ pc r, t_Q_movesOf pc = some r → mx_Ok G mx_W mx_MT q_Q_movesOf pc r := (bn_ok (bn_ok (bl_ok (ok_aload_n rfl d_Q_movesOf_0)) (bn_ok (bl_ok (ok_iload_n rfl d_Q_movesOf_1)) (bl_ok (ok_cv mx_W_good (cl_3 hG) d_Q_movesOf_2 (mt_Q_stepsOf) mk_Q_stepsOf w_405 w_389 w_390 (by decide) (by decide))))) (bn_ok (bn_ok (bl_ok (ok_ldc2 d_Q_movesOf_5 w_354)) (bl_ok (ok_land d_Q_movesOf_8))) (bn_ok (bl_ok (ok_l2i d_Q_movesOf_9)) (bl_ok (ok_ireturn d_Q_movesOf_10 rfl)))))
theorem d_Q_isEmpty_0 : decode (qB q_Q_isEmpty) 0 = .ok (.aload_n 0, 1) := by decide +kernel
theorem d_Q_isEmpty_1 : decode (qB q_Q_isEmpty) 1 = .ok (.getfield 29, 3) := by decide +kernel
theorem d_Q_isEmpty_4 : decode (qB q_Q_isEmpty) 4 = .ok (.ifCond .ne 7, 3) := by decide +kernel
theorem d_Q_isEmpty_7 : decode (qB q_Q_isEmpty) 7 = .ok (.iconst 1, 1) := by decide +kernel
theorem d_Q_isEmpty_8 : decode (qB q_Q_isEmpty) 8 = .ok (.goto 4, 3) := by decide +kernel
theorem d_Q_isEmpty_11 : decode (qB q_Q_isEmpty) 11 = .ok (.iconst 0, 1) := by decide +kernel
theorem d_Q_isEmpty_12 : decode (qB q_Q_isEmpty) 12 = .ok (.ireturn, 1) := by decide +kernel
set_option maxRecDepth 10000 in
theorem k_Q_isEmpty {G : mxG} (hG : mx_GG G) : ∀ pc r, t_Q_isEmpty pc = some r → mx_Ok G mx_W mx_MT q_Q_isEmpty pc r := (bn_ok (bn_ok (bl_ok (ok_aload_n rfl d_Q_isEmpty_0)) (bn_ok (bl_ok (ok_getf d_Q_isEmpty_1 (cl_3 hG) (by decide) w_135)) (bl_ok (ok_ifne d_Q_isEmpty_4 (by decide))))) (bn_ok (bn_ok (bl_ok (ok_iconst (by decide) d_Q_isEmpty_7)) (bl_ok (ok_goto d_Q_isEmpty_8 (by decide)))) (bn_ok (bl_ok (ok_iconst (by decide) d_Q_isEmpty_11)) (bl_ok (ok_zreturn d_Q_isEmpty_12 rfl)))))
theorem d_Q_isTaken_0 : decode (qB q_Q_isTaken) 0 = .ok (.iload_n 1, 1) := by decide +kernel
theorem d_Q_isTaken_1 : decode (qB q_Q_isTaken) 1 = .ok (.ifCond .lt 26, 3) := by decide +kernel
theorem d_Q_isTaken_4 : decode (qB q_Q_isTaken) 4 = .ok (.iload_n 1, 1) := by decide +kernel
theorem d_Q_isTaken_5 : decode (qB q_Q_isTaken) 5 = .ok (.aload_n 0, 1) := by decide +kernel
theorem d_Q_isTaken_6 : decode (qB q_Q_isTaken) 6 = .ok (.getfield 25, 3) := by decide +kernel
theorem d_Q_isTaken_9 : decode (qB q_Q_isTaken) 9 = .ok (.if_icmp .ge 18, 3) := by decide +kernel
theorem d_Q_isTaken_12 : decode (qB q_Q_isTaken) 12 = .ok (.aload_n 0, 1) := by decide +kernel
theorem d_Q_isTaken_13 : decode (qB q_Q_isTaken) 13 = .ok (.getfield 18, 3) := by decide +kernel
theorem d_Q_isTaken_16 : decode (qB q_Q_isTaken) 16 = .ok (.iload_n 1, 1) := by decide +kernel
theorem d_Q_isTaken_17 : decode (qB q_Q_isTaken) 17 = .ok (.iaload, 1) := by decide +kernel
theorem d_Q_isTaken_18 : decode (qB q_Q_isTaken) 18 = .ok (.bipush (-2), 2) := by decide +kernel
theorem d_Q_isTaken_20 : decode (qB q_Q_isTaken) 20 = .ok (.if_icmp .ne 7, 3) := by decide +kernel
theorem d_Q_isTaken_23 : decode (qB q_Q_isTaken) 23 = .ok (.iconst 1, 1) := by decide +kernel
theorem d_Q_isTaken_24 : decode (qB q_Q_isTaken) 24 = .ok (.goto 4, 3) := by decide +kernel
theorem d_Q_isTaken_27 : decode (qB q_Q_isTaken) 27 = .ok (.iconst 0, 1) := by decide +kernel
theorem d_Q_isTaken_28 : decode (qB q_Q_isTaken) 28 = .ok (.ireturn, 1) := by decide +kernel
set_option maxRecDepth 10000 in
theorem k_Q_isTaken {G : mxG} (hG : mx_GG G) : ∀ pc r, t_Q_isTaken pc = some r → mx_Ok G mx_W mx_MT q_Q_isTaken pc r := (bn_ok (bn_ok (bn_ok (bn_ok (bl_ok (ok_iload_n rfl d_Q_isTaken_0)) (bl_ok (ok_iflt d_Q_isTaken_1 (by decide)))) (bn_ok (bl_ok (ok_iload_n rfl d_Q_isTaken_4)) (bl_ok (ok_aload_n rfl d_Q_isTaken_5)))) (bn_ok (bn_ok (bl_ok (ok_getf d_Q_isTaken_6 (cl_3 hG) (by decide) w_134)) (bl_ok (ok_icge d_Q_isTaken_9 (by decide)))) (bn_ok (bl_ok (ok_aload_n rfl d_Q_isTaken_12)) (bl_ok (ok_getf d_Q_isTaken_13 (cl_3 hG) (by decide) w_132))))) (bn_ok (bn_ok (bn_ok (bl_ok (ok_iload_n rfl d_Q_isTaken_16)) (bl_ok (ok_iald d_Q_isTaken_17 (kt_0 hG)))) (bn_ok (bl_ok (ok_bipush (by decide) d_Q_isTaken_18)) (bl_ok (ok_icne d_Q_isTaken_20 (by decide))))) (bn_ok (bn_ok (bl_ok (ok_iconst (by decide) d_Q_isTaken_23)) (bl_ok (ok_goto d_Q_isTaken_24 (by decide)))) (bn_ok (bl_ok (ok_iconst (by decide) d_Q_isTaken_27)) (bl_ok (ok_zreturn d_Q_isTaken_28 rfl))))))
theorem d_Q_offer_0 : decode (qB q_Q_offer) 0 = .ok (.iload_n 1, 1) := by decide +kernel
theorem d_Q_offer_1 : decode (qB q_Q_offer) 1 = .ok (.ifCond .lt 11, 3) := by decide +kernel
theorem d_Q_offer_4 : decode (qB q_Q_offer) 4 = .ok (.iload_n 1, 1) := by decide +kernel
theorem d_Q_offer_5 : decode (qB q_Q_offer) 5 = .ok (.aload_n 0, 1) := by decide +kernel
theorem d_Q_offer_6 : decode (qB q_Q_offer) 6 = .ok (.getfield 25, 3) := by decide +kernel
theorem d_Q_offer_9 : decode (qB q_Q_offer) 9 = .ok (.if_icmp .lt 4, 3) := by decide +kernel
theorem d_Q_offer_12 : decode (qB q_Q_offer) 12 = .ok (.return_, 1) := by decide +kernel
theorem d_Q_offer_13 : decode (qB q_Q_offer) 13 = .ok (.aload_n 0, 1) := by decide +kernel
theorem d_Q_offer_14 : decode (qB q_Q_offer) 14 = .ok (.getfield 18, 3) := by decide +kernel
theorem d_Q_offer_17 : decode (qB q_Q_offer) 17 = .ok (.iload_n 1, 1) := by decide +kernel
theorem d_Q_offer_18 : decode (qB q_Q_offer) 18 = .ok (.iaload, 1) := by decide +kernel
theorem d_Q_offer_19 : decode (qB q_Q_offer) 19 = .ok (.istore 7, 2) := by decide +kernel
theorem d_Q_offer_21 : decode (qB q_Q_offer) 21 = .ok (.lload 4, 2) := by decide +kernel
theorem d_Q_offer_23 : decode (qB q_Q_offer) 23 = .ok (.bipush 18, 2) := by decide +kernel
theorem d_Q_offer_25 : decode (qB q_Q_offer) 25 = .ok (.lshl, 1) := by decide +kernel
theorem d_Q_offer_26 : decode (qB q_Q_offer) 26 = .ok (.iload 6, 2) := by decide +kernel
theorem d_Q_offer_28 : decode (qB q_Q_offer) 28 = .ok (.i2l, 1) := by decide +kernel
theorem d_Q_offer_29 : decode (qB q_Q_offer) 29 = .ok (.lor, 1) := by decide +kernel
theorem d_Q_offer_30 : decode (qB q_Q_offer) 30 = .ok (.lstore 8, 2) := by decide +kernel
theorem d_Q_offer_32 : decode (qB q_Q_offer) 32 = .ok (.iload 7, 2) := by decide +kernel
theorem d_Q_offer_34 : decode (qB q_Q_offer) 34 = .ok (.bipush (-2), 2) := by decide +kernel
theorem d_Q_offer_36 : decode (qB q_Q_offer) 36 = .ok (.if_icmp .eq 20, 3) := by decide +kernel
theorem d_Q_offer_39 : decode (qB q_Q_offer) 39 = .ok (.iload 7, 2) := by decide +kernel
theorem d_Q_offer_41 : decode (qB q_Q_offer) 41 = .ok (.iconst (-1), 1) := by decide +kernel
theorem d_Q_offer_42 : decode (qB q_Q_offer) 42 = .ok (.if_icmp .eq 15, 3) := by decide +kernel
theorem d_Q_offer_45 : decode (qB q_Q_offer) 45 = .ok (.aload_n 0, 1) := by decide +kernel
theorem d_Q_offer_46 : decode (qB q_Q_offer) 46 = .ok (.lload_n 2, 1) := by decide +kernel
theorem d_Q_offer_47 : decode (qB q_Q_offer) 47 = .ok (.lload 8, 2) := by decide +kernel
theorem d_Q_offer_49 : decode (qB q_Q_offer) 49 = .ok (.iload_n 1, 1) := by decide +kernel
theorem d_Q_offer_50 : decode (qB q_Q_offer) 50 = .ok (.invokevirtual 44, 3) := by decide +kernel
theorem d_Q_offer_53 : decode (qB q_Q_offer) 53 = .ok (.ifCond .ne 4, 3) := by decide +kernel
theorem d_Q_offer_56 : decode (qB q_Q_offer) 56 = .ok (.return_, 1) := by decide +kernel
theorem d_Q_offer_57 : decode (qB q_Q_offer) 57 = .ok (.iload 7, 2) := by decide +kernel
theorem d_Q_offer_59 : decode (qB q_Q_offer) 59 = .ok (.iconst (-1), 1) := by decide +kernel
theorem d_Q_offer_60 : decode (qB q_Q_offer) 60 = .ok (.if_icmp .ne 19, 3) := by decide +kernel
theorem d_Q_offer_63 : decode (qB q_Q_offer) 63 = .ok (.aload_n 0, 1) := by decide +kernel
theorem d_Q_offer_64 : decode (qB q_Q_offer) 64 = .ok (.getfield 29, 3) := by decide +kernel
theorem d_Q_offer_67 : decode (qB q_Q_offer) 67 = .ok (.istore 7, 2) := by decide +kernel
theorem d_Q_offer_69 : decode (qB q_Q_offer) 69 = .ok (.aload_n 0, 1) := by decide +kernel
theorem d_Q_offer_70 : decode (qB q_Q_offer) 70 = .ok (.dup, 1) := by decide +kernel
theorem d_Q_offer_71 : decode (qB q_Q_offer) 71 = .ok (.getfield 29, 3) := by decide +kernel
theorem d_Q_offer_74 : decode (qB q_Q_offer) 74 = .ok (.iconst 1, 1) := by decide +kernel
theorem d_Q_offer_75 : decode (qB q_Q_offer) 75 = .ok (.iadd, 1) := by decide +kernel
theorem d_Q_offer_76 : decode (qB q_Q_offer) 76 = .ok (.putfield 29, 3) := by decide +kernel
theorem d_Q_offer_79 : decode (qB q_Q_offer) 79 = .ok (.aload_n 0, 1) := by decide +kernel
theorem d_Q_offer_80 : decode (qB q_Q_offer) 80 = .ok (.getfield 11, 3) := by decide +kernel
theorem d_Q_offer_83 : decode (qB q_Q_offer) 83 = .ok (.iload_n 1, 1) := by decide +kernel
theorem d_Q_offer_84 : decode (qB q_Q_offer) 84 = .ok (.lload_n 2, 1) := by decide +kernel
theorem d_Q_offer_85 : decode (qB q_Q_offer) 85 = .ok (.lastore, 1) := by decide +kernel
theorem d_Q_offer_86 : decode (qB q_Q_offer) 86 = .ok (.aload_n 0, 1) := by decide +kernel
theorem d_Q_offer_87 : decode (qB q_Q_offer) 87 = .ok (.getfield 15, 3) := by decide +kernel
theorem d_Q_offer_90 : decode (qB q_Q_offer) 90 = .ok (.iload_n 1, 1) := by decide +kernel
theorem d_Q_offer_91 : decode (qB q_Q_offer) 91 = .ok (.lload 8, 2) := by decide +kernel
theorem d_Q_offer_93 : decode (qB q_Q_offer) 93 = .ok (.lastore, 1) := by decide +kernel
theorem d_Q_offer_94 : decode (qB q_Q_offer) 94 = .ok (.aload_n 0, 1) := by decide +kernel
theorem d_Q_offer_95 : decode (qB q_Q_offer) 95 = .ok (.iload_n 1, 1) := by decide +kernel
theorem d_Q_offer_96 : decode (qB q_Q_offer) 96 = .ok (.iload 7, 2) := by decide +kernel
theorem d_Q_offer_98 : decode (qB q_Q_offer) 98 = .ok (.invokevirtual 48, 3) := by decide +kernel
theorem d_Q_offer_101 : decode (qB q_Q_offer) 101 = .ok (.return_, 1) := by decide +kernel
set_option maxRecDepth 10000 in
theorem k_Q_offer {G : mxG} (hG : mx_GG G) : ∀ pc r, t_Q_offer pc = some r → mx_Ok G mx_W mx_MT q_Q_offer pc r := (bn_ok (bn_ok (bn_ok (bn_ok (bn_ok (bl_ok (ok_iload_n rfl d_Q_offer_0)) (bn_ok (bl_ok (ok_iflt d_Q_offer_1 (by decide))) (bl_ok (ok_iload_n rfl d_Q_offer_4)))) (bn_ok (bn_ok (bl_ok (ok_aload_n rfl d_Q_offer_5)) (bl_ok (ok_getf d_Q_offer_6 (cl_3 hG) (by decide) w_134))) (bn_ok (bl_ok (ok_iclt d_Q_offer_9 (by decide))) (bl_ok (ok_return d_Q_offer_12 rfl))))) (bn_ok (bn_ok (bl_ok (ok_aload_n rfl d_Q_offer_13)) (bn_ok (bl_ok (ok_getf d_Q_offer_14 (cl_3 hG) (by decide) w_132)) (bl_ok (ok_iload_n rfl d_Q_offer_17)))) (bn_ok (bn_ok (bl_ok (ok_iald d_Q_offer_18 (kt_0 hG))) (bl_ok (ok_istore d_Q_offer_19 (by decide)))) (bn_ok (bl_ok (ok_lload d_Q_offer_21)) (bl_ok (ok_bipush (by decide) d_Q_offer_23)))))) (bn_ok (bn_ok (bn_ok (bl_ok (ok_lshl d_Q_offer_25)) (bn_ok (bl_ok (ok_iload d_Q_offer_26)) (bl_ok (ok_i2l d_Q_offer_28)))) (bn_ok (bn_ok (bl_ok (ok_lor d_Q_offer_29)) (bl_ok (ok_lstore d_Q_offer_30 (by decide)))) (bn_ok (bl_ok (ok_iload d_Q_offer_32)) (bl_ok (ok_bipush (by decide) d_Q_offer_34))))) (bn_ok (bn_ok (bn_ok (bl_ok (ok_iceq d_Q_offer_36 (by decide))) (bl_ok (ok_iload d_Q_offer_39))) (bn_ok (bl_ok (ok_iconst (by decide) d_Q_offer_41)) (bl_ok (ok_iceq d_Q_offer_42 (by decide))))) (bn_ok (bn_ok (bl_ok (ok_aload_n rfl d_Q_offer_45)) (bl_ok (ok_lload_n rfl d_Q_offer_46))) (bn_ok (bl_ok (ok_lload d_Q_offer_47)) (bl_ok (ok_iload_n rfl d_Q_offer_49))))))) (bn_ok (bn_ok (bn_ok (bn_ok (bl_ok (ok_cv mx_W_good (cl_3 hG) d_Q_offer_50 (mt_Q_isLess) mk_Q_isLess w_334 w_336 ws_Q_isLess (by decide) (by decide))) (bn_ok (bl_ok (ok_ifne d_Q_offer_53 (by decide))) (bl_ok (ok_return d_Q_offer_56 rfl)))) (bn_ok (bn_ok (bl_ok (ok_iload d_Q_offer_57)) (bl_ok (ok_iconst (by decide) d_Q_offer_59))) (bn_ok (bl_ok (ok_icne d_Q_offer_60 (by decide))) (bl_ok (ok_aload_n rfl d_Q_offer_63))))) (bn_ok (bn_ok (bn_ok (bl_ok (ok_getf d_Q_offer_64 (cl_3 hG) (by decide) w_135)) (bl_ok (ok_istore d_Q_offer_67 (by decide)))) (bn_ok (bl_ok (ok_aload_n rfl d_Q_offer_69)) (bl_ok (ok_dup d_Q_offer_70)))) (bn_ok (bn_ok (bl_ok (ok_getf d_Q_offer_71 (cl_3 hG) (by decide) w_135)) (bl_ok (ok_iconst (by decide) d_Q_offer_74))) (bn_ok (bl_ok (ok_iadd d_Q_offer_75)) (bl_ok (ok_putf d_Q_offer_76 (cl_3 hG) (by decide) w_135 rfl (Or.inl rfl))))))) (bn_ok (bn_ok (bn_ok (bl_ok (ok_aload_n rfl d_Q_offer_79)) (bn_ok (bl_ok (ok_getf d_Q_offer_80 (cl_3 hG) (by decide) w_129)) (bl_ok (ok_iload_n rfl d_Q_offer_83)))) (bn_ok (bn_ok (bl_ok (ok_lload_n rfl d_Q_offer_84)) (bl_ok (ok_last d_Q_offer_85 (kt_1 hG)))) (bn_ok (bl_ok (ok_aload_n rfl d_Q_offer_86)) (bl_ok (ok_getf d_Q_offer_87 (cl_3 hG) (by decide) w_131))))) (bn_ok (bn_ok (bn_ok (bl_ok (ok_iload_n rfl d_Q_offer_90)) (bl_ok (ok_lload d_Q_offer_91))) (bn_ok (bl_ok (ok_last d_Q_offer_93 (kt_1 hG))) (bl_ok (ok_aload_n rfl d_Q_offer_94)))) (bn_ok (bn_ok (bl_ok (ok_iload_n rfl d_Q_offer_95)) (bl_ok (ok_iload d_Q_offer_96))) (bn_ok (bl_ok (ok_cv mx_W_good (cl_3 hG) d_Q_offer_98 (mt_Q_rise) mk_Q_rise w_338 w_340 ws_Q_rise (by decide) (by decide))) (bl_ok (ok_return d_Q_offer_101 rfl))))))))
theorem d_Q_takeLeast_0 : decode (qB q_Q_takeLeast) 0 = .ok (.aload_n 0, 1) := by decide +kernel
theorem d_Q_takeLeast_1 : decode (qB q_Q_takeLeast) 1 = .ok (.getfield 29, 3) := by decide +kernel
theorem d_Q_takeLeast_4 : decode (qB q_Q_takeLeast) 4 = .ok (.ifCond .ne 5, 3) := by decide +kernel
theorem d_Q_takeLeast_7 : decode (qB q_Q_takeLeast) 7 = .ok (.iconst (-1), 1) := by decide +kernel
theorem d_Q_takeLeast_8 : decode (qB q_Q_takeLeast) 8 = .ok (.ireturn, 1) := by decide +kernel
theorem d_Q_takeLeast_9 : decode (qB q_Q_takeLeast) 9 = .ok (.aload_n 0, 1) := by decide +kernel
theorem d_Q_takeLeast_10 : decode (qB q_Q_takeLeast) 10 = .ok (.getfield 22, 3) := by decide +kernel
theorem d_Q_takeLeast_13 : decode (qB q_Q_takeLeast) 13 = .ok (.iconst 0, 1) := by decide +kernel
theorem d_Q_takeLeast_14 : decode (qB q_Q_takeLeast) 14 = .ok (.iaload, 1) := by decide +kernel
theorem d_Q_takeLeast_15 : decode (qB q_Q_takeLeast) 15 = .ok (.istore_n 1, 1) := by decide +kernel
theorem d_Q_takeLeast_16 : decode (qB q_Q_takeLeast) 16 = .ok (.aload_n 0, 1) := by decide +kernel
theorem d_Q_takeLeast_17 : decode (qB q_Q_takeLeast) 17 = .ok (.dup, 1) := by decide +kernel
theorem d_Q_takeLeast_18 : decode (qB q_Q_takeLeast) 18 = .ok (.getfield 29, 3) := by decide +kernel
theorem d_Q_takeLeast_21 : decode (qB q_Q_takeLeast) 21 = .ok (.iconst 1, 1) := by decide +kernel
theorem d_Q_takeLeast_22 : decode (qB q_Q_takeLeast) 22 = .ok (.isub, 1) := by decide +kernel
theorem d_Q_takeLeast_23 : decode (qB q_Q_takeLeast) 23 = .ok (.putfield 29, 3) := by decide +kernel
theorem d_Q_takeLeast_26 : decode (qB q_Q_takeLeast) 26 = .ok (.aload_n 0, 1) := by decide +kernel
theorem d_Q_takeLeast_27 : decode (qB q_Q_takeLeast) 27 = .ok (.getfield 29, 3) := by decide +kernel
theorem d_Q_takeLeast_30 : decode (qB q_Q_takeLeast) 30 = .ok (.ifCond .le 16, 3) := by decide +kernel
theorem d_Q_takeLeast_33 : decode (qB q_Q_takeLeast) 33 = .ok (.aload_n 0, 1) := by decide +kernel
theorem d_Q_takeLeast_34 : decode (qB q_Q_takeLeast) 34 = .ok (.aload_n 0, 1) := by decide +kernel
theorem d_Q_takeLeast_35 : decode (qB q_Q_takeLeast) 35 = .ok (.getfield 22, 3) := by decide +kernel
theorem d_Q_takeLeast_38 : decode (qB q_Q_takeLeast) 38 = .ok (.aload_n 0, 1) := by decide +kernel
theorem d_Q_takeLeast_39 : decode (qB q_Q_takeLeast) 39 = .ok (.getfield 29, 3) := by decide +kernel
theorem d_Q_takeLeast_42 : decode (qB q_Q_takeLeast) 42 = .ok (.iaload, 1) := by decide +kernel
theorem d_Q_takeLeast_43 : decode (qB q_Q_takeLeast) 43 = .ok (.invokevirtual 52, 3) := by decide +kernel
theorem d_Q_takeLeast_46 : decode (qB q_Q_takeLeast) 46 = .ok (.aload_n 0, 1) := by decide +kernel
theorem d_Q_takeLeast_47 : decode (qB q_Q_takeLeast) 47 = .ok (.getfield 18, 3) := by decide +kernel
theorem d_Q_takeLeast_50 : decode (qB q_Q_takeLeast) 50 = .ok (.iload_n 1, 1) := by decide +kernel
theorem d_Q_takeLeast_51 : decode (qB q_Q_takeLeast) 51 = .ok (.bipush (-2), 2) := by decide +kernel
theorem d_Q_takeLeast_53 : decode (qB q_Q_takeLeast) 53 = .ok (.iastore, 1) := by decide +kernel
theorem d_Q_takeLeast_54 : decode (qB q_Q_takeLeast) 54 = .ok (.iload_n 1, 1) := by decide +kernel
theorem d_Q_takeLeast_55 : decode (qB q_Q_takeLeast) 55 = .ok (.ireturn, 1) := by decide +kernel
set_option maxRecDepth 10000 in
theorem k_Q_takeLeast {G : mxG} (hG : mx_GG G) : ∀ pc r, t_Q_takeLeast pc = some r → mx_Ok G mx_W mx_MT q_Q_takeLeast pc r := (bn_ok (bn_ok (bn_ok (bn_ok (bn_ok (bl_ok (ok_aload_n rfl d_Q_takeLeast_0)) (bl_ok (ok_getf d_Q_takeLeast_1 (cl_3 hG) (by decide) w_135))) (bn_ok (bl_ok (ok_ifne d_Q_takeLeast_4 (by decide))) (bl_ok (ok_iconst (by decide) d_Q_takeLeast_7)))) (bn_ok (bn_ok (bl_ok (ok_ireturn d_Q_takeLeast_8 rfl)) (bl_ok (ok_aload_n rfl d_Q_takeLeast_9))) (bn_ok (bl_ok (ok_getf d_Q_takeLeast_10 (cl_3 hG) (by decide) w_133)) (bl_ok (ok_iconst (by decide) d_Q_takeLeast_13))))) (bn_ok (bn_ok (bn_ok (bl_ok (ok_iald d_Q_takeLeast_14 (kt_0 hG))) (bl_ok (ok_istore_n rfl d_Q_takeLeast_15 (by decide)))) (bn_ok (bl_ok (ok_aload_n rfl d_Q_takeLeast_16)) (bl_ok (ok_dup d_Q_takeLeast_17)))) (bn_ok (bn_ok (bl_ok (ok_getf d_Q_takeLeast_18 (cl_3 hG) (by decide) w_135)) (bl_ok (ok_iconst (by decide) d_Q_takeLeast_21))) (bn_ok (bl_ok (ok_isub d_Q_takeLeast_22)) (bl_ok (ok_putf d_Q_takeLeast_23 (cl_3 hG) (by decide) w_135 rfl (Or.inl rfl))))))) (bn_ok (bn_ok (bn_ok (bn_ok (bl_ok (ok_aload_n rfl d_Q_takeLeast_26)) (bl_ok (ok_getf d_Q_takeLeast_27 (cl_3 hG) (by decide) w_135))) (bn_ok (bl_ok (ok_ifle d_Q_takeLeast_30 (by decide))) (bl_ok (ok_aload_n rfl d_Q_takeLeast_33)))) (bn_ok (bn_ok (bl_ok (ok_aload_n rfl d_Q_takeLeast_34)) (bl_ok (ok_getf d_Q_takeLeast_35 (cl_3 hG) (by decide) w_133))) (bn_ok (bl_ok (ok_aload_n rfl d_Q_takeLeast_38)) (bl_ok (ok_getf d_Q_takeLeast_39 (cl_3 hG) (by decide) w_135))))) (bn_ok (bn_ok (bn_ok (bl_ok (ok_iald d_Q_takeLeast_42 (kt_0 hG))) (bl_ok (ok_cv mx_W_good (cl_3 hG) d_Q_takeLeast_43 (mt_Q_sink) mk_Q_sink w_346 w_348 ws_Q_sink (by decide) (by decide)))) (bn_ok (bl_ok (ok_aload_n rfl d_Q_takeLeast_46)) (bl_ok (ok_getf d_Q_takeLeast_47 (cl_3 hG) (by decide) w_132)))) (bn_ok (bn_ok (bl_ok (ok_iload_n rfl d_Q_takeLeast_50)) (bl_ok (ok_bipush (by decide) d_Q_takeLeast_51))) (bn_ok (bl_ok (ok_iast d_Q_takeLeast_53 (kt_0 hG))) (bn_ok (bl_ok (ok_iload_n rfl d_Q_takeLeast_54)) (bl_ok (ok_ireturn d_Q_takeLeast_55 rfl))))))))
theorem d_Q_isLess_0 : decode (qB q_Q_isLess) 0 = .ok (.lload_n 1, 1) := by decide +kernel
theorem d_Q_isLess_1 : decode (qB q_Q_isLess) 1 = .ok (.aload_n 0, 1) := by decide +kernel
theorem d_Q_isLess_2 : decode (qB q_Q_isLess) 2 = .ok (.getfield 11, 3) := by decide +kernel
theorem d_Q_isLess_5 : decode (qB q_Q_isLess) 5 = .ok (.iload 5, 2) := by decide +kernel
theorem d_Q_isLess_7 : decode (qB q_Q_isLess) 7 = .ok (.laload, 1) := by decide +kernel
theorem d_Q_isLess_8 : decode (qB q_Q_isLess) 8 = .ok (.lcmp, 1) := by decide +kernel
theorem d_Q_isLess_9 : decode (qB q_Q_isLess) 9 = .ok (.ifCond .lt 27, 3) := by decide +kernel
theorem d_Q_isLess_12 : decode (qB q_Q_isLess) 12 = .ok (.lload_n 1, 1) := by decide +kernel
theorem d_Q_isLess_13 : decode (qB q_Q_isLess) 13 = .ok (.aload_n 0, 1) := by decide +kernel
theorem d_Q_isLess_14 : decode (qB q_Q_isLess) 14 = .ok (.getfield 11, 3) := by decide +kernel
theorem d_Q_isLess_17 : decode (qB q_Q_isLess) 17 = .ok (.iload 5, 2) := by decide +kernel
theorem d_Q_isLess_19 : decode (qB q_Q_isLess) 19 = .ok (.laload, 1) := by decide +kernel
theorem d_Q_isLess_20 : decode (qB q_Q_isLess) 20 = .ok (.lcmp, 1) := by decide +kernel
theorem d_Q_isLess_21 : decode (qB q_Q_isLess) 21 = .ok (.ifCond .ne 19, 3) := by decide +kernel
theorem d_Q_isLess_24 : decode (qB q_Q_isLess) 24 = .ok (.lload_n 3, 1) := by decide +kernel
theorem d_Q_isLess_25 : decode (qB q_Q_isLess) 25 = .ok (.aload_n 0, 1) := by decide +kernel
theorem d_Q_isLess_26 : decode (qB q_Q_isLess) 26 = .ok (.getfield 15, 3) := by decide +kernel
theorem d_Q_isLess_29 : decode (qB q_Q_isLess) 29 = .ok (.iload 5, 2) := by decide +kernel
theorem d_Q_isLess_31 : decode (qB q_Q_isLess) 31 = .ok (.laload, 1) := by decide +kernel
theorem d_Q_isLess_32 : decode (qB q_Q_isLess) 32 = .ok (.lcmp, 1) := by decide +kernel
theorem d_Q_isLess_33 : decode (qB q_Q_isLess) 33 = .ok (.ifCond .ge 7, 3) := by decide +kernel
theorem d_Q_isLess_36 : decode (qB q_Q_isLess) 36 = .ok (.iconst 1, 1) := by decide +kernel
theorem d_Q_isLess_37 : decode (qB q_Q_isLess) 37 = .ok (.goto 4, 3) := by decide +kernel
theorem d_Q_isLess_40 : decode (qB q_Q_isLess) 40 = .ok (.iconst 0, 1) := by decide +kernel
theorem d_Q_isLess_41 : decode (qB q_Q_isLess) 41 = .ok (.ireturn, 1) := by decide +kernel
set_option maxRecDepth 10000 in
theorem k_Q_isLess {G : mxG} (hG : mx_GG G) : ∀ pc r, t_Q_isLess pc = some r → mx_Ok G mx_W mx_MT q_Q_isLess pc r := (bn_ok (bn_ok (bn_ok (bn_ok (bl_ok (ok_lload_n rfl d_Q_isLess_0)) (bn_ok (bl_ok (ok_aload_n rfl d_Q_isLess_1)) (bl_ok (ok_getf d_Q_isLess_2 (cl_3 hG) (by decide) w_129)))) (bn_ok (bl_ok (ok_iload d_Q_isLess_5)) (bn_ok (bl_ok (ok_lald d_Q_isLess_7 (kt_1 hG))) (bl_ok (ok_lcmp d_Q_isLess_8))))) (bn_ok (bn_ok (bl_ok (ok_iflt d_Q_isLess_9 (by decide))) (bn_ok (bl_ok (ok_lload_n rfl d_Q_isLess_12)) (bl_ok (ok_aload_n rfl d_Q_isLess_13)))) (bn_ok (bl_ok (ok_getf d_Q_isLess_14 (cl_3 hG) (by decide) w_129)) (bn_ok (bl_ok (ok_iload d_Q_isLess_17)) (bl_ok (ok_lald d_Q_isLess_19 (kt_1 hG))))))) (bn_ok (bn_ok (bn_ok (bl_ok (ok_lcmp d_Q_isLess_20)) (bn_ok (bl_ok (ok_ifne d_Q_isLess_21 (by decide))) (bl_ok (ok_lload_n rfl d_Q_isLess_24)))) (bn_ok (bl_ok (ok_aload_n rfl d_Q_isLess_25)) (bn_ok (bl_ok (ok_getf d_Q_isLess_26 (cl_3 hG) (by decide) w_131)) (bl_ok (ok_iload d_Q_isLess_29))))) (bn_ok (bn_ok (bl_ok (ok_lald d_Q_isLess_31 (kt_1 hG))) (bn_ok (bl_ok (ok_lcmp d_Q_isLess_32)) (bl_ok (ok_ifge d_Q_isLess_33 (by decide))))) (bn_ok (bn_ok (bl_ok (ok_iconst (by decide) d_Q_isLess_36)) (bl_ok (ok_goto d_Q_isLess_37 (by decide)))) (bn_ok (bl_ok (ok_iconst (by decide) d_Q_isLess_40)) (bl_ok (ok_zreturn d_Q_isLess_41 rfl)))))))
theorem d_Q_rise_0 : decode (qB q_Q_rise) 0 = .ok (.aload_n 0, 1) := by decide +kernel
theorem d_Q_rise_1 : decode (qB q_Q_rise) 1 = .ok (.getfield 11, 3) := by decide +kernel
theorem d_Q_rise_4 : decode (qB q_Q_rise) 4 = .ok (.iload_n 1, 1) := by decide +kernel
theorem d_Q_rise_5 : decode (qB q_Q_rise) 5 = .ok (.laload, 1) := by decide +kernel
theorem d_Q_rise_6 : decode (qB q_Q_rise) 6 = .ok (.lstore_n 3, 1) := by decide +kernel
theorem d_Q_rise_7 : decode (qB q_Q_rise) 7 = .ok (.aload_n 0, 1) := by decide +kernel
theorem d_Q_rise_8 : decode (qB q_Q_rise) 8 = .ok (.getfield 15, 3) := by decide +kernel
theorem d_Q_rise_11 : decode (qB q_Q_rise) 11 = .ok (.iload_n 1, 1) := by decide +kernel
theorem d_Q_rise_12 : decode (qB q_Q_rise) 12 = .ok (.laload, 1) := by decide +kernel
theorem d_Q_rise_13 : decode (qB q_Q_rise) 13 = .ok (.lstore 5, 2) := by decide +kernel
theorem d_Q_rise_15 : decode (qB q_Q_rise) 15 = .ok (.iload_n 2, 1) := by decide +kernel
theorem d_Q_rise_16 : decode (qB q_Q_rise) 16 = .ok (.istore 7, 2) := by decide +kernel
theorem d_Q_rise_18 : decode (qB q_Q_rise) 18 = .ok (.iload 7, 2) := by decide +kernel
theorem d_Q_rise_20 : decode (qB q_Q_rise) 20 = .ok (.ifCond .le 85, 3) := by decide +kernel
theorem d_Q_rise_23 : decode (qB q_Q_rise) 23 = .ok (.iload 7, 2) := by decide +kernel
theorem d_Q_rise_25 : decode (qB q_Q_rise) 25 = .ok (.iconst 1, 1) := by decide +kernel
theorem d_Q_rise_26 : decode (qB q_Q_rise) 26 = .ok (.isub, 1) := by decide +kernel
theorem d_Q_rise_27 : decode (qB q_Q_rise) 27 = .ok (.iconst 2, 1) := by decide +kernel
theorem d_Q_rise_28 : decode (qB q_Q_rise) 28 = .ok (.idiv, 1) := by decide +kernel
theorem d_Q_rise_29 : decode (qB q_Q_rise) 29 = .ok (.istore 8, 2) := by decide +kernel
theorem d_Q_rise_31 : decode (qB q_Q_rise) 31 = .ok (.aload_n 0, 1) := by decide +kernel
theorem d_Q_rise_32 : decode (qB q_Q_rise) 32 = .ok (.getfield 22, 3) := by decide +kernel
theorem d_Q_rise_35 : decode (qB q_Q_rise) 35 = .ok (.iload 8, 2) := by decide +kernel
theorem d_Q_rise_37 : decode (qB q_Q_rise) 37 = .ok (.iaload, 1) := by decide +kernel
theorem d_Q_rise_38 : decode (qB q_Q_rise) 38 = .ok (.istore 9, 2) := by decide +kernel
theorem d_Q_rise_40 : decode (qB q_Q_rise) 40 = .ok (.lload_n 3, 1) := by decide +kernel
theorem d_Q_rise_41 : decode (qB q_Q_rise) 41 = .ok (.aload_n 0, 1) := by decide +kernel
theorem d_Q_rise_42 : decode (qB q_Q_rise) 42 = .ok (.getfield 11, 3) := by decide +kernel
theorem d_Q_rise_45 : decode (qB q_Q_rise) 45 = .ok (.iload 9, 2) := by decide +kernel
theorem d_Q_rise_47 : decode (qB q_Q_rise) 47 = .ok (.laload, 1) := by decide +kernel
theorem d_Q_rise_48 : decode (qB q_Q_rise) 48 = .ok (.lcmp, 1) := by decide +kernel
theorem d_Q_rise_49 : decode (qB q_Q_rise) 49 = .ok (.ifCond .gt 56, 3) := by decide +kernel
theorem d_Q_rise_52 : decode (qB q_Q_rise) 52 = .ok (.lload_n 3, 1) := by decide +kernel
theorem d_Q_rise_53 : decode (qB q_Q_rise) 53 = .ok (.aload_n 0, 1) := by decide +kernel
theorem d_Q_rise_54 : decode (qB q_Q_rise) 54 = .ok (.getfield 11, 3) := by decide +kernel
theorem d_Q_rise_57 : decode (qB q_Q_rise) 57 = .ok (.iload 9, 2) := by decide +kernel
theorem d_Q_rise_59 : decode (qB q_Q_rise) 59 = .ok (.laload, 1) := by decide +kernel
theorem d_Q_rise_60 : decode (qB q_Q_rise) 60 = .ok (.lcmp, 1) := by decide +kernel
theorem d_Q_rise_61 : decode (qB q_Q_rise) 61 = .ok (.ifCond .ne 19, 3) := by decide +kernel
theorem d_Q_rise_64 : decode (qB q_Q_rise) 64 = .ok (.lload 5, 2) := by decide +kernel
theorem d_Q_rise_66 : decode (qB q_Q_rise) 66 = .ok (.aload_n 0, 1) := by decide +kernel
theorem d_Q_rise_67 : decode (qB q_Q_rise) 67 = .ok (.getfield 15, 3) := by decide +kernel
theorem d_Q_rise_70 : decode (qB q_Q_rise) 70 = .ok (.iload 9, 2) := by decide +kernel
theorem d_Q_rise_72 : decode (qB q_Q_rise) 72 = .ok (.laload, 1) := by decide +kernel
theorem d_Q_rise_73 : decode (qB q_Q_rise) 73 = .ok (.lcmp, 1) := by decide +kernel
theorem d_Q_rise_74 : decode (qB q_Q_rise) 74 = .ok (.ifCond .le 6, 3) := by decide +kernel
theorem d_Q_rise_77 : decode (qB q_Q_rise) 77 = .ok (.goto 28, 3) := by decide +kernel
theorem d_Q_rise_80 : decode (qB q_Q_rise) 80 = .ok (.aload_n 0, 1) := by decide +kernel
theorem d_Q_rise_81 : decode (qB q_Q_rise) 81 = .ok (.getfield 22, 3) := by decide +kernel
theorem d_Q_rise_84 : decode (qB q_Q_rise) 84 = .ok (.iload 7, 2) := by decide +kernel
theorem d_Q_rise_86 : decode (qB q_Q_rise) 86 = .ok (.iload 9, 2) := by decide +kernel
theorem d_Q_rise_88 : decode (qB q_Q_rise) 88 = .ok (.iastore, 1) := by decide +kernel
theorem d_Q_rise_89 : decode (qB q_Q_rise) 89 = .ok (.aload_n 0, 1) := by decide +kernel
theorem d_Q_rise_90 : decode (qB q_Q_rise) 90 = .ok (.getfield 18, 3) := by decide +kernel
theorem d_Q_rise_93 : decode (qB q_Q_rise) 93 = .ok (.iload 9, 2) := by decide +kernel
theorem d_Q_rise_95 : decode (qB q_Q_rise) 95 = .ok (.iload 7, 2) := by decide +kernel
theorem d_Q_rise_97 : decode (qB q_Q_rise) 97 = .ok (.iastore, 1) := by decide +kernel
theorem d_Q_rise_98 : decode (qB q_Q_rise) 98 = .ok (.iload 8, 2) := by decide +kernel
theorem d_Q_rise_100 : decode (qB q_Q_rise) 100 = .ok (.istore 7, 2) := by decide +kernel
theorem d_Q_rise_102 : decode (qB q_Q_rise) 102 = .ok (.goto (-84), 3) := by decide +kernel
theorem d_Q_rise_105 : decode (qB q_Q_rise) 105 = .ok (.aload_n 0, 1) := by decide +kernel
theorem d_Q_rise_106 : decode (qB q_Q_rise) 106 = .ok (.getfield 22, 3) := by decide +kernel
theorem d_Q_rise_109 : decode (qB q_Q_rise) 109 = .ok (.iload 7, 2) := by decide +kernel
theorem d_Q_rise_111 : decode (qB q_Q_rise) 111 = .ok (.iload_n 1, 1) := by decide +kernel
theorem d_Q_rise_112 : decode (qB q_Q_rise) 112 = .ok (.iastore, 1) := by decide +kernel
theorem d_Q_rise_113 : decode (qB q_Q_rise) 113 = .ok (.aload_n 0, 1) := by decide +kernel
theorem d_Q_rise_114 : decode (qB q_Q_rise) 114 = .ok (.getfield 18, 3) := by decide +kernel
theorem d_Q_rise_117 : decode (qB q_Q_rise) 117 = .ok (.iload_n 1, 1) := by decide +kernel
theorem d_Q_rise_118 : decode (qB q_Q_rise) 118 = .ok (.iload 7, 2) := by decide +kernel
theorem d_Q_rise_120 : decode (qB q_Q_rise) 120 = .ok (.iastore, 1) := by decide +kernel
theorem d_Q_rise_121 : decode (qB q_Q_rise) 121 = .ok (.return_, 1) := by decide +kernel
set_option maxRecDepth 10000 in
theorem k_Q_rise {G : mxG} (hG : mx_GG G) : ∀ pc r, t_Q_rise pc = some r → mx_Ok G mx_W mx_MT q_Q_rise pc r := (bn_ok (bn_ok (bn_ok (bn_ok (bn_ok (bn_ok (bl_ok (ok_aload_n rfl d_Q_rise_0)) (bl_ok (ok_getf d_Q_rise_1 (cl_3 hG) (by decide) w_129))) (bn_ok (bl_ok (ok_iload_n rfl d_Q_rise_4)) (bl_ok (ok_lald d_Q_rise_5 (kt_1 hG))))) (bn_ok (bn_ok (bl_ok (ok_lstore_n rfl d_Q_rise_6 (by decide))) (bl_ok (ok_aload_n rfl d_Q_rise_7))) (bn_ok (bl_ok (ok_getf d_Q_rise_8 (cl_3 hG) (by decide) w_131)) (bl_ok (ok_iload_n rfl d_Q_rise_11))))) (bn_ok (bn_ok (bn_ok (bl_ok (ok_lald d_Q_rise_12 (kt_1 hG))) (bl_ok (ok_lstore d_Q_rise_13 (by decide)))) (bn_ok (bl_ok (ok_iload_n rfl d_Q_rise_15)) (bl_ok (ok_istore d_Q_rise_16 (by decide))))) (bn_ok (bn_ok (bl_ok (ok_iload d_Q_rise_18)) (bl_ok (ok_ifle d_Q_rise_20 (by decide)))) (bn_ok (bl_ok (ok_iload d_Q_rise_23)) (bn_ok (bl_ok (ok_iconst (by decide) d_Q_rise_25)) (bl_ok (ok_isub d_Q_rise_26))))))) (bn_ok (bn_ok (bn_ok (bn_ok (bl_ok (ok_iconst (by decide) d_Q_rise_27)) (bl_ok (ok_idiv d_Q_rise_28))) (bn_ok (bl_ok (ok_istore d_Q_rise_29 (by decide))) (bl_ok (ok_aload_n rfl d_Q_rise_31)))) (bn_ok (bn_ok (bl_ok (ok_getf d_Q_rise_32 (cl_3 hG) (by decide) w_133)) (bl_ok (ok_iload d_Q_rise_35))) (bn_ok (bl_ok (ok_iald d_Q_rise_37 (kt_0 hG))) (bn_ok (bl_ok (ok_istore d_Q_rise_38 (by decide))) (bl_ok (ok_lload_n rfl d_Q_rise_40)))))) (bn_ok (bn_ok (bn_ok (bl_ok (ok_aload_n rfl d_Q_rise_41)) (bl_ok (ok_getf d_Q_rise_42 (cl_3 hG) (by decide) w_129))) (bn_ok (bl_ok (ok_iload d_Q_rise_45)) (bl_ok (ok_lald d_Q_rise_47 (kt_1 hG))))) (bn_ok (bn_ok (bl_ok (ok_lcmp d_Q_rise_48)) (bl_ok (ok_ifgt d_Q_rise_49 (by decide)))) (bn_ok (bl_ok (ok_lload_n rfl d_Q_rise_52)) (bn_ok (bl_ok (ok_aload_n rfl d_Q_rise_53)) (bl_ok (ok_getf d_Q_rise_54 (cl_3 hG) (by decide) w_129)))))))) (bn_ok (bn_ok (bn_ok (bn_ok (bn_ok (bl_ok (ok_iload d_Q_rise_57)) (bl_ok (ok_lald d_Q_rise_59 (kt_1 hG)))) (bn_ok (bl_ok (ok_lcmp d_Q_rise_60)) (bl_ok (ok_ifne d_Q_rise_61 (by decide))))) (bn_ok (bn_ok (bl_ok (ok_lload d_Q_rise_64)) (bl_ok (ok_aload_n rfl d_Q_rise_66))) (bn_ok (bl_ok (ok_getf d_Q_rise_67 (cl_3 hG) (by decide) w_131)) (bn_ok (bl_ok (ok_iload d_Q_rise_70)) (bl_ok (ok_lald d_Q_rise_72 (kt_1 hG))))))) (bn_ok (bn_ok (bn_ok (bl_ok (ok_lcmp d_Q_rise_73)) (bl_ok (ok_ifle d_Q_rise_74 (by decide)))) (bn_ok (bl_ok (ok_goto d_Q_rise_77 (by decide))) (bl_ok (ok_aload_n rfl d_Q_rise_80)))) (bn_ok (bn_ok (bl_ok (ok_getf d_Q_rise_81 (cl_3 hG) (by decide) w_133)) (bl_ok (ok_iload d_Q_rise_84))) (bn_ok (bl_ok (ok_iload d_Q_rise_86)) (bn_ok (bl_ok (ok_iast d_Q_rise_88 (kt_0 hG))) (bl_ok (ok_aload_n rfl d_Q_rise_89))))))) (bn_ok (bn_ok (bn_ok (bn_ok (bl_ok (ok_getf d_Q_rise_90 (cl_3 hG) (by decide) w_132)) (bl_ok (ok_iload d_Q_rise_93))) (bn_ok (bl_ok (ok_iload d_Q_rise_95)) (bl_ok (ok_iast d_Q_rise_97 (kt_0 hG))))) (bn_ok (bn_ok (bl_ok (ok_iload d_Q_rise_98)) (bl_ok (ok_istore d_Q_rise_100 (by decide)))) (bn_ok (bl_ok (ok_goto d_Q_rise_102 (by decide))) (bn_ok (bl_ok (ok_aload_n rfl d_Q_rise_105)) (bl_ok (ok_getf d_Q_rise_106 (cl_3 hG) (by decide) w_133)))))) (bn_ok (bn_ok (bn_ok (bl_ok (ok_iload d_Q_rise_109)) (bl_ok (ok_iload_n rfl d_Q_rise_111))) (bn_ok (bl_ok (ok_iast d_Q_rise_112 (kt_0 hG))) (bl_ok (ok_aload_n rfl d_Q_rise_113)))) (bn_ok (bn_ok (bl_ok (ok_getf d_Q_rise_114 (cl_3 hG) (by decide) w_132)) (bl_ok (ok_iload_n rfl d_Q_rise_117))) (bn_ok (bl_ok (ok_iload d_Q_rise_118)) (bn_ok (bl_ok (ok_iast d_Q_rise_120 (kt_0 hG))) (bl_ok (ok_return d_Q_rise_121 rfl)))))))))
theorem d_Q_sink_0 : decode (qB q_Q_sink) 0 = .ok (.aload_n 0, 1) := by decide +kernel
theorem d_Q_sink_1 : decode (qB q_Q_sink) 1 = .ok (.getfield 11, 3) := by decide +kernel
theorem d_Q_sink_4 : decode (qB q_Q_sink) 4 = .ok (.iload_n 1, 1) := by decide +kernel
theorem d_Q_sink_5 : decode (qB q_Q_sink) 5 = .ok (.laload, 1) := by decide +kernel
theorem d_Q_sink_6 : decode (qB q_Q_sink) 6 = .ok (.lstore_n 2, 1) := by decide +kernel
theorem d_Q_sink_7 : decode (qB q_Q_sink) 7 = .ok (.aload_n 0, 1) := by decide +kernel
theorem d_Q_sink_8 : decode (qB q_Q_sink) 8 = .ok (.getfield 15, 3) := by decide +kernel
theorem d_Q_sink_11 : decode (qB q_Q_sink) 11 = .ok (.iload_n 1, 1) := by decide +kernel
theorem d_Q_sink_12 : decode (qB q_Q_sink) 12 = .ok (.laload, 1) := by decide +kernel
theorem d_Q_sink_13 : decode (qB q_Q_sink) 13 = .ok (.lstore 4, 2) := by decide +kernel
theorem d_Q_sink_15 : decode (qB q_Q_sink) 15 = .ok (.iconst 0, 1) := by decide +kernel
theorem d_Q_sink_16 : decode (qB q_Q_sink) 16 = .ok (.istore 6, 2) := by decide +kernel
theorem d_Q_sink_18 : decode (qB q_Q_sink) 18 = .ok (.iconst 1, 1) := by decide +kernel
theorem d_Q_sink_19 : decode (qB q_Q_sink) 19 = .ok (.istore 7, 2) := by decide +kernel
theorem d_Q_sink_21 : decode (qB q_Q_sink) 21 = .ok (.iload 7, 2) := by decide +kernel
theorem d_Q_sink_23 : decode (qB q_Q_sink) 23 = .ok (.aload_n 0, 1) := by decide +kernel
theorem d_Q_sink_24 : decode (qB q_Q_sink) 24 = .ok (.getfield 29, 3) := by decide +kernel
theorem d_Q_sink_27 : decode (qB q_Q_sink) 27 = .ok (.if_icmp .ge 116, 3) := by decide +kernel
theorem d_Q_sink_30 : decode (qB q_Q_sink) 30 = .ok (.iload 7, 2) := by decide +kernel
theorem d_Q_sink_32 : decode (qB q_Q_sink) 32 = .ok (.iconst 1, 1) := by decide +kernel
theorem d_Q_sink_33 : decode (qB q_Q_sink) 33 = .ok (.iadd, 1) := by decide +kernel
theorem d_Q_sink_34 : decode (qB q_Q_sink) 34 = .ok (.aload_n 0, 1) := by decide +kernel
theorem d_Q_sink_35 : decode (qB q_Q_sink) 35 = .ok (.getfield 29, 3) := by decide +kernel
theorem d_Q_sink_38 : decode (qB q_Q_sink) 38 = .ok (.if_icmp .ge 48, 3) := by decide +kernel
theorem d_Q_sink_41 : decode (qB q_Q_sink) 41 = .ok (.aload_n 0, 1) := by decide +kernel
theorem d_Q_sink_42 : decode (qB q_Q_sink) 42 = .ok (.aload_n 0, 1) := by decide +kernel
theorem d_Q_sink_43 : decode (qB q_Q_sink) 43 = .ok (.getfield 11, 3) := by decide +kernel
theorem d_Q_sink_46 : decode (qB q_Q_sink) 46 = .ok (.aload_n 0, 1) := by decide +kernel
theorem d_Q_sink_47 : decode (qB q_Q_sink) 47 = .ok (.getfield 22, 3) := by decide +kernel
theorem d_Q_sink_50 : decode (qB q_Q_sink) 50 = .ok (.iload 7, 2) := by decide +kernel
theorem d_Q_sink_52 : decode (qB q_Q_sink) 52 = .ok (.iconst 1, 1) := by decide +kernel
theorem d_Q_sink_53 : decode (qB q_Q_sink) 53 = .ok (.iadd, 1) := by decide +kernel
theorem d_Q_sink_54 : decode (qB q_Q_sink) 54 = .ok (.iaload, 1) := by decide +kernel
theorem d_Q_sink_55 : decode (qB q_Q_sink) 55 = .ok (.laload, 1) := by decide +kernel
theorem d_Q_sink_56 : decode (qB q_Q_sink) 56 = .ok (.aload_n 0, 1) := by decide +kernel
theorem d_Q_sink_57 : decode (qB q_Q_sink) 57 = .ok (.getfield 15, 3) := by decide +kernel
theorem d_Q_sink_60 : decode (qB q_Q_sink) 60 = .ok (.aload_n 0, 1) := by decide +kernel
theorem d_Q_sink_61 : decode (qB q_Q_sink) 61 = .ok (.getfield 22, 3) := by decide +kernel
theorem d_Q_sink_64 : decode (qB q_Q_sink) 64 = .ok (.iload 7, 2) := by decide +kernel
theorem d_Q_sink_66 : decode (qB q_Q_sink) 66 = .ok (.iconst 1, 1) := by decide +kernel
theorem d_Q_sink_67 : decode (qB q_Q_sink) 67 = .ok (.iadd, 1) := by decide +kernel
theorem d_Q_sink_68 : decode (qB q_Q_sink) 68 = .ok (.iaload, 1) := by decide +kernel
theorem d_Q_sink_69 : decode (qB q_Q_sink) 69 = .ok (.laload, 1) := by decide +kernel
theorem d_Q_sink_70 : decode (qB q_Q_sink) 70 = .ok (.aload_n 0, 1) := by decide +kernel
theorem d_Q_sink_71 : decode (qB q_Q_sink) 71 = .ok (.getfield 22, 3) := by decide +kernel
theorem d_Q_sink_74 : decode (qB q_Q_sink) 74 = .ok (.iload 7, 2) := by decide +kernel
theorem d_Q_sink_76 : decode (qB q_Q_sink) 76 = .ok (.iaload, 1) := by decide +kernel
theorem d_Q_sink_77 : decode (qB q_Q_sink) 77 = .ok (.invokevirtual 44, 3) := by decide +kernel
theorem d_Q_sink_80 : decode (qB q_Q_sink) 80 = .ok (.ifCond .eq 6, 3) := by decide +kernel
theorem d_Q_sink_83 : decode (qB q_Q_sink) 83 = .ok (.iinc 7 1, 3) := by decide +kernel
theorem d_Q_sink_86 : decode (qB q_Q_sink) 86 = .ok (.aload_n 0, 1) := by decide +kernel
theorem d_Q_sink_87 : decode (qB q_Q_sink) 87 = .ok (.getfield 22, 3) := by decide +kernel
theorem d_Q_sink_90 : decode (qB q_Q_sink) 90 = .ok (.iload 7, 2) := by decide +kernel
theorem d_Q_sink_92 : decode (qB q_Q_sink) 92 = .ok (.iaload, 1) := by decide +kernel
theorem d_Q_sink_93 : decode (qB q_Q_sink) 93 = .ok (.istore 8, 2) := by decide +kernel
theorem d_Q_sink_95 : decode (qB q_Q_sink) 95 = .ok (.aload_n 0, 1) := by decide +kernel
theorem d_Q_sink_96 : decode (qB q_Q_sink) 96 = .ok (.lload_n 2, 1) := by decide +kernel
theorem d_Q_sink_97 : decode (qB q_Q_sink) 97 = .ok (.lload 4, 2) := by decide +kernel
theorem d_Q_sink_99 : decode (qB q_Q_sink) 99 = .ok (.iload 8, 2) := by decide +kernel
theorem d_Q_sink_101 : decode (qB q_Q_sink) 101 = .ok (.invokevirtual 44, 3) := by decide +kernel
theorem d_Q_sink_104 : decode (qB q_Q_sink) 104 = .ok (.ifCond .eq 6, 3) := by decide +kernel
theorem d_Q_sink_107 : decode (qB q_Q_sink) 107 = .ok (.goto 36, 3) := by decide +kernel
theorem d_Q_sink_110 : decode (qB q_Q_sink) 110 = .ok (.aload_n 0, 1) := by decide +kernel
theorem d_Q_sink_111 : decode (qB q_Q_sink) 111 = .ok (.getfield 22, 3) := by decide +kernel
theorem d_Q_sink_114 : decode (qB q_Q_sink) 114 = .ok (.iload 6, 2) := by decide +kernel
theorem d_Q_sink_116 : decode (qB q_Q_sink) 116 = .ok (.iload 8, 2) := by decide +kernel
theorem d_Q_sink_118 : decode (qB q_Q_sink) 118 = .ok (.iastore, 1) := by decide +kernel
theorem d_Q_sink_119 : decode (qB q_Q_sink) 119 = .ok (.aload_n 0, 1) := by decide +kernel
theorem d_Q_sink_120 : decode (qB q_Q_sink) 120 = .ok (.getfield 18, 3) := by decide +kernel
theorem d_Q_sink_123 : decode (qB q_Q_sink) 123 = .ok (.iload 8, 2) := by decide +kernel
theorem d_Q_sink_125 : decode (qB q_Q_sink) 125 = .ok (.iload 6, 2) := by decide +kernel
theorem d_Q_sink_127 : decode (qB q_Q_sink) 127 = .ok (.iastore, 1) := by decide +kernel
theorem d_Q_sink_128 : decode (qB q_Q_sink) 128 = .ok (.iload 7, 2) := by decide +kernel
theorem d_Q_sink_130 : decode (qB q_Q_sink) 130 = .ok (.istore 6, 2) := by decide +kernel
theorem d_Q_sink_132 : decode (qB q_Q_sink) 132 = .ok (.iconst 2, 1) := by decide +kernel
theorem d_Q_sink_133 : decode (qB q_Q_sink) 133 = .ok (.iload 6, 2) := by decide +kernel
theorem d_Q_sink_135 : decode (qB q_Q_sink) 135 = .ok (.imul, 1) := by decide +kernel
theorem d_Q_sink_136 : decode (qB q_Q_sink) 136 = .ok (.iconst 1, 1) := by decide +kernel
theorem d_Q_sink_137 : decode (qB q_Q_sink) 137 = .ok (.iadd, 1) := by decide +kernel
theorem d_Q_sink_138 : decode (qB q_Q_sink) 138 = .ok (.istore 7, 2) := by decide +kernel
theorem d_Q_sink_140 : decode (qB q_Q_sink) 140 = .ok (.goto (-119), 3) := by decide +kernel
theorem d_Q_sink_143 : decode (qB q_Q_sink) 143 = .ok (.aload_n 0, 1) := by decide +kernel
theorem d_Q_sink_144 : decode (qB q_Q_sink) 144 = .ok (.getfield 22, 3) := by decide +kernel
theorem d_Q_sink_147 : decode (qB q_Q_sink) 147 = .ok (.iload 6, 2) := by decide +kernel
theorem d_Q_sink_149 : decode (qB q_Q_sink) 149 = .ok (.iload_n 1, 1) := by decide +kernel
theorem d_Q_sink_150 : decode (qB q_Q_sink) 150 = .ok (.iastore, 1) := by decide +kernel
theorem d_Q_sink_151 : decode (qB q_Q_sink) 151 = .ok (.aload_n 0, 1) := by decide +kernel
theorem d_Q_sink_152 : decode (qB q_Q_sink) 152 = .ok (.getfield 18, 3) := by decide +kernel
theorem d_Q_sink_155 : decode (qB q_Q_sink) 155 = .ok (.iload_n 1, 1) := by decide +kernel
theorem d_Q_sink_156 : decode (qB q_Q_sink) 156 = .ok (.iload 6, 2) := by decide +kernel
theorem d_Q_sink_158 : decode (qB q_Q_sink) 158 = .ok (.iastore, 1) := by decide +kernel
theorem d_Q_sink_159 : decode (qB q_Q_sink) 159 = .ok (.return_, 1) := by decide +kernel
set_option maxRecDepth 10000 in
theorem k_Q_sink {G : mxG} (hG : mx_GG G) : ∀ pc r, t_Q_sink pc = some r → mx_Ok G mx_W mx_MT q_Q_sink pc r := (bn_ok (bn_ok (bn_ok (bn_ok (bn_ok (bn_ok (bl_ok (ok_aload_n rfl d_Q_sink_0)) (bl_ok (ok_getf d_Q_sink_1 (cl_3 hG) (by decide) w_129))) (bn_ok (bl_ok (ok_iload_n rfl d_Q_sink_4)) (bn_ok (bl_ok (ok_lald d_Q_sink_5 (kt_1 hG))) (bl_ok (ok_lstore_n rfl d_Q_sink_6 (by decide)))))) (bn_ok (bn_ok (bl_ok (ok_aload_n rfl d_Q_sink_7)) (bn_ok (bl_ok (ok_getf d_Q_sink_8 (cl_3 hG) (by decide) w_131)) (bl_ok (ok_iload_n rfl d_Q_sink_11)))) (bn_ok (bl_ok (ok_lald d_Q_sink_12 (kt_1 hG))) (bn_ok (bl_ok (ok_lstore d_Q_sink_13 (by decide))) (bl_ok (ok_iconst (by decide) d_Q_sink_15)))))) (bn_ok (bn_ok (bn_ok (bl_ok (ok_istore d_Q_sink_16 (by decide))) (bn_ok (bl_ok (ok_iconst (by decide) d_Q_sink_18)) (bl_ok (ok_istore d_Q_sink_19 (by decide))))) (bn_ok (bl_ok (ok_iload d_Q_sink_21)) (bn_ok (bl_ok (ok_aload_n rfl d_Q_sink_23)) (bl_ok (ok_getf d_Q_sink_24 (cl_3 hG) (by decide) w_135))))) (bn_ok (bn_ok (bl_ok (ok_icge d_Q_sink_27 (by decide))) (bn_ok (bl_ok (ok_iload d_Q_sink_30)) (bl_ok (ok_iconst (by decide) d_Q_sink_32)))) (bn_ok (bl_ok (ok_iadd d_Q_sink_33)) (bn_ok (bl_ok (ok_aload_n rfl d_Q_sink_34)) (bl_ok (ok_getf d_Q_sink_35 (cl_3 hG) (by decide) w_135))))))) (bn_ok (bn_ok (bn_ok (bn_ok (bl_ok (ok_icge d_Q_sink_38 (by decide))) (bl_ok (ok_aload_n rfl d_Q_sink_41))) (bn_ok (bl_ok (ok_aload_n rfl d_Q_sink_42)) (bn_ok (bl_ok (ok_getf d_Q_sink_43 (cl_3 hG) (by decide) w_129)) (bl_ok (ok_aload_n rfl d_Q_sink_46))))) (bn_ok (bn_ok (bl_ok (ok_getf d_Q_sink_47 (cl_3 hG) (by decide) w_133)) (bn_ok (bl_ok (ok_iload d_Q_sink_50)) (bl_ok (ok_iconst (by decide) d_Q_sink_52)))) (bn_ok (bl_ok (ok_iadd d_Q_sink_53)) (bn_ok (bl_ok (ok_iald d_Q_sink_54 (kt_0 hG))) (bl_ok (ok_lald d_Q_sink_55 (kt_1 hG))))))) (bn_ok (bn_ok (bn_ok (bl_ok (ok_aload_n rfl d_Q_sink_56)) (bn_ok (bl_ok (ok_getf d_Q_sink_57 (cl_3 hG) (by decide) w_131)) (bl_ok (ok_aload_n rfl d_Q_sink_60)))) (bn_ok (bl_ok (ok_getf d_Q_sink_61 (cl_3 hG) (by decide) w_133)) (bn_ok (bl_ok (ok_iload d_Q_sink_64)) (bl_ok (ok_iconst (by decide) d_Q_sink_66))))) (bn_ok (bn_ok (bl_ok (ok_iadd d_Q_sink_67)) (bn_ok (bl_ok (ok_iald d_Q_sink_68 (kt_0 hG))) (bl_ok (ok_lald d_Q_sink_69 (kt_1 hG))))) (bn_ok (bl_ok (ok_aload_n rfl d_Q_sink_70)) (bn_ok (bl_ok (ok_getf d_Q_sink_71 (cl_3 hG) (by decide) w_133)) (bl_ok (ok_iload d_Q_sink_74)))))))) (bn_ok (bn_ok (bn_ok (bn_ok (bn_ok (bl_ok (ok_iald d_Q_sink_76 (kt_0 hG))) (bl_ok (ok_cv mx_W_good (cl_3 hG) d_Q_sink_77 (mt_Q_isLess) mk_Q_isLess w_334 w_336 ws_Q_isLess (by decide) (by decide)))) (bn_ok (bl_ok (ok_ifeq d_Q_sink_80 (by decide))) (bn_ok (bl_ok (ok_iinc d_Q_sink_83 (by decide) (by decide))) (bl_ok (ok_aload_n rfl d_Q_sink_86))))) (bn_ok (bn_ok (bl_ok (ok_getf d_Q_sink_87 (cl_3 hG) (by decide) w_133)) (bn_ok (bl_ok (ok_iload d_Q_sink_90)) (bl_ok (ok_iald d_Q_sink_92 (kt_0 hG))))) (bn_ok (bl_ok (ok_istore d_Q_sink_93 (by decide))) (bn_ok (bl_ok (ok_aload_n rfl d_Q_sink_95)) (bl_ok (ok_lload_n rfl d_Q_sink_96)))))) (bn_ok (bn_ok (bn_ok (bl_ok (ok_lload d_Q_sink_97)) (bn_ok (bl_ok (ok_iload d_Q_sink_99)) (bl_ok (ok_cv mx_W_good (cl_3 hG) d_Q_sink_101 (mt_Q_isLess) mk_Q_isLess w_334 w_336 ws_Q_isLess (by decide) (by decide))))) (bn_ok (bl_ok (ok_ifeq d_Q_sink_104 (by decide))) (bn_ok (bl_ok (ok_goto d_Q_sink_107 (by decide))) (bl_ok (ok_aload_n rfl d_Q_sink_110))))) (bn_ok (bn_ok (bl_ok (ok_getf d_Q_sink_111 (cl_3 hG) (by decide) w_133)) (bn_ok (bl_ok (ok_iload d_Q_sink_114)) (bl_ok (ok_iload d_Q_sink_116)))) (bn_ok (bl_ok (ok_iast d_Q_sink_118 (kt_0 hG))) (bn_ok (bl_ok (ok_aload_n rfl d_Q_sink_119)) (bl_ok (ok_getf d_Q_sink_120 (cl_3 hG) (by decide) w_132))))))) (bn_ok (bn_ok (bn_ok (bn_ok (bl_ok (ok_iload d_Q_sink_123)) (bl_ok (ok_iload d_Q_sink_125))) (bn_ok (bl_ok (ok_iast d_Q_sink_127 (kt_0 hG))) (bn_ok (bl_ok (ok_iload d_Q_sink_128)) (bl_ok (ok_istore d_Q_sink_130 (by decide)))))) (bn_ok (bn_ok (bl_ok (ok_iconst (by decide) d_Q_sink_132)) (bn_ok (bl_ok (ok_iload d_Q_sink_133)) (bl_ok (ok_imul d_Q_sink_135)))) (bn_ok (bl_ok (ok_iconst (by decide) d_Q_sink_136)) (bn_ok (bl_ok (ok_iadd d_Q_sink_137)) (bl_ok (ok_istore d_Q_sink_138 (by decide))))))) (bn_ok (bn_ok (bn_ok (bl_ok (ok_goto d_Q_sink_140 (by decide))) (bn_ok (bl_ok (ok_aload_n rfl d_Q_sink_143)) (bl_ok (ok_getf d_Q_sink_144 (cl_3 hG) (by decide) w_133)))) (bn_ok (bl_ok (ok_iload d_Q_sink_147)) (bn_ok (bl_ok (ok_iload_n rfl d_Q_sink_149)) (bl_ok (ok_iast d_Q_sink_150 (kt_0 hG)))))) (bn_ok (bn_ok (bl_ok (ok_aload_n rfl d_Q_sink_151)) (bn_ok (bl_ok (ok_getf d_Q_sink_152 (cl_3 hG) (by decide) w_132)) (bl_ok (ok_iload_n rfl d_Q_sink_155)))) (bn_ok (bl_ok (ok_iload d_Q_sink_156)) (bn_ok (bl_ok (ok_iast d_Q_sink_158 (kt_0 hG))) (bl_ok (ok_return d_Q_sink_159 rfl)))))))))
