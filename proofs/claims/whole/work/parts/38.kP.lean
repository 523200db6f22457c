theorem d_P_init_0 : decode (qB q_P_init) 0 = .ok (.aload_n 0, 1) := by decide +kernel
theorem d_P_init_1 : decode (qB q_P_init) 1 = .ok (.invokespecial 3, 3) := by decide +kernel
theorem d_P_init_4 : decode (qB q_P_init) 4 = .ok (.aload_n 0, 1) := by decide +kernel
theorem d_P_init_5 : decode (qB q_P_init) 5 = .ok (.lconst 0, 1) := by decide +kernel
theorem d_P_init_6 : decode (qB q_P_init) 6 = .ok (.putfield 9, 3) := by decide +kernel
theorem d_P_init_9 : decode (qB q_P_init) 9 = .ok (.aload_n 0, 1) := by decide +kernel
theorem d_P_init_10 : decode (qB q_P_init) 10 = .ok (.lconst 1, 1) := by decide +kernel
theorem d_P_init_11 : decode (qB q_P_init) 11 = .ok (.putfield 15, 3) := by decide +kernel
theorem d_P_init_14 : decode (qB q_P_init) 14 = .ok (.aload_n 0, 1) := by decide +kernel
theorem d_P_init_15 : decode (qB q_P_init) 15 = .ok (.lconst 1, 1) := by decide +kernel
theorem d_P_init_16 : decode (qB q_P_init) 16 = .ok (.putfield 18, 3) := by decide +kernel
theorem d_P_init_19 : decode (qB q_P_init) 19 = .ok (.aload_n 0, 1) := by decide +kernel
theorem d_P_init_20 : decode (qB q_P_init) 20 = .ok (.lconst 0, 1) := by decide +kernel
theorem d_P_init_21 : decode (qB q_P_init) 21 = .ok (.putfield 21, 3) := by decide +kernel
theorem d_P_init_24 : decode (qB q_P_init) 24 = .ok (.aload_n 0, 1) := by decide +kernel
theorem d_P_init_25 : decode (qB q_P_init) 25 = .ok (.iconst 0, 1) := by decide +kernel
theorem d_P_init_26 : decode (qB q_P_init) 26 = .ok (.putfield 24, 3) := by decide +kernel
theorem d_P_init_29 : decode (qB q_P_init) 29 = .ok (.return_, 1) := by decide +kernel
set_option maxRecDepth 10000 in
theorem k_P_init {G : mxG} (hG : mx_GG G) : ∀ pc r, t_P_init pc = some r → mx_Ok G mx_W mx_MT q_P_init pc r := (bn_ok (bn_ok (bn_ok (bn_ok (bl_ok (ok_aload_n rfl d_P_init_0)) (bl_ok (ok_oin d_P_init_1 w_500 w_18 (w_oc) (by decide) (by decide)))) (bn_ok (bl_ok (ok_aload_n rfl d_P_init_4)) (bl_ok (ok_lconst (by decide) d_P_init_5)))) (bn_ok (bn_ok (bl_ok (ok_putf d_P_init_6 (cl_6 hG) (by decide) w_501 rfl (Or.inl rfl))) (bl_ok (ok_aload_n rfl d_P_init_9))) (bn_ok (bl_ok (ok_lconst (by decide) d_P_init_10)) (bn_ok (bl_ok (ok_putf d_P_init_11 (cl_6 hG) (by decide) w_502 rfl (Or.inl rfl))) (bl_ok (ok_aload_n rfl d_P_init_14)))))) (bn_ok (bn_ok (bn_ok (bl_ok (ok_lconst (by decide) d_P_init_15)) (bl_ok (ok_putf d_P_init_16 (cl_6 hG) (by decide) w_503 rfl (Or.inl rfl)))) (bn_ok (bl_ok (ok_aload_n rfl d_P_init_19)) (bl_ok (ok_lconst (by decide) d_P_init_20)))) (bn_ok (bn_ok (bl_ok (ok_putf d_P_init_21 (cl_6 hG) (by decide) w_504 rfl (Or.inl rfl))) (bl_ok (ok_aload_n rfl d_P_init_24))) (bn_ok (bl_ok (ok_iconst (by decide) d_P_init_25)) (bn_ok (bl_ok (ok_putf d_P_init_26 (cl_6 hG) (by decide) w_505 rfl (Or.inl rfl))) (bl_ok (ok_return d_P_init_29 rfl)))))))
theorem d_P_keepBelow_0 : decode (qB q_P_keepBelow) 0 = .ok (.lload_n 1, 1) := by decide +kernel
theorem d_P_keepBelow_1 : decode (qB q_P_keepBelow) 1 = .ok (.lconst 0, 1) := by decide +kernel
theorem d_P_keepBelow_2 : decode (qB q_P_keepBelow) 2 = .ok (.lcmp, 1) := by decide +kernel
theorem d_P_keepBelow_3 : decode (qB q_P_keepBelow) 3 = .ok (.ifCond .lt 17, 3) := by decide +kernel
theorem d_P_keepBelow_6 : decode (qB q_P_keepBelow) 6 = .ok (.lload_n 3, 1) := by decide +kernel
theorem d_P_keepBelow_7 : decode (qB q_P_keepBelow) 7 = .ok (.lconst 0, 1) := by decide +kernel
theorem d_P_keepBelow_8 : decode (qB q_P_keepBelow) 8 = .ok (.lcmp, 1) := by decide +kernel
theorem d_P_keepBelow_9 : decode (qB q_P_keepBelow) 9 = .ok (.ifCond .ge 11, 3) := by decide +kernel
theorem d_P_keepBelow_12 : decode (qB q_P_keepBelow) 12 = .ok (.aload_n 0, 1) := by decide +kernel
theorem d_P_keepBelow_13 : decode (qB q_P_keepBelow) 13 = .ok (.iconst 1, 1) := by decide +kernel
theorem d_P_keepBelow_14 : decode (qB q_P_keepBelow) 14 = .ok (.putfield 24, 3) := by decide +kernel
theorem d_P_keepBelow_17 : decode (qB q_P_keepBelow) 17 = .ok (.goto 38, 3) := by decide +kernel
theorem d_P_keepBelow_20 : decode (qB q_P_keepBelow) 20 = .ok (.lload_n 1, 1) := by decide +kernel
theorem d_P_keepBelow_21 : decode (qB q_P_keepBelow) 21 = .ok (.lconst 0, 1) := by decide +kernel
theorem d_P_keepBelow_22 : decode (qB q_P_keepBelow) 22 = .ok (.lcmp, 1) := by decide +kernel
theorem d_P_keepBelow_23 : decode (qB q_P_keepBelow) 23 = .ok (.ifCond .le 12, 3) := by decide +kernel
theorem d_P_keepBelow_26 : decode (qB q_P_keepBelow) 26 = .ok (.aload_n 0, 1) := by decide +kernel
theorem d_P_keepBelow_27 : decode (qB q_P_keepBelow) 27 = .ok (.lload_n 3, 1) := by decide +kernel
theorem d_P_keepBelow_28 : decode (qB q_P_keepBelow) 28 = .ok (.lload_n 1, 1) := by decide +kernel
theorem d_P_keepBelow_29 : decode (qB q_P_keepBelow) 29 = .ok (.invokevirtual 28, 3) := by decide +kernel
theorem d_P_keepBelow_32 : decode (qB q_P_keepBelow) 32 = .ok (.goto 23, 3) := by decide +kernel
theorem d_P_keepBelow_35 : decode (qB q_P_keepBelow) 35 = .ok (.lload_n 1, 1) := by decide +kernel
theorem d_P_keepBelow_36 : decode (qB q_P_keepBelow) 36 = .ok (.lconst 0, 1) := by decide +kernel
theorem d_P_keepBelow_37 : decode (qB q_P_keepBelow) 37 = .ok (.lcmp, 1) := by decide +kernel
theorem d_P_keepBelow_38 : decode (qB q_P_keepBelow) 38 = .ok (.ifCond .ge 17, 3) := by decide +kernel
theorem d_P_keepBelow_41 : decode (qB q_P_keepBelow) 41 = .ok (.lload_n 3, 1) := by decide +kernel
theorem d_P_keepBelow_42 : decode (qB q_P_keepBelow) 42 = .ok (.lconst 0, 1) := by decide +kernel
theorem d_P_keepBelow_43 : decode (qB q_P_keepBelow) 43 = .ok (.lcmp, 1) := by decide +kernel
theorem d_P_keepBelow_44 : decode (qB q_P_keepBelow) 44 = .ok (.ifCond .ge 11, 3) := by decide +kernel
theorem d_P_keepBelow_47 : decode (qB q_P_keepBelow) 47 = .ok (.aload_n 0, 1) := by decide +kernel
theorem d_P_keepBelow_48 : decode (qB q_P_keepBelow) 48 = .ok (.lload_n 3, 1) := by decide +kernel
theorem d_P_keepBelow_49 : decode (qB q_P_keepBelow) 49 = .ok (.lneg, 1) := by decide +kernel
theorem d_P_keepBelow_50 : decode (qB q_P_keepBelow) 50 = .ok (.lload_n 1, 1) := by decide +kernel
theorem d_P_keepBelow_51 : decode (qB q_P_keepBelow) 51 = .ok (.lneg, 1) := by decide +kernel
theorem d_P_keepBelow_52 : decode (qB q_P_keepBelow) 52 = .ok (.invokevirtual 32, 3) := by decide +kernel
theorem d_P_keepBelow_55 : decode (qB q_P_keepBelow) 55 = .ok (.return_, 1) := by decide +kernel
set_option maxRecDepth 10000 in
theorem k_P_keepBelow {G : mxG} (hG : mx_GG G) : ∀ pc r, t_P_keepBelow pc = some r → mx_Ok G mx_W mx_MT q_P_keepBelow pc r := (bn_ok (bn_ok (bn_ok (bn_ok (bn_ok (bl_ok (ok_lload_n rfl d_P_keepBelow_0)) (bl_ok (ok_lconst (by decide) d_P_keepBelow_1))) (bn_ok (bl_ok (ok_lcmp d_P_keepBelow_2)) (bl_ok (ok_iflt d_P_keepBelow_3 (by decide))))) (bn_ok (bn_ok (bl_ok (ok_lload_n rfl d_P_keepBelow_6)) (bl_ok (ok_lconst (by decide) d_P_keepBelow_7))) (bn_ok (bl_ok (ok_lcmp d_P_keepBelow_8)) (bn_ok (bl_ok (ok_ifge d_P_keepBelow_9 (by decide))) (bl_ok (ok_aload_n rfl d_P_keepBelow_12)))))) (bn_ok (bn_ok (bn_ok (bl_ok (ok_iconst (by decide) d_P_keepBelow_13)) (bl_ok (ok_putf d_P_keepBelow_14 (cl_6 hG) (by decide) w_505 rfl (Or.inl rfl)))) (bn_ok (bl_ok (ok_goto d_P_keepBelow_17 (by decide))) (bl_ok (ok_lload_n rfl d_P_keepBelow_20)))) (bn_ok (bn_ok (bl_ok (ok_lconst (by decide) d_P_keepBelow_21)) (bl_ok (ok_lcmp d_P_keepBelow_22))) (bn_ok (bl_ok (ok_ifle d_P_keepBelow_23 (by decide))) (bn_ok (bl_ok (ok_aload_n rfl d_P_keepBelow_26)) (bl_ok (ok_lload_n rfl d_P_keepBelow_27))))))) (bn_ok (bn_ok (bn_ok (bn_ok (bl_ok (ok_lload_n rfl d_P_keepBelow_28)) (bl_ok (ok_cv mx_W_good (cl_6 hG) d_P_keepBelow_29 (mt_P_lowerGreatest) mk_P_lowerGreatest w_527 w_529 ws_P_lowerGreatest (by decide) (by decide)))) (bn_ok (bl_ok (ok_goto d_P_keepBelow_32 (by decide))) (bl_ok (ok_lload_n rfl d_P_keepBelow_35)))) (bn_ok (bn_ok (bl_ok (ok_lconst (by decide) d_P_keepBelow_36)) (bl_ok (ok_lcmp d_P_keepBelow_37))) (bn_ok (bl_ok (ok_ifge d_P_keepBelow_38 (by decide))) (bn_ok (bl_ok (ok_lload_n rfl d_P_keepBelow_41)) (bl_ok (ok_lconst (by decide) d_P_keepBelow_42)))))) (bn_ok (bn_ok (bn_ok (bl_ok (ok_lcmp d_P_keepBelow_43)) (bl_ok (ok_ifge d_P_keepBelow_44 (by decide)))) (bn_ok (bl_ok (ok_aload_n rfl d_P_keepBelow_47)) (bl_ok (ok_lload_n rfl d_P_keepBelow_48)))) (bn_ok (bn_ok (bl_ok (ok_lneg d_P_keepBelow_49)) (bl_ok (ok_lload_n rfl d_P_keepBelow_50))) (bn_ok (bl_ok (ok_lneg d_P_keepBelow_51)) (bn_ok (bl_ok (ok_cv mx_W_good (cl_6 hG) d_P_keepBelow_52 (mt_P_raiseLeast) mk_P_raiseLeast w_537 w_539 ws_P_raiseLeast (by decide) (by decide))) (bl_ok (ok_return d_P_keepBelow_55 rfl))))))))
theorem d_P_lowerGreatest_0 : decode (qB q_P_lowerGreatest) 0 = .ok (.aload_n 0, 1) := by decide +kernel
theorem d_P_lowerGreatest_1 : decode (qB q_P_lowerGreatest) 1 = .ok (.getfield 21, 3) := by decide +kernel
theorem d_P_lowerGreatest_4 : decode (qB q_P_lowerGreatest) 4 = .ok (.lconst 0, 1) := by decide +kernel
theorem d_P_lowerGreatest_5 : decode (qB q_P_lowerGreatest) 5 = .ok (.lcmp, 1) := by decide +kernel
theorem d_P_lowerGreatest_6 : decode (qB q_P_lowerGreatest) 6 = .ok (.ifCond .eq 19, 3) := by decide +kernel
theorem d_P_lowerGreatest_9 : decode (qB q_P_lowerGreatest) 9 = .ok (.lload_n 1, 1) := by decide +kernel
theorem d_P_lowerGreatest_10 : decode (qB q_P_lowerGreatest) 10 = .ok (.lload_n 3, 1) := by decide +kernel
theorem d_P_lowerGreatest_11 : decode (qB q_P_lowerGreatest) 11 = .ok (.aload_n 0, 1) := by decide +kernel
theorem d_P_lowerGreatest_12 : decode (qB q_P_lowerGreatest) 12 = .ok (.getfield 18, 3) := by decide +kernel
theorem d_P_lowerGreatest_15 : decode (qB q_P_lowerGreatest) 15 = .ok (.aload_n 0, 1) := by decide +kernel
theorem d_P_lowerGreatest_16 : decode (qB q_P_lowerGreatest) 16 = .ok (.getfield 21, 3) := by decide +kernel
theorem d_P_lowerGreatest_19 : decode (qB q_P_lowerGreatest) 19 = .ok (.invokestatic 35, 3) := by decide +kernel
theorem d_P_lowerGreatest_22 : decode (qB q_P_lowerGreatest) 22 = .ok (.ifCond .ge 13, 3) := by decide +kernel
theorem d_P_lowerGreatest_25 : decode (qB q_P_lowerGreatest) 25 = .ok (.aload_n 0, 1) := by decide +kernel
theorem d_P_lowerGreatest_26 : decode (qB q_P_lowerGreatest) 26 = .ok (.lload_n 1, 1) := by decide +kernel
theorem d_P_lowerGreatest_27 : decode (qB q_P_lowerGreatest) 27 = .ok (.putfield 18, 3) := by decide +kernel
theorem d_P_lowerGreatest_30 : decode (qB q_P_lowerGreatest) 30 = .ok (.aload_n 0, 1) := by decide +kernel
theorem d_P_lowerGreatest_31 : decode (qB q_P_lowerGreatest) 31 = .ok (.lload_n 3, 1) := by decide +kernel
theorem d_P_lowerGreatest_32 : decode (qB q_P_lowerGreatest) 32 = .ok (.putfield 21, 3) := by decide +kernel
theorem d_P_lowerGreatest_35 : decode (qB q_P_lowerGreatest) 35 = .ok (.return_, 1) := by decide +kernel
set_option maxRecDepth 10000 in
theorem k_P_lowerGreatest {G : mxG} (hG : mx_GG G) : ∀ pc r, t_P_lowerGreatest pc = some r → mx_Ok G mx_W mx_MT q_P_lowerGreatest pc r := (bn_ok (bn_ok (bn_ok (bn_ok (bl_ok (ok_aload_n rfl d_P_lowerGreatest_0)) (bl_ok (ok_getf d_P_lowerGreatest_1 (cl_6 hG) (by decide) w_504))) (bn_ok (bl_ok (ok_lconst (by decide) d_P_lowerGreatest_4)) (bn_ok (bl_ok (ok_lcmp d_P_lowerGreatest_5)) (bl_ok (ok_ifeq d_P_lowerGreatest_6 (by decide)))))) (bn_ok (bn_ok (bl_ok (ok_lload_n rfl d_P_lowerGreatest_9)) (bl_ok (ok_lload_n rfl d_P_lowerGreatest_10))) (bn_ok (bl_ok (ok_aload_n rfl d_P_lowerGreatest_11)) (bn_ok (bl_ok (ok_getf d_P_lowerGreatest_12 (cl_6 hG) (by decide) w_503)) (bl_ok (ok_aload_n rfl d_P_lowerGreatest_15)))))) (bn_ok (bn_ok (bn_ok (bl_ok (ok_getf d_P_lowerGreatest_16 (cl_6 hG) (by decide) w_504)) (bl_ok (ok_csN mx_W_good d_P_lowerGreatest_19 (mt_X_compareFractions) mk_X_compareFractions (mx_nin hG (by decide +kernel : Cond.methodLinkNest "CorridorCells$Span" 35 ⟨"CorridorCells", "compareFractions", "(JJJJ)I"⟩ "CorridorCells" ∈ mx_ns)) w_532 (by decide) (by decide)))) (bn_ok (bl_ok (ok_ifge d_P_lowerGreatest_22 (by decide))) (bn_ok (bl_ok (ok_aload_n rfl d_P_lowerGreatest_25)) (bl_ok (ok_lload_n rfl d_P_lowerGreatest_26))))) (bn_ok (bn_ok (bl_ok (ok_putf d_P_lowerGreatest_27 (cl_6 hG) (by decide) w_503 rfl (Or.inl rfl))) (bl_ok (ok_aload_n rfl d_P_lowerGreatest_30))) (bn_ok (bl_ok (ok_lload_n rfl d_P_lowerGreatest_31)) (bn_ok (bl_ok (ok_putf d_P_lowerGreatest_32 (cl_6 hG) (by decide) w_504 rfl (Or.inl rfl))) (bl_ok (ok_return d_P_lowerGreatest_35 rfl)))))))
theorem d_P_raiseLeast_0 : decode (qB q_P_raiseLeast) 0 = .ok (.lload_n 1, 1) := by decide +kernel
theorem d_P_raiseLeast_1 : decode (qB q_P_raiseLeast) 1 = .ok (.lload_n 3, 1) := by decide +kernel
theorem d_P_raiseLeast_2 : decode (qB q_P_raiseLeast) 2 = .ok (.aload_n 0, 1) := by decide +kernel
theorem d_P_raiseLeast_3 : decode (qB q_P_raiseLeast) 3 = .ok (.getfield 9, 3) := by decide +kernel
theorem d_P_raiseLeast_6 : decode (qB q_P_raiseLeast) 6 = .ok (.aload_n 0, 1) := by decide +kernel
theorem d_P_raiseLeast_7 : decode (qB q_P_raiseLeast) 7 = .ok (.getfield 15, 3) := by decide +kernel
theorem d_P_raiseLeast_10 : decode (qB q_P_raiseLeast) 10 = .ok (.invokestatic 35, 3) := by decide +kernel
theorem d_P_raiseLeast_13 : decode (qB q_P_raiseLeast) 13 = .ok (.ifCond .le 13, 3) := by decide +kernel
theorem d_P_raiseLeast_16 : decode (qB q_P_raiseLeast) 16 = .ok (.aload_n 0, 1) := by decide +kernel
theorem d_P_raiseLeast_17 : decode (qB q_P_raiseLeast) 17 = .ok (.lload_n 1, 1) := by decide +kernel
theorem d_P_raiseLeast_18 : decode (qB q_P_raiseLeast) 18 = .ok (.putfield 9, 3) := by decide +kernel
theorem d_P_raiseLeast_21 : decode (qB q_P_raiseLeast) 21 = .ok (.aload_n 0, 1) := by decide +kernel
theorem d_P_raiseLeast_22 : decode (qB q_P_raiseLeast) 22 = .ok (.lload_n 3, 1) := by decide +kernel
theorem d_P_raiseLeast_23 : decode (qB q_P_raiseLeast) 23 = .ok (.putfield 15, 3) := by decide +kernel
theorem d_P_raiseLeast_26 : decode (qB q_P_raiseLeast) 26 = .ok (.return_, 1) := by decide +kernel
set_option maxRecDepth 10000 in
theorem k_P_raiseLeast {G : mxG} (hG : mx_GG G) : ∀ pc r, t_P_raiseLeast pc = some r → mx_Ok G mx_W mx_MT q_P_raiseLeast pc r := (bn_ok (bn_ok (bn_ok (bl_ok (ok_lload_n rfl d_P_raiseLeast_0)) (bn_ok (bl_ok (ok_lload_n rfl d_P_raiseLeast_1)) (bl_ok (ok_aload_n rfl d_P_raiseLeast_2)))) (bn_ok (bn_ok (bl_ok (ok_getf d_P_raiseLeast_3 (cl_6 hG) (by decide) w_501)) (bl_ok (ok_aload_n rfl d_P_raiseLeast_6))) (bn_ok (bl_ok (ok_getf d_P_raiseLeast_7 (cl_6 hG) (by decide) w_502)) (bl_ok (ok_csN mx_W_good d_P_raiseLeast_10 (mt_X_compareFractions) mk_X_compareFractions (mx_nin hG (by decide +kernel : Cond.methodLinkNest "CorridorCells$Span" 35 ⟨"CorridorCells", "compareFractions", "(JJJJ)I"⟩ "CorridorCells" ∈ mx_ns)) w_532 (by decide) (by decide)))))) (bn_ok (bn_ok (bn_ok (bl_ok (ok_ifle d_P_raiseLeast_13 (by decide))) (bl_ok (ok_aload_n rfl d_P_raiseLeast_16))) (bn_ok (bl_ok (ok_lload_n rfl d_P_raiseLeast_17)) (bl_ok (ok_putf d_P_raiseLeast_18 (cl_6 hG) (by decide) w_501 rfl (Or.inl rfl))))) (bn_ok (bn_ok (bl_ok (ok_aload_n rfl d_P_raiseLeast_21)) (bl_ok (ok_lload_n rfl d_P_raiseLeast_22))) (bn_ok (bl_ok (ok_putf d_P_raiseLeast_23 (cl_6 hG) (by decide) w_502 rfl (Or.inl rfl))) (bl_ok (ok_return d_P_raiseLeast_26 rfl))))))
theorem d_P_told_0 : decode (qB q_P_told) 0 = .ok (.aload_n 0, 1) := by decide +kernel
theorem d_P_told_1 : decode (qB q_P_told) 1 = .ok (.getfield 21, 3) := by decide +kernel
theorem d_P_told_4 : decode (qB q_P_told) 4 = .ok (.lconst 0, 1) := by decide +kernel
theorem d_P_told_5 : decode (qB q_P_told) 5 = .ok (.lcmp, 1) := by decide +kernel
theorem d_P_told_6 : decode (qB q_P_told) 6 = .ok (.ifCond .eq 7, 3) := by decide +kernel
theorem d_P_told_9 : decode (qB q_P_told) 9 = .ok (.iconst 1, 1) := by decide +kernel
theorem d_P_told_10 : decode (qB q_P_told) 10 = .ok (.goto 4, 3) := by decide +kernel
theorem d_P_told_13 : decode (qB q_P_told) 13 = .ok (.iconst 0, 1) := by decide +kernel
theorem d_P_told_14 : decode (qB q_P_told) 14 = .ok (.istore_n 3, 1) := by decide +kernel
theorem d_P_told_15 : decode (qB q_P_told) 15 = .ok (.aload_n 0, 1) := by decide +kernel
theorem d_P_told_16 : decode (qB q_P_told) 16 = .ok (.getfield 24, 3) := by decide +kernel
theorem d_P_told_19 : decode (qB q_P_told) 19 = .ok (.ifCond .ne 29, 3) := by decide +kernel
theorem d_P_told_22 : decode (qB q_P_told) 22 = .ok (.iload_n 3, 1) := by decide +kernel
theorem d_P_told_23 : decode (qB q_P_told) 23 = .ok (.ifCond .eq 37, 3) := by decide +kernel
theorem d_P_told_26 : decode (qB q_P_told) 26 = .ok (.aload_n 0, 1) := by decide +kernel
theorem d_P_told_27 : decode (qB q_P_told) 27 = .ok (.getfield 9, 3) := by decide +kernel
theorem d_P_told_30 : decode (qB q_P_told) 30 = .ok (.aload_n 0, 1) := by decide +kernel
theorem d_P_told_31 : decode (qB q_P_told) 31 = .ok (.getfield 15, 3) := by decide +kernel
theorem d_P_told_34 : decode (qB q_P_told) 34 = .ok (.aload_n 0, 1) := by decide +kernel
theorem d_P_told_35 : decode (qB q_P_told) 35 = .ok (.getfield 18, 3) := by decide +kernel
theorem d_P_told_38 : decode (qB q_P_told) 38 = .ok (.aload_n 0, 1) := by decide +kernel
theorem d_P_told_39 : decode (qB q_P_told) 39 = .ok (.getfield 21, 3) := by decide +kernel
theorem d_P_told_42 : decode (qB q_P_told) 42 = .ok (.invokestatic 35, 3) := by decide +kernel
theorem d_P_told_45 : decode (qB q_P_told) 45 = .ok (.ifCond .le 15, 3) := by decide +kernel
theorem d_P_told_48 : decode (qB q_P_told) 48 = .ok (.iload_n 2, 1) := by decide +kernel
theorem d_P_told_49 : decode (qB q_P_told) 49 = .ok (.ifCond .ne 9, 3) := by decide +kernel
theorem d_P_told_52 : decode (qB q_P_told) 52 = .ok (.ldc2_w 39, 3) := by decide +kernel
theorem d_P_told_55 : decode (qB q_P_told) 55 = .ok (.goto 4, 3) := by decide +kernel
theorem d_P_told_58 : decode (qB q_P_told) 58 = .ok (.lconst 1, 1) := by decide +kernel
theorem d_P_told_59 : decode (qB q_P_told) 59 = .ok (.lreturn, 1) := by decide +kernel
theorem d_P_told_60 : decode (qB q_P_told) 60 = .ok (.iload_n 1, 1) := by decide +kernel
theorem d_P_told_61 : decode (qB q_P_told) 61 = .ok (.ifCond .ne 20, 3) := by decide +kernel
theorem d_P_told_64 : decode (qB q_P_told) 64 = .ok (.aload_n 0, 1) := by decide +kernel
theorem d_P_told_65 : decode (qB q_P_told) 65 = .ok (.getfield 9, 3) := by decide +kernel
theorem d_P_told_68 : decode (qB q_P_told) 68 = .ok (.aload_n 0, 1) := by decide +kernel
theorem d_P_told_69 : decode (qB q_P_told) 69 = .ok (.getfield 15, 3) := by decide +kernel
theorem d_P_told_72 : decode (qB q_P_told) 72 = .ok (.ldc2_w 41, 3) := by decide +kernel
theorem d_P_told_75 : decode (qB q_P_told) 75 = .ok (.lmul, 1) := by decide +kernel
theorem d_P_told_76 : decode (qB q_P_told) 76 = .ok (.iload_n 2, 1) := by decide +kernel
theorem d_P_told_77 : decode (qB q_P_told) 77 = .ok (.invokestatic 43, 3) := by decide +kernel
theorem d_P_told_80 : decode (qB q_P_told) 80 = .ok (.lreturn, 1) := by decide +kernel
theorem d_P_told_81 : decode (qB q_P_told) 81 = .ok (.aload_n 0, 1) := by decide +kernel
theorem d_P_told_82 : decode (qB q_P_told) 82 = .ok (.getfield 18, 3) := by decide +kernel
theorem d_P_told_85 : decode (qB q_P_told) 85 = .ok (.aload_n 0, 1) := by decide +kernel
theorem d_P_told_86 : decode (qB q_P_told) 86 = .ok (.getfield 21, 3) := by decide +kernel
theorem d_P_told_89 : decode (qB q_P_told) 89 = .ok (.ldc2_w 41, 3) := by decide +kernel
theorem d_P_told_92 : decode (qB q_P_told) 92 = .ok (.lmul, 1) := by decide +kernel
theorem d_P_told_93 : decode (qB q_P_told) 93 = .ok (.iload_n 2, 1) := by decide +kernel
theorem d_P_told_94 : decode (qB q_P_told) 94 = .ok (.invokestatic 43, 3) := by decide +kernel
theorem d_P_told_97 : decode (qB q_P_told) 97 = .ok (.lreturn, 1) := by decide +kernel
set_option maxRecDepth 10000 in
theorem k_P_told {G : mxG} (hG : mx_GG G) : ∀ pc r, t_P_told pc = some r → mx_Ok G mx_W mx_MT q_P_told pc r := (bn_ok (bn_ok (bn_ok (bn_ok (bn_ok (bl_ok (ok_aload_n rfl d_P_told_0)) (bn_ok (bl_ok (ok_getf d_P_told_1 (cl_6 hG) (by decide) w_504)) (bl_ok (ok_lconst (by decide) d_P_told_4)))) (bn_ok (bl_ok (ok_lcmp d_P_told_5)) (bn_ok (bl_ok (ok_ifeq d_P_told_6 (by decide))) (bl_ok (ok_iconst (by decide) d_P_told_9))))) (bn_ok (bn_ok (bl_ok (ok_goto d_P_told_10 (by decide))) (bn_ok (bl_ok (ok_iconst (by decide) d_P_told_13)) (bl_ok (ok_istore_n rfl d_P_told_14 (by decide))))) (bn_ok (bl_ok (ok_aload_n rfl d_P_told_15)) (bn_ok (bl_ok (ok_getf d_P_told_16 (cl_6 hG) (by decide) w_505)) (bl_ok (ok_ifne d_P_told_19 (by decide))))))) (bn_ok (bn_ok (bn_ok (bl_ok (ok_iload_n rfl d_P_told_22)) (bn_ok (bl_ok (ok_ifeq d_P_told_23 (by decide))) (bl_ok (ok_aload_n rfl d_P_told_26)))) (bn_ok (bl_ok (ok_getf d_P_told_27 (cl_6 hG) (by decide) w_501)) (bn_ok (bl_ok (ok_aload_n rfl d_P_told_30)) (bl_ok (ok_getf d_P_told_31 (cl_6 hG) (by decide) w_502))))) (bn_ok (bn_ok (bl_ok (ok_aload_n rfl d_P_told_34)) (bn_ok (bl_ok (ok_getf d_P_told_35 (cl_6 hG) (by decide) w_503)) (bl_ok (ok_aload_n rfl d_P_told_38)))) (bn_ok (bn_ok (bl_ok (ok_getf d_P_told_39 (cl_6 hG) (by decide) w_504)) (bl_ok (ok_csN mx_W_good d_P_told_42 (mt_X_compareFractions) mk_X_compareFractions (mx_nin hG (by decide +kernel : Cond.methodLinkNest "CorridorCells$Span" 35 ⟨"CorridorCells", "compareFractions", "(JJJJ)I"⟩ "CorridorCells" ∈ mx_ns)) w_532 (by decide) (by decide)))) (bn_ok (bl_ok (ok_ifle d_P_told_45 (by decide))) (bl_ok (ok_iload_n rfl d_P_told_48))))))) (bn_ok (bn_ok (bn_ok (bn_ok (bl_ok (ok_ifne d_P_told_49 (by decide))) (bn_ok (bl_ok (ok_ldc2 d_P_told_52 w_545)) (bl_ok (ok_goto d_P_told_55 (by decide))))) (bn_ok (bl_ok (ok_lconst (by decide) d_P_told_58)) (bn_ok (bl_ok (ok_lreturn d_P_told_59 rfl)) (bl_ok (ok_iload_n rfl d_P_told_60))))) (bn_ok (bn_ok (bl_ok (ok_ifne d_P_told_61 (by decide))) (bn_ok (bl_ok (ok_aload_n rfl d_P_told_64)) (bl_ok (ok_getf d_P_told_65 (cl_6 hG) (by decide) w_501)))) (bn_ok (bl_ok (ok_aload_n rfl d_P_told_68)) (bn_ok (bl_ok (ok_getf d_P_told_69 (cl_6 hG) (by decide) w_502)) (bl_ok (ok_ldc2 d_P_told_72 w_546)))))) (bn_ok (bn_ok (bn_ok (bl_ok (ok_lmul d_P_told_75)) (bn_ok (bl_ok (ok_iload_n rfl d_P_told_76)) (bl_ok (ok_csN mx_W_good d_P_told_77 (mt_X_leastTerm) mk_X_leastTerm (mx_nin hG (by decide +kernel : Cond.methodLinkNest "CorridorCells$Span" 43 ⟨"CorridorCells", "leastTerm", "(JJI)J"⟩ "CorridorCells" ∈ mx_ns)) w_468 (by decide) (by decide))))) (bn_ok (bl_ok (ok_lreturn d_P_told_80 rfl)) (bn_ok (bl_ok (ok_aload_n rfl d_P_told_81)) (bl_ok (ok_getf d_P_told_82 (cl_6 hG) (by decide) w_503))))) (bn_ok (bn_ok (bl_ok (ok_aload_n rfl d_P_told_85)) (bn_ok (bl_ok (ok_getf d_P_told_86 (cl_6 hG) (by decide) w_504)) (bl_ok (ok_ldc2 d_P_told_89 w_546)))) (bn_ok (bn_ok (bl_ok (ok_lmul d_P_told_92)) (bl_ok (ok_iload_n rfl d_P_told_93))) (bn_ok (bl_ok (ok_csN mx_W_good d_P_told_94 (mt_X_leastTerm) mk_X_leastTerm (mx_nin hG (by decide +kernel : Cond.methodLinkNest "CorridorCells$Span" 43 ⟨"CorridorCells", "leastTerm", "(JJI)J"⟩ "CorridorCells" ∈ mx_ns)) w_468 (by decide) (by decide))) (bl_ok (ok_lreturn d_P_told_97 rfl))))))))
