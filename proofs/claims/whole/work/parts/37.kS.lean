theorem d_S_init_0 : decode (qB q_S_init) 0 = .ok (.aload_n 0, 1) := by decide +kernel
theorem d_S_init_1 : decode (qB q_S_init) 1 = .ok (.invokespecial 3, 3) := by decide +kernel
theorem d_S_init_4 : decode (qB q_S_init) 4 = .ok (.aload_n 0, 1) := by decide +kernel
theorem d_S_init_5 : decode (qB q_S_init) 5 = .ok (.aload_n 1, 1) := by decide +kernel
theorem d_S_init_6 : decode (qB q_S_init) 6 = .ok (.putfield 9, 3) := by decide +kernel
theorem d_S_init_9 : decode (qB q_S_init) 9 = .ok (.aload_n 0, 1) := by decide +kernel
theorem d_S_init_10 : decode (qB q_S_init) 10 = .ok (.new 15, 3) := by decide +kernel
theorem d_S_init_13 : decode (qB q_S_init) 13 = .ok (.dup, 1) := by decide +kernel
theorem d_S_init_14 : decode (qB q_S_init) 14 = .ok (.aload_n 1, 1) := by decide +kernel
theorem d_S_init_15 : decode (qB q_S_init) 15 = .ok (.getfield 17, 3) := by decide +kernel
theorem d_S_init_18 : decode (qB q_S_init) 18 = .ok (.bipush 17, 2) := by decide +kernel
theorem d_S_init_20 : decode (qB q_S_init) 20 = .ok (.imul, 1) := by decide +kernel
theorem d_S_init_21 : decode (qB q_S_init) 21 = .ok (.invokespecial 23, 3) := by decide +kernel
theorem d_S_init_24 : decode (qB q_S_init) 24 = .ok (.putfield 26, 3) := by decide +kernel
theorem d_S_init_27 : decode (qB q_S_init) 27 = .ok (.aload_n 0, 1) := by decide +kernel
theorem d_S_init_28 : decode (qB q_S_init) 28 = .ok (.aload_n 1, 1) := by decide +kernel
theorem d_S_init_29 : decode (qB q_S_init) 29 = .ok (.getfield 17, 3) := by decide +kernel
theorem d_S_init_32 : decode (qB q_S_init) 32 = .ok (.newarray .int, 2) := by decide +kernel
theorem d_S_init_34 : decode (qB q_S_init) 34 = .ok (.putfield 30, 3) := by decide +kernel
theorem d_S_init_37 : decode (qB q_S_init) 37 = .ok (.aload_n 0, 1) := by decide +kernel
theorem d_S_init_38 : decode (qB q_S_init) 38 = .ok (.aload_n 1, 1) := by decide +kernel
theorem d_S_init_39 : decode (qB q_S_init) 39 = .ok (.getfield 17, 3) := by decide +kernel
theorem d_S_init_42 : decode (qB q_S_init) 42 = .ok (.newarray .long, 2) := by decide +kernel
theorem d_S_init_44 : decode (qB q_S_init) 44 = .ok (.putfield 34, 3) := by decide +kernel
theorem d_S_init_47 : decode (qB q_S_init) 47 = .ok (.aload_n 0, 1) := by decide +kernel
theorem d_S_init_48 : decode (qB q_S_init) 48 = .ok (.aload_n 1, 1) := by decide +kernel
theorem d_S_init_49 : decode (qB q_S_init) 49 = .ok (.getfield 17, 3) := by decide +kernel
theorem d_S_init_52 : decode (qB q_S_init) 52 = .ok (.newarray .boolean, 2) := by decide +kernel
theorem d_S_init_54 : decode (qB q_S_init) 54 = .ok (.putfield 38, 3) := by decide +kernel
theorem d_S_init_57 : decode (qB q_S_init) 57 = .ok (.aload_n 0, 1) := by decide +kernel
theorem d_S_init_58 : decode (qB q_S_init) 58 = .ok (.ldc2_w 42, 3) := by decide +kernel
theorem d_S_init_61 : decode (qB q_S_init) 61 = .ok (.putfield 44, 3) := by decide +kernel
theorem d_S_init_64 : decode (qB q_S_init) 64 = .ok (.return_, 1) := by decide +kernel
set_option maxRecDepth 10000 in
theorem k_S_init {G : mxG} (hG : mx_GG G) : ∀ pc r, t_S_init pc = some r → mx_Ok G mx_W mx_MT q_S_init pc r := (bn_ok (bn_ok (bn_ok (bn_ok (bn_ok (bl_ok (ok_aload_n rfl d_S_init_0)) (bl_ok (ok_oin d_S_init_1 w_122 w_18 (w_oc) (by decide) (by decide)))) (bn_ok (bl_ok (ok_aload_n rfl d_S_init_4)) (bl_ok (ok_aload_n rfl d_S_init_5)))) (bn_ok (bn_ok (bl_ok (ok_putf d_S_init_6 (cl_2 hG) (by decide) w_150 rfl (Or.inr ⟨rfl, rfl, rfl⟩))) (bl_ok (ok_aload_n rfl d_S_init_9))) (bn_ok (bl_ok (ok_new d_S_init_10 (cl_3 hG) w_123 w_124 w_5 rfl (df_3_ok) rfl)) (bl_ok (ok_dup d_S_init_13))))) (bn_ok (bn_ok (bn_ok (bl_ok (ok_aload_n rfl d_S_init_14)) (bl_ok (ok_getf d_S_init_15 (cl_1 hG) (by decide) w_42))) (bn_ok (bl_ok (ok_bipush (by decide) d_S_init_18)) (bl_ok (ok_imul d_S_init_20)))) (bn_ok (bn_ok (bl_ok (ok_ci mx_W_good d_S_init_21 (mt_Q_init) mk_Q_init rfl rfl w_125 w_126 (by decide) (by decide))) (bl_ok (ok_putf d_S_init_24 (cl_2 hG) (by decide) w_151 rfl (Or.inr ⟨rfl, rfl, rfl⟩)))) (bn_ok (bl_ok (ok_aload_n rfl d_S_init_27)) (bl_ok (ok_aload_n rfl d_S_init_28)))))) (bn_ok (bn_ok (bn_ok (bn_ok (bl_ok (ok_getf d_S_init_29 (cl_1 hG) (by decide) w_42)) (bl_ok (ok_newi d_S_init_32 w_114 (kt_0 hG)))) (bn_ok (bl_ok (ok_putf d_S_init_34 (cl_2 hG) (by decide) w_152 rfl (Or.inr ⟨rfl, rfl, rfl⟩))) (bl_ok (ok_aload_n rfl d_S_init_37)))) (bn_ok (bn_ok (bl_ok (ok_aload_n rfl d_S_init_38)) (bl_ok (ok_getf d_S_init_39 (cl_1 hG) (by decide) w_42))) (bn_ok (bl_ok (ok_newl d_S_init_42 w_116 (kt_1 hG))) (bl_ok (ok_putf d_S_init_44 (cl_2 hG) (by decide) w_153 rfl (Or.inr ⟨rfl, rfl, rfl⟩)))))) (bn_ok (bn_ok (bn_ok (bl_ok (ok_aload_n rfl d_S_init_47)) (bl_ok (ok_aload_n rfl d_S_init_48))) (bn_ok (bl_ok (ok_getf d_S_init_49 (cl_1 hG) (by decide) w_42)) (bl_ok (ok_newz d_S_init_52 w_115 (kt_2 hG))))) (bn_ok (bn_ok (bl_ok (ok_putf d_S_init_54 (cl_2 hG) (by decide) w_154 rfl (Or.inr ⟨rfl, rfl, rfl⟩))) (bl_ok (ok_aload_n rfl d_S_init_57))) (bn_ok (bl_ok (ok_ldc2 d_S_init_58 w_149)) (bn_ok (bl_ok (ok_putf d_S_init_61 (cl_2 hG) (by decide) w_159 rfl (Or.inl rfl))) (bl_ok (ok_return d_S_init_64 rfl))))))))
theorem d_S_shareNothing_0 : decode (qB q_S_shareNothing) 0 = .ok (.iconst 0, 1) := by decide +kernel
theorem d_S_shareNothing_1 : decode (qB q_S_shareNothing) 1 = .ok (.istore_n 1, 1) := by decide +kernel
theorem d_S_shareNothing_2 : decode (qB q_S_shareNothing) 2 = .ok (.iload_n 1, 1) := by decide +kernel
theorem d_S_shareNothing_3 : decode (qB q_S_shareNothing) 3 = .ok (.aload_n 0, 1) := by decide +kernel
theorem d_S_shareNothing_4 : decode (qB q_S_shareNothing) 4 = .ok (.getfield 38, 3) := by decide +kernel
theorem d_S_shareNothing_7 : decode (qB q_S_shareNothing) 7 = .ok (.arraylength, 1) := by decide +kernel
theorem d_S_shareNothing_8 : decode (qB q_S_shareNothing) 8 = .ok (.if_icmp .ge 16, 3) := by decide +kernel
theorem d_S_shareNothing_11 : decode (qB q_S_shareNothing) 11 = .ok (.aload_n 0, 1) := by decide +kernel
theorem d_S_shareNothing_12 : decode (qB q_S_shareNothing) 12 = .ok (.getfield 38, 3) := by decide +kernel
theorem d_S_shareNothing_15 : decode (qB q_S_shareNothing) 15 = .ok (.iload_n 1, 1) := by decide +kernel
theorem d_S_shareNothing_16 : decode (qB q_S_shareNothing) 16 = .ok (.iconst 0, 1) := by decide +kernel
theorem d_S_shareNothing_17 : decode (qB q_S_shareNothing) 17 = .ok (.bastore, 1) := by decide +kernel
theorem d_S_shareNothing_18 : decode (qB q_S_shareNothing) 18 = .ok (.iinc 1 1, 3) := by decide +kernel
theorem d_S_shareNothing_21 : decode (qB q_S_shareNothing) 21 = .ok (.goto (-19), 3) := by decide +kernel
theorem d_S_shareNothing_24 : decode (qB q_S_shareNothing) 24 = .ok (.return_, 1) := by decide +kernel
set_option maxRecDepth 10000 in
theorem k_S_shareNothing {G : mxG} (hG : mx_GG G) : ∀ pc r, t_S_shareNothing pc = some r → mx_Ok G mx_W mx_MT q_S_shareNothing pc r := (bn_ok (bn_ok (bn_ok (bl_ok (ok_iconst (by decide) d_S_shareNothing_0)) (bn_ok (bl_ok (ok_istore_n rfl d_S_shareNothing_1 (by decide))) (bl_ok (ok_iload_n rfl d_S_shareNothing_2)))) (bn_ok (bn_ok (bl_ok (ok_aload_n rfl d_S_shareNothing_3)) (bl_ok (ok_getf d_S_shareNothing_4 (cl_2 hG) (by decide) w_154))) (bn_ok (bl_ok (ok_alen d_S_shareNothing_7)) (bl_ok (ok_icge d_S_shareNothing_8 (by decide)))))) (bn_ok (bn_ok (bn_ok (bl_ok (ok_aload_n rfl d_S_shareNothing_11)) (bl_ok (ok_getf d_S_shareNothing_12 (cl_2 hG) (by decide) w_154))) (bn_ok (bl_ok (ok_iload_n rfl d_S_shareNothing_15)) (bl_ok (ok_iconst (by decide) d_S_shareNothing_16)))) (bn_ok (bn_ok (bl_ok (ok_zast d_S_shareNothing_17 (kt_2 hG))) (bl_ok (ok_iinc d_S_shareNothing_18 (by decide) (by decide)))) (bn_ok (bl_ok (ok_goto d_S_shareNothing_21 (by decide))) (bl_ok (ok_return d_S_shareNothing_24 rfl))))))
theorem d_S_share_0 : decode (qB q_S_share) 0 = .ok (.iconst 0, 1) := by decide +kernel
theorem d_S_share_1 : decode (qB q_S_share) 1 = .ok (.istore_n 2, 1) := by decide +kernel
theorem d_S_share_2 : decode (qB q_S_share) 2 = .ok (.iload_n 2, 1) := by decide +kernel
theorem d_S_share_3 : decode (qB q_S_share) 3 = .ok (.aload_n 1, 1) := by decide +kernel
theorem d_S_share_4 : decode (qB q_S_share) 4 = .ok (.getfield 48, 3) := by decide +kernel
theorem d_S_share_7 : decode (qB q_S_share) 7 = .ok (.if_icmp .gt 43, 3) := by decide +kernel
theorem d_S_share_10 : decode (qB q_S_share) 10 = .ok (.aload_n 1, 1) := by decide +kernel
theorem d_S_share_11 : decode (qB q_S_share) 11 = .ok (.getfield 53, 3) := by decide +kernel
theorem d_S_share_14 : decode (qB q_S_share) 14 = .ok (.iload_n 2, 1) := by decide +kernel
theorem d_S_share_15 : decode (qB q_S_share) 15 = .ok (.iaload, 1) := by decide +kernel
theorem d_S_share_16 : decode (qB q_S_share) 16 = .ok (.istore_n 3, 1) := by decide +kernel
theorem d_S_share_17 : decode (qB q_S_share) 17 = .ok (.aload_n 0, 1) := by decide +kernel
theorem d_S_share_18 : decode (qB q_S_share) 18 = .ok (.getfield 38, 3) := by decide +kernel
theorem d_S_share_21 : decode (qB q_S_share) 21 = .ok (.iload_n 3, 1) := by decide +kernel
theorem d_S_share_22 : decode (qB q_S_share) 22 = .ok (.iload_n 3, 1) := by decide +kernel
theorem d_S_share_23 : decode (qB q_S_share) 23 = .ok (.aload_n 1, 1) := by decide +kernel
theorem d_S_share_24 : decode (qB q_S_share) 24 = .ok (.invokevirtual 56, 3) := by decide +kernel
theorem d_S_share_27 : decode (qB q_S_share) 27 = .ok (.if_icmp .eq 15, 3) := by decide +kernel
theorem d_S_share_30 : decode (qB q_S_share) 30 = .ok (.iload_n 3, 1) := by decide +kernel
theorem d_S_share_31 : decode (qB q_S_share) 31 = .ok (.aload_n 1, 1) := by decide +kernel
theorem d_S_share_32 : decode (qB q_S_share) 32 = .ok (.invokevirtual 60, 3) := by decide +kernel
theorem d_S_share_35 : decode (qB q_S_share) 35 = .ok (.if_icmp .eq 7, 3) := by decide +kernel
theorem d_S_share_38 : decode (qB q_S_share) 38 = .ok (.iconst 1, 1) := by decide +kernel
theorem d_S_share_39 : decode (qB q_S_share) 39 = .ok (.goto 4, 3) := by decide +kernel
theorem d_S_share_42 : decode (qB q_S_share) 42 = .ok (.iconst 0, 1) := by decide +kernel
theorem d_S_share_43 : decode (qB q_S_share) 43 = .ok (.bastore, 1) := by decide +kernel
theorem d_S_share_44 : decode (qB q_S_share) 44 = .ok (.iinc 2 1, 3) := by decide +kernel
theorem d_S_share_47 : decode (qB q_S_share) 47 = .ok (.goto (-45), 3) := by decide +kernel
theorem d_S_share_50 : decode (qB q_S_share) 50 = .ok (.return_, 1) := by decide +kernel
set_option maxRecDepth 10000 in
theorem k_S_share {G : mxG} (hG : mx_GG G) : ∀ pc r, t_S_share pc = some r → mx_Ok G mx_W mx_MT q_S_share pc r := (bn_ok (bn_ok (bn_ok (bn_ok (bl_ok (ok_iconst (by decide) d_S_share_0)) (bn_ok (bl_ok (ok_istore_n rfl d_S_share_1 (by decide))) (bl_ok (ok_iload_n rfl d_S_share_2)))) (bn_ok (bn_ok (bl_ok (ok_aload_n rfl d_S_share_3)) (bl_ok (ok_getf d_S_share_4 (cl_4 hG) (by decide) w_196))) (bn_ok (bl_ok (ok_icgt d_S_share_7 (by decide))) (bl_ok (ok_aload_n rfl d_S_share_10))))) (bn_ok (bn_ok (bl_ok (ok_getf d_S_share_11 (cl_4 hG) (by decide) w_190)) (bn_ok (bl_ok (ok_iload_n rfl d_S_share_14)) (bl_ok (ok_iald d_S_share_15 (kt_0 hG))))) (bn_ok (bn_ok (bl_ok (ok_istore_n rfl d_S_share_16 (by decide))) (bl_ok (ok_aload_n rfl d_S_share_17))) (bn_ok (bl_ok (ok_getf d_S_share_18 (cl_2 hG) (by decide) w_154)) (bl_ok (ok_iload_n rfl d_S_share_21)))))) (bn_ok (bn_ok (bn_ok (bl_ok (ok_iload_n rfl d_S_share_22)) (bn_ok (bl_ok (ok_aload_n rfl d_S_share_23)) (bl_ok (ok_cv mx_W_good (cl_4 hG) d_S_share_24 (mt_W_firstPlace) mk_W_firstPlace w_441 w_442 w_443 (by decide) (by decide))))) (bn_ok (bn_ok (bl_ok (ok_iceq d_S_share_27 (by decide))) (bl_ok (ok_iload_n rfl d_S_share_30))) (bn_ok (bl_ok (ok_aload_n rfl d_S_share_31)) (bl_ok (ok_cv mx_W_good (cl_4 hG) d_S_share_32 (mt_W_lastPlace) mk_W_lastPlace w_445 w_446 w_447 (by decide) (by decide)))))) (bn_ok (bn_ok (bn_ok (bl_ok (ok_iceq d_S_share_35 (by decide))) (bl_ok (ok_iconst (by decide) d_S_share_38))) (bn_ok (bl_ok (ok_goto d_S_share_39 (by decide))) (bl_ok (ok_iconst (by decide) d_S_share_42)))) (bn_ok (bn_ok (bl_ok (ok_zast d_S_share_43 (kt_2 hG))) (bl_ok (ok_iinc d_S_share_44 (by decide) (by decide)))) (bn_ok (bl_ok (ok_goto d_S_share_47 (by decide))) (bl_ok (ok_return d_S_share_50 rfl)))))))
theorem d_S_close_0 : decode (qB q_S_close) 0 = .ok (.aload_n 0, 1) := by decide +kernel
theorem d_S_close_1 : decode (qB q_S_close) 1 = .ok (.iload_n 1, 1) := by decide +kernel
theorem d_S_close_2 : decode (qB q_S_close) 2 = .ok (.putfield 63, 3) := by decide +kernel
theorem d_S_close_5 : decode (qB q_S_close) 5 = .ok (.aload_n 0, 1) := by decide +kernel
theorem d_S_close_6 : decode (qB q_S_close) 6 = .ok (.iload_n 2, 1) := by decide +kernel
theorem d_S_close_7 : decode (qB q_S_close) 7 = .ok (.putfield 66, 3) := by decide +kernel
theorem d_S_close_10 : decode (qB q_S_close) 10 = .ok (.aload_n 0, 1) := by decide +kernel
theorem d_S_close_11 : decode (qB q_S_close) 11 = .ok (.iload_n 3, 1) := by decide +kernel
theorem d_S_close_12 : decode (qB q_S_close) 12 = .ok (.putfield 69, 3) := by decide +kernel
theorem d_S_close_15 : decode (qB q_S_close) 15 = .ok (.aload_n 0, 1) := by decide +kernel
theorem d_S_close_16 : decode (qB q_S_close) 16 = .ok (.iload_n 3, 1) := by decide +kernel
theorem d_S_close_17 : decode (qB q_S_close) 17 = .ok (.iconst 1, 1) := by decide +kernel
theorem d_S_close_18 : decode (qB q_S_close) 18 = .ok (.iadd, 1) := by decide +kernel
theorem d_S_close_19 : decode (qB q_S_close) 19 = .ok (.putfield 72, 3) := by decide +kernel
theorem d_S_close_22 : decode (qB q_S_close) 22 = .ok (.aload_n 0, 1) := by decide +kernel
theorem d_S_close_23 : decode (qB q_S_close) 23 = .ok (.ldc2_w 42, 3) := by decide +kernel
theorem d_S_close_26 : decode (qB q_S_close) 26 = .ok (.putfield 44, 3) := by decide +kernel
theorem d_S_close_29 : decode (qB q_S_close) 29 = .ok (.aload_n 0, 1) := by decide +kernel
theorem d_S_close_30 : decode (qB q_S_close) 30 = .ok (.invokevirtual 75, 3) := by decide +kernel
theorem d_S_close_33 : decode (qB q_S_close) 33 = .ok (.aload_n 0, 1) := by decide +kernel
theorem d_S_close_34 : decode (qB q_S_close) 34 = .ok (.invokevirtual 78, 3) := by decide +kernel
theorem d_S_close_37 : decode (qB q_S_close) 37 = .ok (.lconst 0, 1) := by decide +kernel
theorem d_S_close_38 : decode (qB q_S_close) 38 = .ok (.lstore 6, 2) := by decide +kernel
theorem d_S_close_40 : decode (qB q_S_close) 40 = .ok (.lload 6, 2) := by decide +kernel
theorem d_S_close_42 : decode (qB q_S_close) 42 = .ok (.lload 4, 2) := by decide +kernel
theorem d_S_close_44 : decode (qB q_S_close) 44 = .ok (.lcmp, 1) := by decide +kernel
theorem d_S_close_45 : decode (qB q_S_close) 45 = .ok (.ifCond .ge 68, 3) := by decide +kernel
theorem d_S_close_48 : decode (qB q_S_close) 48 = .ok (.aload_n 0, 1) := by decide +kernel
theorem d_S_close_49 : decode (qB q_S_close) 49 = .ok (.getfield 26, 3) := by decide +kernel
theorem d_S_close_52 : decode (qB q_S_close) 52 = .ok (.invokevirtual 81, 3) := by decide +kernel
theorem d_S_close_55 : decode (qB q_S_close) 55 = .ok (.istore 8, 2) := by decide +kernel
theorem d_S_close_57 : decode (qB q_S_close) 57 = .ok (.iload 8, 2) := by decide +kernel
theorem d_S_close_59 : decode (qB q_S_close) 59 = .ok (.ifCond .ge 5, 3) := by decide +kernel
theorem d_S_close_62 : decode (qB q_S_close) 62 = .ok (.iconst (-1), 1) := by decide +kernel
theorem d_S_close_63 : decode (qB q_S_close) 63 = .ok (.ireturn, 1) := by decide +kernel
theorem d_S_close_64 : decode (qB q_S_close) 64 = .ok (.aload_n 0, 1) := by decide +kernel
theorem d_S_close_65 : decode (qB q_S_close) 65 = .ok (.aload_n 0, 1) := by decide +kernel
theorem d_S_close_66 : decode (qB q_S_close) 66 = .ok (.getfield 26, 3) := by decide +kernel
theorem d_S_close_69 : decode (qB q_S_close) 69 = .ok (.getfield 84, 3) := by decide +kernel
theorem d_S_close_72 : decode (qB q_S_close) 72 = .ok (.iload 8, 2) := by decide +kernel
theorem d_S_close_74 : decode (qB q_S_close) 74 = .ok (.laload, 1) := by decide +kernel
theorem d_S_close_75 : decode (qB q_S_close) 75 = .ok (.putfield 44, 3) := by decide +kernel
theorem d_S_close_78 : decode (qB q_S_close) 78 = .ok (.aload_n 0, 1) := by decide +kernel
theorem d_S_close_79 : decode (qB q_S_close) 79 = .ok (.getfield 26, 3) := by decide +kernel
theorem d_S_close_82 : decode (qB q_S_close) 82 = .ok (.iload 8, 2) := by decide +kernel
theorem d_S_close_84 : decode (qB q_S_close) 84 = .ok (.invokevirtual 87, 3) := by decide +kernel
theorem d_S_close_87 : decode (qB q_S_close) 87 = .ok (.invokestatic 91, 3) := by decide +kernel
theorem d_S_close_90 : decode (qB q_S_close) 90 = .ok (.bipush 16, 2) := by decide +kernel
theorem d_S_close_92 : decode (qB q_S_close) 92 = .ok (.if_icmp .ne 6, 3) := by decide +kernel
theorem d_S_close_95 : decode (qB q_S_close) 95 = .ok (.iload 8, 2) := by decide +kernel
theorem d_S_close_97 : decode (qB q_S_close) 97 = .ok (.ireturn, 1) := by decide +kernel
theorem d_S_close_98 : decode (qB q_S_close) 98 = .ok (.aload_n 0, 1) := by decide +kernel
theorem d_S_close_99 : decode (qB q_S_close) 99 = .ok (.iload 8, 2) := by decide +kernel
theorem d_S_close_101 : decode (qB q_S_close) 101 = .ok (.invokevirtual 94, 3) := by decide +kernel
theorem d_S_close_104 : decode (qB q_S_close) 104 = .ok (.lload 6, 2) := by decide +kernel
theorem d_S_close_106 : decode (qB q_S_close) 106 = .ok (.lconst 1, 1) := by decide +kernel
theorem d_S_close_107 : decode (qB q_S_close) 107 = .ok (.ladd, 1) := by decide +kernel
theorem d_S_close_108 : decode (qB q_S_close) 108 = .ok (.lstore 6, 2) := by decide +kernel
theorem d_S_close_110 : decode (qB q_S_close) 110 = .ok (.goto (-70), 3) := by decide +kernel
theorem d_S_close_113 : decode (qB q_S_close) 113 = .ok (.aload_n 0, 1) := by decide +kernel
theorem d_S_close_114 : decode (qB q_S_close) 114 = .ok (.getfield 26, 3) := by decide +kernel
theorem d_S_close_117 : decode (qB q_S_close) 117 = .ok (.invokevirtual 97, 3) := by decide +kernel
theorem d_S_close_120 : decode (qB q_S_close) 120 = .ok (.ifCond .eq 7, 3) := by decide +kernel
theorem d_S_close_123 : decode (qB q_S_close) 123 = .ok (.iconst (-1), 1) := by decide +kernel
theorem d_S_close_124 : decode (qB q_S_close) 124 = .ok (.goto 5, 3) := by decide +kernel
theorem d_S_close_127 : decode (qB q_S_close) 127 = .ok (.bipush (-2), 2) := by decide +kernel
theorem d_S_close_129 : decode (qB q_S_close) 129 = .ok (.ireturn, 1) := by decide +kernel
set_option maxRecDepth 10000 in
theorem k_S_close {G : mxG} (hG : mx_GG G) : ∀ pc r, t_S_close pc = some r → mx_Ok G mx_W mx_MT q_S_close pc r := (bn_ok (bn_ok (bn_ok (bn_ok (bn_ok (bn_ok (bl_ok (ok_aload_n rfl d_S_close_0)) (bl_ok (ok_iload_n rfl d_S_close_1))) (bn_ok (bl_ok (ok_putf d_S_close_2 (cl_2 hG) (by decide) w_155 rfl (Or.inl rfl))) (bl_ok (ok_aload_n rfl d_S_close_5)))) (bn_ok (bn_ok (bl_ok (ok_iload_n rfl d_S_close_6)) (bl_ok (ok_putf d_S_close_7 (cl_2 hG) (by decide) w_156 rfl (Or.inl rfl)))) (bn_ok (bl_ok (ok_aload_n rfl d_S_close_10)) (bl_ok (ok_iload_n rfl d_S_close_11))))) (bn_ok (bn_ok (bn_ok (bl_ok (ok_putf d_S_close_12 (cl_2 hG) (by decide) w_157 rfl (Or.inl rfl))) (bl_ok (ok_aload_n rfl d_S_close_15))) (bn_ok (bl_ok (ok_iload_n rfl d_S_close_16)) (bl_ok (ok_iconst (by decide) d_S_close_17)))) (bn_ok (bn_ok (bl_ok (ok_iadd d_S_close_18)) (bl_ok (ok_putf d_S_close_19 (cl_2 hG) (by decide) w_158 rfl (Or.inl rfl)))) (bn_ok (bl_ok (ok_aload_n rfl d_S_close_22)) (bl_ok (ok_ldc2 d_S_close_23 w_149)))))) (bn_ok (bn_ok (bn_ok (bn_ok (bl_ok (ok_putf d_S_close_26 (cl_2 hG) (by decide) w_159 rfl (Or.inl rfl))) (bl_ok (ok_aload_n rfl d_S_close_29))) (bn_ok (bl_ok (ok_cv mx_W_good (cl_2 hG) d_S_close_30 (mt_S_layRows) mk_S_layRows w_280 w_282 ws_S_layRows (by decide) (by decide))) (bl_ok (ok_aload_n rfl d_S_close_33)))) (bn_ok (bn_ok (bl_ok (ok_cv mx_W_good (cl_2 hG) d_S_close_34 (mt_S_openEnd) mk_S_openEnd w_315 w_317 ws_S_openEnd (by decide) (by decide))) (bl_ok (ok_lconst (by decide) d_S_close_37))) (bn_ok (bl_ok (ok_lstore d_S_close_38 (by decide))) (bl_ok (ok_lload d_S_close_40))))) (bn_ok (bn_ok (bn_ok (bl_ok (ok_lload d_S_close_42)) (bl_ok (ok_lcmp d_S_close_44))) (bn_ok (bl_ok (ok_ifge d_S_close_45 (by decide))) (bl_ok (ok_aload_n rfl d_S_close_48)))) (bn_ok (bn_ok (bl_ok (ok_getf d_S_close_49 (cl_2 hG) (by decide) w_151)) (bl_ok (ok_cv mx_W_good (cl_3 hG) d_S_close_52 (mt_Q_takeLeast) mk_Q_takeLeast w_342 w_343 w_344 (by decide) (by decide)))) (bn_ok (bl_ok (ok_istore d_S_close_55 (by decide))) (bn_ok (bl_ok (ok_iload d_S_close_57)) (bl_ok (ok_ifge d_S_close_59 (by decide))))))))) (bn_ok (bn_ok (bn_ok (bn_ok (bn_ok (bl_ok (ok_iconst (by decide) d_S_close_62)) (bl_ok (ok_ireturn d_S_close_63 rfl))) (bn_ok (bl_ok (ok_aload_n rfl d_S_close_64)) (bl_ok (ok_aload_n rfl d_S_close_65)))) (bn_ok (bn_ok (bl_ok (ok_getf d_S_close_66 (cl_2 hG) (by decide) w_151)) (bl_ok (ok_getf d_S_close_69 (cl_3 hG) (by decide) w_130))) (bn_ok (bl_ok (ok_iload d_S_close_72)) (bl_ok (ok_lald d_S_close_74 (kt_1 hG)))))) (bn_ok (bn_ok (bn_ok (bl_ok (ok_putf d_S_close_75 (cl_2 hG) (by decide) w_159 rfl (Or.inl rfl))) (bl_ok (ok_aload_n rfl d_S_close_78))) (bn_ok (bl_ok (ok_getf d_S_close_79 (cl_2 hG) (by decide) w_151)) (bl_ok (ok_iload d_S_close_82)))) (bn_ok (bn_ok (bl_ok (ok_cv mx_W_good (cl_3 hG) d_S_close_84 (mt_Q_codeOf) mk_Q_codeOf w_350 w_351 w_352 (by decide) (by decide))) (bl_ok (ok_cs mx_W_good d_S_close_87 (mt_S_headingOf) mk_S_headingOf w_355 w_356 (by decide) (by decide)))) (bn_ok (bl_ok (ok_bipush (by decide) d_S_close_90)) (bn_ok (bl_ok (ok_icne d_S_close_92 (by decide))) (bl_ok (ok_iload d_S_close_95))))))) (bn_ok (bn_ok (bn_ok (bn_ok (bl_ok (ok_ireturn d_S_close_97 rfl)) (bl_ok (ok_aload_n rfl d_S_close_98))) (bn_ok (bl_ok (ok_iload d_S_close_99)) (bl_ok (ok_cv mx_W_good (cl_2 hG) d_S_close_101 (mt_S_openBefore) mk_S_openBefore w_358 w_360 ws_S_openBefore (by decide) (by decide))))) (bn_ok (bn_ok (bl_ok (ok_lload d_S_close_104)) (bl_ok (ok_lconst (by decide) d_S_close_106))) (bn_ok (bl_ok (ok_ladd d_S_close_107)) (bl_ok (ok_lstore d_S_close_108 (by decide)))))) (bn_ok (bn_ok (bn_ok (bl_ok (ok_goto d_S_close_110 (by decide))) (bl_ok (ok_aload_n rfl d_S_close_113))) (bn_ok (bl_ok (ok_getf d_S_close_114 (cl_2 hG) (by decide) w_151)) (bl_ok (ok_cv mx_W_good (cl_3 hG) d_S_close_117 (mt_Q_isEmpty) mk_Q_isEmpty w_393 w_394 w_395 (by decide) (by decide))))) (bn_ok (bn_ok (bl_ok (ok_ifeq d_S_close_120 (by decide))) (bl_ok (ok_iconst (by decide) d_S_close_123))) (bn_ok (bl_ok (ok_goto d_S_close_124 (by decide))) (bn_ok (bl_ok (ok_bipush (by decide) d_S_close_127)) (bl_ok (ok_ireturn d_S_close_129 rfl)))))))))
theorem d_S_layRows_0 : decode (qB q_S_layRows) 0 = .ok (.iconst 0, 1) := by decide +kernel
theorem d_S_layRows_1 : decode (qB q_S_layRows) 1 = .ok (.istore_n 1, 1) := by decide +kernel
theorem d_S_layRows_2 : decode (qB q_S_layRows) 2 = .ok (.iconst 0, 1) := by decide +kernel
theorem d_S_layRows_3 : decode (qB q_S_layRows) 3 = .ok (.istore_n 2, 1) := by decide +kernel
theorem d_S_layRows_4 : decode (qB q_S_layRows) 4 = .ok (.iload_n 2, 1) := by decide +kernel
theorem d_S_layRows_5 : decode (qB q_S_layRows) 5 = .ok (.aload_n 0, 1) := by decide +kernel
theorem d_S_layRows_6 : decode (qB q_S_layRows) 6 = .ok (.getfield 9, 3) := by decide +kernel
theorem d_S_layRows_9 : decode (qB q_S_layRows) 9 = .ok (.getfield 17, 3) := by decide +kernel
theorem d_S_layRows_12 : decode (qB q_S_layRows) 12 = .ok (.if_icmp .ge 83, 3) := by decide +kernel
theorem d_S_layRows_15 : decode (qB q_S_layRows) 15 = .ok (.aload_n 0, 1) := by decide +kernel
theorem d_S_layRows_16 : decode (qB q_S_layRows) 16 = .ok (.getfield 30, 3) := by decide +kernel
theorem d_S_layRows_19 : decode (qB q_S_layRows) 19 = .ok (.iload_n 2, 1) := by decide +kernel
theorem d_S_layRows_20 : decode (qB q_S_layRows) 20 = .ok (.iload_n 1, 1) := by decide +kernel
theorem d_S_layRows_21 : decode (qB q_S_layRows) 21 = .ok (.iastore, 1) := by decide +kernel
theorem d_S_layRows_22 : decode (qB q_S_layRows) 22 = .ok (.aload_n 0, 1) := by decide +kernel
theorem d_S_layRows_23 : decode (qB q_S_layRows) 23 = .ok (.getfield 34, 3) := by decide +kernel
theorem d_S_layRows_26 : decode (qB q_S_layRows) 26 = .ok (.iload_n 2, 1) := by decide +kernel
theorem d_S_layRows_27 : decode (qB q_S_layRows) 27 = .ok (.aload_n 0, 1) := by decide +kernel
theorem d_S_layRows_28 : decode (qB q_S_layRows) 28 = .ok (.getfield 9, 3) := by decide +kernel
theorem d_S_layRows_31 : decode (qB q_S_layRows) 31 = .ok (.iload_n 2, 1) := by decide +kernel
theorem d_S_layRows_32 : decode (qB q_S_layRows) 32 = .ok (.invokevirtual 101, 3) := by decide +kernel
theorem d_S_layRows_35 : decode (qB q_S_layRows) 35 = .ok (.lastore, 1) := by decide +kernel
theorem d_S_layRows_36 : decode (qB q_S_layRows) 36 = .ok (.aload_n 0, 1) := by decide +kernel
theorem d_S_layRows_37 : decode (qB q_S_layRows) 37 = .ok (.getfield 9, 3) := by decide +kernel
theorem d_S_layRows_40 : decode (qB q_S_layRows) 40 = .ok (.iload_n 2, 1) := by decide +kernel
theorem d_S_layRows_41 : decode (qB q_S_layRows) 41 = .ok (.invokevirtual 105, 3) := by decide +kernel
theorem d_S_layRows_44 : decode (qB q_S_layRows) 44 = .ok (.ifCond .eq 15, 3) := by decide +kernel
theorem d_S_layRows_47 : decode (qB q_S_layRows) 47 = .ok (.aload_n 0, 1) := by decide +kernel
theorem d_S_layRows_48 : decode (qB q_S_layRows) 48 = .ok (.getfield 9, 3) := by decide +kernel
theorem d_S_layRows_51 : decode (qB q_S_layRows) 51 = .ok (.getfield 109, 3) := by decide +kernel
theorem d_S_layRows_54 : decode (qB q_S_layRows) 54 = .ok (.iload_n 2, 1) := by decide +kernel
theorem d_S_layRows_55 : decode (qB q_S_layRows) 55 = .ok (.iaload, 1) := by decide +kernel
theorem d_S_layRows_56 : decode (qB q_S_layRows) 56 = .ok (.goto 20, 3) := by decide +kernel
theorem d_S_layRows_59 : decode (qB q_S_layRows) 59 = .ok (.aload_n 0, 1) := by decide +kernel
theorem d_S_layRows_60 : decode (qB q_S_layRows) 60 = .ok (.getfield 9, 3) := by decide +kernel
theorem d_S_layRows_63 : decode (qB q_S_layRows) 63 = .ok (.getfield 112, 3) := by decide +kernel
theorem d_S_layRows_66 : decode (qB q_S_layRows) 66 = .ok (.iload_n 2, 1) := by decide +kernel
theorem d_S_layRows_67 : decode (qB q_S_layRows) 67 = .ok (.baload, 1) := by decide +kernel
theorem d_S_layRows_68 : decode (qB q_S_layRows) 68 = .ok (.ifCond .eq 7, 3) := by decide +kernel
theorem d_S_layRows_71 : decode (qB q_S_layRows) 71 = .ok (.iconst 0, 1) := by decide +kernel
theorem d_S_layRows_72 : decode (qB q_S_layRows) 72 = .ok (.goto 4, 3) := by decide +kernel
theorem d_S_layRows_75 : decode (qB q_S_layRows) 75 = .ok (.iconst 1, 1) := by decide +kernel
theorem d_S_layRows_76 : decode (qB q_S_layRows) 76 = .ok (.istore_n 3, 1) := by decide +kernel
theorem d_S_layRows_77 : decode (qB q_S_layRows) 77 = .ok (.iload_n 1, 1) := by decide +kernel
theorem d_S_layRows_78 : decode (qB q_S_layRows) 78 = .ok (.iload_n 3, 1) := by decide +kernel
theorem d_S_layRows_79 : decode (qB q_S_layRows) 79 = .ok (.bipush 17, 2) := by decide +kernel
theorem d_S_layRows_81 : decode (qB q_S_layRows) 81 = .ok (.imul, 1) := by decide +kernel
theorem d_S_layRows_82 : decode (qB q_S_layRows) 82 = .ok (.aload_n 0, 1) := by decide +kernel
theorem d_S_layRows_83 : decode (qB q_S_layRows) 83 = .ok (.getfield 72, 3) := by decide +kernel
theorem d_S_layRows_86 : decode (qB q_S_layRows) 86 = .ok (.imul, 1) := by decide +kernel
theorem d_S_layRows_87 : decode (qB q_S_layRows) 87 = .ok (.iadd, 1) := by decide +kernel
theorem d_S_layRows_88 : decode (qB q_S_layRows) 88 = .ok (.istore_n 1, 1) := by decide +kernel
theorem d_S_layRows_89 : decode (qB q_S_layRows) 89 = .ok (.iinc 2 1, 3) := by decide +kernel
theorem d_S_layRows_92 : decode (qB q_S_layRows) 92 = .ok (.goto (-88), 3) := by decide +kernel
theorem d_S_layRows_95 : decode (qB q_S_layRows) 95 = .ok (.aload_n 0, 1) := by decide +kernel
theorem d_S_layRows_96 : decode (qB q_S_layRows) 96 = .ok (.getfield 26, 3) := by decide +kernel
theorem d_S_layRows_99 : decode (qB q_S_layRows) 99 = .ok (.iload_n 1, 1) := by decide +kernel
theorem d_S_layRows_100 : decode (qB q_S_layRows) 100 = .ok (.invokevirtual 115, 3) := by decide +kernel
theorem d_S_layRows_103 : decode (qB q_S_layRows) 103 = .ok (.return_, 1) := by decide +kernel
set_option maxRecDepth 10000 in
theorem k_S_layRows {G : mxG} (hG : mx_GG G) : ∀ pc r, t_S_layRows pc = some r → mx_Ok G mx_W mx_MT q_S_layRows pc r := (bn_ok (bn_ok (bn_ok (bn_ok (bn_ok (bl_ok (ok_iconst (by decide) d_S_layRows_0)) (bn_ok (bl_ok (ok_istore_n rfl d_S_layRows_1 (by decide))) (bl_ok (ok_iconst (by decide) d_S_layRows_2)))) (bn_ok (bn_ok (bl_ok (ok_istore_n rfl d_S_layRows_3 (by decide))) (bl_ok (ok_iload_n rfl d_S_layRows_4))) (bn_ok (bl_ok (ok_aload_n rfl d_S_layRows_5)) (bl_ok (ok_getf d_S_layRows_6 (cl_2 hG) (by decide) w_150))))) (bn_ok (bn_ok (bl_ok (ok_getf d_S_layRows_9 (cl_1 hG) (by decide) w_42)) (bn_ok (bl_ok (ok_icge d_S_layRows_12 (by decide))) (bl_ok (ok_aload_n rfl d_S_layRows_15)))) (bn_ok (bn_ok (bl_ok (ok_getf d_S_layRows_16 (cl_2 hG) (by decide) w_152)) (bl_ok (ok_iload_n rfl d_S_layRows_19))) (bn_ok (bl_ok (ok_iload_n rfl d_S_layRows_20)) (bl_ok (ok_iast d_S_layRows_21 (kt_0 hG))))))) (bn_ok (bn_ok (bn_ok (bl_ok (ok_aload_n rfl d_S_layRows_22)) (bn_ok (bl_ok (ok_getf d_S_layRows_23 (cl_2 hG) (by decide) w_153)) (bl_ok (ok_iload_n rfl d_S_layRows_26)))) (bn_ok (bn_ok (bl_ok (ok_aload_n rfl d_S_layRows_27)) (bl_ok (ok_getf d_S_layRows_28 (cl_2 hG) (by decide) w_150))) (bn_ok (bl_ok (ok_iload_n rfl d_S_layRows_31)) (bl_ok (ok_cv mx_W_good (cl_1 hG) d_S_layRows_32 (mt_G_unitCost) mk_G_unitCost w_284 w_285 w_286 (by decide) (by decide)))))) (bn_ok (bn_ok (bn_ok (bl_ok (ok_last d_S_layRows_35 (kt_1 hG))) (bl_ok (ok_aload_n rfl d_S_layRows_36))) (bn_ok (bl_ok (ok_getf d_S_layRows_37 (cl_2 hG) (by decide) w_150)) (bl_ok (ok_iload_n rfl d_S_layRows_40)))) (bn_ok (bn_ok (bl_ok (ok_cv mx_W_good (cl_1 hG) d_S_layRows_41 (mt_G_isBridged) mk_G_isBridged w_304 w_289 w_290 (by decide) (by decide))) (bl_ok (ok_ifeq d_S_layRows_44 (by decide)))) (bn_ok (bl_ok (ok_aload_n rfl d_S_layRows_47)) (bl_ok (ok_getf d_S_layRows_48 (cl_2 hG) (by decide) w_150))))))) (bn_ok (bn_ok (bn_ok (bn_ok (bl_ok (ok_getf d_S_layRows_51 (cl_1 hG) (by decide) w_59)) (bn_ok (bl_ok (ok_iload_n rfl d_S_layRows_54)) (bl_ok (ok_iald d_S_layRows_55 (kt_0 hG))))) (bn_ok (bn_ok (bl_ok (ok_goto d_S_layRows_56 (by decide))) (bl_ok (ok_aload_n rfl d_S_layRows_59))) (bn_ok (bl_ok (ok_getf d_S_layRows_60 (cl_2 hG) (by decide) w_150)) (bl_ok (ok_getf d_S_layRows_63 (cl_1 hG) (by decide) w_56))))) (bn_ok (bn_ok (bn_ok (bl_ok (ok_iload_n rfl d_S_layRows_66)) (bl_ok (ok_zald d_S_layRows_67 (kt_2 hG)))) (bn_ok (bl_ok (ok_ifeq d_S_layRows_68 (by decide))) (bl_ok (ok_iconst (by decide) d_S_layRows_71)))) (bn_ok (bn_ok (bl_ok (ok_goto d_S_layRows_72 (by decide))) (bl_ok (ok_iconst (by decide) d_S_layRows_75))) (bn_ok (bl_ok (ok_istore_n rfl d_S_layRows_76 (by decide))) (bl_ok (ok_iload_n rfl d_S_layRows_77)))))) (bn_ok (bn_ok (bn_ok (bl_ok (ok_iload_n rfl d_S_layRows_78)) (bn_ok (bl_ok (ok_bipush (by decide) d_S_layRows_79)) (bl_ok (ok_imul d_S_layRows_81)))) (bn_ok (bn_ok (bl_ok (ok_aload_n rfl d_S_layRows_82)) (bl_ok (ok_getf d_S_layRows_83 (cl_2 hG) (by decide) w_158))) (bn_ok (bl_ok (ok_imul d_S_layRows_86)) (bl_ok (ok_iadd d_S_layRows_87))))) (bn_ok (bn_ok (bn_ok (bl_ok (ok_istore_n rfl d_S_layRows_88 (by decide))) (bl_ok (ok_iinc d_S_layRows_89 (by decide) (by decide)))) (bn_ok (bl_ok (ok_goto d_S_layRows_92 (by decide))) (bl_ok (ok_aload_n rfl d_S_layRows_95)))) (bn_ok (bn_ok (bl_ok (ok_getf d_S_layRows_96 (cl_2 hG) (by decide) w_151)) (bl_ok (ok_iload_n rfl d_S_layRows_99))) (bn_ok (bl_ok (ok_cv mx_W_good (cl_3 hG) d_S_layRows_100 (mt_Q_reset) mk_Q_reset w_305 w_306 w_307 (by decide) (by decide))) (bl_ok (ok_return d_S_layRows_103 rfl))))))))
theorem d_S_openEnd_0 : decode (qB q_S_openEnd) 0 = .ok (.aload_n 0, 1) := by decide +kernel
theorem d_S_openEnd_1 : decode (qB q_S_openEnd) 1 = .ok (.getfield 9, 3) := by decide +kernel
theorem d_S_openEnd_4 : decode (qB q_S_openEnd) 4 = .ok (.invokevirtual 118, 3) := by decide +kernel
theorem d_S_openEnd_7 : decode (qB q_S_openEnd) 7 = .ok (.istore_n 1, 1) := by decide +kernel
theorem d_S_openEnd_8 : decode (qB q_S_openEnd) 8 = .ok (.iconst 0, 1) := by decide +kernel
theorem d_S_openEnd_9 : decode (qB q_S_openEnd) 9 = .ok (.istore_n 2, 1) := by decide +kernel
theorem d_S_openEnd_10 : decode (qB q_S_openEnd) 10 = .ok (.iload_n 2, 1) := by decide +kernel
theorem d_S_openEnd_11 : decode (qB q_S_openEnd) 11 = .ok (.bipush 16, 2) := by decide +kernel
theorem d_S_openEnd_13 : decode (qB q_S_openEnd) 13 = .ok (.if_icmp .ge 40, 3) := by decide +kernel
theorem d_S_openEnd_16 : decode (qB q_S_openEnd) 16 = .ok (.aload_n 0, 1) := by decide +kernel
theorem d_S_openEnd_17 : decode (qB q_S_openEnd) 17 = .ok (.getfield 26, 3) := by decide +kernel
theorem d_S_openEnd_20 : decode (qB q_S_openEnd) 20 = .ok (.aload_n 0, 1) := by decide +kernel
theorem d_S_openEnd_21 : decode (qB q_S_openEnd) 21 = .ok (.aload_n 0, 1) := by decide +kernel
theorem d_S_openEnd_22 : decode (qB q_S_openEnd) 22 = .ok (.getfield 66, 3) := by decide +kernel
theorem d_S_openEnd_25 : decode (qB q_S_openEnd) 25 = .ok (.iload_n 2, 1) := by decide +kernel
theorem d_S_openEnd_26 : decode (qB q_S_openEnd) 26 = .ok (.iconst 0, 1) := by decide +kernel
theorem d_S_openEnd_27 : decode (qB q_S_openEnd) 27 = .ok (.iconst 0, 1) := by decide +kernel
theorem d_S_openEnd_28 : decode (qB q_S_openEnd) 28 = .ok (.invokevirtual 121, 3) := by decide +kernel
theorem d_S_openEnd_31 : decode (qB q_S_openEnd) 31 = .ok (.lconst 0, 1) := by decide +kernel
theorem d_S_openEnd_32 : decode (qB q_S_openEnd) 32 = .ok (.lconst 0, 1) := by decide +kernel
theorem d_S_openEnd_33 : decode (qB q_S_openEnd) 33 = .ok (.aload_n 0, 1) := by decide +kernel
theorem d_S_openEnd_34 : decode (qB q_S_openEnd) 34 = .ok (.getfield 66, 3) := by decide +kernel
theorem d_S_openEnd_37 : decode (qB q_S_openEnd) 37 = .ok (.iload_n 2, 1) := by decide +kernel
theorem d_S_openEnd_38 : decode (qB q_S_openEnd) 38 = .ok (.iconst 0, 1) := by decide +kernel
theorem d_S_openEnd_39 : decode (qB q_S_openEnd) 39 = .ok (.iconst 0, 1) := by decide +kernel
theorem d_S_openEnd_40 : decode (qB q_S_openEnd) 40 = .ok (.invokestatic 125, 3) := by decide +kernel
theorem d_S_openEnd_43 : decode (qB q_S_openEnd) 43 = .ok (.invokevirtual 127, 3) := by decide +kernel
theorem d_S_openEnd_46 : decode (qB q_S_openEnd) 46 = .ok (.iload_n 2, 1) := by decide +kernel
theorem d_S_openEnd_47 : decode (qB q_S_openEnd) 47 = .ok (.iload_n 1, 1) := by decide +kernel
theorem d_S_openEnd_48 : decode (qB q_S_openEnd) 48 = .ok (.iadd, 1) := by decide +kernel
theorem d_S_openEnd_49 : decode (qB q_S_openEnd) 49 = .ok (.istore_n 2, 1) := by decide +kernel
theorem d_S_openEnd_50 : decode (qB q_S_openEnd) 50 = .ok (.goto (-40), 3) := by decide +kernel
theorem d_S_openEnd_53 : decode (qB q_S_openEnd) 53 = .ok (.return_, 1) := by decide +kernel
set_option maxRecDepth 10000 in
theorem k_S_openEnd {G : mxG} (hG : mx_GG G) : ∀ pc r, t_S_openEnd pc = some r → mx_Ok G mx_W mx_MT q_S_openEnd pc r := (bn_ok (bn_ok (bn_ok (bn_ok (bn_ok (bl_ok (ok_aload_n rfl d_S_openEnd_0)) (bl_ok (ok_getf d_S_openEnd_1 (cl_2 hG) (by decide) w_150))) (bn_ok (bl_ok (ok_cv mx_W_good (cl_1 hG) d_S_openEnd_4 (mt_G_headingStep) mk_G_headingStep w_319 w_320 w_321 (by decide) (by decide))) (bl_ok (ok_istore_n rfl d_S_openEnd_7 (by decide))))) (bn_ok (bn_ok (bl_ok (ok_iconst (by decide) d_S_openEnd_8)) (bl_ok (ok_istore_n rfl d_S_openEnd_9 (by decide)))) (bn_ok (bl_ok (ok_iload_n rfl d_S_openEnd_10)) (bl_ok (ok_bipush (by decide) d_S_openEnd_11))))) (bn_ok (bn_ok (bn_ok (bl_ok (ok_icge d_S_openEnd_13 (by decide))) (bl_ok (ok_aload_n rfl d_S_openEnd_16))) (bn_ok (bl_ok (ok_getf d_S_openEnd_17 (cl_2 hG) (by decide) w_151)) (bl_ok (ok_aload_n rfl d_S_openEnd_20)))) (bn_ok (bn_ok (bl_ok (ok_aload_n rfl d_S_openEnd_21)) (bl_ok (ok_getf d_S_openEnd_22 (cl_2 hG) (by decide) w_156))) (bn_ok (bl_ok (ok_iload_n rfl d_S_openEnd_25)) (bl_ok (ok_iconst (by decide) d_S_openEnd_26)))))) (bn_ok (bn_ok (bn_ok (bn_ok (bl_ok (ok_iconst (by decide) d_S_openEnd_27)) (bl_ok (ok_cv mx_W_good (cl_2 hG) d_S_openEnd_28 (mt_S_rowOf) mk_S_rowOf w_323 w_325 ws_S_rowOf (by decide) (by decide)))) (bn_ok (bl_ok (ok_lconst (by decide) d_S_openEnd_31)) (bl_ok (ok_lconst (by decide) d_S_openEnd_32)))) (bn_ok (bn_ok (bl_ok (ok_aload_n rfl d_S_openEnd_33)) (bl_ok (ok_getf d_S_openEnd_34 (cl_2 hG) (by decide) w_156))) (bn_ok (bl_ok (ok_iload_n rfl d_S_openEnd_37)) (bl_ok (ok_iconst (by decide) d_S_openEnd_38))))) (bn_ok (bn_ok (bn_ok (bl_ok (ok_iconst (by decide) d_S_openEnd_39)) (bl_ok (ok_cs mx_W_good d_S_openEnd_40 (mt_S_codeOf) mk_S_codeOf w_327 w_328 (by decide) (by decide)))) (bn_ok (bl_ok (ok_cv mx_W_good (cl_3 hG) d_S_openEnd_43 (mt_Q_offer) mk_Q_offer w_330 w_331 w_332 (by decide) (by decide))) (bl_ok (ok_iload_n rfl d_S_openEnd_46)))) (bn_ok (bn_ok (bl_ok (ok_iload_n rfl d_S_openEnd_47)) (bl_ok (ok_iadd d_S_openEnd_48))) (bn_ok (bl_ok (ok_istore_n rfl d_S_openEnd_49 (by decide))) (bn_ok (bl_ok (ok_goto d_S_openEnd_50 (by decide))) (bl_ok (ok_return d_S_openEnd_53 rfl))))))))
theorem d_S_openBefore_0 : decode (qB q_S_openBefore) 0 = .ok (.aload_n 0, 1) := by decide +kernel
theorem d_S_openBefore_1 : decode (qB q_S_openBefore) 1 = .ok (.getfield 26, 3) := by decide +kernel
theorem d_S_openBefore_4 : decode (qB q_S_openBefore) 4 = .ok (.iload_n 1, 1) := by decide +kernel
theorem d_S_openBefore_5 : decode (qB q_S_openBefore) 5 = .ok (.invokevirtual 87, 3) := by decide +kernel
theorem d_S_openBefore_8 : decode (qB q_S_openBefore) 8 = .ok (.istore_n 2, 1) := by decide +kernel
theorem d_S_openBefore_9 : decode (qB q_S_openBefore) 9 = .ok (.iload_n 2, 1) := by decide +kernel
theorem d_S_openBefore_10 : decode (qB q_S_openBefore) 10 = .ok (.sipush 612, 3) := by decide +kernel
theorem d_S_openBefore_13 : decode (qB q_S_openBefore) 13 = .ok (.idiv, 1) := by decide +kernel
theorem d_S_openBefore_14 : decode (qB q_S_openBefore) 14 = .ok (.istore_n 3, 1) := by decide +kernel
theorem d_S_openBefore_15 : decode (qB q_S_openBefore) 15 = .ok (.aload_n 0, 1) := by decide +kernel
theorem d_S_openBefore_16 : decode (qB q_S_openBefore) 16 = .ok (.getfield 9, 3) := by decide +kernel
theorem d_S_openBefore_19 : decode (qB q_S_openBefore) 19 = .ok (.iload_n 3, 1) := by decide +kernel
theorem d_S_openBefore_20 : decode (qB q_S_openBefore) 20 = .ok (.iload_n 2, 1) := by decide +kernel
theorem d_S_openBefore_21 : decode (qB q_S_openBefore) 21 = .ok (.invokestatic 91, 3) := by decide +kernel
theorem d_S_openBefore_24 : decode (qB q_S_openBefore) 24 = .ok (.invokevirtual 131, 3) := by decide +kernel
theorem d_S_openBefore_27 : decode (qB q_S_openBefore) 27 = .ok (.istore 4, 2) := by decide +kernel
theorem d_S_openBefore_29 : decode (qB q_S_openBefore) 29 = .ok (.iload 4, 2) := by decide +kernel
theorem d_S_openBefore_31 : decode (qB q_S_openBefore) 31 = .ok (.ifCond .lt 28, 3) := by decide +kernel
theorem d_S_openBefore_34 : decode (qB q_S_openBefore) 34 = .ok (.aload_n 0, 1) := by decide +kernel
theorem d_S_openBefore_35 : decode (qB q_S_openBefore) 35 = .ok (.getfield 9, 3) := by decide +kernel
theorem d_S_openBefore_38 : decode (qB q_S_openBefore) 38 = .ok (.iload 4, 2) := by decide +kernel
theorem d_S_openBefore_40 : decode (qB q_S_openBefore) 40 = .ok (.invokevirtual 135, 3) := by decide +kernel
theorem d_S_openBefore_43 : decode (qB q_S_openBefore) 43 = .ok (.ifCond .ne 16, 3) := by decide +kernel
theorem d_S_openBefore_46 : decode (qB q_S_openBefore) 46 = .ok (.aload_n 0, 1) := by decide +kernel
theorem d_S_openBefore_47 : decode (qB q_S_openBefore) 47 = .ok (.getfield 9, 3) := by decide +kernel
theorem d_S_openBefore_50 : decode (qB q_S_openBefore) 50 = .ok (.iload 4, 2) := by decide +kernel
theorem d_S_openBefore_52 : decode (qB q_S_openBefore) 52 = .ok (.iload_n 3, 1) := by decide +kernel
theorem d_S_openBefore_53 : decode (qB q_S_openBefore) 53 = .ok (.invokevirtual 138, 3) := by decide +kernel
theorem d_S_openBefore_56 : decode (qB q_S_openBefore) 56 = .ok (.ifCond .eq 4, 3) := by decide +kernel
theorem d_S_openBefore_59 : decode (qB q_S_openBefore) 59 = .ok (.return_, 1) := by decide +kernel
theorem d_S_openBefore_60 : decode (qB q_S_openBefore) 60 = .ok (.iload_n 2, 1) := by decide +kernel
theorem d_S_openBefore_61 : decode (qB q_S_openBefore) 61 = .ok (.bipush 9, 2) := by decide +kernel
theorem d_S_openBefore_63 : decode (qB q_S_openBefore) 63 = .ok (.irem, 1) := by decide +kernel
theorem d_S_openBefore_64 : decode (qB q_S_openBefore) 64 = .ok (.aload_n 0, 1) := by decide +kernel
theorem d_S_openBefore_65 : decode (qB q_S_openBefore) 65 = .ok (.getfield 38, 3) := by decide +kernel
theorem d_S_openBefore_68 : decode (qB q_S_openBefore) 68 = .ok (.iload_n 3, 1) := by decide +kernel
theorem d_S_openBefore_69 : decode (qB q_S_openBefore) 69 = .ok (.baload, 1) := by decide +kernel
theorem d_S_openBefore_70 : decode (qB q_S_openBefore) 70 = .ok (.ifCond .eq 7, 3) := by decide +kernel
theorem d_S_openBefore_73 : decode (qB q_S_openBefore) 73 = .ok (.iconst 1, 1) := by decide +kernel
theorem d_S_openBefore_74 : decode (qB q_S_openBefore) 74 = .ok (.goto 4, 3) := by decide +kernel
theorem d_S_openBefore_77 : decode (qB q_S_openBefore) 77 = .ok (.iconst 0, 1) := by decide +kernel
theorem d_S_openBefore_78 : decode (qB q_S_openBefore) 78 = .ok (.iadd, 1) := by decide +kernel
theorem d_S_openBefore_79 : decode (qB q_S_openBefore) 79 = .ok (.istore 5, 2) := by decide +kernel
theorem d_S_openBefore_81 : decode (qB q_S_openBefore) 81 = .ok (.iload 5, 2) := by decide +kernel
theorem d_S_openBefore_83 : decode (qB q_S_openBefore) 83 = .ok (.aload_n 0, 1) := by decide +kernel
theorem d_S_openBefore_84 : decode (qB q_S_openBefore) 84 = .ok (.getfield 69, 3) := by decide +kernel
theorem d_S_openBefore_87 : decode (qB q_S_openBefore) 87 = .ok (.if_icmp .le 4, 3) := by decide +kernel
theorem d_S_openBefore_90 : decode (qB q_S_openBefore) 90 = .ok (.return_, 1) := by decide +kernel
theorem d_S_openBefore_91 : decode (qB q_S_openBefore) 91 = .ok (.aload_n 0, 1) := by decide +kernel
theorem d_S_openBefore_92 : decode (qB q_S_openBefore) 92 = .ok (.getfield 9, 3) := by decide +kernel
theorem d_S_openBefore_95 : decode (qB q_S_openBefore) 95 = .ok (.iload 4, 2) := by decide +kernel
theorem d_S_openBefore_97 : decode (qB q_S_openBefore) 97 = .ok (.invokevirtual 105, 3) := by decide +kernel
theorem d_S_openBefore_100 : decode (qB q_S_openBefore) 100 = .ok (.istore 6, 2) := by decide +kernel
theorem d_S_openBefore_102 : decode (qB q_S_openBefore) 102 = .ok (.iload 6, 2) := by decide +kernel
theorem d_S_openBefore_104 : decode (qB q_S_openBefore) 104 = .ok (.ifCond .eq 7, 3) := by decide +kernel
theorem d_S_openBefore_107 : decode (qB q_S_openBefore) 107 = .ok (.iconst 1, 1) := by decide +kernel
theorem d_S_openBefore_108 : decode (qB q_S_openBefore) 108 = .ok (.goto 4, 3) := by decide +kernel
theorem d_S_openBefore_111 : decode (qB q_S_openBefore) 111 = .ok (.iconst 0, 1) := by decide +kernel
theorem d_S_openBefore_112 : decode (qB q_S_openBefore) 112 = .ok (.istore 7, 2) := by decide +kernel
theorem d_S_openBefore_114 : decode (qB q_S_openBefore) 114 = .ok (.iload 6, 2) := by decide +kernel
theorem d_S_openBefore_116 : decode (qB q_S_openBefore) 116 = .ok (.ifCond .eq 16, 3) := by decide +kernel
theorem d_S_openBefore_119 : decode (qB q_S_openBefore) 119 = .ok (.aload_n 0, 1) := by decide +kernel
theorem d_S_openBefore_120 : decode (qB q_S_openBefore) 120 = .ok (.getfield 9, 3) := by decide +kernel
theorem d_S_openBefore_123 : decode (qB q_S_openBefore) 123 = .ok (.getfield 109, 3) := by decide +kernel
theorem d_S_openBefore_126 : decode (qB q_S_openBefore) 126 = .ok (.iload 4, 2) := by decide +kernel
theorem d_S_openBefore_128 : decode (qB q_S_openBefore) 128 = .ok (.iaload, 1) := by decide +kernel
theorem d_S_openBefore_129 : decode (qB q_S_openBefore) 129 = .ok (.goto 4, 3) := by decide +kernel
theorem d_S_openBefore_132 : decode (qB q_S_openBefore) 132 = .ok (.iconst 0, 1) := by decide +kernel
theorem d_S_openBefore_133 : decode (qB q_S_openBefore) 133 = .ok (.istore 8, 2) := by decide +kernel
theorem d_S_openBefore_135 : decode (qB q_S_openBefore) 135 = .ok (.aload_n 0, 1) := by decide +kernel
theorem d_S_openBefore_136 : decode (qB q_S_openBefore) 136 = .ok (.getfield 9, 3) := by decide +kernel
theorem d_S_openBefore_139 : decode (qB q_S_openBefore) 139 = .ok (.iload_n 3, 1) := by decide +kernel
theorem d_S_openBefore_140 : decode (qB q_S_openBefore) 140 = .ok (.invokevirtual 105, 3) := by decide +kernel
theorem d_S_openBefore_143 : decode (qB q_S_openBefore) 143 = .ok (.ifCond .eq 29, 3) := by decide +kernel
theorem d_S_openBefore_146 : decode (qB q_S_openBefore) 146 = .ok (.iload_n 2, 1) := by decide +kernel
theorem d_S_openBefore_147 : decode (qB q_S_openBefore) 147 = .ok (.invokestatic 142, 3) := by decide +kernel
theorem d_S_openBefore_150 : decode (qB q_S_openBefore) 150 = .ok (.iconst 1, 1) := by decide +kernel
theorem d_S_openBefore_151 : decode (qB q_S_openBefore) 151 = .ok (.isub, 1) := by decide +kernel
theorem d_S_openBefore_152 : decode (qB q_S_openBefore) 152 = .ok (.istore 9, 2) := by decide +kernel
theorem d_S_openBefore_154 : decode (qB q_S_openBefore) 154 = .ok (.iload 7, 2) := by decide +kernel
theorem d_S_openBefore_156 : decode (qB q_S_openBefore) 156 = .ok (.iload 9, 2) := by decide +kernel
theorem d_S_openBefore_158 : decode (qB q_S_openBefore) 158 = .ok (.invokestatic 145, 3) := by decide +kernel
theorem d_S_openBefore_161 : decode (qB q_S_openBefore) 161 = .ok (.istore 7, 2) := by decide +kernel
theorem d_S_openBefore_163 : decode (qB q_S_openBefore) 163 = .ok (.iload 8, 2) := by decide +kernel
theorem d_S_openBefore_165 : decode (qB q_S_openBefore) 165 = .ok (.iload 9, 2) := by decide +kernel
theorem d_S_openBefore_167 : decode (qB q_S_openBefore) 167 = .ok (.invokestatic 150, 3) := by decide +kernel
theorem d_S_openBefore_170 : decode (qB q_S_openBefore) 170 = .ok (.istore 8, 2) := by decide +kernel
theorem d_S_openBefore_172 : decode (qB q_S_openBefore) 172 = .ok (.iload 7, 2) := by decide +kernel
theorem d_S_openBefore_174 : decode (qB q_S_openBefore) 174 = .ok (.istore 9, 2) := by decide +kernel
theorem d_S_openBefore_176 : decode (qB q_S_openBefore) 176 = .ok (.iload 9, 2) := by decide +kernel
theorem d_S_openBefore_178 : decode (qB q_S_openBefore) 178 = .ok (.iload 8, 2) := by decide +kernel
theorem d_S_openBefore_180 : decode (qB q_S_openBefore) 180 = .ok (.if_icmp .gt 20, 3) := by decide +kernel
theorem d_S_openBefore_183 : decode (qB q_S_openBefore) 183 = .ok (.aload_n 0, 1) := by decide +kernel
theorem d_S_openBefore_184 : decode (qB q_S_openBefore) 184 = .ok (.iload_n 1, 1) := by decide +kernel
theorem d_S_openBefore_185 : decode (qB q_S_openBefore) 185 = .ok (.iload 4, 2) := by decide +kernel
theorem d_S_openBefore_187 : decode (qB q_S_openBefore) 187 = .ok (.iload 9, 2) := by decide +kernel
theorem d_S_openBefore_189 : decode (qB q_S_openBefore) 189 = .ok (.iload 5, 2) := by decide +kernel
theorem d_S_openBefore_191 : decode (qB q_S_openBefore) 191 = .ok (.invokevirtual 153, 3) := by decide +kernel
theorem d_S_openBefore_194 : decode (qB q_S_openBefore) 194 = .ok (.iinc 9 1, 3) := by decide +kernel
theorem d_S_openBefore_197 : decode (qB q_S_openBefore) 197 = .ok (.goto (-21), 3) := by decide +kernel
theorem d_S_openBefore_200 : decode (qB q_S_openBefore) 200 = .ok (.return_, 1) := by decide +kernel
set_option maxRecDepth 10000 in
theorem k_S_openBefore {G : mxG} (hG : mx_GG G) : ∀ pc r, t_S_openBefore pc = some r → mx_Ok G mx_W mx_MT q_S_openBefore pc r := (bn_ok (bn_ok (bn_ok (bn_ok (bn_ok (bn_ok (bl_ok (ok_aload_n rfl d_S_openBefore_0)) (bn_ok (bl_ok (ok_getf d_S_openBefore_1 (cl_2 hG) (by decide) w_151)) (bl_ok (ok_iload_n rfl d_S_openBefore_4)))) (bn_ok (bl_ok (ok_cv mx_W_good (cl_3 hG) d_S_openBefore_5 (mt_Q_codeOf) mk_Q_codeOf w_350 w_351 w_352 (by decide) (by decide))) (bn_ok (bl_ok (ok_istore_n rfl d_S_openBefore_8 (by decide))) (bl_ok (ok_iload_n rfl d_S_openBefore_9))))) (bn_ok (bn_ok (bl_ok (ok_sipush (by decide) d_S_openBefore_10)) (bn_ok (bl_ok (ok_idiv d_S_openBefore_13)) (bl_ok (ok_istore_n rfl d_S_openBefore_14 (by decide))))) (bn_ok (bl_ok (ok_aload_n rfl d_S_openBefore_15)) (bn_ok (bl_ok (ok_getf d_S_openBefore_16 (cl_2 hG) (by decide) w_150)) (bl_ok (ok_iload_n rfl d_S_openBefore_19)))))) (bn_ok (bn_ok (bn_ok (bl_ok (ok_iload_n rfl d_S_openBefore_20)) (bn_ok (bl_ok (ok_cs mx_W_good d_S_openBefore_21 (mt_S_headingOf) mk_S_headingOf w_355 w_356 (by decide) (by decide))) (bl_ok (ok_cv mx_W_good (cl_1 hG) d_S_openBefore_24 (mt_G_behind) mk_G_behind w_362 w_363 w_364 (by decide) (by decide))))) (bn_ok (bl_ok (ok_istore d_S_openBefore_27 (by decide))) (bn_ok (bl_ok (ok_iload d_S_openBefore_29)) (bl_ok (ok_iflt d_S_openBefore_31 (by decide)))))) (bn_ok (bn_ok (bl_ok (ok_aload_n rfl d_S_openBefore_34)) (bn_ok (bl_ok (ok_getf d_S_openBefore_35 (cl_2 hG) (by decide) w_150)) (bl_ok (ok_iload d_S_openBefore_38)))) (bn_ok (bn_ok (bl_ok (ok_cv mx_W_good (cl_1 hG) d_S_openBefore_40 (mt_G_isClosedOff) mk_G_isClosedOff w_366 w_367 w_368 (by decide) (by decide))) (bl_ok (ok_ifne d_S_openBefore_43 (by decide)))) (bn_ok (bl_ok (ok_aload_n rfl d_S_openBefore_46)) (bl_ok (ok_getf d_S_openBefore_47 (cl_2 hG) (by decide) w_150))))))) (bn_ok (bn_ok (bn_ok (bn_ok (bl_ok (ok_iload d_S_openBefore_50)) (bn_ok (bl_ok (ok_iload_n rfl d_S_openBefore_52)) (bl_ok (ok_cv mx_W_good (cl_1 hG) d_S_openBefore_53 (mt_G_isTooSteep) mk_G_isTooSteep w_370 w_371 w_372 (by decide) (by decide))))) (bn_ok (bl_ok (ok_ifeq d_S_openBefore_56 (by decide))) (bn_ok (bl_ok (ok_return d_S_openBefore_59 rfl)) (bl_ok (ok_iload_n rfl d_S_openBefore_60))))) (bn_ok (bn_ok (bl_ok (ok_bipush (by decide) d_S_openBefore_61)) (bn_ok (bl_ok (ok_irem d_S_openBefore_63)) (bl_ok (ok_aload_n rfl d_S_openBefore_64)))) (bn_ok (bl_ok (ok_getf d_S_openBefore_65 (cl_2 hG) (by decide) w_154)) (bn_ok (bl_ok (ok_iload_n rfl d_S_openBefore_68)) (bl_ok (ok_zald d_S_openBefore_69 (kt_2 hG))))))) (bn_ok (bn_ok (bn_ok (bl_ok (ok_ifeq d_S_openBefore_70 (by decide))) (bn_ok (bl_ok (ok_iconst (by decide) d_S_openBefore_73)) (bl_ok (ok_goto d_S_openBefore_74 (by decide))))) (bn_ok (bl_ok (ok_iconst (by decide) d_S_openBefore_77)) (bn_ok (bl_ok (ok_iadd d_S_openBefore_78)) (bl_ok (ok_istore d_S_openBefore_79 (by decide)))))) (bn_ok (bn_ok (bl_ok (ok_iload d_S_openBefore_81)) (bn_ok (bl_ok (ok_aload_n rfl d_S_openBefore_83)) (bl_ok (ok_getf d_S_openBefore_84 (cl_2 hG) (by decide) w_157)))) (bn_ok (bn_ok (bl_ok (ok_icle d_S_openBefore_87 (by decide))) (bl_ok (ok_return d_S_openBefore_90 rfl))) (bn_ok (bl_ok (ok_aload_n rfl d_S_openBefore_91)) (bl_ok (ok_getf d_S_openBefore_92 (cl_2 hG) (by decide) w_150)))))))) (bn_ok (bn_ok (bn_ok (bn_ok (bn_ok (bl_ok (ok_iload d_S_openBefore_95)) (bn_ok (bl_ok (ok_cv mx_W_good (cl_1 hG) d_S_openBefore_97 (mt_G_isBridged) mk_G_isBridged w_304 w_289 w_290 (by decide) (by decide))) (bl_ok (ok_istore d_S_openBefore_100 (by decide))))) (bn_ok (bl_ok (ok_iload d_S_openBefore_102)) (bn_ok (bl_ok (ok_ifeq d_S_openBefore_104 (by decide))) (bl_ok (ok_iconst (by decide) d_S_openBefore_107))))) (bn_ok (bn_ok (bl_ok (ok_goto d_S_openBefore_108 (by decide))) (bn_ok (bl_ok (ok_iconst (by decide) d_S_openBefore_111)) (bl_ok (ok_istore d_S_openBefore_112 (by decide))))) (bn_ok (bl_ok (ok_iload d_S_openBefore_114)) (bn_ok (bl_ok (ok_ifeq d_S_openBefore_116 (by decide))) (bl_ok (ok_aload_n rfl d_S_openBefore_119)))))) (bn_ok (bn_ok (bn_ok (bl_ok (ok_getf d_S_openBefore_120 (cl_2 hG) (by decide) w_150)) (bn_ok (bl_ok (ok_getf d_S_openBefore_123 (cl_1 hG) (by decide) w_59)) (bl_ok (ok_iload d_S_openBefore_126)))) (bn_ok (bl_ok (ok_iald d_S_openBefore_128 (kt_0 hG))) (bn_ok (bl_ok (ok_goto d_S_openBefore_129 (by decide))) (bl_ok (ok_iconst (by decide) d_S_openBefore_132))))) (bn_ok (bn_ok (bl_ok (ok_istore d_S_openBefore_133 (by decide))) (bn_ok (bl_ok (ok_aload_n rfl d_S_openBefore_135)) (bl_ok (ok_getf d_S_openBefore_136 (cl_2 hG) (by decide) w_150)))) (bn_ok (bn_ok (bl_ok (ok_iload_n rfl d_S_openBefore_139)) (bl_ok (ok_cv mx_W_good (cl_1 hG) d_S_openBefore_140 (mt_G_isBridged) mk_G_isBridged w_304 w_289 w_290 (by decide) (by decide)))) (bn_ok (bl_ok (ok_ifeq d_S_openBefore_143 (by decide))) (bl_ok (ok_iload_n rfl d_S_openBefore_146))))))) (bn_ok (bn_ok (bn_ok (bn_ok (bl_ok (ok_cs mx_W_good d_S_openBefore_147 (mt_S_bridgedOf) mk_S_bridgedOf w_377 w_378 (by decide) (by decide))) (bn_ok (bl_ok (ok_iconst (by decide) d_S_openBefore_150)) (bl_ok (ok_isub d_S_openBefore_151)))) (bn_ok (bl_ok (ok_istore d_S_openBefore_152 (by decide))) (bn_ok (bl_ok (ok_iload d_S_openBefore_154)) (bl_ok (ok_iload d_S_openBefore_156))))) (bn_ok (bn_ok (bl_ok (ok_cs mx_W_good d_S_openBefore_158 (mt_JM_max) mk_JM_max w_380 w_26 (by decide) (by decide))) (bn_ok (bl_ok (ok_istore d_S_openBefore_161 (by decide))) (bl_ok (ok_iload d_S_openBefore_163)))) (bn_ok (bn_ok (bl_ok (ok_iload d_S_openBefore_165)) (bl_ok (ok_cs mx_W_good d_S_openBefore_167 (mt_JM_min_I) mk_JM_min_I w_381 w_23 (by decide) (by decide)))) (bn_ok (bl_ok (ok_istore d_S_openBefore_170 (by decide))) (bl_ok (ok_iload d_S_openBefore_172)))))) (bn_ok (bn_ok (bn_ok (bl_ok (ok_istore d_S_openBefore_174 (by decide))) (bn_ok (bl_ok (ok_iload d_S_openBefore_176)) (bl_ok (ok_iload d_S_openBefore_178)))) (bn_ok (bl_ok (ok_icgt d_S_openBefore_180 (by decide))) (bn_ok (bl_ok (ok_aload_n rfl d_S_openBefore_183)) (bl_ok (ok_iload_n rfl d_S_openBefore_184))))) (bn_ok (bn_ok (bl_ok (ok_iload d_S_openBefore_185)) (bn_ok (bl_ok (ok_iload d_S_openBefore_187)) (bl_ok (ok_iload d_S_openBefore_189)))) (bn_ok (bn_ok (bl_ok (ok_cv mx_W_good (cl_2 hG) d_S_openBefore_191 (mt_S_openHeadings) mk_S_openHeadings w_382 w_384 ws_S_openHeadings (by decide) (by decide))) (bl_ok (ok_iinc d_S_openBefore_194 (by decide) (by decide)))) (bn_ok (bl_ok (ok_goto d_S_openBefore_197 (by decide))) (bl_ok (ok_return d_S_openBefore_200 rfl)))))))))
theorem d_S_openHeadings_0 : decode (qB q_S_openHeadings) 0 = .ok (.aload_n 0, 1) := by decide +kernel
theorem d_S_openHeadings_1 : decode (qB q_S_openHeadings) 1 = .ok (.getfield 26, 3) := by decide +kernel
theorem d_S_openHeadings_4 : decode (qB q_S_openHeadings) 4 = .ok (.iload_n 1, 1) := by decide +kernel
theorem d_S_openHeadings_5 : decode (qB q_S_openHeadings) 5 = .ok (.invokevirtual 87, 3) := by decide +kernel
theorem d_S_openHeadings_8 : decode (qB q_S_openHeadings) 8 = .ok (.istore 5, 2) := by decide +kernel
theorem d_S_openHeadings_10 : decode (qB q_S_openHeadings) 10 = .ok (.iload 5, 2) := by decide +kernel
theorem d_S_openHeadings_12 : decode (qB q_S_openHeadings) 12 = .ok (.sipush 612, 3) := by decide +kernel
theorem d_S_openHeadings_15 : decode (qB q_S_openHeadings) 15 = .ok (.idiv, 1) := by decide +kernel
theorem d_S_openHeadings_16 : decode (qB q_S_openHeadings) 16 = .ok (.istore 6, 2) := by decide +kernel
theorem d_S_openHeadings_18 : decode (qB q_S_openHeadings) 18 = .ok (.iload 5, 2) := by decide +kernel
theorem d_S_openHeadings_20 : decode (qB q_S_openHeadings) 20 = .ok (.invokestatic 91, 3) := by decide +kernel
theorem d_S_openHeadings_23 : decode (qB q_S_openHeadings) 23 = .ok (.istore 7, 2) := by decide +kernel
theorem d_S_openHeadings_25 : decode (qB q_S_openHeadings) 25 = .ok (.aload_n 0, 1) := by decide +kernel
theorem d_S_openHeadings_26 : decode (qB q_S_openHeadings) 26 = .ok (.getfield 26, 3) := by decide +kernel
theorem d_S_openHeadings_29 : decode (qB q_S_openHeadings) 29 = .ok (.getfield 84, 3) := by decide +kernel
theorem d_S_openHeadings_32 : decode (qB q_S_openHeadings) 32 = .ok (.iload_n 1, 1) := by decide +kernel
theorem d_S_openHeadings_33 : decode (qB q_S_openHeadings) 33 = .ok (.laload, 1) := by decide +kernel
theorem d_S_openHeadings_34 : decode (qB q_S_openHeadings) 34 = .ok (.getstatic 157, 3) := by decide +kernel
theorem d_S_openHeadings_37 : decode (qB q_S_openHeadings) 37 = .ok (.iload 7, 2) := by decide +kernel
theorem d_S_openHeadings_39 : decode (qB q_S_openHeadings) 39 = .ok (.iaload, 1) := by decide +kernel
theorem d_S_openHeadings_40 : decode (qB q_S_openHeadings) 40 = .ok (.i2l, 1) := by decide +kernel
theorem d_S_openHeadings_41 : decode (qB q_S_openHeadings) 41 = .ok (.aload_n 0, 1) := by decide +kernel
theorem d_S_openHeadings_42 : decode (qB q_S_openHeadings) 42 = .ok (.getfield 34, 3) := by decide +kernel
theorem d_S_openHeadings_45 : decode (qB q_S_openHeadings) 45 = .ok (.iload 6, 2) := by decide +kernel
theorem d_S_openHeadings_47 : decode (qB q_S_openHeadings) 47 = .ok (.laload, 1) := by decide +kernel
theorem d_S_openHeadings_48 : decode (qB q_S_openHeadings) 48 = .ok (.lmul, 1) := by decide +kernel
theorem d_S_openHeadings_49 : decode (qB q_S_openHeadings) 49 = .ok (.ladd, 1) := by decide +kernel
theorem d_S_openHeadings_50 : decode (qB q_S_openHeadings) 50 = .ok (.lstore 8, 2) := by decide +kernel
theorem d_S_openHeadings_52 : decode (qB q_S_openHeadings) 52 = .ok (.aload_n 0, 1) := by decide +kernel
theorem d_S_openHeadings_53 : decode (qB q_S_openHeadings) 53 = .ok (.getfield 26, 3) := by decide +kernel
theorem d_S_openHeadings_56 : decode (qB q_S_openHeadings) 56 = .ok (.iload_n 1, 1) := by decide +kernel
theorem d_S_openHeadings_57 : decode (qB q_S_openHeadings) 57 = .ok (.invokevirtual 160, 3) := by decide +kernel
theorem d_S_openHeadings_60 : decode (qB q_S_openHeadings) 60 = .ok (.lconst 1, 1) := by decide +kernel
theorem d_S_openHeadings_61 : decode (qB q_S_openHeadings) 61 = .ok (.ladd, 1) := by decide +kernel
theorem d_S_openHeadings_62 : decode (qB q_S_openHeadings) 62 = .ok (.lstore 10, 2) := by decide +kernel
theorem d_S_openHeadings_64 : decode (qB q_S_openHeadings) 64 = .ok (.aload_n 0, 1) := by decide +kernel
theorem d_S_openHeadings_65 : decode (qB q_S_openHeadings) 65 = .ok (.iload_n 2, 1) := by decide +kernel
theorem d_S_openHeadings_66 : decode (qB q_S_openHeadings) 66 = .ok (.iconst 0, 1) := by decide +kernel
theorem d_S_openHeadings_67 : decode (qB q_S_openHeadings) 67 = .ok (.iload_n 3, 1) := by decide +kernel
theorem d_S_openHeadings_68 : decode (qB q_S_openHeadings) 68 = .ok (.iload 4, 2) := by decide +kernel
theorem d_S_openHeadings_70 : decode (qB q_S_openHeadings) 70 = .ok (.invokevirtual 121, 3) := by decide +kernel
theorem d_S_openHeadings_73 : decode (qB q_S_openHeadings) 73 = .ok (.istore 12, 2) := by decide +kernel
theorem d_S_openHeadings_75 : decode (qB q_S_openHeadings) 75 = .ok (.iload_n 2, 1) := by decide +kernel
theorem d_S_openHeadings_76 : decode (qB q_S_openHeadings) 76 = .ok (.iconst 0, 1) := by decide +kernel
theorem d_S_openHeadings_77 : decode (qB q_S_openHeadings) 77 = .ok (.iload_n 3, 1) := by decide +kernel
theorem d_S_openHeadings_78 : decode (qB q_S_openHeadings) 78 = .ok (.iload 4, 2) := by decide +kernel
theorem d_S_openHeadings_80 : decode (qB q_S_openHeadings) 80 = .ok (.invokestatic 125, 3) := by decide +kernel
theorem d_S_openHeadings_83 : decode (qB q_S_openHeadings) 83 = .ok (.istore 13, 2) := by decide +kernel
theorem d_S_openHeadings_85 : decode (qB q_S_openHeadings) 85 = .ok (.iload_n 2, 1) := by decide +kernel
theorem d_S_openHeadings_86 : decode (qB q_S_openHeadings) 86 = .ok (.aload_n 0, 1) := by decide +kernel
theorem d_S_openHeadings_87 : decode (qB q_S_openHeadings) 87 = .ok (.getfield 63, 3) := by decide +kernel
theorem d_S_openHeadings_90 : decode (qB q_S_openHeadings) 90 = .ok (.if_icmp .ne 30, 3) := by decide +kernel
theorem d_S_openHeadings_93 : decode (qB q_S_openHeadings) 93 = .ok (.aload_n 0, 1) := by decide +kernel
theorem d_S_openHeadings_94 : decode (qB q_S_openHeadings) 94 = .ok (.getfield 26, 3) := by decide +kernel
theorem d_S_openHeadings_97 : decode (qB q_S_openHeadings) 97 = .ok (.iload 12, 2) := by decide +kernel
theorem d_S_openHeadings_99 : decode (qB q_S_openHeadings) 99 = .ok (.bipush 16, 2) := by decide +kernel
theorem d_S_openHeadings_101 : decode (qB q_S_openHeadings) 101 = .ok (.aload_n 0, 1) := by decide +kernel
theorem d_S_openHeadings_102 : decode (qB q_S_openHeadings) 102 = .ok (.getfield 72, 3) := by decide +kernel
theorem d_S_openHeadings_105 : decode (qB q_S_openHeadings) 105 = .ok (.imul, 1) := by decide +kernel
theorem d_S_openHeadings_106 : decode (qB q_S_openHeadings) 106 = .ok (.iadd, 1) := by decide +kernel
theorem d_S_openHeadings_107 : decode (qB q_S_openHeadings) 107 = .ok (.lload 8, 2) := by decide +kernel
theorem d_S_openHeadings_109 : decode (qB q_S_openHeadings) 109 = .ok (.lload 10, 2) := by decide +kernel
theorem d_S_openHeadings_111 : decode (qB q_S_openHeadings) 111 = .ok (.iload 13, 2) := by decide +kernel
theorem d_S_openHeadings_113 : decode (qB q_S_openHeadings) 113 = .ok (.sipush 576, 3) := by decide +kernel
theorem d_S_openHeadings_116 : decode (qB q_S_openHeadings) 116 = .ok (.iadd, 1) := by decide +kernel
theorem d_S_openHeadings_117 : decode (qB q_S_openHeadings) 117 = .ok (.invokevirtual 127, 3) := by decide +kernel
theorem d_S_openHeadings_120 : decode (qB q_S_openHeadings) 120 = .ok (.aload_n 0, 1) := by decide +kernel
theorem d_S_openHeadings_121 : decode (qB q_S_openHeadings) 121 = .ok (.getfield 26, 3) := by decide +kernel
theorem d_S_openHeadings_124 : decode (qB q_S_openHeadings) 124 = .ok (.iload 12, 2) := by decide +kernel
theorem d_S_openHeadings_126 : decode (qB q_S_openHeadings) 126 = .ok (.iload 7, 2) := by decide +kernel
theorem d_S_openHeadings_128 : decode (qB q_S_openHeadings) 128 = .ok (.aload_n 0, 1) := by decide +kernel
theorem d_S_openHeadings_129 : decode (qB q_S_openHeadings) 129 = .ok (.getfield 72, 3) := by decide +kernel
theorem d_S_openHeadings_132 : decode (qB q_S_openHeadings) 132 = .ok (.imul, 1) := by decide +kernel
theorem d_S_openHeadings_133 : decode (qB q_S_openHeadings) 133 = .ok (.iadd, 1) := by decide +kernel
theorem d_S_openHeadings_134 : decode (qB q_S_openHeadings) 134 = .ok (.lload 8, 2) := by decide +kernel
theorem d_S_openHeadings_136 : decode (qB q_S_openHeadings) 136 = .ok (.lload 10, 2) := by decide +kernel
theorem d_S_openHeadings_138 : decode (qB q_S_openHeadings) 138 = .ok (.iload 13, 2) := by decide +kernel
theorem d_S_openHeadings_140 : decode (qB q_S_openHeadings) 140 = .ok (.iload 7, 2) := by decide +kernel
theorem d_S_openHeadings_142 : decode (qB q_S_openHeadings) 142 = .ok (.bipush 36, 2) := by decide +kernel
theorem d_S_openHeadings_144 : decode (qB q_S_openHeadings) 144 = .ok (.imul, 1) := by decide +kernel
theorem d_S_openHeadings_145 : decode (qB q_S_openHeadings) 145 = .ok (.iadd, 1) := by decide +kernel
theorem d_S_openHeadings_146 : decode (qB q_S_openHeadings) 146 = .ok (.invokevirtual 127, 3) := by decide +kernel
theorem d_S_openHeadings_149 : decode (qB q_S_openHeadings) 149 = .ok (.aload_n 0, 1) := by decide +kernel
theorem d_S_openHeadings_150 : decode (qB q_S_openHeadings) 150 = .ok (.getfield 9, 3) := by decide +kernel
theorem d_S_openHeadings_153 : decode (qB q_S_openHeadings) 153 = .ok (.iload 6, 2) := by decide +kernel
theorem d_S_openHeadings_155 : decode (qB q_S_openHeadings) 155 = .ok (.invokevirtual 105, 3) := by decide +kernel
theorem d_S_openHeadings_158 : decode (qB q_S_openHeadings) 158 = .ok (.ifCond .ne 14, 3) := by decide +kernel
theorem d_S_openHeadings_161 : decode (qB q_S_openHeadings) 161 = .ok (.aload_n 0, 1) := by decide +kernel
theorem d_S_openHeadings_162 : decode (qB q_S_openHeadings) 162 = .ok (.getfield 9, 3) := by decide +kernel
theorem d_S_openHeadings_165 : decode (qB q_S_openHeadings) 165 = .ok (.iload_n 2, 1) := by decide +kernel
theorem d_S_openHeadings_166 : decode (qB q_S_openHeadings) 166 = .ok (.invokevirtual 105, 3) := by decide +kernel
theorem d_S_openHeadings_169 : decode (qB q_S_openHeadings) 169 = .ok (.ifCond .eq 4, 3) := by decide +kernel
theorem d_S_openHeadings_172 : decode (qB q_S_openHeadings) 172 = .ok (.return_, 1) := by decide +kernel
theorem d_S_openHeadings_173 : decode (qB q_S_openHeadings) 173 = .ok (.lload 10, 2) := by decide +kernel
theorem d_S_openHeadings_175 : decode (qB q_S_openHeadings) 175 = .ok (.ldc2_w 163, 3) := by decide +kernel
theorem d_S_openHeadings_178 : decode (qB q_S_openHeadings) 178 = .ok (.ladd, 1) := by decide +kernel
theorem d_S_openHeadings_179 : decode (qB q_S_openHeadings) 179 = .ok (.lstore 14, 2) := by decide +kernel
theorem d_S_openHeadings_181 : decode (qB q_S_openHeadings) 181 = .ok (.aload_n 0, 1) := by decide +kernel
theorem d_S_openHeadings_182 : decode (qB q_S_openHeadings) 182 = .ok (.getfield 9, 3) := by decide +kernel
theorem d_S_openHeadings_185 : decode (qB q_S_openHeadings) 185 = .ok (.invokevirtual 118, 3) := by decide +kernel
theorem d_S_openHeadings_188 : decode (qB q_S_openHeadings) 188 = .ok (.istore 16, 2) := by decide +kernel
theorem d_S_openHeadings_190 : decode (qB q_S_openHeadings) 190 = .ok (.aload_n 0, 1) := by decide +kernel
theorem d_S_openHeadings_191 : decode (qB q_S_openHeadings) 191 = .ok (.getfield 9, 3) := by decide +kernel
theorem d_S_openHeadings_194 : decode (qB q_S_openHeadings) 194 = .ok (.getfield 165, 3) := by decide +kernel
theorem d_S_openHeadings_197 : decode (qB q_S_openHeadings) 197 = .ok (.bipush 8, 2) := by decide +kernel
theorem d_S_openHeadings_199 : decode (qB q_S_openHeadings) 199 = .ok (.if_icmp .ne 8, 3) := by decide +kernel
theorem d_S_openHeadings_202 : decode (qB q_S_openHeadings) 202 = .ok (.bipush (-8), 2) := by decide +kernel
theorem d_S_openHeadings_204 : decode (qB q_S_openHeadings) 204 = .ok (.goto 22, 3) := by decide +kernel
theorem d_S_openHeadings_207 : decode (qB q_S_openHeadings) 207 = .ok (.aload_n 0, 1) := by decide +kernel
theorem d_S_openHeadings_208 : decode (qB q_S_openHeadings) 208 = .ok (.getfield 9, 3) := by decide +kernel
theorem d_S_openHeadings_211 : decode (qB q_S_openHeadings) 211 = .ok (.getfield 165, 3) := by decide +kernel
theorem d_S_openHeadings_214 : decode (qB q_S_openHeadings) 214 = .ok (.aload_n 0, 1) := by decide +kernel
theorem d_S_openHeadings_215 : decode (qB q_S_openHeadings) 215 = .ok (.getfield 9, 3) := by decide +kernel
theorem d_S_openHeadings_218 : decode (qB q_S_openHeadings) 218 = .ok (.getfield 165, 3) := by decide +kernel
theorem d_S_openHeadings_221 : decode (qB q_S_openHeadings) 221 = .ok (.iload 16, 2) := by decide +kernel
theorem d_S_openHeadings_223 : decode (qB q_S_openHeadings) 223 = .ok (.irem, 1) := by decide +kernel
theorem d_S_openHeadings_224 : decode (qB q_S_openHeadings) 224 = .ok (.isub, 1) := by decide +kernel
theorem d_S_openHeadings_225 : decode (qB q_S_openHeadings) 225 = .ok (.ineg, 1) := by decide +kernel
theorem d_S_openHeadings_226 : decode (qB q_S_openHeadings) 226 = .ok (.istore 17, 2) := by decide +kernel
theorem d_S_openHeadings_228 : decode (qB q_S_openHeadings) 228 = .ok (.aload_n 0, 1) := by decide +kernel
theorem d_S_openHeadings_229 : decode (qB q_S_openHeadings) 229 = .ok (.getfield 9, 3) := by decide +kernel
theorem d_S_openHeadings_232 : decode (qB q_S_openHeadings) 232 = .ok (.getfield 165, 3) := by decide +kernel
theorem d_S_openHeadings_235 : decode (qB q_S_openHeadings) 235 = .ok (.bipush 7, 2) := by decide +kernel
theorem d_S_openHeadings_237 : decode (qB q_S_openHeadings) 237 = .ok (.invokestatic 150, 3) := by decide +kernel
theorem d_S_openHeadings_240 : decode (qB q_S_openHeadings) 240 = .ok (.istore 18, 2) := by decide +kernel
theorem d_S_openHeadings_242 : decode (qB q_S_openHeadings) 242 = .ok (.iload 17, 2) := by decide +kernel
theorem d_S_openHeadings_244 : decode (qB q_S_openHeadings) 244 = .ok (.istore 19, 2) := by decide +kernel
theorem d_S_openHeadings_246 : decode (qB q_S_openHeadings) 246 = .ok (.iload 19, 2) := by decide +kernel
theorem d_S_openHeadings_248 : decode (qB q_S_openHeadings) 248 = .ok (.iload 18, 2) := by decide +kernel
theorem d_S_openHeadings_250 : decode (qB q_S_openHeadings) 250 = .ok (.if_icmp .gt 57, 3) := by decide +kernel
theorem d_S_openHeadings_253 : decode (qB q_S_openHeadings) 253 = .ok (.iload 7, 2) := by decide +kernel
theorem d_S_openHeadings_255 : decode (qB q_S_openHeadings) 255 = .ok (.iload 19, 2) := by decide +kernel
theorem d_S_openHeadings_257 : decode (qB q_S_openHeadings) 257 = .ok (.iadd, 1) := by decide +kernel
theorem d_S_openHeadings_258 : decode (qB q_S_openHeadings) 258 = .ok (.bipush 15, 2) := by decide +kernel
theorem d_S_openHeadings_260 : decode (qB q_S_openHeadings) 260 = .ok (.iand, 1) := by decide +kernel
theorem d_S_openHeadings_261 : decode (qB q_S_openHeadings) 261 = .ok (.istore 20, 2) := by decide +kernel
theorem d_S_openHeadings_263 : decode (qB q_S_openHeadings) 263 = .ok (.iload 19, 2) := by decide +kernel
theorem d_S_openHeadings_265 : decode (qB q_S_openHeadings) 265 = .ok (.ifCond .eq 32, 3) := by decide +kernel
theorem d_S_openHeadings_268 : decode (qB q_S_openHeadings) 268 = .ok (.aload_n 0, 1) := by decide +kernel
theorem d_S_openHeadings_269 : decode (qB q_S_openHeadings) 269 = .ok (.getfield 26, 3) := by decide +kernel
theorem d_S_openHeadings_272 : decode (qB q_S_openHeadings) 272 = .ok (.iload 12, 2) := by decide +kernel
theorem d_S_openHeadings_274 : decode (qB q_S_openHeadings) 274 = .ok (.iload 20, 2) := by decide +kernel
theorem d_S_openHeadings_276 : decode (qB q_S_openHeadings) 276 = .ok (.aload_n 0, 1) := by decide +kernel
theorem d_S_openHeadings_277 : decode (qB q_S_openHeadings) 277 = .ok (.getfield 72, 3) := by decide +kernel
theorem d_S_openHeadings_280 : decode (qB q_S_openHeadings) 280 = .ok (.imul, 1) := by decide +kernel
theorem d_S_openHeadings_281 : decode (qB q_S_openHeadings) 281 = .ok (.iadd, 1) := by decide +kernel
theorem d_S_openHeadings_282 : decode (qB q_S_openHeadings) 282 = .ok (.lload 8, 2) := by decide +kernel
theorem d_S_openHeadings_284 : decode (qB q_S_openHeadings) 284 = .ok (.lload 14, 2) := by decide +kernel
theorem d_S_openHeadings_286 : decode (qB q_S_openHeadings) 286 = .ok (.iload 13, 2) := by decide +kernel
theorem d_S_openHeadings_288 : decode (qB q_S_openHeadings) 288 = .ok (.iload 20, 2) := by decide +kernel
theorem d_S_openHeadings_290 : decode (qB q_S_openHeadings) 290 = .ok (.bipush 36, 2) := by decide +kernel
theorem d_S_openHeadings_292 : decode (qB q_S_openHeadings) 292 = .ok (.imul, 1) := by decide +kernel
theorem d_S_openHeadings_293 : decode (qB q_S_openHeadings) 293 = .ok (.iadd, 1) := by decide +kernel
theorem d_S_openHeadings_294 : decode (qB q_S_openHeadings) 294 = .ok (.invokevirtual 127, 3) := by decide +kernel
theorem d_S_openHeadings_297 : decode (qB q_S_openHeadings) 297 = .ok (.iload 19, 2) := by decide +kernel
theorem d_S_openHeadings_299 : decode (qB q_S_openHeadings) 299 = .ok (.iload 16, 2) := by decide +kernel
theorem d_S_openHeadings_301 : decode (qB q_S_openHeadings) 301 = .ok (.iadd, 1) := by decide +kernel
theorem d_S_openHeadings_302 : decode (qB q_S_openHeadings) 302 = .ok (.istore 19, 2) := by decide +kernel
theorem d_S_openHeadings_304 : decode (qB q_S_openHeadings) 304 = .ok (.goto (-58), 3) := by decide +kernel
theorem d_S_openHeadings_307 : decode (qB q_S_openHeadings) 307 = .ok (.return_, 1) := by decide +kernel
set_option maxRecDepth 10000 in
theorem k_S_openHeadings {G : mxG} (hG : mx_GG G) : ∀ pc r, t_S_openHeadings pc = some r → mx_Ok G mx_W mx_MT q_S_openHeadings pc r := (bn_ok (bn_ok (bn_ok (bn_ok (bn_ok (bn_ok (bn_ok (bl_ok (ok_aload_n rfl d_S_openHeadings_0)) (bl_ok (ok_getf d_S_openHeadings_1 (cl_2 hG) (by decide) w_151))) (bn_ok (bl_ok (ok_iload_n rfl d_S_openHeadings_4)) (bn_ok (bl_ok (ok_cv mx_W_good (cl_3 hG) d_S_openHeadings_5 (mt_Q_codeOf) mk_Q_codeOf w_350 w_351 w_352 (by decide) (by decide))) (bl_ok (ok_istore d_S_openHeadings_8 (by decide)))))) (bn_ok (bn_ok (bl_ok (ok_iload d_S_openHeadings_10)) (bl_ok (ok_sipush (by decide) d_S_openHeadings_12))) (bn_ok (bl_ok (ok_idiv d_S_openHeadings_15)) (bn_ok (bl_ok (ok_istore d_S_openHeadings_16 (by decide))) (bl_ok (ok_iload d_S_openHeadings_18)))))) (bn_ok (bn_ok (bn_ok (bl_ok (ok_cs mx_W_good d_S_openHeadings_20 (mt_S_headingOf) mk_S_headingOf w_355 w_356 (by decide) (by decide))) (bl_ok (ok_istore d_S_openHeadings_23 (by decide)))) (bn_ok (bl_ok (ok_aload_n rfl d_S_openHeadings_25)) (bn_ok (bl_ok (ok_getf d_S_openHeadings_26 (cl_2 hG) (by decide) w_151)) (bl_ok (ok_getf d_S_openHeadings_29 (cl_3 hG) (by decide) w_130))))) (bn_ok (bn_ok (bl_ok (ok_iload_n rfl d_S_openHeadings_32)) (bl_ok (ok_lald d_S_openHeadings_33 (kt_1 hG)))) (bn_ok (bl_ok (ok_getsN d_S_openHeadings_34 (by decide) (mx_zin hG (by decide +kernel)) (mx_nin hG (by decide +kernel : Cond.fieldLinkNest "CorridorCells$Search" 157 "CorridorCells" "LENGTHS" "[I" "CorridorCells" ∈ mx_ns)))) (bn_ok (bl_ok (ok_iload d_S_openHeadings_37)) (bl_ok (ok_iald d_S_openHeadings_39 (kt_0 hG)))))))) (bn_ok (bn_ok (bn_ok (bn_ok (bl_ok (ok_i2l d_S_openHeadings_40)) (bl_ok (ok_aload_n rfl d_S_openHeadings_41))) (bn_ok (bl_ok (ok_getf d_S_openHeadings_42 (cl_2 hG) (by decide) w_153)) (bn_ok (bl_ok (ok_iload d_S_openHeadings_45)) (bl_ok (ok_lald d_S_openHeadings_47 (kt_1 hG)))))) (bn_ok (bn_ok (bl_ok (ok_lmul d_S_openHeadings_48)) (bl_ok (ok_ladd d_S_openHeadings_49))) (bn_ok (bl_ok (ok_lstore d_S_openHeadings_50 (by decide))) (bn_ok (bl_ok (ok_aload_n rfl d_S_openHeadings_52)) (bl_ok (ok_getf d_S_openHeadings_53 (cl_2 hG) (by decide) w_151)))))) (bn_ok (bn_ok (bn_ok (bl_ok (ok_iload_n rfl d_S_openHeadings_56)) (bl_ok (ok_cv mx_W_good (cl_3 hG) d_S_openHeadings_57 (mt_Q_stepsOf) mk_Q_stepsOf w_388 w_389 w_390 (by decide) (by decide)))) (bn_ok (bl_ok (ok_lconst (by decide) d_S_openHeadings_60)) (bn_ok (bl_ok (ok_ladd d_S_openHeadings_61)) (bl_ok (ok_lstore d_S_openHeadings_62 (by decide)))))) (bn_ok (bn_ok (bl_ok (ok_aload_n rfl d_S_openHeadings_64)) (bl_ok (ok_iload_n rfl d_S_openHeadings_65))) (bn_ok (bl_ok (ok_iconst (by decide) d_S_openHeadings_66)) (bn_ok (bl_ok (ok_iload_n rfl d_S_openHeadings_67)) (bl_ok (ok_iload d_S_openHeadings_68)))))))) (bn_ok (bn_ok (bn_ok (bn_ok (bn_ok (bl_ok (ok_cv mx_W_good (cl_2 hG) d_S_openHeadings_70 (mt_S_rowOf) mk_S_rowOf w_323 w_325 ws_S_rowOf (by decide) (by decide))) (bl_ok (ok_istore d_S_openHeadings_73 (by decide)))) (bn_ok (bl_ok (ok_iload_n rfl d_S_openHeadings_75)) (bn_ok (bl_ok (ok_iconst (by decide) d_S_openHeadings_76)) (bl_ok (ok_iload_n rfl d_S_openHeadings_77))))) (bn_ok (bn_ok (bl_ok (ok_iload d_S_openHeadings_78)) (bl_ok (ok_cs mx_W_good d_S_openHeadings_80 (mt_S_codeOf) mk_S_codeOf w_327 w_328 (by decide) (by decide)))) (bn_ok (bl_ok (ok_istore d_S_openHeadings_83 (by decide))) (bn_ok (bl_ok (ok_iload_n rfl d_S_openHeadings_85)) (bl_ok (ok_aload_n rfl d_S_openHeadings_86)))))) (bn_ok (bn_ok (bn_ok (bl_ok (ok_getf d_S_openHeadings_87 (cl_2 hG) (by decide) w_155)) (bl_ok (ok_icne d_S_openHeadings_90 (by decide)))) (bn_ok (bl_ok (ok_aload_n rfl d_S_openHeadings_93)) (bn_ok (bl_ok (ok_getf d_S_openHeadings_94 (cl_2 hG) (by decide) w_151)) (bl_ok (ok_iload d_S_openHeadings_97))))) (bn_ok (bn_ok (bl_ok (ok_bipush (by decide) d_S_openHeadings_99)) (bl_ok (ok_aload_n rfl d_S_openHeadings_101))) (bn_ok (bl_ok (ok_getf d_S_openHeadings_102 (cl_2 hG) (by decide) w_158)) (bn_ok (bl_ok (ok_imul d_S_openHeadings_105)) (bl_ok (ok_iadd d_S_openHeadings_106))))))) (bn_ok (bn_ok (bn_ok (bn_ok (bl_ok (ok_lload d_S_openHeadings_107)) (bl_ok (ok_lload d_S_openHeadings_109))) (bn_ok (bl_ok (ok_iload d_S_openHeadings_111)) (bn_ok (bl_ok (ok_sipush (by decide) d_S_openHeadings_113)) (bl_ok (ok_iadd d_S_openHeadings_116))))) (bn_ok (bn_ok (bl_ok (ok_cv mx_W_good (cl_3 hG) d_S_openHeadings_117 (mt_Q_offer) mk_Q_offer w_330 w_331 w_332 (by decide) (by decide))) (bl_ok (ok_aload_n rfl d_S_openHeadings_120))) (bn_ok (bl_ok (ok_getf d_S_openHeadings_121 (cl_2 hG) (by decide) w_151)) (bn_ok (bl_ok (ok_iload d_S_openHeadings_124)) (bl_ok (ok_iload d_S_openHeadings_126)))))) (bn_ok (bn_ok (bn_ok (bl_ok (ok_aload_n rfl d_S_openHeadings_128)) (bl_ok (ok_getf d_S_openHeadings_129 (cl_2 hG) (by decide) w_158))) (bn_ok (bl_ok (ok_imul d_S_openHeadings_132)) (bn_ok (bl_ok (ok_iadd d_S_openHeadings_133)) (bl_ok (ok_lload d_S_openHeadings_134))))) (bn_ok (bn_ok (bl_ok (ok_lload d_S_openHeadings_136)) (bl_ok (ok_iload d_S_openHeadings_138))) (bn_ok (bl_ok (ok_iload d_S_openHeadings_140)) (bn_ok (bl_ok (ok_bipush (by decide) d_S_openHeadings_142)) (bl_ok (ok_imul d_S_openHeadings_144))))))))) (bn_ok (bn_ok (bn_ok (bn_ok (bn_ok (bn_ok (bl_ok (ok_iadd d_S_openHeadings_145)) (bl_ok (ok_cv mx_W_good (cl_3 hG) d_S_openHeadings_146 (mt_Q_offer) mk_Q_offer w_330 w_331 w_332 (by decide) (by decide)))) (bn_ok (bl_ok (ok_aload_n rfl d_S_openHeadings_149)) (bn_ok (bl_ok (ok_getf d_S_openHeadings_150 (cl_2 hG) (by decide) w_150)) (bl_ok (ok_iload d_S_openHeadings_153))))) (bn_ok (bn_ok (bl_ok (ok_cv mx_W_good (cl_1 hG) d_S_openHeadings_155 (mt_G_isBridged) mk_G_isBridged w_304 w_289 w_290 (by decide) (by decide))) (bl_ok (ok_ifne d_S_openHeadings_158 (by decide)))) (bn_ok (bl_ok (ok_aload_n rfl d_S_openHeadings_161)) (bn_ok (bl_ok (ok_getf d_S_openHeadings_162 (cl_2 hG) (by decide) w_150)) (bl_ok (ok_iload_n rfl d_S_openHeadings_165)))))) (bn_ok (bn_ok (bn_ok (bl_ok (ok_cv mx_W_good (cl_1 hG) d_S_openHeadings_166 (mt_G_isBridged) mk_G_isBridged w_304 w_289 w_290 (by decide) (by decide))) (bl_ok (ok_ifeq d_S_openHeadings_169 (by decide)))) (bn_ok (bl_ok (ok_return d_S_openHeadings_172 rfl)) (bn_ok (bl_ok (ok_lload d_S_openHeadings_173)) (bl_ok (ok_ldc2 d_S_openHeadings_175 w_392))))) (bn_ok (bn_ok (bl_ok (ok_ladd d_S_openHeadings_178)) (bl_ok (ok_lstore d_S_openHeadings_179 (by decide)))) (bn_ok (bl_ok (ok_aload_n rfl d_S_openHeadings_181)) (bn_ok (bl_ok (ok_getf d_S_openHeadings_182 (cl_2 hG) (by decide) w_150)) (bl_ok (ok_cv mx_W_good (cl_1 hG) d_S_openHeadings_185 (mt_G_headingStep) mk_G_headingStep w_319 w_320 w_321 (by decide) (by decide)))))))) (bn_ok (bn_ok (bn_ok (bn_ok (bl_ok (ok_istore d_S_openHeadings_188 (by decide))) (bl_ok (ok_aload_n rfl d_S_openHeadings_190))) (bn_ok (bl_ok (ok_getf d_S_openHeadings_191 (cl_2 hG) (by decide) w_150)) (bn_ok (bl_ok (ok_getf d_S_openHeadings_194 (cl_1 hG) (by decide) w_76)) (bl_ok (ok_bipush (by decide) d_S_openHeadings_197))))) (bn_ok (bn_ok (bl_ok (ok_icne d_S_openHeadings_199 (by decide))) (bl_ok (ok_bipush (by decide) d_S_openHeadings_202))) (bn_ok (bl_ok (ok_goto d_S_openHeadings_204 (by decide))) (bn_ok (bl_ok (ok_aload_n rfl d_S_openHeadings_207)) (bl_ok (ok_getf d_S_openHeadings_208 (cl_2 hG) (by decide) w_150)))))) (bn_ok (bn_ok (bn_ok (bl_ok (ok_getf d_S_openHeadings_211 (cl_1 hG) (by decide) w_76)) (bl_ok (ok_aload_n rfl d_S_openHeadings_214))) (bn_ok (bl_ok (ok_getf d_S_openHeadings_215 (cl_2 hG) (by decide) w_150)) (bn_ok (bl_ok (ok_getf d_S_openHeadings_218 (cl_1 hG) (by decide) w_76)) (bl_ok (ok_iload d_S_openHeadings_221))))) (bn_ok (bn_ok (bl_ok (ok_irem d_S_openHeadings_223)) (bl_ok (ok_isub d_S_openHeadings_224))) (bn_ok (bl_ok (ok_ineg d_S_openHeadings_225)) (bn_ok (bl_ok (ok_istore d_S_openHeadings_226 (by decide))) (bl_ok (ok_aload_n rfl d_S_openHeadings_228)))))))) (bn_ok (bn_ok (bn_ok (bn_ok (bn_ok (bl_ok (ok_getf d_S_openHeadings_229 (cl_2 hG) (by decide) w_150)) (bl_ok (ok_getf d_S_openHeadings_232 (cl_1 hG) (by decide) w_76))) (bn_ok (bl_ok (ok_bipush (by decide) d_S_openHeadings_235)) (bn_ok (bl_ok (ok_cs mx_W_good d_S_openHeadings_237 (mt_JM_min_I) mk_JM_min_I w_381 w_23 (by decide) (by decide))) (bl_ok (ok_istore d_S_openHeadings_240 (by decide)))))) (bn_ok (bn_ok (bl_ok (ok_iload d_S_openHeadings_242)) (bl_ok (ok_istore d_S_openHeadings_244 (by decide)))) (bn_ok (bl_ok (ok_iload d_S_openHeadings_246)) (bn_ok (bl_ok (ok_iload d_S_openHeadings_248)) (bl_ok (ok_icgt d_S_openHeadings_250 (by decide))))))) (bn_ok (bn_ok (bn_ok (bl_ok (ok_iload d_S_openHeadings_253)) (bl_ok (ok_iload d_S_openHeadings_255))) (bn_ok (bl_ok (ok_iadd d_S_openHeadings_257)) (bn_ok (bl_ok (ok_bipush (by decide) d_S_openHeadings_258)) (bl_ok (ok_iand d_S_openHeadings_260))))) (bn_ok (bn_ok (bl_ok (ok_istore d_S_openHeadings_261 (by decide))) (bl_ok (ok_iload d_S_openHeadings_263))) (bn_ok (bl_ok (ok_ifeq d_S_openHeadings_265 (by decide))) (bn_ok (bl_ok (ok_aload_n rfl d_S_openHeadings_268)) (bl_ok (ok_getf d_S_openHeadings_269 (cl_2 hG) (by decide) w_151))))))) (bn_ok (bn_ok (bn_ok (bn_ok (bl_ok (ok_iload d_S_openHeadings_272)) (bl_ok (ok_iload d_S_openHeadings_274))) (bn_ok (bl_ok (ok_aload_n rfl d_S_openHeadings_276)) (bn_ok (bl_ok (ok_getf d_S_openHeadings_277 (cl_2 hG) (by decide) w_158)) (bl_ok (ok_imul d_S_openHeadings_280))))) (bn_ok (bn_ok (bl_ok (ok_iadd d_S_openHeadings_281)) (bl_ok (ok_lload d_S_openHeadings_282))) (bn_ok (bl_ok (ok_lload d_S_openHeadings_284)) (bn_ok (bl_ok (ok_iload d_S_openHeadings_286)) (bl_ok (ok_iload d_S_openHeadings_288)))))) (bn_ok (bn_ok (bn_ok (bl_ok (ok_bipush (by decide) d_S_openHeadings_290)) (bl_ok (ok_imul d_S_openHeadings_292))) (bn_ok (bl_ok (ok_iadd d_S_openHeadings_293)) (bn_ok (bl_ok (ok_cv mx_W_good (cl_3 hG) d_S_openHeadings_294 (mt_Q_offer) mk_Q_offer w_330 w_331 w_332 (by decide) (by decide))) (bl_ok (ok_iload d_S_openHeadings_297))))) (bn_ok (bn_ok (bl_ok (ok_iload d_S_openHeadings_299)) (bl_ok (ok_iadd d_S_openHeadings_301))) (bn_ok (bl_ok (ok_istore d_S_openHeadings_302 (by decide))) (bn_ok (bl_ok (ok_goto d_S_openHeadings_304 (by decide))) (bl_ok (ok_return d_S_openHeadings_307 rfl))))))))))
theorem d_S_trace_0 : decode (qB q_S_trace) 0 = .ok (.aload_n 0, 1) := by decide +kernel
theorem d_S_trace_1 : decode (qB q_S_trace) 1 = .ok (.getfield 26, 3) := by decide +kernel
theorem d_S_trace_4 : decode (qB q_S_trace) 4 = .ok (.iload_n 1, 1) := by decide +kernel
theorem d_S_trace_5 : decode (qB q_S_trace) 5 = .ok (.invokevirtual 168, 3) := by decide +kernel
theorem d_S_trace_8 : decode (qB q_S_trace) 8 = .ok (.istore_n 3, 1) := by decide +kernel
theorem d_S_trace_9 : decode (qB q_S_trace) 9 = .ok (.aload_n 2, 1) := by decide +kernel
theorem d_S_trace_10 : decode (qB q_S_trace) 10 = .ok (.aload_n 0, 1) := by decide +kernel
theorem d_S_trace_11 : decode (qB q_S_trace) 11 = .ok (.getfield 63, 3) := by decide +kernel
theorem d_S_trace_14 : decode (qB q_S_trace) 14 = .ok (.iload_n 3, 1) := by decide +kernel
theorem d_S_trace_15 : decode (qB q_S_trace) 15 = .ok (.invokevirtual 171, 3) := by decide +kernel
theorem d_S_trace_18 : decode (qB q_S_trace) 18 = .ok (.iload_n 1, 1) := by decide +kernel
theorem d_S_trace_19 : decode (qB q_S_trace) 19 = .ok (.istore 4, 2) := by decide +kernel
theorem d_S_trace_21 : decode (qB q_S_trace) 21 = .ok (.iconst 1, 1) := by decide +kernel
theorem d_S_trace_22 : decode (qB q_S_trace) 22 = .ok (.istore 5, 2) := by decide +kernel
theorem d_S_trace_24 : decode (qB q_S_trace) 24 = .ok (.iload 5, 2) := by decide +kernel
theorem d_S_trace_26 : decode (qB q_S_trace) 26 = .ok (.iload_n 3, 1) := by decide +kernel
theorem d_S_trace_27 : decode (qB q_S_trace) 27 = .ok (.if_icmp .gt 62, 3) := by decide +kernel
theorem d_S_trace_30 : decode (qB q_S_trace) 30 = .ok (.aload_n 0, 1) := by decide +kernel
theorem d_S_trace_31 : decode (qB q_S_trace) 31 = .ok (.iload 4, 2) := by decide +kernel
theorem d_S_trace_33 : decode (qB q_S_trace) 33 = .ok (.invokevirtual 175, 3) := by decide +kernel
theorem d_S_trace_36 : decode (qB q_S_trace) 36 = .ok (.istore 4, 2) := by decide +kernel
theorem d_S_trace_38 : decode (qB q_S_trace) 38 = .ok (.iload 4, 2) := by decide +kernel
theorem d_S_trace_40 : decode (qB q_S_trace) 40 = .ok (.ifCond .ge 4, 3) := by decide +kernel
theorem d_S_trace_43 : decode (qB q_S_trace) 43 = .ok (.return_, 1) := by decide +kernel
theorem d_S_trace_44 : decode (qB q_S_trace) 44 = .ok (.aload_n 2, 1) := by decide +kernel
theorem d_S_trace_45 : decode (qB q_S_trace) 45 = .ok (.getfield 53, 3) := by decide +kernel
theorem d_S_trace_48 : decode (qB q_S_trace) 48 = .ok (.iload 5, 2) := by decide +kernel
theorem d_S_trace_50 : decode (qB q_S_trace) 50 = .ok (.aload_n 0, 1) := by decide +kernel
theorem d_S_trace_51 : decode (qB q_S_trace) 51 = .ok (.getfield 26, 3) := by decide +kernel
theorem d_S_trace_54 : decode (qB q_S_trace) 54 = .ok (.iload 4, 2) := by decide +kernel
theorem d_S_trace_56 : decode (qB q_S_trace) 56 = .ok (.invokevirtual 87, 3) := by decide +kernel
theorem d_S_trace_59 : decode (qB q_S_trace) 59 = .ok (.sipush 612, 3) := by decide +kernel
theorem d_S_trace_62 : decode (qB q_S_trace) 62 = .ok (.idiv, 1) := by decide +kernel
theorem d_S_trace_63 : decode (qB q_S_trace) 63 = .ok (.iastore, 1) := by decide +kernel
theorem d_S_trace_64 : decode (qB q_S_trace) 64 = .ok (.aload_n 2, 1) := by decide +kernel
theorem d_S_trace_65 : decode (qB q_S_trace) 65 = .ok (.getfield 178, 3) := by decide +kernel
theorem d_S_trace_68 : decode (qB q_S_trace) 68 = .ok (.iload 5, 2) := by decide +kernel
theorem d_S_trace_70 : decode (qB q_S_trace) 70 = .ok (.aload_n 0, 1) := by decide +kernel
theorem d_S_trace_71 : decode (qB q_S_trace) 71 = .ok (.getfield 26, 3) := by decide +kernel
theorem d_S_trace_74 : decode (qB q_S_trace) 74 = .ok (.iload 4, 2) := by decide +kernel
theorem d_S_trace_76 : decode (qB q_S_trace) 76 = .ok (.invokevirtual 87, 3) := by decide +kernel
theorem d_S_trace_79 : decode (qB q_S_trace) 79 = .ok (.invokestatic 91, 3) := by decide +kernel
theorem d_S_trace_82 : decode (qB q_S_trace) 82 = .ok (.iastore, 1) := by decide +kernel
theorem d_S_trace_83 : decode (qB q_S_trace) 83 = .ok (.iinc 5 1, 3) := by decide +kernel
theorem d_S_trace_86 : decode (qB q_S_trace) 86 = .ok (.goto (-62), 3) := by decide +kernel
theorem d_S_trace_89 : decode (qB q_S_trace) 89 = .ok (.return_, 1) := by decide +kernel
set_option maxRecDepth 10000 in
theorem k_S_trace {G : mxG} (hG : mx_GG G) : ∀ pc r, t_S_trace pc = some r → mx_Ok G mx_W mx_MT q_S_trace pc r := (bn_ok (bn_ok (bn_ok (bn_ok (bn_ok (bl_ok (ok_aload_n rfl d_S_trace_0)) (bl_ok (ok_getf d_S_trace_1 (cl_2 hG) (by decide) w_151))) (bn_ok (bl_ok (ok_iload_n rfl d_S_trace_4)) (bn_ok (bl_ok (ok_cv mx_W_good (cl_3 hG) d_S_trace_5 (mt_Q_movesOf) mk_Q_movesOf w_401 w_402 w_403 (by decide) (by decide))) (bl_ok (ok_istore_n rfl d_S_trace_8 (by decide)))))) (bn_ok (bn_ok (bl_ok (ok_aload_n rfl d_S_trace_9)) (bn_ok (bl_ok (ok_aload_n rfl d_S_trace_10)) (bl_ok (ok_getf d_S_trace_11 (cl_2 hG) (by decide) w_155)))) (bn_ok (bl_ok (ok_iload_n rfl d_S_trace_14)) (bn_ok (bl_ok (ok_cv mx_W_good (cl_4 hG) d_S_trace_15 (mt_W_begin) mk_W_begin w_406 w_407 w_408 (by decide) (by decide))) (bl_ok (ok_iload_n rfl d_S_trace_18)))))) (bn_ok (bn_ok (bn_ok (bl_ok (ok_istore d_S_trace_19 (by decide))) (bn_ok (bl_ok (ok_iconst (by decide) d_S_trace_21)) (bl_ok (ok_istore d_S_trace_22 (by decide))))) (bn_ok (bl_ok (ok_iload d_S_trace_24)) (bn_ok (bl_ok (ok_iload_n rfl d_S_trace_26)) (bl_ok (ok_icgt d_S_trace_27 (by decide)))))) (bn_ok (bn_ok (bl_ok (ok_aload_n rfl d_S_trace_30)) (bn_ok (bl_ok (ok_iload d_S_trace_31)) (bl_ok (ok_cv mx_W_good (cl_2 hG) d_S_trace_33 (mt_S_nextRow) mk_S_nextRow w_410 w_412 ws_S_nextRow (by decide) (by decide))))) (bn_ok (bl_ok (ok_istore d_S_trace_36 (by decide))) (bn_ok (bl_ok (ok_iload d_S_trace_38)) (bl_ok (ok_ifge d_S_trace_40 (by decide)))))))) (bn_ok (bn_ok (bn_ok (bn_ok (bl_ok (ok_return d_S_trace_43 rfl)) (bl_ok (ok_aload_n rfl d_S_trace_44))) (bn_ok (bl_ok (ok_getf d_S_trace_45 (cl_4 hG) (by decide) w_190)) (bn_ok (bl_ok (ok_iload d_S_trace_48)) (bl_ok (ok_aload_n rfl d_S_trace_50))))) (bn_ok (bn_ok (bl_ok (ok_getf d_S_trace_51 (cl_2 hG) (by decide) w_151)) (bn_ok (bl_ok (ok_iload d_S_trace_54)) (bl_ok (ok_cv mx_W_good (cl_3 hG) d_S_trace_56 (mt_Q_codeOf) mk_Q_codeOf w_350 w_351 w_352 (by decide) (by decide))))) (bn_ok (bl_ok (ok_sipush (by decide) d_S_trace_59)) (bn_ok (bl_ok (ok_idiv d_S_trace_62)) (bl_ok (ok_iast d_S_trace_63 (kt_0 hG))))))) (bn_ok (bn_ok (bn_ok (bl_ok (ok_aload_n rfl d_S_trace_64)) (bn_ok (bl_ok (ok_getf d_S_trace_65 (cl_4 hG) (by decide) w_194)) (bl_ok (ok_iload d_S_trace_68)))) (bn_ok (bl_ok (ok_aload_n rfl d_S_trace_70)) (bn_ok (bl_ok (ok_getf d_S_trace_71 (cl_2 hG) (by decide) w_151)) (bl_ok (ok_iload d_S_trace_74))))) (bn_ok (bn_ok (bl_ok (ok_cv mx_W_good (cl_3 hG) d_S_trace_76 (mt_Q_codeOf) mk_Q_codeOf w_350 w_351 w_352 (by decide) (by decide))) (bn_ok (bl_ok (ok_cs mx_W_good d_S_trace_79 (mt_S_headingOf) mk_S_headingOf w_355 w_356 (by decide) (by decide))) (bl_ok (ok_iast d_S_trace_82 (kt_0 hG))))) (bn_ok (bl_ok (ok_iinc d_S_trace_83 (by decide) (by decide))) (bn_ok (bl_ok (ok_goto d_S_trace_86 (by decide))) (bl_ok (ok_return d_S_trace_89 rfl))))))))
theorem d_S_nextRow_0 : decode (qB q_S_nextRow) 0 = .ok (.iconst (-1), 1) := by decide +kernel
theorem d_S_nextRow_1 : decode (qB q_S_nextRow) 1 = .ok (.istore_n 2, 1) := by decide +kernel
theorem d_S_nextRow_2 : decode (qB q_S_nextRow) 2 = .ok (.aload_n 0, 1) := by decide +kernel
theorem d_S_nextRow_3 : decode (qB q_S_nextRow) 3 = .ok (.getfield 9, 3) := by decide +kernel
theorem d_S_nextRow_6 : decode (qB q_S_nextRow) 6 = .ok (.getfield 17, 3) := by decide +kernel
theorem d_S_nextRow_9 : decode (qB q_S_nextRow) 9 = .ok (.istore_n 3, 1) := by decide +kernel
theorem d_S_nextRow_10 : decode (qB q_S_nextRow) 10 = .ok (.aload_n 0, 1) := by decide +kernel
theorem d_S_nextRow_11 : decode (qB q_S_nextRow) 11 = .ok (.getfield 9, 3) := by decide +kernel
theorem d_S_nextRow_14 : decode (qB q_S_nextRow) 14 = .ok (.invokevirtual 118, 3) := by decide +kernel
theorem d_S_nextRow_17 : decode (qB q_S_nextRow) 17 = .ok (.istore 4, 2) := by decide +kernel
theorem d_S_nextRow_19 : decode (qB q_S_nextRow) 19 = .ok (.iconst 0, 1) := by decide +kernel
theorem d_S_nextRow_20 : decode (qB q_S_nextRow) 20 = .ok (.istore 5, 2) := by decide +kernel
theorem d_S_nextRow_22 : decode (qB q_S_nextRow) 22 = .ok (.iload 5, 2) := by decide +kernel
theorem d_S_nextRow_24 : decode (qB q_S_nextRow) 24 = .ok (.bipush 16, 2) := by decide +kernel
theorem d_S_nextRow_26 : decode (qB q_S_nextRow) 26 = .ok (.if_icmp .ge 61, 3) := by decide +kernel
theorem d_S_nextRow_29 : decode (qB q_S_nextRow) 29 = .ok (.aload_n 0, 1) := by decide +kernel
theorem d_S_nextRow_30 : decode (qB q_S_nextRow) 30 = .ok (.iload_n 1, 1) := by decide +kernel
theorem d_S_nextRow_31 : decode (qB q_S_nextRow) 31 = .ok (.iload 5, 2) := by decide +kernel
theorem d_S_nextRow_33 : decode (qB q_S_nextRow) 33 = .ok (.invokevirtual 181, 3) := by decide +kernel
theorem d_S_nextRow_36 : decode (qB q_S_nextRow) 36 = .ok (.istore 6, 2) := by decide +kernel
theorem d_S_nextRow_38 : decode (qB q_S_nextRow) 38 = .ok (.iload 6, 2) := by decide +kernel
theorem d_S_nextRow_40 : decode (qB q_S_nextRow) 40 = .ok (.ifCond .lt 37, 3) := by decide +kernel
theorem d_S_nextRow_43 : decode (qB q_S_nextRow) 43 = .ok (.aload_n 0, 1) := by decide +kernel
theorem d_S_nextRow_44 : decode (qB q_S_nextRow) 44 = .ok (.getfield 26, 3) := by decide +kernel
theorem d_S_nextRow_47 : decode (qB q_S_nextRow) 47 = .ok (.iload 6, 2) := by decide +kernel
theorem d_S_nextRow_49 : decode (qB q_S_nextRow) 49 = .ok (.invokevirtual 87, 3) := by decide +kernel
theorem d_S_nextRow_52 : decode (qB q_S_nextRow) 52 = .ok (.sipush 612, 3) := by decide +kernel
theorem d_S_nextRow_55 : decode (qB q_S_nextRow) 55 = .ok (.idiv, 1) := by decide +kernel
theorem d_S_nextRow_56 : decode (qB q_S_nextRow) 56 = .ok (.iload_n 3, 1) := by decide +kernel
theorem d_S_nextRow_57 : decode (qB q_S_nextRow) 57 = .ok (.if_icmp .ge 20, 3) := by decide +kernel
theorem d_S_nextRow_60 : decode (qB q_S_nextRow) 60 = .ok (.iload 6, 2) := by decide +kernel
theorem d_S_nextRow_62 : decode (qB q_S_nextRow) 62 = .ok (.istore_n 2, 1) := by decide +kernel
theorem d_S_nextRow_63 : decode (qB q_S_nextRow) 63 = .ok (.aload_n 0, 1) := by decide +kernel
theorem d_S_nextRow_64 : decode (qB q_S_nextRow) 64 = .ok (.getfield 26, 3) := by decide +kernel
theorem d_S_nextRow_67 : decode (qB q_S_nextRow) 67 = .ok (.iload 6, 2) := by decide +kernel
theorem d_S_nextRow_69 : decode (qB q_S_nextRow) 69 = .ok (.invokevirtual 87, 3) := by decide +kernel
theorem d_S_nextRow_72 : decode (qB q_S_nextRow) 72 = .ok (.sipush 612, 3) := by decide +kernel
theorem d_S_nextRow_75 : decode (qB q_S_nextRow) 75 = .ok (.idiv, 1) := by decide +kernel
theorem d_S_nextRow_76 : decode (qB q_S_nextRow) 76 = .ok (.istore_n 3, 1) := by decide +kernel
theorem d_S_nextRow_77 : decode (qB q_S_nextRow) 77 = .ok (.iload 5, 2) := by decide +kernel
theorem d_S_nextRow_79 : decode (qB q_S_nextRow) 79 = .ok (.iload 4, 2) := by decide +kernel
theorem d_S_nextRow_81 : decode (qB q_S_nextRow) 81 = .ok (.iadd, 1) := by decide +kernel
theorem d_S_nextRow_82 : decode (qB q_S_nextRow) 82 = .ok (.istore 5, 2) := by decide +kernel
theorem d_S_nextRow_84 : decode (qB q_S_nextRow) 84 = .ok (.goto (-62), 3) := by decide +kernel
theorem d_S_nextRow_87 : decode (qB q_S_nextRow) 87 = .ok (.iload_n 2, 1) := by decide +kernel
theorem d_S_nextRow_88 : decode (qB q_S_nextRow) 88 = .ok (.ireturn, 1) := by decide +kernel
set_option maxRecDepth 10000 in
theorem k_S_nextRow {G : mxG} (hG : mx_GG G) : ∀ pc r, t_S_nextRow pc = some r → mx_Ok G mx_W mx_MT q_S_nextRow pc r := (bn_ok (bn_ok (bn_ok (bn_ok (bn_ok (bl_ok (ok_iconst (by decide) d_S_nextRow_0)) (bl_ok (ok_istore_n rfl d_S_nextRow_1 (by decide)))) (bn_ok (bl_ok (ok_aload_n rfl d_S_nextRow_2)) (bn_ok (bl_ok (ok_getf d_S_nextRow_3 (cl_2 hG) (by decide) w_150)) (bl_ok (ok_getf d_S_nextRow_6 (cl_1 hG) (by decide) w_42))))) (bn_ok (bn_ok (bl_ok (ok_istore_n rfl d_S_nextRow_9 (by decide))) (bn_ok (bl_ok (ok_aload_n rfl d_S_nextRow_10)) (bl_ok (ok_getf d_S_nextRow_11 (cl_2 hG) (by decide) w_150)))) (bn_ok (bl_ok (ok_cv mx_W_good (cl_1 hG) d_S_nextRow_14 (mt_G_headingStep) mk_G_headingStep w_319 w_320 w_321 (by decide) (by decide))) (bn_ok (bl_ok (ok_istore d_S_nextRow_17 (by decide))) (bl_ok (ok_iconst (by decide) d_S_nextRow_19)))))) (bn_ok (bn_ok (bn_ok (bl_ok (ok_istore d_S_nextRow_20 (by decide))) (bn_ok (bl_ok (ok_iload d_S_nextRow_22)) (bl_ok (ok_bipush (by decide) d_S_nextRow_24)))) (bn_ok (bl_ok (ok_icge d_S_nextRow_26 (by decide))) (bn_ok (bl_ok (ok_aload_n rfl d_S_nextRow_29)) (bl_ok (ok_iload_n rfl d_S_nextRow_30))))) (bn_ok (bn_ok (bl_ok (ok_iload d_S_nextRow_31)) (bn_ok (bl_ok (ok_cv mx_W_good (cl_2 hG) d_S_nextRow_33 (mt_S_rowAfter) mk_S_rowAfter w_414 w_416 ws_S_rowAfter (by decide) (by decide))) (bl_ok (ok_istore d_S_nextRow_36 (by decide))))) (bn_ok (bl_ok (ok_iload d_S_nextRow_38)) (bn_ok (bl_ok (ok_iflt d_S_nextRow_40 (by decide))) (bl_ok (ok_aload_n rfl d_S_nextRow_43))))))) (bn_ok (bn_ok (bn_ok (bn_ok (bl_ok (ok_getf d_S_nextRow_44 (cl_2 hG) (by decide) w_151)) (bl_ok (ok_iload d_S_nextRow_47))) (bn_ok (bl_ok (ok_cv mx_W_good (cl_3 hG) d_S_nextRow_49 (mt_Q_codeOf) mk_Q_codeOf w_350 w_351 w_352 (by decide) (by decide))) (bn_ok (bl_ok (ok_sipush (by decide) d_S_nextRow_52)) (bl_ok (ok_idiv d_S_nextRow_55))))) (bn_ok (bn_ok (bl_ok (ok_iload_n rfl d_S_nextRow_56)) (bn_ok (bl_ok (ok_icge d_S_nextRow_57 (by decide))) (bl_ok (ok_iload d_S_nextRow_60)))) (bn_ok (bl_ok (ok_istore_n rfl d_S_nextRow_62 (by decide))) (bn_ok (bl_ok (ok_aload_n rfl d_S_nextRow_63)) (bl_ok (ok_getf d_S_nextRow_64 (cl_2 hG) (by decide) w_151)))))) (bn_ok (bn_ok (bn_ok (bl_ok (ok_iload d_S_nextRow_67)) (bn_ok (bl_ok (ok_cv mx_W_good (cl_3 hG) d_S_nextRow_69 (mt_Q_codeOf) mk_Q_codeOf w_350 w_351 w_352 (by decide) (by decide))) (bl_ok (ok_sipush (by decide) d_S_nextRow_72)))) (bn_ok (bl_ok (ok_idiv d_S_nextRow_75)) (bn_ok (bl_ok (ok_istore_n rfl d_S_nextRow_76 (by decide))) (bl_ok (ok_iload d_S_nextRow_77))))) (bn_ok (bn_ok (bl_ok (ok_iload d_S_nextRow_79)) (bn_ok (bl_ok (ok_iadd d_S_nextRow_81)) (bl_ok (ok_istore d_S_nextRow_82 (by decide))))) (bn_ok (bl_ok (ok_goto d_S_nextRow_84 (by decide))) (bn_ok (bl_ok (ok_iload_n rfl d_S_nextRow_87)) (bl_ok (ok_ireturn d_S_nextRow_88 rfl))))))))
theorem d_S_rowAfter_0 : decode (qB q_S_rowAfter) 0 = .ok (.aload_n 0, 1) := by decide +kernel
theorem d_S_rowAfter_1 : decode (qB q_S_rowAfter) 1 = .ok (.getfield 26, 3) := by decide +kernel
theorem d_S_rowAfter_4 : decode (qB q_S_rowAfter) 4 = .ok (.iload_n 1, 1) := by decide +kernel
theorem d_S_rowAfter_5 : decode (qB q_S_rowAfter) 5 = .ok (.invokevirtual 87, 3) := by decide +kernel
theorem d_S_rowAfter_8 : decode (qB q_S_rowAfter) 8 = .ok (.istore_n 3, 1) := by decide +kernel
theorem d_S_rowAfter_9 : decode (qB q_S_rowAfter) 9 = .ok (.iload_n 3, 1) := by decide +kernel
theorem d_S_rowAfter_10 : decode (qB q_S_rowAfter) 10 = .ok (.invokestatic 91, 3) := by decide +kernel
theorem d_S_rowAfter_13 : decode (qB q_S_rowAfter) 13 = .ok (.istore 4, 2) := by decide +kernel
theorem d_S_rowAfter_15 : decode (qB q_S_rowAfter) 15 = .ok (.aload_n 0, 1) := by decide +kernel
theorem d_S_rowAfter_16 : decode (qB q_S_rowAfter) 16 = .ok (.getfield 9, 3) := by decide +kernel
theorem d_S_rowAfter_19 : decode (qB q_S_rowAfter) 19 = .ok (.iload_n 3, 1) := by decide +kernel
theorem d_S_rowAfter_20 : decode (qB q_S_rowAfter) 20 = .ok (.sipush 612, 3) := by decide +kernel
theorem d_S_rowAfter_23 : decode (qB q_S_rowAfter) 23 = .ok (.idiv, 1) := by decide +kernel
theorem d_S_rowAfter_24 : decode (qB q_S_rowAfter) 24 = .ok (.iload 4, 2) := by decide +kernel
theorem d_S_rowAfter_26 : decode (qB q_S_rowAfter) 26 = .ok (.iload_n 2, 1) := by decide +kernel
theorem d_S_rowAfter_27 : decode (qB q_S_rowAfter) 27 = .ok (.invokevirtual 184, 3) := by decide +kernel
theorem d_S_rowAfter_30 : decode (qB q_S_rowAfter) 30 = .ok (.istore 5, 2) := by decide +kernel
theorem d_S_rowAfter_32 : decode (qB q_S_rowAfter) 32 = .ok (.iload 5, 2) := by decide +kernel
theorem d_S_rowAfter_34 : decode (qB q_S_rowAfter) 34 = .ok (.ifCond .ge 5, 3) := by decide +kernel
theorem d_S_rowAfter_37 : decode (qB q_S_rowAfter) 37 = .ok (.iconst (-1), 1) := by decide +kernel
theorem d_S_rowAfter_38 : decode (qB q_S_rowAfter) 38 = .ok (.ireturn, 1) := by decide +kernel
theorem d_S_rowAfter_39 : decode (qB q_S_rowAfter) 39 = .ok (.aload_n 0, 1) := by decide +kernel
theorem d_S_rowAfter_40 : decode (qB q_S_rowAfter) 40 = .ok (.getfield 9, 3) := by decide +kernel
theorem d_S_rowAfter_43 : decode (qB q_S_rowAfter) 43 = .ok (.iload 5, 2) := by decide +kernel
theorem d_S_rowAfter_45 : decode (qB q_S_rowAfter) 45 = .ok (.iload_n 3, 1) := by decide +kernel
theorem d_S_rowAfter_46 : decode (qB q_S_rowAfter) 46 = .ok (.invokestatic 142, 3) := by decide +kernel
theorem d_S_rowAfter_49 : decode (qB q_S_rowAfter) 49 = .ok (.invokevirtual 188, 3) := by decide +kernel
theorem d_S_rowAfter_52 : decode (qB q_S_rowAfter) 52 = .ok (.istore 6, 2) := by decide +kernel
theorem d_S_rowAfter_54 : decode (qB q_S_rowAfter) 54 = .ok (.iload_n 3, 1) := by decide +kernel
theorem d_S_rowAfter_55 : decode (qB q_S_rowAfter) 55 = .ok (.bipush 9, 2) := by decide +kernel
theorem d_S_rowAfter_57 : decode (qB q_S_rowAfter) 57 = .ok (.irem, 1) := by decide +kernel
theorem d_S_rowAfter_58 : decode (qB q_S_rowAfter) 58 = .ok (.aload_n 0, 1) := by decide +kernel
theorem d_S_rowAfter_59 : decode (qB q_S_rowAfter) 59 = .ok (.getfield 38, 3) := by decide +kernel
theorem d_S_rowAfter_62 : decode (qB q_S_rowAfter) 62 = .ok (.iload 5, 2) := by decide +kernel
theorem d_S_rowAfter_64 : decode (qB q_S_rowAfter) 64 = .ok (.baload, 1) := by decide +kernel
theorem d_S_rowAfter_65 : decode (qB q_S_rowAfter) 65 = .ok (.ifCond .eq 7, 3) := by decide +kernel
theorem d_S_rowAfter_68 : decode (qB q_S_rowAfter) 68 = .ok (.iconst 1, 1) := by decide +kernel
theorem d_S_rowAfter_69 : decode (qB q_S_rowAfter) 69 = .ok (.goto 4, 3) := by decide +kernel
theorem d_S_rowAfter_72 : decode (qB q_S_rowAfter) 72 = .ok (.iconst 0, 1) := by decide +kernel
theorem d_S_rowAfter_73 : decode (qB q_S_rowAfter) 73 = .ok (.isub, 1) := by decide +kernel
theorem d_S_rowAfter_74 : decode (qB q_S_rowAfter) 74 = .ok (.istore 7, 2) := by decide +kernel
theorem d_S_rowAfter_76 : decode (qB q_S_rowAfter) 76 = .ok (.iload 6, 2) := by decide +kernel
theorem d_S_rowAfter_78 : decode (qB q_S_rowAfter) 78 = .ok (.ifCond .lt 8, 3) := by decide +kernel
theorem d_S_rowAfter_81 : decode (qB q_S_rowAfter) 81 = .ok (.iload 7, 2) := by decide +kernel
theorem d_S_rowAfter_83 : decode (qB q_S_rowAfter) 83 = .ok (.ifCond .ge 5, 3) := by decide +kernel
theorem d_S_rowAfter_86 : decode (qB q_S_rowAfter) 86 = .ok (.iconst (-1), 1) := by decide +kernel
theorem d_S_rowAfter_87 : decode (qB q_S_rowAfter) 87 = .ok (.ireturn, 1) := by decide +kernel
theorem d_S_rowAfter_88 : decode (qB q_S_rowAfter) 88 = .ok (.aload_n 0, 1) := by decide +kernel
theorem d_S_rowAfter_89 : decode (qB q_S_rowAfter) 89 = .ok (.iload 5, 2) := by decide +kernel
theorem d_S_rowAfter_91 : decode (qB q_S_rowAfter) 91 = .ok (.iload_n 2, 1) := by decide +kernel
theorem d_S_rowAfter_92 : decode (qB q_S_rowAfter) 92 = .ok (.iload 6, 2) := by decide +kernel
theorem d_S_rowAfter_94 : decode (qB q_S_rowAfter) 94 = .ok (.iload 7, 2) := by decide +kernel
theorem d_S_rowAfter_96 : decode (qB q_S_rowAfter) 96 = .ok (.invokevirtual 121, 3) := by decide +kernel
theorem d_S_rowAfter_99 : decode (qB q_S_rowAfter) 99 = .ok (.istore 8, 2) := by decide +kernel
theorem d_S_rowAfter_101 : decode (qB q_S_rowAfter) 101 = .ok (.aload_n 0, 1) := by decide +kernel
theorem d_S_rowAfter_102 : decode (qB q_S_rowAfter) 102 = .ok (.getfield 26, 3) := by decide +kernel
theorem d_S_rowAfter_105 : decode (qB q_S_rowAfter) 105 = .ok (.iload 8, 2) := by decide +kernel
theorem d_S_rowAfter_107 : decode (qB q_S_rowAfter) 107 = .ok (.invokevirtual 191, 3) := by decide +kernel
theorem d_S_rowAfter_110 : decode (qB q_S_rowAfter) 110 = .ok (.ifCond .ne 5, 3) := by decide +kernel
theorem d_S_rowAfter_113 : decode (qB q_S_rowAfter) 113 = .ok (.iconst (-1), 1) := by decide +kernel
theorem d_S_rowAfter_114 : decode (qB q_S_rowAfter) 114 = .ok (.ireturn, 1) := by decide +kernel
theorem d_S_rowAfter_115 : decode (qB q_S_rowAfter) 115 = .ok (.aload_n 0, 1) := by decide +kernel
theorem d_S_rowAfter_116 : decode (qB q_S_rowAfter) 116 = .ok (.getfield 26, 3) := by decide +kernel
theorem d_S_rowAfter_119 : decode (qB q_S_rowAfter) 119 = .ok (.getfield 84, 3) := by decide +kernel
theorem d_S_rowAfter_122 : decode (qB q_S_rowAfter) 122 = .ok (.iload 8, 2) := by decide +kernel
theorem d_S_rowAfter_124 : decode (qB q_S_rowAfter) 124 = .ok (.laload, 1) := by decide +kernel
theorem d_S_rowAfter_125 : decode (qB q_S_rowAfter) 125 = .ok (.getstatic 157, 3) := by decide +kernel
theorem d_S_rowAfter_128 : decode (qB q_S_rowAfter) 128 = .ok (.iload_n 2, 1) := by decide +kernel
theorem d_S_rowAfter_129 : decode (qB q_S_rowAfter) 129 = .ok (.iaload, 1) := by decide +kernel
theorem d_S_rowAfter_130 : decode (qB q_S_rowAfter) 130 = .ok (.i2l, 1) := by decide +kernel
theorem d_S_rowAfter_131 : decode (qB q_S_rowAfter) 131 = .ok (.aload_n 0, 1) := by decide +kernel
theorem d_S_rowAfter_132 : decode (qB q_S_rowAfter) 132 = .ok (.getfield 34, 3) := by decide +kernel
theorem d_S_rowAfter_135 : decode (qB q_S_rowAfter) 135 = .ok (.iload 5, 2) := by decide +kernel
theorem d_S_rowAfter_137 : decode (qB q_S_rowAfter) 137 = .ok (.laload, 1) := by decide +kernel
theorem d_S_rowAfter_138 : decode (qB q_S_rowAfter) 138 = .ok (.lmul, 1) := by decide +kernel
theorem d_S_rowAfter_139 : decode (qB q_S_rowAfter) 139 = .ok (.ladd, 1) := by decide +kernel
theorem d_S_rowAfter_140 : decode (qB q_S_rowAfter) 140 = .ok (.lstore 9, 2) := by decide +kernel
theorem d_S_rowAfter_142 : decode (qB q_S_rowAfter) 142 = .ok (.iload 4, 2) := by decide +kernel
theorem d_S_rowAfter_144 : decode (qB q_S_rowAfter) 144 = .ok (.bipush 16, 2) := by decide +kernel
theorem d_S_rowAfter_146 : decode (qB q_S_rowAfter) 146 = .ok (.if_icmp .eq 13, 3) := by decide +kernel
theorem d_S_rowAfter_149 : decode (qB q_S_rowAfter) 149 = .ok (.iload 4, 2) := by decide +kernel
theorem d_S_rowAfter_151 : decode (qB q_S_rowAfter) 151 = .ok (.iload_n 2, 1) := by decide +kernel
theorem d_S_rowAfter_152 : decode (qB q_S_rowAfter) 152 = .ok (.if_icmp .eq 7, 3) := by decide +kernel
theorem d_S_rowAfter_155 : decode (qB q_S_rowAfter) 155 = .ok (.iconst 1, 1) := by decide +kernel
theorem d_S_rowAfter_156 : decode (qB q_S_rowAfter) 156 = .ok (.goto 4, 3) := by decide +kernel
theorem d_S_rowAfter_159 : decode (qB q_S_rowAfter) 159 = .ok (.iconst 0, 1) := by decide +kernel
theorem d_S_rowAfter_160 : decode (qB q_S_rowAfter) 160 = .ok (.istore 11, 2) := by decide +kernel
theorem d_S_rowAfter_162 : decode (qB q_S_rowAfter) 162 = .ok (.aload_n 0, 1) := by decide +kernel
theorem d_S_rowAfter_163 : decode (qB q_S_rowAfter) 163 = .ok (.getfield 26, 3) := by decide +kernel
theorem d_S_rowAfter_166 : decode (qB q_S_rowAfter) 166 = .ok (.iload 8, 2) := by decide +kernel
theorem d_S_rowAfter_168 : decode (qB q_S_rowAfter) 168 = .ok (.invokevirtual 160, 3) := by decide +kernel
theorem d_S_rowAfter_171 : decode (qB q_S_rowAfter) 171 = .ok (.lconst 1, 1) := by decide +kernel
theorem d_S_rowAfter_172 : decode (qB q_S_rowAfter) 172 = .ok (.ladd, 1) := by decide +kernel
theorem d_S_rowAfter_173 : decode (qB q_S_rowAfter) 173 = .ok (.iload 11, 2) := by decide +kernel
theorem d_S_rowAfter_175 : decode (qB q_S_rowAfter) 175 = .ok (.ifCond .eq 9, 3) := by decide +kernel
theorem d_S_rowAfter_178 : decode (qB q_S_rowAfter) 178 = .ok (.ldc2_w 163, 3) := by decide +kernel
theorem d_S_rowAfter_181 : decode (qB q_S_rowAfter) 181 = .ok (.goto 4, 3) := by decide +kernel
theorem d_S_rowAfter_184 : decode (qB q_S_rowAfter) 184 = .ok (.lconst 0, 1) := by decide +kernel
theorem d_S_rowAfter_185 : decode (qB q_S_rowAfter) 185 = .ok (.ladd, 1) := by decide +kernel
theorem d_S_rowAfter_186 : decode (qB q_S_rowAfter) 186 = .ok (.lstore 12, 2) := by decide +kernel
theorem d_S_rowAfter_188 : decode (qB q_S_rowAfter) 188 = .ok (.lload 9, 2) := by decide +kernel
theorem d_S_rowAfter_190 : decode (qB q_S_rowAfter) 190 = .ok (.aload_n 0, 1) := by decide +kernel
theorem d_S_rowAfter_191 : decode (qB q_S_rowAfter) 191 = .ok (.getfield 26, 3) := by decide +kernel
theorem d_S_rowAfter_194 : decode (qB q_S_rowAfter) 194 = .ok (.getfield 84, 3) := by decide +kernel
theorem d_S_rowAfter_197 : decode (qB q_S_rowAfter) 197 = .ok (.iload_n 1, 1) := by decide +kernel
theorem d_S_rowAfter_198 : decode (qB q_S_rowAfter) 198 = .ok (.laload, 1) := by decide +kernel
theorem d_S_rowAfter_199 : decode (qB q_S_rowAfter) 199 = .ok (.lcmp, 1) := by decide +kernel
theorem d_S_rowAfter_200 : decode (qB q_S_rowAfter) 200 = .ok (.ifCond .ne 22, 3) := by decide +kernel
theorem d_S_rowAfter_203 : decode (qB q_S_rowAfter) 203 = .ok (.lload 12, 2) := by decide +kernel
theorem d_S_rowAfter_205 : decode (qB q_S_rowAfter) 205 = .ok (.aload_n 0, 1) := by decide +kernel
theorem d_S_rowAfter_206 : decode (qB q_S_rowAfter) 206 = .ok (.getfield 26, 3) := by decide +kernel
theorem d_S_rowAfter_209 : decode (qB q_S_rowAfter) 209 = .ok (.iload_n 1, 1) := by decide +kernel
theorem d_S_rowAfter_210 : decode (qB q_S_rowAfter) 210 = .ok (.invokevirtual 160, 3) := by decide +kernel
theorem d_S_rowAfter_213 : decode (qB q_S_rowAfter) 213 = .ok (.lcmp, 1) := by decide +kernel
theorem d_S_rowAfter_214 : decode (qB q_S_rowAfter) 214 = .ok (.ifCond .ne 8, 3) := by decide +kernel
theorem d_S_rowAfter_217 : decode (qB q_S_rowAfter) 217 = .ok (.iload 8, 2) := by decide +kernel
theorem d_S_rowAfter_219 : decode (qB q_S_rowAfter) 219 = .ok (.goto 4, 3) := by decide +kernel
theorem d_S_rowAfter_222 : decode (qB q_S_rowAfter) 222 = .ok (.iconst (-1), 1) := by decide +kernel
theorem d_S_rowAfter_223 : decode (qB q_S_rowAfter) 223 = .ok (.ireturn, 1) := by decide +kernel
set_option maxRecDepth 10000 in
theorem k_S_rowAfter {G : mxG} (hG : mx_GG G) : ∀ pc r, t_S_rowAfter pc = some r → mx_Ok G mx_W mx_MT q_S_rowAfter pc r := (bn_ok (bn_ok (bn_ok (bn_ok (bn_ok (bn_ok (bl_ok (ok_aload_n rfl d_S_rowAfter_0)) (bn_ok (bl_ok (ok_getf d_S_rowAfter_1 (cl_2 hG) (by decide) w_151)) (bl_ok (ok_iload_n rfl d_S_rowAfter_4)))) (bn_ok (bn_ok (bl_ok (ok_cv mx_W_good (cl_3 hG) d_S_rowAfter_5 (mt_Q_codeOf) mk_Q_codeOf w_350 w_351 w_352 (by decide) (by decide))) (bl_ok (ok_istore_n rfl d_S_rowAfter_8 (by decide)))) (bn_ok (bl_ok (ok_iload_n rfl d_S_rowAfter_9)) (bl_ok (ok_cs mx_W_good d_S_rowAfter_10 (mt_S_headingOf) mk_S_headingOf w_355 w_356 (by decide) (by decide)))))) (bn_ok (bn_ok (bl_ok (ok_istore d_S_rowAfter_13 (by decide))) (bn_ok (bl_ok (ok_aload_n rfl d_S_rowAfter_15)) (bl_ok (ok_getf d_S_rowAfter_16 (cl_2 hG) (by decide) w_150)))) (bn_ok (bn_ok (bl_ok (ok_iload_n rfl d_S_rowAfter_19)) (bl_ok (ok_sipush (by decide) d_S_rowAfter_20))) (bn_ok (bl_ok (ok_idiv d_S_rowAfter_23)) (bl_ok (ok_iload d_S_rowAfter_24)))))) (bn_ok (bn_ok (bn_ok (bl_ok (ok_iload_n rfl d_S_rowAfter_26)) (bn_ok (bl_ok (ok_cv mx_W_good (cl_1 hG) d_S_rowAfter_27 (mt_G_moveFrom) mk_G_moveFrom w_418 w_419 w_420 (by decide) (by decide))) (bl_ok (ok_istore d_S_rowAfter_30 (by decide))))) (bn_ok (bn_ok (bl_ok (ok_iload d_S_rowAfter_32)) (bl_ok (ok_ifge d_S_rowAfter_34 (by decide)))) (bn_ok (bl_ok (ok_iconst (by decide) d_S_rowAfter_37)) (bl_ok (ok_ireturn d_S_rowAfter_38 rfl))))) (bn_ok (bn_ok (bn_ok (bl_ok (ok_aload_n rfl d_S_rowAfter_39)) (bl_ok (ok_getf d_S_rowAfter_40 (cl_2 hG) (by decide) w_150))) (bn_ok (bl_ok (ok_iload d_S_rowAfter_43)) (bl_ok (ok_iload_n rfl d_S_rowAfter_45)))) (bn_ok (bn_ok (bl_ok (ok_cs mx_W_good d_S_rowAfter_46 (mt_S_bridgedOf) mk_S_bridgedOf w_377 w_378 (by decide) (by decide))) (bl_ok (ok_cv mx_W_good (cl_1 hG) d_S_rowAfter_49 (mt_G_bridgedUpTo) mk_G_bridgedUpTo w_429 w_430 w_431 (by decide) (by decide)))) (bn_ok (bl_ok (ok_istore d_S_rowAfter_52 (by decide))) (bl_ok (ok_iload_n rfl d_S_rowAfter_54))))))) (bn_ok (bn_ok (bn_ok (bn_ok (bl_ok (ok_bipush (by decide) d_S_rowAfter_55)) (bn_ok (bl_ok (ok_irem d_S_rowAfter_57)) (bl_ok (ok_aload_n rfl d_S_rowAfter_58)))) (bn_ok (bn_ok (bl_ok (ok_getf d_S_rowAfter_59 (cl_2 hG) (by decide) w_154)) (bl_ok (ok_iload d_S_rowAfter_62))) (bn_ok (bl_ok (ok_zald d_S_rowAfter_64 (kt_2 hG))) (bl_ok (ok_ifeq d_S_rowAfter_65 (by decide)))))) (bn_ok (bn_ok (bn_ok (bl_ok (ok_iconst (by decide) d_S_rowAfter_68)) (bl_ok (ok_goto d_S_rowAfter_69 (by decide)))) (bn_ok (bl_ok (ok_iconst (by decide) d_S_rowAfter_72)) (bl_ok (ok_isub d_S_rowAfter_73)))) (bn_ok (bn_ok (bl_ok (ok_istore d_S_rowAfter_74 (by decide))) (bl_ok (ok_iload d_S_rowAfter_76))) (bn_ok (bl_ok (ok_iflt d_S_rowAfter_78 (by decide))) (bl_ok (ok_iload d_S_rowAfter_81)))))) (bn_ok (bn_ok (bn_ok (bl_ok (ok_ifge d_S_rowAfter_83 (by decide))) (bn_ok (bl_ok (ok_iconst (by decide) d_S_rowAfter_86)) (bl_ok (ok_ireturn d_S_rowAfter_87 rfl)))) (bn_ok (bn_ok (bl_ok (ok_aload_n rfl d_S_rowAfter_88)) (bl_ok (ok_iload d_S_rowAfter_89))) (bn_ok (bl_ok (ok_iload_n rfl d_S_rowAfter_91)) (bl_ok (ok_iload d_S_rowAfter_92))))) (bn_ok (bn_ok (bn_ok (bl_ok (ok_iload d_S_rowAfter_94)) (bl_ok (ok_cv mx_W_good (cl_2 hG) d_S_rowAfter_96 (mt_S_rowOf) mk_S_rowOf w_323 w_325 ws_S_rowOf (by decide) (by decide)))) (bn_ok (bl_ok (ok_istore d_S_rowAfter_99 (by decide))) (bl_ok (ok_aload_n rfl d_S_rowAfter_101)))) (bn_ok (bn_ok (bl_ok (ok_getf d_S_rowAfter_102 (cl_2 hG) (by decide) w_151)) (bl_ok (ok_iload d_S_rowAfter_105))) (bn_ok (bl_ok (ok_cv mx_W_good (cl_3 hG) d_S_rowAfter_107 (mt_Q_isTaken) mk_Q_isTaken w_433 w_434 w_435 (by decide) (by decide))) (bl_ok (ok_ifne d_S_rowAfter_110 (by decide))))))))) (bn_ok (bn_ok (bn_ok (bn_ok (bn_ok (bl_ok (ok_iconst (by decide) d_S_rowAfter_113)) (bn_ok (bl_ok (ok_ireturn d_S_rowAfter_114 rfl)) (bl_ok (ok_aload_n rfl d_S_rowAfter_115)))) (bn_ok (bn_ok (bl_ok (ok_getf d_S_rowAfter_116 (cl_2 hG) (by decide) w_151)) (bl_ok (ok_getf d_S_rowAfter_119 (cl_3 hG) (by decide) w_130))) (bn_ok (bl_ok (ok_iload d_S_rowAfter_122)) (bl_ok (ok_lald d_S_rowAfter_124 (kt_1 hG)))))) (bn_ok (bn_ok (bn_ok (bl_ok (ok_getsN d_S_rowAfter_125 (by decide) (mx_zin hG (by decide +kernel)) (mx_nin hG (by decide +kernel : Cond.fieldLinkNest "CorridorCells$Search" 157 "CorridorCells" "LENGTHS" "[I" "CorridorCells" ∈ mx_ns)))) (bl_ok (ok_iload_n rfl d_S_rowAfter_128))) (bn_ok (bl_ok (ok_iald d_S_rowAfter_129 (kt_0 hG))) (bl_ok (ok_i2l d_S_rowAfter_130)))) (bn_ok (bn_ok (bl_ok (ok_aload_n rfl d_S_rowAfter_131)) (bl_ok (ok_getf d_S_rowAfter_132 (cl_2 hG) (by decide) w_153))) (bn_ok (bl_ok (ok_iload d_S_rowAfter_135)) (bl_ok (ok_lald d_S_rowAfter_137 (kt_1 hG))))))) (bn_ok (bn_ok (bn_ok (bl_ok (ok_lmul d_S_rowAfter_138)) (bn_ok (bl_ok (ok_ladd d_S_rowAfter_139)) (bl_ok (ok_lstore d_S_rowAfter_140 (by decide))))) (bn_ok (bn_ok (bl_ok (ok_iload d_S_rowAfter_142)) (bl_ok (ok_bipush (by decide) d_S_rowAfter_144))) (bn_ok (bl_ok (ok_iceq d_S_rowAfter_146 (by decide))) (bl_ok (ok_iload d_S_rowAfter_149))))) (bn_ok (bn_ok (bn_ok (bl_ok (ok_iload_n rfl d_S_rowAfter_151)) (bl_ok (ok_iceq d_S_rowAfter_152 (by decide)))) (bn_ok (bl_ok (ok_iconst (by decide) d_S_rowAfter_155)) (bl_ok (ok_goto d_S_rowAfter_156 (by decide))))) (bn_ok (bn_ok (bl_ok (ok_iconst (by decide) d_S_rowAfter_159)) (bl_ok (ok_istore d_S_rowAfter_160 (by decide)))) (bn_ok (bl_ok (ok_aload_n rfl d_S_rowAfter_162)) (bl_ok (ok_getf d_S_rowAfter_163 (cl_2 hG) (by decide) w_151))))))) (bn_ok (bn_ok (bn_ok (bn_ok (bl_ok (ok_iload d_S_rowAfter_166)) (bn_ok (bl_ok (ok_cv mx_W_good (cl_3 hG) d_S_rowAfter_168 (mt_Q_stepsOf) mk_Q_stepsOf w_388 w_389 w_390 (by decide) (by decide))) (bl_ok (ok_lconst (by decide) d_S_rowAfter_171)))) (bn_ok (bn_ok (bl_ok (ok_ladd d_S_rowAfter_172)) (bl_ok (ok_iload d_S_rowAfter_173))) (bn_ok (bl_ok (ok_ifeq d_S_rowAfter_175 (by decide))) (bl_ok (ok_ldc2 d_S_rowAfter_178 w_392))))) (bn_ok (bn_ok (bn_ok (bl_ok (ok_goto d_S_rowAfter_181 (by decide))) (bl_ok (ok_lconst (by decide) d_S_rowAfter_184))) (bn_ok (bl_ok (ok_ladd d_S_rowAfter_185)) (bl_ok (ok_lstore d_S_rowAfter_186 (by decide))))) (bn_ok (bn_ok (bl_ok (ok_lload d_S_rowAfter_188)) (bl_ok (ok_aload_n rfl d_S_rowAfter_190))) (bn_ok (bl_ok (ok_getf d_S_rowAfter_191 (cl_2 hG) (by decide) w_151)) (bl_ok (ok_getf d_S_rowAfter_194 (cl_3 hG) (by decide) w_130)))))) (bn_ok (bn_ok (bn_ok (bl_ok (ok_iload_n rfl d_S_rowAfter_197)) (bn_ok (bl_ok (ok_lald d_S_rowAfter_198 (kt_1 hG))) (bl_ok (ok_lcmp d_S_rowAfter_199)))) (bn_ok (bn_ok (bl_ok (ok_ifne d_S_rowAfter_200 (by decide))) (bl_ok (ok_lload d_S_rowAfter_203))) (bn_ok (bl_ok (ok_aload_n rfl d_S_rowAfter_205)) (bl_ok (ok_getf d_S_rowAfter_206 (cl_2 hG) (by decide) w_151))))) (bn_ok (bn_ok (bn_ok (bl_ok (ok_iload_n rfl d_S_rowAfter_209)) (bl_ok (ok_cv mx_W_good (cl_3 hG) d_S_rowAfter_210 (mt_Q_stepsOf) mk_Q_stepsOf w_388 w_389 w_390 (by decide) (by decide)))) (bn_ok (bl_ok (ok_lcmp d_S_rowAfter_213)) (bl_ok (ok_ifne d_S_rowAfter_214 (by decide))))) (bn_ok (bn_ok (bl_ok (ok_iload d_S_rowAfter_217)) (bl_ok (ok_goto d_S_rowAfter_219 (by decide)))) (bn_ok (bl_ok (ok_iconst (by decide) d_S_rowAfter_222)) (bl_ok (ok_ireturn d_S_rowAfter_223 rfl)))))))))
