theorem d_X_init_0 : decode (qB q_X_init) 0 = .ok (.aload_n 0, 1) := by decide +kernel
theorem d_X_init_1 : decode (qB q_X_init) 1 = .ok (.invokespecial 1, 3) := by decide +kernel
theorem d_X_init_4 : decode (qB q_X_init) 4 = .ok (.aload_n 0, 1) := by decide +kernel
theorem d_X_init_5 : decode (qB q_X_init) 5 = .ok (.new 7, 3) := by decide +kernel
theorem d_X_init_8 : decode (qB q_X_init) 8 = .ok (.dup, 1) := by decide +kernel
theorem d_X_init_9 : decode (qB q_X_init) 9 = .ok (.iconst 1, 1) := by decide +kernel
theorem d_X_init_10 : decode (qB q_X_init) 10 = .ok (.bipush 12, 2) := by decide +kernel
theorem d_X_init_12 : decode (qB q_X_init) 12 = .ok (.iload_n 1, 1) := by decide +kernel
theorem d_X_init_13 : decode (qB q_X_init) 13 = .ok (.invokestatic 11, 3) := by decide +kernel
theorem d_X_init_16 : decode (qB q_X_init) 16 = .ok (.invokestatic 17, 3) := by decide +kernel
theorem d_X_init_19 : decode (qB q_X_init) 19 = .ok (.iconst 1, 1) := by decide +kernel
theorem d_X_init_20 : decode (qB q_X_init) 20 = .ok (.bipush 12, 2) := by decide +kernel
theorem d_X_init_22 : decode (qB q_X_init) 22 = .ok (.iload_n 2, 1) := by decide +kernel
theorem d_X_init_23 : decode (qB q_X_init) 23 = .ok (.invokestatic 11, 3) := by decide +kernel
theorem d_X_init_26 : decode (qB q_X_init) 26 = .ok (.invokestatic 17, 3) := by decide +kernel
theorem d_X_init_29 : decode (qB q_X_init) 29 = .ok (.invokespecial 20, 3) := by decide +kernel
theorem d_X_init_32 : decode (qB q_X_init) 32 = .ok (.putfield 23, 3) := by decide +kernel
theorem d_X_init_35 : decode (qB q_X_init) 35 = .ok (.aload_n 0, 1) := by decide +kernel
theorem d_X_init_36 : decode (qB q_X_init) 36 = .ok (.new 27, 3) := by decide +kernel
theorem d_X_init_39 : decode (qB q_X_init) 39 = .ok (.dup, 1) := by decide +kernel
theorem d_X_init_40 : decode (qB q_X_init) 40 = .ok (.aload_n 0, 1) := by decide +kernel
theorem d_X_init_41 : decode (qB q_X_init) 41 = .ok (.getfield 23, 3) := by decide +kernel
theorem d_X_init_44 : decode (qB q_X_init) 44 = .ok (.invokespecial 29, 3) := by decide +kernel
theorem d_X_init_47 : decode (qB q_X_init) 47 = .ok (.putfield 32, 3) := by decide +kernel
theorem d_X_init_50 : decode (qB q_X_init) 50 = .ok (.aload_n 0, 1) := by decide +kernel
theorem d_X_init_51 : decode (qB q_X_init) 51 = .ok (.bipush 6, 2) := by decide +kernel
theorem d_X_init_53 : decode (qB q_X_init) 53 = .ok (.anewarray 36, 3) := by decide +kernel
theorem d_X_init_56 : decode (qB q_X_init) 56 = .ok (.putfield 38, 3) := by decide +kernel
theorem d_X_init_59 : decode (qB q_X_init) 59 = .ok (.iconst 0, 1) := by decide +kernel
theorem d_X_init_60 : decode (qB q_X_init) 60 = .ok (.istore_n 3, 1) := by decide +kernel
theorem d_X_init_61 : decode (qB q_X_init) 61 = .ok (.iload_n 3, 1) := by decide +kernel
theorem d_X_init_62 : decode (qB q_X_init) 62 = .ok (.bipush 6, 2) := by decide +kernel
theorem d_X_init_64 : decode (qB q_X_init) 64 = .ok (.if_icmp .ge 22, 3) := by decide +kernel
theorem d_X_init_67 : decode (qB q_X_init) 67 = .ok (.aload_n 0, 1) := by decide +kernel
theorem d_X_init_68 : decode (qB q_X_init) 68 = .ok (.getfield 38, 3) := by decide +kernel
theorem d_X_init_71 : decode (qB q_X_init) 71 = .ok (.iload_n 3, 1) := by decide +kernel
theorem d_X_init_72 : decode (qB q_X_init) 72 = .ok (.new 36, 3) := by decide +kernel
theorem d_X_init_75 : decode (qB q_X_init) 75 = .ok (.dup, 1) := by decide +kernel
theorem d_X_init_76 : decode (qB q_X_init) 76 = .ok (.invokespecial 42, 3) := by decide +kernel
theorem d_X_init_79 : decode (qB q_X_init) 79 = .ok (.aastore, 1) := by decide +kernel
theorem d_X_init_80 : decode (qB q_X_init) 80 = .ok (.iinc 3 1, 3) := by decide +kernel
theorem d_X_init_83 : decode (qB q_X_init) 83 = .ok (.goto (-22), 3) := by decide +kernel
theorem d_X_init_86 : decode (qB q_X_init) 86 = .ok (.aload_n 0, 1) := by decide +kernel
theorem d_X_init_87 : decode (qB q_X_init) 87 = .ok (.iconst 0, 1) := by decide +kernel
theorem d_X_init_88 : decode (qB q_X_init) 88 = .ok (.putfield 43, 3) := by decide +kernel
theorem d_X_init_91 : decode (qB q_X_init) 91 = .ok (.aload_n 0, 1) := by decide +kernel
theorem d_X_init_92 : decode (qB q_X_init) 92 = .ok (.lconst 0, 1) := by decide +kernel
theorem d_X_init_93 : decode (qB q_X_init) 93 = .ok (.putfield 47, 3) := by decide +kernel
theorem d_X_init_96 : decode (qB q_X_init) 96 = .ok (.aload_n 0, 1) := by decide +kernel
theorem d_X_init_97 : decode (qB q_X_init) 97 = .ok (.ldc2_w 51, 3) := by decide +kernel
theorem d_X_init_100 : decode (qB q_X_init) 100 = .ok (.putfield 53, 3) := by decide +kernel
theorem d_X_init_103 : decode (qB q_X_init) 103 = .ok (.aload_n 0, 1) := by decide +kernel
theorem d_X_init_104 : decode (qB q_X_init) 104 = .ok (.iconst 0, 1) := by decide +kernel
theorem d_X_init_105 : decode (qB q_X_init) 105 = .ok (.putfield 56, 3) := by decide +kernel
theorem d_X_init_108 : decode (qB q_X_init) 108 = .ok (.return_, 1) := by decide +kernel
set_option maxRecDepth 10000 in
theorem k_X_init {G : mxG} (hG : mx_GG G) : ∀ pc r, t_X_init pc = some r → mx_Ok G mx_W mx_MT q_X_init pc r := (bn_ok (bn_ok (bn_ok (bn_ok (bn_ok (bl_ok (ok_aload_n rfl d_X_init_0)) (bn_ok (bl_ok (ok_oin d_X_init_1 w_17 w_18 (w_oc) (by decide) (by decide))) (bl_ok (ok_aload_n rfl d_X_init_4)))) (bn_ok (bl_ok (ok_new d_X_init_5 (cl_1 hG) w_20 w_21 w_2 rfl (df_1_ok) rfl)) (bn_ok (bl_ok (ok_dup d_X_init_8)) (bl_ok (ok_iconst (by decide) d_X_init_9))))) (bn_ok (bn_ok (bl_ok (ok_bipush (by decide) d_X_init_10)) (bn_ok (bl_ok (ok_iload_n rfl d_X_init_12)) (bl_ok (ok_cs mx_W_good d_X_init_13 (mt_JM_min_I) mk_JM_min_I w_22 w_23 (by decide) (by decide))))) (bn_ok (bn_ok (bl_ok (ok_cs mx_W_good d_X_init_16 (mt_JM_max) mk_JM_max w_25 w_26 (by decide) (by decide))) (bl_ok (ok_iconst (by decide) d_X_init_19))) (bn_ok (bl_ok (ok_bipush (by decide) d_X_init_20)) (bl_ok (ok_iload_n rfl d_X_init_22)))))) (bn_ok (bn_ok (bn_ok (bl_ok (ok_cs mx_W_good d_X_init_23 (mt_JM_min_I) mk_JM_min_I w_22 w_23 (by decide) (by decide))) (bn_ok (bl_ok (ok_cs mx_W_good d_X_init_26 (mt_JM_max) mk_JM_max w_25 w_26 (by decide) (by decide))) (bl_ok (ok_ci mx_W_good d_X_init_29 (mt_G_init) mk_G_init rfl rfl w_28 w_29 (by decide) (by decide))))) (bn_ok (bn_ok (bl_ok (ok_putf d_X_init_32 (cl_0 hG) (by decide) w_206 rfl (Or.inr ⟨rfl, rfl, rfl⟩))) (bl_ok (ok_aload_n rfl d_X_init_35))) (bn_ok (bl_ok (ok_new d_X_init_36 (cl_2 hG) w_117 w_118 w_4 rfl (df_2_ok) rfl)) (bl_ok (ok_dup d_X_init_39))))) (bn_ok (bn_ok (bl_ok (ok_aload_n rfl d_X_init_40)) (bn_ok (bl_ok (ok_getf d_X_init_41 (cl_0 hG) (by decide) w_206)) (bl_ok (ok_ci mx_W_good d_X_init_44 (mt_S_init) mk_S_init rfl rfl w_119 w_120 (by decide) (by decide))))) (bn_ok (bn_ok (bl_ok (ok_putf d_X_init_47 (cl_0 hG) (by decide) w_207 rfl (Or.inr ⟨rfl, rfl, rfl⟩))) (bl_ok (ok_aload_n rfl d_X_init_50))) (bn_ok (bl_ok (ok_bipush (by decide) d_X_init_51)) (bl_ok (ok_anew d_X_init_53 w_182 (mx_nin hG (by decide +kernel : Cond.arrayOver (.object "CorridorCells$Way") ∈ mx_ns)) (kt_3 hG) (by decide)))))))) (bn_ok (bn_ok (bn_ok (bn_ok (bl_ok (ok_putf d_X_init_56 (cl_0 hG) (by decide) w_208 rfl (Or.inr ⟨rfl, rfl, rfl⟩))) (bn_ok (bl_ok (ok_iconst (by decide) d_X_init_59)) (bl_ok (ok_istore_n rfl d_X_init_60 (by decide))))) (bn_ok (bn_ok (bl_ok (ok_iload_n rfl d_X_init_61)) (bl_ok (ok_bipush (by decide) d_X_init_62))) (bn_ok (bl_ok (ok_icge d_X_init_64 (by decide))) (bl_ok (ok_aload_n rfl d_X_init_67))))) (bn_ok (bn_ok (bl_ok (ok_getf d_X_init_68 (cl_0 hG) (by decide) w_208)) (bn_ok (bl_ok (ok_iload_n rfl d_X_init_71)) (bl_ok (ok_new d_X_init_72 (cl_4 hG) w_182 w_184 w_6 rfl (df_4_ok) rfl)))) (bn_ok (bn_ok (bl_ok (ok_dup d_X_init_75)) (bl_ok (ok_ciN mx_W_good d_X_init_76 (mt_W_init) mk_W_init rfl rfl (mx_nin hG (by decide +kernel : Cond.methodLinkNest "CorridorCells" 42 ⟨"CorridorCells$Way", "<init>", "()V"⟩ "CorridorCells" ∈ mx_ns)) w_186 (by decide) (by decide)))) (bn_ok (bl_ok (ok_aast d_X_init_79 (cl_4 hG) (kt_3 hG) (by decide))) (bl_ok (ok_iinc d_X_init_80 (by decide) (by decide))))))) (bn_ok (bn_ok (bn_ok (bl_ok (ok_goto d_X_init_83 (by decide))) (bn_ok (bl_ok (ok_aload_n rfl d_X_init_86)) (bl_ok (ok_iconst (by decide) d_X_init_87)))) (bn_ok (bn_ok (bl_ok (ok_putf d_X_init_88 (cl_0 hG) (by decide) w_209 rfl (Or.inl rfl))) (bl_ok (ok_aload_n rfl d_X_init_91))) (bn_ok (bl_ok (ok_lconst (by decide) d_X_init_92)) (bl_ok (ok_putf d_X_init_93 (cl_0 hG) (by decide) w_210 rfl (Or.inl rfl)))))) (bn_ok (bn_ok (bl_ok (ok_aload_n rfl d_X_init_96)) (bn_ok (bl_ok (ok_ldc2 d_X_init_97 w_205)) (bl_ok (ok_putf d_X_init_100 (cl_0 hG) (by decide) w_211 rfl (Or.inl rfl))))) (bn_ok (bn_ok (bl_ok (ok_aload_n rfl d_X_init_103)) (bl_ok (ok_iconst (by decide) d_X_init_104))) (bn_ok (bl_ok (ok_putf d_X_init_105 (cl_0 hG) (by decide) w_212 rfl (Or.inl rfl))) (bl_ok (ok_return d_X_init_108 rfl))))))))
theorem d_X_cell_0 : decode (qB q_X_cell) 0 = .ok (.aload_n 0, 1) := by decide +kernel
theorem d_X_cell_1 : decode (qB q_X_cell) 1 = .ok (.getfield 23, 3) := by decide +kernel
theorem d_X_cell_4 : decode (qB q_X_cell) 4 = .ok (.iload_n 1, 1) := by decide +kernel
theorem d_X_cell_5 : decode (qB q_X_cell) 5 = .ok (.iload_n 2, 1) := by decide +kernel
theorem d_X_cell_6 : decode (qB q_X_cell) 6 = .ok (.invokevirtual 60, 3) := by decide +kernel
theorem d_X_cell_9 : decode (qB q_X_cell) 9 = .ok (.istore 5, 2) := by decide +kernel
theorem d_X_cell_11 : decode (qB q_X_cell) 11 = .ok (.iload 5, 2) := by decide +kernel
theorem d_X_cell_13 : decode (qB q_X_cell) 13 = .ok (.ifCond .lt 28, 3) := by decide +kernel
theorem d_X_cell_16 : decode (qB q_X_cell) 16 = .ok (.iload_n 3, 1) := by decide +kernel
theorem d_X_cell_17 : decode (qB q_X_cell) 17 = .ok (.i2l, 1) := by decide +kernel
theorem d_X_cell_18 : decode (qB q_X_cell) 18 = .ok (.lconst 0, 1) := by decide +kernel
theorem d_X_cell_19 : decode (qB q_X_cell) 19 = .ok (.ldc2_w 63, 3) := by decide +kernel
theorem d_X_cell_22 : decode (qB q_X_cell) 22 = .ok (.invokestatic 65, 3) := by decide +kernel
theorem d_X_cell_25 : decode (qB q_X_cell) 25 = .ok (.ifCond .eq 16, 3) := by decide +kernel
theorem d_X_cell_28 : decode (qB q_X_cell) 28 = .ok (.iload 4, 2) := by decide +kernel
theorem d_X_cell_30 : decode (qB q_X_cell) 30 = .ok (.i2l, 1) := by decide +kernel
theorem d_X_cell_31 : decode (qB q_X_cell) 31 = .ok (.lconst 0, 1) := by decide +kernel
theorem d_X_cell_32 : decode (qB q_X_cell) 32 = .ok (.ldc2_w 69, 3) := by decide +kernel
theorem d_X_cell_35 : decode (qB q_X_cell) 35 = .ok (.invokestatic 65, 3) := by decide +kernel
theorem d_X_cell_38 : decode (qB q_X_cell) 38 = .ok (.ifCond .ne 5, 3) := by decide +kernel
theorem d_X_cell_41 : decode (qB q_X_cell) 41 = .ok (.iconst 0, 1) := by decide +kernel
theorem d_X_cell_42 : decode (qB q_X_cell) 42 = .ok (.ireturn, 1) := by decide +kernel
theorem d_X_cell_43 : decode (qB q_X_cell) 43 = .ok (.aload_n 0, 1) := by decide +kernel
theorem d_X_cell_44 : decode (qB q_X_cell) 44 = .ok (.getfield 23, 3) := by decide +kernel
theorem d_X_cell_47 : decode (qB q_X_cell) 47 = .ok (.getfield 71, 3) := by decide +kernel
theorem d_X_cell_50 : decode (qB q_X_cell) 50 = .ok (.iload 5, 2) := by decide +kernel
theorem d_X_cell_52 : decode (qB q_X_cell) 52 = .ok (.iload_n 3, 1) := by decide +kernel
theorem d_X_cell_53 : decode (qB q_X_cell) 53 = .ok (.iastore, 1) := by decide +kernel
theorem d_X_cell_54 : decode (qB q_X_cell) 54 = .ok (.aload_n 0, 1) := by decide +kernel
theorem d_X_cell_55 : decode (qB q_X_cell) 55 = .ok (.getfield 23, 3) := by decide +kernel
theorem d_X_cell_58 : decode (qB q_X_cell) 58 = .ok (.getfield 75, 3) := by decide +kernel
theorem d_X_cell_61 : decode (qB q_X_cell) 61 = .ok (.iload 5, 2) := by decide +kernel
theorem d_X_cell_63 : decode (qB q_X_cell) 63 = .ok (.iload 4, 2) := by decide +kernel
theorem d_X_cell_65 : decode (qB q_X_cell) 65 = .ok (.iastore, 1) := by decide +kernel
theorem d_X_cell_66 : decode (qB q_X_cell) 66 = .ok (.iconst 1, 1) := by decide +kernel
theorem d_X_cell_67 : decode (qB q_X_cell) 67 = .ok (.ireturn, 1) := by decide +kernel
set_option maxRecDepth 10000 in
theorem k_X_cell {G : mxG} (hG : mx_GG G) : ∀ pc r, t_X_cell pc = some r → mx_Ok G mx_W mx_MT q_X_cell pc r := (bn_ok (bn_ok (bn_ok (bn_ok (bn_ok (bl_ok (ok_aload_n rfl d_X_cell_0)) (bl_ok (ok_getf d_X_cell_1 (cl_0 hG) (by decide) w_206))) (bn_ok (bl_ok (ok_iload_n rfl d_X_cell_4)) (bl_ok (ok_iload_n rfl d_X_cell_5)))) (bn_ok (bn_ok (bl_ok (ok_cv mx_W_good (cl_1 hG) d_X_cell_6 (mt_G_numberOf) mk_G_numberOf w_232 w_37 w_38 (by decide) (by decide))) (bl_ok (ok_istore d_X_cell_9 (by decide)))) (bn_ok (bl_ok (ok_iload d_X_cell_11)) (bn_ok (bl_ok (ok_iflt d_X_cell_13 (by decide))) (bl_ok (ok_iload_n rfl d_X_cell_16)))))) (bn_ok (bn_ok (bn_ok (bl_ok (ok_i2l d_X_cell_17)) (bl_ok (ok_lconst (by decide) d_X_cell_18))) (bn_ok (bl_ok (ok_ldc2 d_X_cell_19 w_233)) (bl_ok (ok_cs mx_W_good d_X_cell_22 (mt_X_within) mk_X_within w_234 w_235 (by decide) (by decide))))) (bn_ok (bn_ok (bl_ok (ok_ifeq d_X_cell_25 (by decide))) (bl_ok (ok_iload d_X_cell_28))) (bn_ok (bl_ok (ok_i2l d_X_cell_30)) (bn_ok (bl_ok (ok_lconst (by decide) d_X_cell_31)) (bl_ok (ok_ldc2 d_X_cell_32 w_237))))))) (bn_ok (bn_ok (bn_ok (bn_ok (bl_ok (ok_cs mx_W_good d_X_cell_35 (mt_X_within) mk_X_within w_234 w_235 (by decide) (by decide))) (bl_ok (ok_ifne d_X_cell_38 (by decide)))) (bn_ok (bl_ok (ok_iconst (by decide) d_X_cell_41)) (bl_ok (ok_zreturn d_X_cell_42 rfl)))) (bn_ok (bn_ok (bl_ok (ok_aload_n rfl d_X_cell_43)) (bl_ok (ok_getf d_X_cell_44 (cl_0 hG) (by decide) w_206))) (bn_ok (bl_ok (ok_getf d_X_cell_47 (cl_1 hG) (by decide) w_51)) (bn_ok (bl_ok (ok_iload d_X_cell_50)) (bl_ok (ok_iload_n rfl d_X_cell_52)))))) (bn_ok (bn_ok (bn_ok (bl_ok (ok_iast d_X_cell_53 (kt_0 hG))) (bl_ok (ok_aload_n rfl d_X_cell_54))) (bn_ok (bl_ok (ok_getf d_X_cell_55 (cl_0 hG) (by decide) w_206)) (bl_ok (ok_getf d_X_cell_58 (cl_1 hG) (by decide) w_53)))) (bn_ok (bn_ok (bl_ok (ok_iload d_X_cell_61)) (bl_ok (ok_iload d_X_cell_63))) (bn_ok (bl_ok (ok_iast d_X_cell_65 (kt_0 hG))) (bn_ok (bl_ok (ok_iconst (by decide) d_X_cell_66)) (bl_ok (ok_zreturn d_X_cell_67 rfl))))))))
theorem d_X_bar_0 : decode (qB q_X_bar) 0 = .ok (.aload_n 0, 1) := by decide +kernel
theorem d_X_bar_1 : decode (qB q_X_bar) 1 = .ok (.getfield 23, 3) := by decide +kernel
theorem d_X_bar_4 : decode (qB q_X_bar) 4 = .ok (.iload_n 1, 1) := by decide +kernel
theorem d_X_bar_5 : decode (qB q_X_bar) 5 = .ok (.iload_n 2, 1) := by decide +kernel
theorem d_X_bar_6 : decode (qB q_X_bar) 6 = .ok (.invokevirtual 60, 3) := by decide +kernel
theorem d_X_bar_9 : decode (qB q_X_bar) 9 = .ok (.istore_n 3, 1) := by decide +kernel
theorem d_X_bar_10 : decode (qB q_X_bar) 10 = .ok (.iload_n 3, 1) := by decide +kernel
theorem d_X_bar_11 : decode (qB q_X_bar) 11 = .ok (.ifCond .lt 15, 3) := by decide +kernel
theorem d_X_bar_14 : decode (qB q_X_bar) 14 = .ok (.aload_n 0, 1) := by decide +kernel
theorem d_X_bar_15 : decode (qB q_X_bar) 15 = .ok (.getfield 23, 3) := by decide +kernel
theorem d_X_bar_18 : decode (qB q_X_bar) 18 = .ok (.getfield 78, 3) := by decide +kernel
theorem d_X_bar_21 : decode (qB q_X_bar) 21 = .ok (.iload_n 3, 1) := by decide +kernel
theorem d_X_bar_22 : decode (qB q_X_bar) 22 = .ok (.baload, 1) := by decide +kernel
theorem d_X_bar_23 : decode (qB q_X_bar) 23 = .ok (.ifCond .eq 5, 3) := by decide +kernel
theorem d_X_bar_26 : decode (qB q_X_bar) 26 = .ok (.iconst 0, 1) := by decide +kernel
theorem d_X_bar_27 : decode (qB q_X_bar) 27 = .ok (.ireturn, 1) := by decide +kernel
theorem d_X_bar_28 : decode (qB q_X_bar) 28 = .ok (.aload_n 0, 1) := by decide +kernel
theorem d_X_bar_29 : decode (qB q_X_bar) 29 = .ok (.getfield 23, 3) := by decide +kernel
theorem d_X_bar_32 : decode (qB q_X_bar) 32 = .ok (.getfield 78, 3) := by decide +kernel
theorem d_X_bar_35 : decode (qB q_X_bar) 35 = .ok (.iload_n 3, 1) := by decide +kernel
theorem d_X_bar_36 : decode (qB q_X_bar) 36 = .ok (.iconst 1, 1) := by decide +kernel
theorem d_X_bar_37 : decode (qB q_X_bar) 37 = .ok (.bastore, 1) := by decide +kernel
theorem d_X_bar_38 : decode (qB q_X_bar) 38 = .ok (.iconst 1, 1) := by decide +kernel
theorem d_X_bar_39 : decode (qB q_X_bar) 39 = .ok (.ireturn, 1) := by decide +kernel
set_option maxRecDepth 10000 in
theorem k_X_bar {G : mxG} (hG : mx_GG G) : ∀ pc r, t_X_bar pc = some r → mx_Ok G mx_W mx_MT q_X_bar pc r := (bn_ok (bn_ok (bn_ok (bn_ok (bl_ok (ok_aload_n rfl d_X_bar_0)) (bn_ok (bl_ok (ok_getf d_X_bar_1 (cl_0 hG) (by decide) w_206)) (bl_ok (ok_iload_n rfl d_X_bar_4)))) (bn_ok (bl_ok (ok_iload_n rfl d_X_bar_5)) (bn_ok (bl_ok (ok_cv mx_W_good (cl_1 hG) d_X_bar_6 (mt_G_numberOf) mk_G_numberOf w_232 w_37 w_38 (by decide) (by decide))) (bl_ok (ok_istore_n rfl d_X_bar_9 (by decide)))))) (bn_ok (bn_ok (bl_ok (ok_iload_n rfl d_X_bar_10)) (bn_ok (bl_ok (ok_iflt d_X_bar_11 (by decide))) (bl_ok (ok_aload_n rfl d_X_bar_14)))) (bn_ok (bl_ok (ok_getf d_X_bar_15 (cl_0 hG) (by decide) w_206)) (bn_ok (bl_ok (ok_getf d_X_bar_18 (cl_1 hG) (by decide) w_55)) (bl_ok (ok_iload_n rfl d_X_bar_21)))))) (bn_ok (bn_ok (bn_ok (bl_ok (ok_zald d_X_bar_22 (kt_2 hG))) (bn_ok (bl_ok (ok_ifeq d_X_bar_23 (by decide))) (bl_ok (ok_iconst (by decide) d_X_bar_26)))) (bn_ok (bl_ok (ok_zreturn d_X_bar_27 rfl)) (bn_ok (bl_ok (ok_aload_n rfl d_X_bar_28)) (bl_ok (ok_getf d_X_bar_29 (cl_0 hG) (by decide) w_206))))) (bn_ok (bn_ok (bl_ok (ok_getf d_X_bar_32 (cl_1 hG) (by decide) w_55)) (bn_ok (bl_ok (ok_iload_n rfl d_X_bar_35)) (bl_ok (ok_iconst (by decide) d_X_bar_36)))) (bn_ok (bl_ok (ok_zast d_X_bar_37 (kt_2 hG))) (bn_ok (bl_ok (ok_iconst (by decide) d_X_bar_38)) (bl_ok (ok_zreturn d_X_bar_39 rfl)))))))
theorem d_X_moves_0 : decode (qB q_X_moves) 0 = .ok (.iload_n 1, 1) := by decide +kernel
theorem d_X_moves_1 : decode (qB q_X_moves) 1 = .ok (.i2l, 1) := by decide +kernel
theorem d_X_moves_2 : decode (qB q_X_moves) 2 = .ok (.lconst 1, 1) := by decide +kernel
theorem d_X_moves_3 : decode (qB q_X_moves) 3 = .ok (.ldc2_w 82, 3) := by decide +kernel
theorem d_X_moves_6 : decode (qB q_X_moves) 6 = .ok (.invokestatic 65, 3) := by decide +kernel
theorem d_X_moves_9 : decode (qB q_X_moves) 9 = .ok (.ifCond .eq 27, 3) := by decide +kernel
theorem d_X_moves_12 : decode (qB q_X_moves) 12 = .ok (.iload_n 2, 1) := by decide +kernel
theorem d_X_moves_13 : decode (qB q_X_moves) 13 = .ok (.i2l, 1) := by decide +kernel
theorem d_X_moves_14 : decode (qB q_X_moves) 14 = .ok (.lconst 0, 1) := by decide +kernel
theorem d_X_moves_15 : decode (qB q_X_moves) 15 = .ok (.ldc2_w 69, 3) := by decide +kernel
theorem d_X_moves_18 : decode (qB q_X_moves) 18 = .ok (.invokestatic 65, 3) := by decide +kernel
theorem d_X_moves_21 : decode (qB q_X_moves) 21 = .ok (.ifCond .eq 15, 3) := by decide +kernel
theorem d_X_moves_24 : decode (qB q_X_moves) 24 = .ok (.iload_n 3, 1) := by decide +kernel
theorem d_X_moves_25 : decode (qB q_X_moves) 25 = .ok (.i2l, 1) := by decide +kernel
theorem d_X_moves_26 : decode (qB q_X_moves) 26 = .ok (.lconst 0, 1) := by decide +kernel
theorem d_X_moves_27 : decode (qB q_X_moves) 27 = .ok (.ldc2_w 84, 3) := by decide +kernel
theorem d_X_moves_30 : decode (qB q_X_moves) 30 = .ok (.invokestatic 65, 3) := by decide +kernel
theorem d_X_moves_33 : decode (qB q_X_moves) 33 = .ok (.ifCond .ne 5, 3) := by decide +kernel
theorem d_X_moves_36 : decode (qB q_X_moves) 36 = .ok (.iconst 0, 1) := by decide +kernel
theorem d_X_moves_37 : decode (qB q_X_moves) 37 = .ok (.ireturn, 1) := by decide +kernel
theorem d_X_moves_38 : decode (qB q_X_moves) 38 = .ok (.aload_n 0, 1) := by decide +kernel
theorem d_X_moves_39 : decode (qB q_X_moves) 39 = .ok (.getfield 23, 3) := by decide +kernel
theorem d_X_moves_42 : decode (qB q_X_moves) 42 = .ok (.iload_n 1, 1) := by decide +kernel
theorem d_X_moves_43 : decode (qB q_X_moves) 43 = .ok (.putfield 86, 3) := by decide +kernel
theorem d_X_moves_46 : decode (qB q_X_moves) 46 = .ok (.aload_n 0, 1) := by decide +kernel
theorem d_X_moves_47 : decode (qB q_X_moves) 47 = .ok (.getfield 23, 3) := by decide +kernel
theorem d_X_moves_50 : decode (qB q_X_moves) 50 = .ok (.iload_n 2, 1) := by decide +kernel
theorem d_X_moves_51 : decode (qB q_X_moves) 51 = .ok (.putfield 89, 3) := by decide +kernel
theorem d_X_moves_54 : decode (qB q_X_moves) 54 = .ok (.aload_n 0, 1) := by decide +kernel
theorem d_X_moves_55 : decode (qB q_X_moves) 55 = .ok (.getfield 23, 3) := by decide +kernel
theorem d_X_moves_58 : decode (qB q_X_moves) 58 = .ok (.iload_n 3, 1) := by decide +kernel
theorem d_X_moves_59 : decode (qB q_X_moves) 59 = .ok (.putfield 92, 3) := by decide +kernel
theorem d_X_moves_62 : decode (qB q_X_moves) 62 = .ok (.iconst 1, 1) := by decide +kernel
theorem d_X_moves_63 : decode (qB q_X_moves) 63 = .ok (.ireturn, 1) := by decide +kernel
set_option maxRecDepth 10000 in
theorem k_X_moves {G : mxG} (hG : mx_GG G) : ∀ pc r, t_X_moves pc = some r → mx_Ok G mx_W mx_MT q_X_moves pc r := (bn_ok (bn_ok (bn_ok (bn_ok (bn_ok (bl_ok (ok_iload_n rfl d_X_moves_0)) (bl_ok (ok_i2l d_X_moves_1))) (bn_ok (bl_ok (ok_lconst (by decide) d_X_moves_2)) (bl_ok (ok_ldc2 d_X_moves_3 w_246)))) (bn_ok (bn_ok (bl_ok (ok_cs mx_W_good d_X_moves_6 (mt_X_within) mk_X_within w_234 w_235 (by decide) (by decide))) (bl_ok (ok_ifeq d_X_moves_9 (by decide)))) (bn_ok (bl_ok (ok_iload_n rfl d_X_moves_12)) (bl_ok (ok_i2l d_X_moves_13))))) (bn_ok (bn_ok (bn_ok (bl_ok (ok_lconst (by decide) d_X_moves_14)) (bl_ok (ok_ldc2 d_X_moves_15 w_237))) (bn_ok (bl_ok (ok_cs mx_W_good d_X_moves_18 (mt_X_within) mk_X_within w_234 w_235 (by decide) (by decide))) (bl_ok (ok_ifeq d_X_moves_21 (by decide))))) (bn_ok (bn_ok (bl_ok (ok_iload_n rfl d_X_moves_24)) (bl_ok (ok_i2l d_X_moves_25))) (bn_ok (bl_ok (ok_lconst (by decide) d_X_moves_26)) (bn_ok (bl_ok (ok_ldc2 d_X_moves_27 w_247)) (bl_ok (ok_cs mx_W_good d_X_moves_30 (mt_X_within) mk_X_within w_234 w_235 (by decide) (by decide)))))))) (bn_ok (bn_ok (bn_ok (bn_ok (bl_ok (ok_ifne d_X_moves_33 (by decide))) (bl_ok (ok_iconst (by decide) d_X_moves_36))) (bn_ok (bl_ok (ok_zreturn d_X_moves_37 rfl)) (bl_ok (ok_aload_n rfl d_X_moves_38)))) (bn_ok (bn_ok (bl_ok (ok_getf d_X_moves_39 (cl_0 hG) (by decide) w_206)) (bl_ok (ok_iload_n rfl d_X_moves_42))) (bn_ok (bl_ok (ok_putf d_X_moves_43 (cl_1 hG) (by decide) w_71 rfl (Or.inl rfl))) (bl_ok (ok_aload_n rfl d_X_moves_46))))) (bn_ok (bn_ok (bn_ok (bl_ok (ok_getf d_X_moves_47 (cl_0 hG) (by decide) w_206)) (bl_ok (ok_iload_n rfl d_X_moves_50))) (bn_ok (bl_ok (ok_putf d_X_moves_51 (cl_1 hG) (by decide) w_73 rfl (Or.inl rfl))) (bl_ok (ok_aload_n rfl d_X_moves_54)))) (bn_ok (bn_ok (bl_ok (ok_getf d_X_moves_55 (cl_0 hG) (by decide) w_206)) (bl_ok (ok_iload_n rfl d_X_moves_58))) (bn_ok (bl_ok (ok_putf d_X_moves_59 (cl_1 hG) (by decide) w_75 rfl (Or.inl rfl))) (bn_ok (bl_ok (ok_iconst (by decide) d_X_moves_62)) (bl_ok (ok_zreturn d_X_moves_63 rfl))))))))
theorem d_X_aim_0 : decode (qB q_X_aim) 0 = .ok (.aload_n 0, 1) := by decide +kernel
theorem d_X_aim_1 : decode (qB q_X_aim) 1 = .ok (.getfield 23, 3) := by decide +kernel
theorem d_X_aim_4 : decode (qB q_X_aim) 4 = .ok (.iload_n 2, 1) := by decide +kernel
theorem d_X_aim_5 : decode (qB q_X_aim) 5 = .ok (.iload_n 3, 1) := by decide +kernel
theorem d_X_aim_6 : decode (qB q_X_aim) 6 = .ok (.invokevirtual 60, 3) := by decide +kernel
theorem d_X_aim_9 : decode (qB q_X_aim) 9 = .ok (.istore 6, 2) := by decide +kernel
theorem d_X_aim_11 : decode (qB q_X_aim) 11 = .ok (.iload 6, 2) := by decide +kernel
theorem d_X_aim_13 : decode (qB q_X_aim) 13 = .ok (.ifCond .lt 22, 3) := by decide +kernel
theorem d_X_aim_16 : decode (qB q_X_aim) 16 = .ok (.iload_n 1, 1) := by decide +kernel
theorem d_X_aim_17 : decode (qB q_X_aim) 17 = .ok (.invokestatic 95, 3) := by decide +kernel
theorem d_X_aim_20 : decode (qB q_X_aim) 20 = .ok (.ifCond .eq 15, 3) := by decide +kernel
theorem d_X_aim_23 : decode (qB q_X_aim) 23 = .ok (.lload 4, 2) := by decide +kernel
theorem d_X_aim_25 : decode (qB q_X_aim) 25 = .ok (.lconst 0, 1) := by decide +kernel
theorem d_X_aim_26 : decode (qB q_X_aim) 26 = .ok (.ldc2_w 63, 3) := by decide +kernel
theorem d_X_aim_29 : decode (qB q_X_aim) 29 = .ok (.invokestatic 65, 3) := by decide +kernel
theorem d_X_aim_32 : decode (qB q_X_aim) 32 = .ok (.ifCond .ne 5, 3) := by decide +kernel
theorem d_X_aim_35 : decode (qB q_X_aim) 35 = .ok (.iconst 0, 1) := by decide +kernel
theorem d_X_aim_36 : decode (qB q_X_aim) 36 = .ok (.ireturn, 1) := by decide +kernel
theorem d_X_aim_37 : decode (qB q_X_aim) 37 = .ok (.aload_n 0, 1) := by decide +kernel
theorem d_X_aim_38 : decode (qB q_X_aim) 38 = .ok (.getfield 23, 3) := by decide +kernel
theorem d_X_aim_41 : decode (qB q_X_aim) 41 = .ok (.getfield 99, 3) := by decide +kernel
theorem d_X_aim_44 : decode (qB q_X_aim) 44 = .ok (.iload_n 1, 1) := by decide +kernel
theorem d_X_aim_45 : decode (qB q_X_aim) 45 = .ok (.aload_n 0, 1) := by decide +kernel
theorem d_X_aim_46 : decode (qB q_X_aim) 46 = .ok (.getfield 23, 3) := by decide +kernel
theorem d_X_aim_49 : decode (qB q_X_aim) 49 = .ok (.getfield 102, 3) := by decide +kernel
theorem d_X_aim_52 : decode (qB q_X_aim) 52 = .ok (.imul, 1) := by decide +kernel
theorem d_X_aim_53 : decode (qB q_X_aim) 53 = .ok (.iload 6, 2) := by decide +kernel
theorem d_X_aim_55 : decode (qB q_X_aim) 55 = .ok (.iadd, 1) := by decide +kernel
theorem d_X_aim_56 : decode (qB q_X_aim) 56 = .ok (.lload 4, 2) := by decide +kernel
theorem d_X_aim_58 : decode (qB q_X_aim) 58 = .ok (.l2i, 1) := by decide +kernel
theorem d_X_aim_59 : decode (qB q_X_aim) 59 = .ok (.iastore, 1) := by decide +kernel
theorem d_X_aim_60 : decode (qB q_X_aim) 60 = .ok (.iconst 1, 1) := by decide +kernel
theorem d_X_aim_61 : decode (qB q_X_aim) 61 = .ok (.ireturn, 1) := by decide +kernel
set_option maxRecDepth 10000 in
theorem k_X_aim {G : mxG} (hG : mx_GG G) : ∀ pc r, t_X_aim pc = some r → mx_Ok G mx_W mx_MT q_X_aim pc r := (bn_ok (bn_ok (bn_ok (bn_ok (bn_ok (bl_ok (ok_aload_n rfl d_X_aim_0)) (bl_ok (ok_getf d_X_aim_1 (cl_0 hG) (by decide) w_206))) (bn_ok (bl_ok (ok_iload_n rfl d_X_aim_4)) (bl_ok (ok_iload_n rfl d_X_aim_5)))) (bn_ok (bn_ok (bl_ok (ok_cv mx_W_good (cl_1 hG) d_X_aim_6 (mt_G_numberOf) mk_G_numberOf w_232 w_37 w_38 (by decide) (by decide))) (bl_ok (ok_istore d_X_aim_9 (by decide)))) (bn_ok (bl_ok (ok_iload d_X_aim_11)) (bl_ok (ok_iflt d_X_aim_13 (by decide)))))) (bn_ok (bn_ok (bn_ok (bl_ok (ok_iload_n rfl d_X_aim_16)) (bl_ok (ok_cs mx_W_good d_X_aim_17 (mt_X_isAim) mk_X_isAim w_252 w_253 (by decide) (by decide)))) (bn_ok (bl_ok (ok_ifeq d_X_aim_20 (by decide))) (bl_ok (ok_lload d_X_aim_23)))) (bn_ok (bn_ok (bl_ok (ok_lconst (by decide) d_X_aim_25)) (bl_ok (ok_ldc2 d_X_aim_26 w_233))) (bn_ok (bl_ok (ok_cs mx_W_good d_X_aim_29 (mt_X_within) mk_X_within w_234 w_235 (by decide) (by decide))) (bl_ok (ok_ifne d_X_aim_32 (by decide))))))) (bn_ok (bn_ok (bn_ok (bn_ok (bl_ok (ok_iconst (by decide) d_X_aim_35)) (bl_ok (ok_zreturn d_X_aim_36 rfl))) (bn_ok (bl_ok (ok_aload_n rfl d_X_aim_37)) (bl_ok (ok_getf d_X_aim_38 (cl_0 hG) (by decide) w_206)))) (bn_ok (bn_ok (bl_ok (ok_getf d_X_aim_41 (cl_1 hG) (by decide) w_67)) (bl_ok (ok_iload_n rfl d_X_aim_44))) (bn_ok (bl_ok (ok_aload_n rfl d_X_aim_45)) (bl_ok (ok_getf d_X_aim_46 (cl_0 hG) (by decide) w_206))))) (bn_ok (bn_ok (bn_ok (bl_ok (ok_getf d_X_aim_49 (cl_1 hG) (by decide) w_44)) (bl_ok (ok_imul d_X_aim_52))) (bn_ok (bl_ok (ok_iload d_X_aim_53)) (bl_ok (ok_iadd d_X_aim_55)))) (bn_ok (bn_ok (bl_ok (ok_lload d_X_aim_56)) (bl_ok (ok_l2i d_X_aim_58))) (bn_ok (bl_ok (ok_iast d_X_aim_59 (kt_0 hG))) (bn_ok (bl_ok (ok_iconst (by decide) d_X_aim_60)) (bl_ok (ok_zreturn d_X_aim_61 rfl))))))))
theorem d_X_weight_0 : decode (qB q_X_weight) 0 = .ok (.iload_n 1, 1) := by decide +kernel
theorem d_X_weight_1 : decode (qB q_X_weight) 1 = .ok (.invokestatic 95, 3) := by decide +kernel
theorem d_X_weight_4 : decode (qB q_X_weight) 4 = .ok (.ifCond .eq 26, 3) := by decide +kernel
theorem d_X_weight_7 : decode (qB q_X_weight) 7 = .ok (.lload_n 2, 1) := by decide +kernel
theorem d_X_weight_8 : decode (qB q_X_weight) 8 = .ok (.lconst 0, 1) := by decide +kernel
theorem d_X_weight_9 : decode (qB q_X_weight) 9 = .ok (.ldc2_w 105, 3) := by decide +kernel
theorem d_X_weight_12 : decode (qB q_X_weight) 12 = .ok (.invokestatic 65, 3) := by decide +kernel
theorem d_X_weight_15 : decode (qB q_X_weight) 15 = .ok (.ifCond .eq 15, 3) := by decide +kernel
theorem d_X_weight_18 : decode (qB q_X_weight) 18 = .ok (.lload 4, 2) := by decide +kernel
theorem d_X_weight_20 : decode (qB q_X_weight) 20 = .ok (.lconst 1, 1) := by decide +kernel
theorem d_X_weight_21 : decode (qB q_X_weight) 21 = .ok (.ldc2_w 107, 3) := by decide +kernel
theorem d_X_weight_24 : decode (qB q_X_weight) 24 = .ok (.invokestatic 65, 3) := by decide +kernel
theorem d_X_weight_27 : decode (qB q_X_weight) 27 = .ok (.ifCond .ne 5, 3) := by decide +kernel
theorem d_X_weight_30 : decode (qB q_X_weight) 30 = .ok (.iconst 0, 1) := by decide +kernel
theorem d_X_weight_31 : decode (qB q_X_weight) 31 = .ok (.ireturn, 1) := by decide +kernel
theorem d_X_weight_32 : decode (qB q_X_weight) 32 = .ok (.aload_n 0, 1) := by decide +kernel
theorem d_X_weight_33 : decode (qB q_X_weight) 33 = .ok (.getfield 23, 3) := by decide +kernel
theorem d_X_weight_36 : decode (qB q_X_weight) 36 = .ok (.getfield 109, 3) := by decide +kernel
theorem d_X_weight_39 : decode (qB q_X_weight) 39 = .ok (.iload_n 1, 1) := by decide +kernel
theorem d_X_weight_40 : decode (qB q_X_weight) 40 = .ok (.lload_n 2, 1) := by decide +kernel
theorem d_X_weight_41 : decode (qB q_X_weight) 41 = .ok (.ldc2_w 113, 3) := by decide +kernel
theorem d_X_weight_44 : decode (qB q_X_weight) 44 = .ok (.lload 4, 2) := by decide +kernel
theorem d_X_weight_46 : decode (qB q_X_weight) 46 = .ok (.ldiv, 1) := by decide +kernel
theorem d_X_weight_47 : decode (qB q_X_weight) 47 = .ok (.lmul, 1) := by decide +kernel
theorem d_X_weight_48 : decode (qB q_X_weight) 48 = .ok (.lastore, 1) := by decide +kernel
theorem d_X_weight_49 : decode (qB q_X_weight) 49 = .ok (.iconst 1, 1) := by decide +kernel
theorem d_X_weight_50 : decode (qB q_X_weight) 50 = .ok (.ireturn, 1) := by decide +kernel
set_option maxRecDepth 10000 in
theorem k_X_weight {G : mxG} (hG : mx_GG G) : ∀ pc r, t_X_weight pc = some r → mx_Ok G mx_W mx_MT q_X_weight pc r := (bn_ok (bn_ok (bn_ok (bn_ok (bl_ok (ok_iload_n rfl d_X_weight_0)) (bn_ok (bl_ok (ok_cs mx_W_good d_X_weight_1 (mt_X_isAim) mk_X_isAim w_252 w_253 (by decide) (by decide))) (bl_ok (ok_ifeq d_X_weight_4 (by decide))))) (bn_ok (bl_ok (ok_lload_n rfl d_X_weight_7)) (bn_ok (bl_ok (ok_lconst (by decide) d_X_weight_8)) (bl_ok (ok_ldc2 d_X_weight_9 w_260))))) (bn_ok (bn_ok (bl_ok (ok_cs mx_W_good d_X_weight_12 (mt_X_within) mk_X_within w_234 w_235 (by decide) (by decide))) (bn_ok (bl_ok (ok_ifeq d_X_weight_15 (by decide))) (bl_ok (ok_lload d_X_weight_18)))) (bn_ok (bn_ok (bl_ok (ok_lconst (by decide) d_X_weight_20)) (bl_ok (ok_ldc2 d_X_weight_21 w_261))) (bn_ok (bl_ok (ok_cs mx_W_good d_X_weight_24 (mt_X_within) mk_X_within w_234 w_235 (by decide) (by decide))) (bl_ok (ok_ifne d_X_weight_27 (by decide))))))) (bn_ok (bn_ok (bn_ok (bl_ok (ok_iconst (by decide) d_X_weight_30)) (bn_ok (bl_ok (ok_zreturn d_X_weight_31 rfl)) (bl_ok (ok_aload_n rfl d_X_weight_32)))) (bn_ok (bn_ok (bl_ok (ok_getf d_X_weight_33 (cl_0 hG) (by decide) w_206)) (bl_ok (ok_getf d_X_weight_36 (cl_1 hG) (by decide) w_69))) (bn_ok (bl_ok (ok_iload_n rfl d_X_weight_39)) (bl_ok (ok_lload_n rfl d_X_weight_40))))) (bn_ok (bn_ok (bl_ok (ok_ldc2 d_X_weight_41 w_262)) (bn_ok (bl_ok (ok_lload d_X_weight_44)) (bl_ok (ok_ldiv d_X_weight_46)))) (bn_ok (bn_ok (bl_ok (ok_lmul d_X_weight_47)) (bl_ok (ok_last d_X_weight_48 (kt_1 hG)))) (bn_ok (bl_ok (ok_iconst (by decide) d_X_weight_49)) (bl_ok (ok_zreturn d_X_weight_50 rfl)))))))
theorem d_X_run_0 : decode (qB q_X_run) 0 = .ok (.aload_n 0, 1) := by decide +kernel
theorem d_X_run_1 : decode (qB q_X_run) 1 = .ok (.getfield 23, 3) := by decide +kernel
theorem d_X_run_4 : decode (qB q_X_run) 4 = .ok (.iload_n 1, 1) := by decide +kernel
theorem d_X_run_5 : decode (qB q_X_run) 5 = .ok (.iload_n 2, 1) := by decide +kernel
theorem d_X_run_6 : decode (qB q_X_run) 6 = .ok (.invokevirtual 60, 3) := by decide +kernel
theorem d_X_run_9 : decode (qB q_X_run) 9 = .ok (.istore 7, 2) := by decide +kernel
theorem d_X_run_11 : decode (qB q_X_run) 11 = .ok (.aload_n 0, 1) := by decide +kernel
theorem d_X_run_12 : decode (qB q_X_run) 12 = .ok (.getfield 23, 3) := by decide +kernel
theorem d_X_run_15 : decode (qB q_X_run) 15 = .ok (.iload_n 3, 1) := by decide +kernel
theorem d_X_run_16 : decode (qB q_X_run) 16 = .ok (.iload 4, 2) := by decide +kernel
theorem d_X_run_18 : decode (qB q_X_run) 18 = .ok (.invokevirtual 60, 3) := by decide +kernel
theorem d_X_run_21 : decode (qB q_X_run) 21 = .ok (.istore 8, 2) := by decide +kernel
theorem d_X_run_23 : decode (qB q_X_run) 23 = .ok (.iload 7, 2) := by decide +kernel
theorem d_X_run_25 : decode (qB q_X_run) 25 = .ok (.ifCond .lt 27, 3) := by decide +kernel
theorem d_X_run_28 : decode (qB q_X_run) 28 = .ok (.iload 8, 2) := by decide +kernel
theorem d_X_run_30 : decode (qB q_X_run) 30 = .ok (.ifCond .lt 22, 3) := by decide +kernel
theorem d_X_run_33 : decode (qB q_X_run) 33 = .ok (.iload 7, 2) := by decide +kernel
theorem d_X_run_35 : decode (qB q_X_run) 35 = .ok (.iload 8, 2) := by decide +kernel
theorem d_X_run_37 : decode (qB q_X_run) 37 = .ok (.if_icmp .eq 15, 3) := by decide +kernel
theorem d_X_run_40 : decode (qB q_X_run) 40 = .ok (.lload 5, 2) := by decide +kernel
theorem d_X_run_42 : decode (qB q_X_run) 42 = .ok (.lconst 1, 1) := by decide +kernel
theorem d_X_run_43 : decode (qB q_X_run) 43 = .ok (.ldc2_w 115, 3) := by decide +kernel
theorem d_X_run_46 : decode (qB q_X_run) 46 = .ok (.invokestatic 65, 3) := by decide +kernel
theorem d_X_run_49 : decode (qB q_X_run) 49 = .ok (.ifCond .ne 6, 3) := by decide +kernel
theorem d_X_run_52 : decode (qB q_X_run) 52 = .ok (.bipush (-3), 2) := by decide +kernel
theorem d_X_run_54 : decode (qB q_X_run) 54 = .ok (.ireturn, 1) := by decide +kernel
theorem d_X_run_55 : decode (qB q_X_run) 55 = .ok (.aload_n 0, 1) := by decide +kernel
theorem d_X_run_56 : decode (qB q_X_run) 56 = .ok (.getfield 23, 3) := by decide +kernel
theorem d_X_run_59 : decode (qB q_X_run) 59 = .ok (.getfield 78, 3) := by decide +kernel
theorem d_X_run_62 : decode (qB q_X_run) 62 = .ok (.iload 7, 2) := by decide +kernel
theorem d_X_run_64 : decode (qB q_X_run) 64 = .ok (.baload, 1) := by decide +kernel
theorem d_X_run_65 : decode (qB q_X_run) 65 = .ok (.ifCond .ne 16, 3) := by decide +kernel
theorem d_X_run_68 : decode (qB q_X_run) 68 = .ok (.aload_n 0, 1) := by decide +kernel
theorem d_X_run_69 : decode (qB q_X_run) 69 = .ok (.getfield 23, 3) := by decide +kernel
theorem d_X_run_72 : decode (qB q_X_run) 72 = .ok (.getfield 78, 3) := by decide +kernel
theorem d_X_run_75 : decode (qB q_X_run) 75 = .ok (.iload 8, 2) := by decide +kernel
theorem d_X_run_77 : decode (qB q_X_run) 77 = .ok (.baload, 1) := by decide +kernel
theorem d_X_run_78 : decode (qB q_X_run) 78 = .ok (.ifCond .eq 6, 3) := by decide +kernel
theorem d_X_run_81 : decode (qB q_X_run) 81 = .ok (.bipush (-3), 2) := by decide +kernel
theorem d_X_run_83 : decode (qB q_X_run) 83 = .ok (.ireturn, 1) := by decide +kernel
theorem d_X_run_84 : decode (qB q_X_run) 84 = .ok (.aload_n 0, 1) := by decide +kernel
theorem d_X_run_85 : decode (qB q_X_run) 85 = .ok (.iconst 0, 1) := by decide +kernel
theorem d_X_run_86 : decode (qB q_X_run) 86 = .ok (.putfield 43, 3) := by decide +kernel
theorem d_X_run_89 : decode (qB q_X_run) 89 = .ok (.aload_n 0, 1) := by decide +kernel
theorem d_X_run_90 : decode (qB q_X_run) 90 = .ok (.lload 5, 2) := by decide +kernel
theorem d_X_run_92 : decode (qB q_X_run) 92 = .ok (.putfield 47, 3) := by decide +kernel
theorem d_X_run_95 : decode (qB q_X_run) 95 = .ok (.aload_n 0, 1) := by decide +kernel
theorem d_X_run_96 : decode (qB q_X_run) 96 = .ok (.getfield 32, 3) := by decide +kernel
theorem d_X_run_99 : decode (qB q_X_run) 99 = .ok (.invokevirtual 117, 3) := by decide +kernel
theorem d_X_run_102 : decode (qB q_X_run) 102 = .ok (.aload_n 0, 1) := by decide +kernel
theorem d_X_run_103 : decode (qB q_X_run) 103 = .ok (.iload 7, 2) := by decide +kernel
theorem d_X_run_105 : decode (qB q_X_run) 105 = .ok (.iload 8, 2) := by decide +kernel
theorem d_X_run_107 : decode (qB q_X_run) 107 = .ok (.iconst 0, 1) := by decide +kernel
theorem d_X_run_108 : decode (qB q_X_run) 108 = .ok (.invokevirtual 120, 3) := by decide +kernel
theorem d_X_run_111 : decode (qB q_X_run) 111 = .ok (.ireturn, 1) := by decide +kernel
set_option maxRecDepth 10000 in
theorem k_X_run {G : mxG} (hG : mx_GG G) : ∀ pc r, t_X_run pc = some r → mx_Ok G mx_W mx_MT q_X_run pc r := (bn_ok (bn_ok (bn_ok (bn_ok (bn_ok (bl_ok (ok_aload_n rfl d_X_run_0)) (bn_ok (bl_ok (ok_getf d_X_run_1 (cl_0 hG) (by decide) w_206)) (bl_ok (ok_iload_n rfl d_X_run_4)))) (bn_ok (bl_ok (ok_iload_n rfl d_X_run_5)) (bn_ok (bl_ok (ok_cv mx_W_good (cl_1 hG) d_X_run_6 (mt_G_numberOf) mk_G_numberOf w_232 w_37 w_38 (by decide) (by decide))) (bl_ok (ok_istore d_X_run_9 (by decide)))))) (bn_ok (bn_ok (bl_ok (ok_aload_n rfl d_X_run_11)) (bn_ok (bl_ok (ok_getf d_X_run_12 (cl_0 hG) (by decide) w_206)) (bl_ok (ok_iload_n rfl d_X_run_15)))) (bn_ok (bn_ok (bl_ok (ok_iload d_X_run_16)) (bl_ok (ok_cv mx_W_good (cl_1 hG) d_X_run_18 (mt_G_numberOf) mk_G_numberOf w_232 w_37 w_38 (by decide) (by decide)))) (bn_ok (bl_ok (ok_istore d_X_run_21 (by decide))) (bl_ok (ok_iload d_X_run_23)))))) (bn_ok (bn_ok (bn_ok (bl_ok (ok_iflt d_X_run_25 (by decide))) (bn_ok (bl_ok (ok_iload d_X_run_28)) (bl_ok (ok_iflt d_X_run_30 (by decide))))) (bn_ok (bn_ok (bl_ok (ok_iload d_X_run_33)) (bl_ok (ok_iload d_X_run_35))) (bn_ok (bl_ok (ok_iceq d_X_run_37 (by decide))) (bl_ok (ok_lload d_X_run_40))))) (bn_ok (bn_ok (bl_ok (ok_lconst (by decide) d_X_run_42)) (bn_ok (bl_ok (ok_ldc2 d_X_run_43 w_267)) (bl_ok (ok_cs mx_W_good d_X_run_46 (mt_X_within) mk_X_within w_234 w_235 (by decide) (by decide))))) (bn_ok (bn_ok (bl_ok (ok_ifne d_X_run_49 (by decide))) (bl_ok (ok_bipush (by decide) d_X_run_52))) (bn_ok (bl_ok (ok_ireturn d_X_run_54 rfl)) (bl_ok (ok_aload_n rfl d_X_run_55))))))) (bn_ok (bn_ok (bn_ok (bn_ok (bl_ok (ok_getf d_X_run_56 (cl_0 hG) (by decide) w_206)) (bn_ok (bl_ok (ok_getf d_X_run_59 (cl_1 hG) (by decide) w_55)) (bl_ok (ok_iload d_X_run_62)))) (bn_ok (bn_ok (bl_ok (ok_zald d_X_run_64 (kt_2 hG))) (bl_ok (ok_ifne d_X_run_65 (by decide)))) (bn_ok (bl_ok (ok_aload_n rfl d_X_run_68)) (bl_ok (ok_getf d_X_run_69 (cl_0 hG) (by decide) w_206))))) (bn_ok (bn_ok (bl_ok (ok_getf d_X_run_72 (cl_1 hG) (by decide) w_55)) (bn_ok (bl_ok (ok_iload d_X_run_75)) (bl_ok (ok_zald d_X_run_77 (kt_2 hG))))) (bn_ok (bn_ok (bl_ok (ok_ifeq d_X_run_78 (by decide))) (bl_ok (ok_bipush (by decide) d_X_run_81))) (bn_ok (bl_ok (ok_ireturn d_X_run_83 rfl)) (bl_ok (ok_aload_n rfl d_X_run_84)))))) (bn_ok (bn_ok (bn_ok (bl_ok (ok_iconst (by decide) d_X_run_85)) (bn_ok (bl_ok (ok_putf d_X_run_86 (cl_0 hG) (by decide) w_209 rfl (Or.inl rfl))) (bl_ok (ok_aload_n rfl d_X_run_89)))) (bn_ok (bn_ok (bl_ok (ok_lload d_X_run_90)) (bl_ok (ok_putf d_X_run_92 (cl_0 hG) (by decide) w_210 rfl (Or.inl rfl)))) (bn_ok (bl_ok (ok_aload_n rfl d_X_run_95)) (bl_ok (ok_getf d_X_run_96 (cl_0 hG) (by decide) w_207))))) (bn_ok (bn_ok (bl_ok (ok_cv mx_W_good (cl_2 hG) d_X_run_99 (mt_S_shareNothing) mk_S_shareNothing w_268 w_269 w_270 (by decide) (by decide))) (bn_ok (bl_ok (ok_aload_n rfl d_X_run_102)) (bl_ok (ok_iload d_X_run_103)))) (bn_ok (bn_ok (bl_ok (ok_iload d_X_run_105)) (bl_ok (ok_iconst (by decide) d_X_run_107))) (bn_ok (bl_ok (ok_cv mx_W_good (cl_0 hG) d_X_run_108 (mt_X_seek) mk_X_seek w_272 w_274 ws_X_seek (by decide) (by decide))) (bl_ok (ok_ireturn d_X_run_111 rfl))))))))
theorem d_X_at_0 : decode (qB q_X_at) 0 = .ok (.aload_n 0, 1) := by decide +kernel
theorem d_X_at_1 : decode (qB q_X_at) 1 = .ok (.invokevirtual 124, 3) := by decide +kernel
theorem d_X_at_4 : decode (qB q_X_at) 4 = .ok (.astore_n 3, 1) := by decide +kernel
theorem d_X_at_5 : decode (qB q_X_at) 5 = .ok (.aload_n 3, 1) := by decide +kernel
theorem d_X_at_6 : decode (qB q_X_at) 6 = .ok (.ifnull 17, 3) := by decide +kernel
theorem d_X_at_9 : decode (qB q_X_at) 9 = .ok (.iload_n 1, 1) := by decide +kernel
theorem d_X_at_10 : decode (qB q_X_at) 10 = .ok (.i2l, 1) := by decide +kernel
theorem d_X_at_11 : decode (qB q_X_at) 11 = .ok (.lconst 0, 1) := by decide +kernel
theorem d_X_at_12 : decode (qB q_X_at) 12 = .ok (.aload_n 3, 1) := by decide +kernel
theorem d_X_at_13 : decode (qB q_X_at) 13 = .ok (.getfield 128, 3) := by decide +kernel
theorem d_X_at_16 : decode (qB q_X_at) 16 = .ok (.i2l, 1) := by decide +kernel
theorem d_X_at_17 : decode (qB q_X_at) 17 = .ok (.invokestatic 65, 3) := by decide +kernel
theorem d_X_at_20 : decode (qB q_X_at) 20 = .ok (.ifCond .ne 5, 3) := by decide +kernel
theorem d_X_at_23 : decode (qB q_X_at) 23 = .ok (.iconst (-1), 1) := by decide +kernel
theorem d_X_at_24 : decode (qB q_X_at) 24 = .ok (.ireturn, 1) := by decide +kernel
theorem d_X_at_25 : decode (qB q_X_at) 25 = .ok (.iload_n 2, 1) := by decide +kernel
theorem d_X_at_26 : decode (qB q_X_at) 26 = .ok (.tableswitch 63 0 2 #[26, 41, 56], 26) := by decide +kernel
theorem d_X_at_52 : decode (qB q_X_at) 52 = .ok (.aload_n 0, 1) := by decide +kernel
theorem d_X_at_53 : decode (qB q_X_at) 53 = .ok (.getfield 23, 3) := by decide +kernel
theorem d_X_at_56 : decode (qB q_X_at) 56 = .ok (.getfield 131, 3) := by decide +kernel
theorem d_X_at_59 : decode (qB q_X_at) 59 = .ok (.aload_n 3, 1) := by decide +kernel
theorem d_X_at_60 : decode (qB q_X_at) 60 = .ok (.getfield 134, 3) := by decide +kernel
theorem d_X_at_63 : decode (qB q_X_at) 63 = .ok (.iload_n 1, 1) := by decide +kernel
theorem d_X_at_64 : decode (qB q_X_at) 64 = .ok (.iaload, 1) := by decide +kernel
theorem d_X_at_65 : decode (qB q_X_at) 65 = .ok (.iaload, 1) := by decide +kernel
theorem d_X_at_66 : decode (qB q_X_at) 66 = .ok (.ireturn, 1) := by decide +kernel
theorem d_X_at_67 : decode (qB q_X_at) 67 = .ok (.aload_n 0, 1) := by decide +kernel
theorem d_X_at_68 : decode (qB q_X_at) 68 = .ok (.getfield 23, 3) := by decide +kernel
theorem d_X_at_71 : decode (qB q_X_at) 71 = .ok (.getfield 137, 3) := by decide +kernel
theorem d_X_at_74 : decode (qB q_X_at) 74 = .ok (.aload_n 3, 1) := by decide +kernel
theorem d_X_at_75 : decode (qB q_X_at) 75 = .ok (.getfield 134, 3) := by decide +kernel
theorem d_X_at_78 : decode (qB q_X_at) 78 = .ok (.iload_n 1, 1) := by decide +kernel
theorem d_X_at_79 : decode (qB q_X_at) 79 = .ok (.iaload, 1) := by decide +kernel
theorem d_X_at_80 : decode (qB q_X_at) 80 = .ok (.iaload, 1) := by decide +kernel
theorem d_X_at_81 : decode (qB q_X_at) 81 = .ok (.ireturn, 1) := by decide +kernel
theorem d_X_at_82 : decode (qB q_X_at) 82 = .ok (.aload_n 3, 1) := by decide +kernel
theorem d_X_at_83 : decode (qB q_X_at) 83 = .ok (.getfield 140, 3) := by decide +kernel
theorem d_X_at_86 : decode (qB q_X_at) 86 = .ok (.iload_n 1, 1) := by decide +kernel
theorem d_X_at_87 : decode (qB q_X_at) 87 = .ok (.iaload, 1) := by decide +kernel
theorem d_X_at_88 : decode (qB q_X_at) 88 = .ok (.ireturn, 1) := by decide +kernel
theorem d_X_at_89 : decode (qB q_X_at) 89 = .ok (.iconst (-1), 1) := by decide +kernel
theorem d_X_at_90 : decode (qB q_X_at) 90 = .ok (.ireturn, 1) := by decide +kernel
set_option maxRecDepth 10000 in
theorem k_X_at {G : mxG} (hG : mx_GG G) : ∀ pc r, t_X_at pc = some r → mx_Ok G mx_W mx_MT q_X_at pc r := (bn_ok (bn_ok (bn_ok (bn_ok (bn_ok (bl_ok (ok_aload_n rfl d_X_at_0)) (bl_ok (ok_cv mx_W_good (cl_0 hG) d_X_at_1 (mt_X_wayAtHand) mk_X_wayAtHand w_453 w_455 ws_X_wayAtHand (by decide) (by decide)))) (bn_ok (bl_ok (ok_astore_n rfl d_X_at_4 (by decide))) (bn_ok (bl_ok (ok_aload_n rfl d_X_at_5)) (bl_ok (ok_ifnull d_X_at_6 (by decide)))))) (bn_ok (bn_ok (bl_ok (ok_iload_n rfl d_X_at_9)) (bl_ok (ok_i2l d_X_at_10))) (bn_ok (bl_ok (ok_lconst (by decide) d_X_at_11)) (bn_ok (bl_ok (ok_aload_n rfl d_X_at_12)) (bl_ok (ok_getf d_X_at_13 (cl_4 hG) (by decide) w_197)))))) (bn_ok (bn_ok (bn_ok (bl_ok (ok_i2l d_X_at_16)) (bl_ok (ok_cs mx_W_good d_X_at_17 (mt_X_within) mk_X_within w_234 w_235 (by decide) (by decide)))) (bn_ok (bl_ok (ok_ifne d_X_at_20 (by decide))) (bn_ok (bl_ok (ok_iconst (by decide) d_X_at_23)) (bl_ok (ok_ireturn d_X_at_24 rfl))))) (bn_ok (bn_ok (bl_ok (ok_iload_n rfl d_X_at_25)) (bn_ok (bl_ok (ok_tsw d_X_at_26 (by decide) (by decide) (by decide))) (bl_ok (ok_aload_n rfl d_X_at_52)))) (bn_ok (bl_ok (ok_getf d_X_at_53 (cl_0 hG) (by decide) w_206)) (bn_ok (bl_ok (ok_getf d_X_at_56 (cl_1 hG) (by decide) w_46)) (bl_ok (ok_aload_n rfl d_X_at_59))))))) (bn_ok (bn_ok (bn_ok (bn_ok (bl_ok (ok_getf d_X_at_60 (cl_4 hG) (by decide) w_191)) (bl_ok (ok_iload_n rfl d_X_at_63))) (bn_ok (bl_ok (ok_iald d_X_at_64 (kt_0 hG))) (bn_ok (bl_ok (ok_iald d_X_at_65 (kt_0 hG))) (bl_ok (ok_ireturn d_X_at_66 rfl))))) (bn_ok (bn_ok (bl_ok (ok_aload_n rfl d_X_at_67)) (bl_ok (ok_getf d_X_at_68 (cl_0 hG) (by decide) w_206))) (bn_ok (bl_ok (ok_getf d_X_at_71 (cl_1 hG) (by decide) w_48)) (bn_ok (bl_ok (ok_aload_n rfl d_X_at_74)) (bl_ok (ok_getf d_X_at_75 (cl_4 hG) (by decide) w_191)))))) (bn_ok (bn_ok (bn_ok (bl_ok (ok_iload_n rfl d_X_at_78)) (bl_ok (ok_iald d_X_at_79 (kt_0 hG)))) (bn_ok (bl_ok (ok_iald d_X_at_80 (kt_0 hG))) (bn_ok (bl_ok (ok_ireturn d_X_at_81 rfl)) (bl_ok (ok_aload_n rfl d_X_at_82))))) (bn_ok (bn_ok (bl_ok (ok_getf d_X_at_83 (cl_4 hG) (by decide) w_193)) (bn_ok (bl_ok (ok_iload_n rfl d_X_at_86)) (bl_ok (ok_iald d_X_at_87 (kt_0 hG))))) (bn_ok (bl_ok (ok_ireturn d_X_at_88 rfl)) (bn_ok (bl_ok (ok_iconst (by decide) d_X_at_89)) (bl_ok (ok_ireturn d_X_at_90 rfl))))))))
theorem d_X_cost_0 : decode (qB q_X_cost) 0 = .ok (.aload_n 0, 1) := by decide +kernel
theorem d_X_cost_1 : decode (qB q_X_cost) 1 = .ok (.invokevirtual 124, 3) := by decide +kernel
theorem d_X_cost_4 : decode (qB q_X_cost) 4 = .ok (.astore_n 2, 1) := by decide +kernel
theorem d_X_cost_5 : decode (qB q_X_cost) 5 = .ok (.aload_n 2, 1) := by decide +kernel
theorem d_X_cost_6 : decode (qB q_X_cost) 6 = .ok (.ifnull 13, 3) := by decide +kernel
theorem d_X_cost_9 : decode (qB q_X_cost) 9 = .ok (.iload_n 1, 1) := by decide +kernel
theorem d_X_cost_10 : decode (qB q_X_cost) 10 = .ok (.i2l, 1) := by decide +kernel
theorem d_X_cost_11 : decode (qB q_X_cost) 11 = .ok (.lconst 0, 1) := by decide +kernel
theorem d_X_cost_12 : decode (qB q_X_cost) 12 = .ok (.lconst 1, 1) := by decide +kernel
theorem d_X_cost_13 : decode (qB q_X_cost) 13 = .ok (.invokestatic 65, 3) := by decide +kernel
theorem d_X_cost_16 : decode (qB q_X_cost) 16 = .ok (.ifCond .ne 7, 3) := by decide +kernel
theorem d_X_cost_19 : decode (qB q_X_cost) 19 = .ok (.ldc2_w 51, 3) := by decide +kernel
theorem d_X_cost_22 : decode (qB q_X_cost) 22 = .ok (.lreturn, 1) := by decide +kernel
theorem d_X_cost_23 : decode (qB q_X_cost) 23 = .ok (.aload_n 2, 1) := by decide +kernel
theorem d_X_cost_24 : decode (qB q_X_cost) 24 = .ok (.aload_n 0, 1) := by decide +kernel
theorem d_X_cost_25 : decode (qB q_X_cost) 25 = .ok (.getfield 23, 3) := by decide +kernel
theorem d_X_cost_28 : decode (qB q_X_cost) 28 = .ok (.invokevirtual 143, 3) := by decide +kernel
theorem d_X_cost_31 : decode (qB q_X_cost) 31 = .ok (.ldc2_w 113, 3) := by decide +kernel
theorem d_X_cost_34 : decode (qB q_X_cost) 34 = .ok (.iload_n 1, 1) := by decide +kernel
theorem d_X_cost_35 : decode (qB q_X_cost) 35 = .ok (.invokestatic 147, 3) := by decide +kernel
theorem d_X_cost_38 : decode (qB q_X_cost) 38 = .ok (.lreturn, 1) := by decide +kernel
set_option maxRecDepth 10000 in
theorem k_X_cost {G : mxG} (hG : mx_GG G) : ∀ pc r, t_X_cost pc = some r → mx_Ok G mx_W mx_MT q_X_cost pc r := (bn_ok (bn_ok (bn_ok (bn_ok (bl_ok (ok_aload_n rfl d_X_cost_0)) (bl_ok (ok_cv mx_W_good (cl_0 hG) d_X_cost_1 (mt_X_wayAtHand) mk_X_wayAtHand w_453 w_455 ws_X_wayAtHand (by decide) (by decide)))) (bn_ok (bl_ok (ok_astore_n rfl d_X_cost_4 (by decide))) (bn_ok (bl_ok (ok_aload_n rfl d_X_cost_5)) (bl_ok (ok_ifnull d_X_cost_6 (by decide)))))) (bn_ok (bn_ok (bl_ok (ok_iload_n rfl d_X_cost_9)) (bl_ok (ok_i2l d_X_cost_10))) (bn_ok (bl_ok (ok_lconst (by decide) d_X_cost_11)) (bn_ok (bl_ok (ok_lconst (by decide) d_X_cost_12)) (bl_ok (ok_cs mx_W_good d_X_cost_13 (mt_X_within) mk_X_within w_234 w_235 (by decide) (by decide))))))) (bn_ok (bn_ok (bn_ok (bl_ok (ok_ifne d_X_cost_16 (by decide))) (bl_ok (ok_ldc2 d_X_cost_19 w_205))) (bn_ok (bl_ok (ok_lreturn d_X_cost_22 rfl)) (bn_ok (bl_ok (ok_aload_n rfl d_X_cost_23)) (bl_ok (ok_aload_n rfl d_X_cost_24))))) (bn_ok (bn_ok (bl_ok (ok_getf d_X_cost_25 (cl_0 hG) (by decide) w_206)) (bn_ok (bl_ok (ok_cv mx_W_good (cl_4 hG) d_X_cost_28 (mt_W_scaledCost) mk_W_scaledCost w_461 w_462 w_463 (by decide) (by decide))) (bl_ok (ok_ldc2 d_X_cost_31 w_262)))) (bn_ok (bl_ok (ok_iload_n rfl d_X_cost_34)) (bn_ok (bl_ok (ok_cs mx_W_good d_X_cost_35 (mt_X_leastTerm) mk_X_leastTerm w_467 w_468 (by decide) (by decide))) (bl_ok (ok_lreturn d_X_cost_38 rfl)))))))
theorem d_X_bound_0 : decode (qB q_X_bound) 0 = .ok (.aload_n 0, 1) := by decide +kernel
theorem d_X_bound_1 : decode (qB q_X_bound) 1 = .ok (.getfield 53, 3) := by decide +kernel
theorem d_X_bound_4 : decode (qB q_X_bound) 4 = .ok (.lreturn, 1) := by decide +kernel
set_option maxRecDepth 10000 in
theorem k_X_bound {G : mxG} (hG : mx_GG G) : ∀ pc r, t_X_bound pc = some r → mx_Ok G mx_W mx_MT q_X_bound pc r := (bn_ok (bl_ok (ok_aload_n rfl d_X_bound_0)) (bn_ok (bl_ok (ok_getf d_X_bound_1 (cl_0 hG) (by decide) w_211)) (bl_ok (ok_lreturn d_X_bound_4 rfl))))
theorem d_X_proved_0 : decode (qB q_X_proved) 0 = .ok (.aload_n 0, 1) := by decide +kernel
theorem d_X_proved_1 : decode (qB q_X_proved) 1 = .ok (.getfield 56, 3) := by decide +kernel
theorem d_X_proved_4 : decode (qB q_X_proved) 4 = .ok (.ireturn, 1) := by decide +kernel
set_option maxRecDepth 10000 in
theorem k_X_proved {G : mxG} (hG : mx_GG G) : ∀ pc r, t_X_proved pc = some r → mx_Ok G mx_W mx_MT q_X_proved pc r := (bn_ok (bl_ok (ok_aload_n rfl d_X_proved_0)) (bn_ok (bl_ok (ok_getf d_X_proved_1 (cl_0 hG) (by decide) w_212)) (bl_ok (ok_zreturn d_X_proved_4 rfl))))
theorem d_X_unlike_0 : decode (qB q_X_unlike) 0 = .ok (.lload_n 3, 1) := by decide +kernel
theorem d_X_unlike_1 : decode (qB q_X_unlike) 1 = .ok (.lconst 1, 1) := by decide +kernel
theorem d_X_unlike_2 : decode (qB q_X_unlike) 2 = .ok (.ldc2_w 151, 3) := by decide +kernel
theorem d_X_unlike_5 : decode (qB q_X_unlike) 5 = .ok (.invokestatic 65, 3) := by decide +kernel
theorem d_X_unlike_8 : decode (qB q_X_unlike) 8 = .ok (.ifCond .eq 12, 3) := by decide +kernel
theorem d_X_unlike_11 : decode (qB q_X_unlike) 11 = .ok (.lload_n 1, 1) := by decide +kernel
theorem d_X_unlike_12 : decode (qB q_X_unlike) 12 = .ok (.lconst 0, 1) := by decide +kernel
theorem d_X_unlike_13 : decode (qB q_X_unlike) 13 = .ok (.lload_n 3, 1) := by decide +kernel
theorem d_X_unlike_14 : decode (qB q_X_unlike) 14 = .ok (.invokestatic 65, 3) := by decide +kernel
theorem d_X_unlike_17 : decode (qB q_X_unlike) 17 = .ok (.ifCond .ne 6, 3) := by decide +kernel
theorem d_X_unlike_20 : decode (qB q_X_unlike) 20 = .ok (.bipush (-3), 2) := by decide +kernel
theorem d_X_unlike_22 : decode (qB q_X_unlike) 22 = .ok (.ireturn, 1) := by decide +kernel
theorem d_X_unlike_23 : decode (qB q_X_unlike) 23 = .ok (.aload_n 0, 1) := by decide +kernel
theorem d_X_unlike_24 : decode (qB q_X_unlike) 24 = .ok (.getfield 43, 3) := by decide +kernel
theorem d_X_unlike_27 : decode (qB q_X_unlike) 27 = .ok (.iconst 1, 1) := by decide +kernel
theorem d_X_unlike_28 : decode (qB q_X_unlike) 28 = .ok (.if_icmp .lt 12, 3) := by decide +kernel
theorem d_X_unlike_31 : decode (qB q_X_unlike) 31 = .ok (.aload_n 0, 1) := by decide +kernel
theorem d_X_unlike_32 : decode (qB q_X_unlike) 32 = .ok (.getfield 43, 3) := by decide +kernel
theorem d_X_unlike_35 : decode (qB q_X_unlike) 35 = .ok (.bipush 6, 2) := by decide +kernel
theorem d_X_unlike_37 : decode (qB q_X_unlike) 37 = .ok (.if_icmp .lt 6, 3) := by decide +kernel
theorem d_X_unlike_40 : decode (qB q_X_unlike) 40 = .ok (.bipush (-3), 2) := by decide +kernel
theorem d_X_unlike_42 : decode (qB q_X_unlike) 42 = .ok (.ireturn, 1) := by decide +kernel
theorem d_X_unlike_43 : decode (qB q_X_unlike) 43 = .ok (.aload_n 0, 1) := by decide +kernel
theorem d_X_unlike_44 : decode (qB q_X_unlike) 44 = .ok (.getfield 38, 3) := by decide +kernel
theorem d_X_unlike_47 : decode (qB q_X_unlike) 47 = .ok (.iconst 0, 1) := by decide +kernel
theorem d_X_unlike_48 : decode (qB q_X_unlike) 48 = .ok (.aaload, 1) := by decide +kernel
theorem d_X_unlike_49 : decode (qB q_X_unlike) 49 = .ok (.astore 5, 2) := by decide +kernel
theorem d_X_unlike_51 : decode (qB q_X_unlike) 51 = .ok (.aload 5, 2) := by decide +kernel
theorem d_X_unlike_53 : decode (qB q_X_unlike) 53 = .ok (.invokevirtual 153, 3) := by decide +kernel
theorem d_X_unlike_56 : decode (qB q_X_unlike) 56 = .ok (.istore 6, 2) := by decide +kernel
theorem d_X_unlike_58 : decode (qB q_X_unlike) 58 = .ok (.aload 5, 2) := by decide +kernel
theorem d_X_unlike_60 : decode (qB q_X_unlike) 60 = .ok (.invokevirtual 157, 3) := by decide +kernel
theorem d_X_unlike_63 : decode (qB q_X_unlike) 63 = .ok (.istore 7, 2) := by decide +kernel
theorem d_X_unlike_65 : decode (qB q_X_unlike) 65 = .ok (.aload_n 0, 1) := by decide +kernel
theorem d_X_unlike_66 : decode (qB q_X_unlike) 66 = .ok (.getfield 23, 3) := by decide +kernel
theorem d_X_unlike_69 : decode (qB q_X_unlike) 69 = .ok (.getfield 78, 3) := by decide +kernel
theorem d_X_unlike_72 : decode (qB q_X_unlike) 72 = .ok (.iload 6, 2) := by decide +kernel
theorem d_X_unlike_74 : decode (qB q_X_unlike) 74 = .ok (.baload, 1) := by decide +kernel
theorem d_X_unlike_75 : decode (qB q_X_unlike) 75 = .ok (.ifCond .ne 16, 3) := by decide +kernel
theorem d_X_unlike_78 : decode (qB q_X_unlike) 78 = .ok (.aload_n 0, 1) := by decide +kernel
theorem d_X_unlike_79 : decode (qB q_X_unlike) 79 = .ok (.getfield 23, 3) := by decide +kernel
theorem d_X_unlike_82 : decode (qB q_X_unlike) 82 = .ok (.getfield 78, 3) := by decide +kernel
theorem d_X_unlike_85 : decode (qB q_X_unlike) 85 = .ok (.iload 7, 2) := by decide +kernel
theorem d_X_unlike_87 : decode (qB q_X_unlike) 87 = .ok (.baload, 1) := by decide +kernel
theorem d_X_unlike_88 : decode (qB q_X_unlike) 88 = .ok (.ifCond .eq 6, 3) := by decide +kernel
theorem d_X_unlike_91 : decode (qB q_X_unlike) 91 = .ok (.bipush (-3), 2) := by decide +kernel
theorem d_X_unlike_93 : decode (qB q_X_unlike) 93 = .ok (.ireturn, 1) := by decide +kernel
theorem d_X_unlike_94 : decode (qB q_X_unlike) 94 = .ok (.aload 5, 2) := by decide +kernel
theorem d_X_unlike_96 : decode (qB q_X_unlike) 96 = .ok (.getfield 128, 3) := by decide +kernel
theorem d_X_unlike_99 : decode (qB q_X_unlike) 99 = .ok (.iconst 1, 1) := by decide +kernel
theorem d_X_unlike_100 : decode (qB q_X_unlike) 100 = .ok (.isub, 1) := by decide +kernel
theorem d_X_unlike_101 : decode (qB q_X_unlike) 101 = .ok (.i2l, 1) := by decide +kernel
theorem d_X_unlike_102 : decode (qB q_X_unlike) 102 = .ok (.lload_n 1, 1) := by decide +kernel
theorem d_X_unlike_103 : decode (qB q_X_unlike) 103 = .ok (.lmul, 1) := by decide +kernel
theorem d_X_unlike_104 : decode (qB q_X_unlike) 104 = .ok (.lload_n 3, 1) := by decide +kernel
theorem d_X_unlike_105 : decode (qB q_X_unlike) 105 = .ok (.ldiv, 1) := by decide +kernel
theorem d_X_unlike_106 : decode (qB q_X_unlike) 106 = .ok (.lstore 8, 2) := by decide +kernel
theorem d_X_unlike_108 : decode (qB q_X_unlike) 108 = .ok (.aload_n 0, 1) := by decide +kernel
theorem d_X_unlike_109 : decode (qB q_X_unlike) 109 = .ok (.iload 6, 2) := by decide +kernel
theorem d_X_unlike_111 : decode (qB q_X_unlike) 111 = .ok (.iload 7, 2) := by decide +kernel
theorem d_X_unlike_113 : decode (qB q_X_unlike) 113 = .ok (.ldc2_w 84, 3) := by decide +kernel
theorem d_X_unlike_116 : decode (qB q_X_unlike) 116 = .ok (.lload 8, 2) := by decide +kernel
theorem d_X_unlike_118 : decode (qB q_X_unlike) 118 = .ok (.invokestatic 160, 3) := by decide +kernel
theorem d_X_unlike_121 : decode (qB q_X_unlike) 121 = .ok (.l2i, 1) := by decide +kernel
theorem d_X_unlike_122 : decode (qB q_X_unlike) 122 = .ok (.invokevirtual 120, 3) := by decide +kernel
theorem d_X_unlike_125 : decode (qB q_X_unlike) 125 = .ok (.ireturn, 1) := by decide +kernel
set_option maxRecDepth 10000 in
theorem k_X_unlike {G : mxG} (hG : mx_GG G) : ∀ pc r, t_X_unlike pc = some r → mx_Ok G mx_W mx_MT q_X_unlike pc r := (bn_ok (bn_ok (bn_ok (bn_ok (bn_ok (bn_ok (bl_ok (ok_lload_n rfl d_X_unlike_0)) (bl_ok (ok_lconst (by decide) d_X_unlike_1))) (bn_ok (bl_ok (ok_ldc2 d_X_unlike_2 w_485)) (bl_ok (ok_cs mx_W_good d_X_unlike_5 (mt_X_within) mk_X_within w_234 w_235 (by decide) (by decide))))) (bn_ok (bn_ok (bl_ok (ok_ifeq d_X_unlike_8 (by decide))) (bl_ok (ok_lload_n rfl d_X_unlike_11))) (bn_ok (bl_ok (ok_lconst (by decide) d_X_unlike_12)) (bl_ok (ok_lload_n rfl d_X_unlike_13))))) (bn_ok (bn_ok (bn_ok (bl_ok (ok_cs mx_W_good d_X_unlike_14 (mt_X_within) mk_X_within w_234 w_235 (by decide) (by decide))) (bl_ok (ok_ifne d_X_unlike_17 (by decide)))) (bn_ok (bl_ok (ok_bipush (by decide) d_X_unlike_20)) (bl_ok (ok_ireturn d_X_unlike_22 rfl)))) (bn_ok (bn_ok (bl_ok (ok_aload_n rfl d_X_unlike_23)) (bl_ok (ok_getf d_X_unlike_24 (cl_0 hG) (by decide) w_209))) (bn_ok (bl_ok (ok_iconst (by decide) d_X_unlike_27)) (bl_ok (ok_iclt d_X_unlike_28 (by decide))))))) (bn_ok (bn_ok (bn_ok (bn_ok (bl_ok (ok_aload_n rfl d_X_unlike_31)) (bl_ok (ok_getf d_X_unlike_32 (cl_0 hG) (by decide) w_209))) (bn_ok (bl_ok (ok_bipush (by decide) d_X_unlike_35)) (bl_ok (ok_iclt d_X_unlike_37 (by decide))))) (bn_ok (bn_ok (bl_ok (ok_bipush (by decide) d_X_unlike_40)) (bl_ok (ok_ireturn d_X_unlike_42 rfl))) (bn_ok (bl_ok (ok_aload_n rfl d_X_unlike_43)) (bl_ok (ok_getf d_X_unlike_44 (cl_0 hG) (by decide) w_208))))) (bn_ok (bn_ok (bn_ok (bl_ok (ok_iconst (by decide) d_X_unlike_47)) (bl_ok (ok_aald d_X_unlike_48 (kt_3 hG) (by decide)))) (bn_ok (bl_ok (ok_astore d_X_unlike_49 (by decide))) (bl_ok (ok_aload d_X_unlike_51)))) (bn_ok (bn_ok (bl_ok (ok_cv mx_W_good (cl_4 hG) d_X_unlike_53 (mt_W_firstPlace) mk_W_firstPlace w_486 w_442 w_443 (by decide) (by decide))) (bl_ok (ok_istore d_X_unlike_56 (by decide)))) (bn_ok (bl_ok (ok_aload d_X_unlike_58)) (bn_ok (bl_ok (ok_cv mx_W_good (cl_4 hG) d_X_unlike_60 (mt_W_lastPlace) mk_W_lastPlace w_487 w_446 w_447 (by decide) (by decide))) (bl_ok (ok_istore d_X_unlike_63 (by decide))))))))) (bn_ok (bn_ok (bn_ok (bn_ok (bn_ok (bl_ok (ok_aload_n rfl d_X_unlike_65)) (bl_ok (ok_getf d_X_unlike_66 (cl_0 hG) (by decide) w_206))) (bn_ok (bl_ok (ok_getf d_X_unlike_69 (cl_1 hG) (by decide) w_55)) (bl_ok (ok_iload d_X_unlike_72)))) (bn_ok (bn_ok (bl_ok (ok_zald d_X_unlike_74 (kt_2 hG))) (bl_ok (ok_ifne d_X_unlike_75 (by decide)))) (bn_ok (bl_ok (ok_aload_n rfl d_X_unlike_78)) (bl_ok (ok_getf d_X_unlike_79 (cl_0 hG) (by decide) w_206))))) (bn_ok (bn_ok (bn_ok (bl_ok (ok_getf d_X_unlike_82 (cl_1 hG) (by decide) w_55)) (bl_ok (ok_iload d_X_unlike_85))) (bn_ok (bl_ok (ok_zald d_X_unlike_87 (kt_2 hG))) (bl_ok (ok_ifeq d_X_unlike_88 (by decide))))) (bn_ok (bn_ok (bl_ok (ok_bipush (by decide) d_X_unlike_91)) (bl_ok (ok_ireturn d_X_unlike_93 rfl))) (bn_ok (bl_ok (ok_aload d_X_unlike_94)) (bl_ok (ok_getf d_X_unlike_96 (cl_4 hG) (by decide) w_197)))))) (bn_ok (bn_ok (bn_ok (bn_ok (bl_ok (ok_iconst (by decide) d_X_unlike_99)) (bl_ok (ok_isub d_X_unlike_100))) (bn_ok (bl_ok (ok_i2l d_X_unlike_101)) (bl_ok (ok_lload_n rfl d_X_unlike_102)))) (bn_ok (bn_ok (bl_ok (ok_lmul d_X_unlike_103)) (bl_ok (ok_lload_n rfl d_X_unlike_104))) (bn_ok (bl_ok (ok_ldiv d_X_unlike_105)) (bl_ok (ok_lstore d_X_unlike_106 (by decide)))))) (bn_ok (bn_ok (bn_ok (bl_ok (ok_aload_n rfl d_X_unlike_108)) (bl_ok (ok_iload d_X_unlike_109))) (bn_ok (bl_ok (ok_iload d_X_unlike_111)) (bl_ok (ok_ldc2 d_X_unlike_113 w_247)))) (bn_ok (bn_ok (bl_ok (ok_lload d_X_unlike_116)) (bl_ok (ok_cs mx_W_good d_X_unlike_118 (mt_JM_min_J) mk_JM_min_J w_488 w_489 (by decide) (by decide)))) (bn_ok (bl_ok (ok_l2i d_X_unlike_121)) (bn_ok (bl_ok (ok_cv mx_W_good (cl_0 hG) d_X_unlike_122 (mt_X_seek) mk_X_seek w_272 w_274 ws_X_seek (by decide) (by decide))) (bl_ok (ok_ireturn d_X_unlike_125 rfl)))))))))
theorem d_X_span_0 : decode (qB q_X_span) 0 = .ok (.aload_n 0, 1) := by decide +kernel
theorem d_X_span_1 : decode (qB q_X_span) 1 = .ok (.invokevirtual 124, 3) := by decide +kernel
theorem d_X_span_4 : decode (qB q_X_span) 4 = .ok (.astore 4, 2) := by decide +kernel
theorem d_X_span_6 : decode (qB q_X_span) 6 = .ok (.aload 4, 2) := by decide +kernel
theorem d_X_span_8 : decode (qB q_X_span) 8 = .ok (.ifnull 30, 3) := by decide +kernel
theorem d_X_span_11 : decode (qB q_X_span) 11 = .ok (.iload_n 1, 1) := by decide +kernel
theorem d_X_span_12 : decode (qB q_X_span) 12 = .ok (.invokestatic 95, 3) := by decide +kernel
theorem d_X_span_15 : decode (qB q_X_span) 15 = .ok (.ifCond .eq 23, 3) := by decide +kernel
theorem d_X_span_18 : decode (qB q_X_span) 18 = .ok (.iload_n 2, 1) := by decide +kernel
theorem d_X_span_19 : decode (qB q_X_span) 19 = .ok (.i2l, 1) := by decide +kernel
theorem d_X_span_20 : decode (qB q_X_span) 20 = .ok (.lconst 0, 1) := by decide +kernel
theorem d_X_span_21 : decode (qB q_X_span) 21 = .ok (.lconst 1, 1) := by decide +kernel
theorem d_X_span_22 : decode (qB q_X_span) 22 = .ok (.invokestatic 65, 3) := by decide +kernel
theorem d_X_span_25 : decode (qB q_X_span) 25 = .ok (.ifCond .eq 13, 3) := by decide +kernel
theorem d_X_span_28 : decode (qB q_X_span) 28 = .ok (.iload_n 3, 1) := by decide +kernel
theorem d_X_span_29 : decode (qB q_X_span) 29 = .ok (.i2l, 1) := by decide +kernel
theorem d_X_span_30 : decode (qB q_X_span) 30 = .ok (.lconst 0, 1) := by decide +kernel
theorem d_X_span_31 : decode (qB q_X_span) 31 = .ok (.lconst 1, 1) := by decide +kernel
theorem d_X_span_32 : decode (qB q_X_span) 32 = .ok (.invokestatic 65, 3) := by decide +kernel
theorem d_X_span_35 : decode (qB q_X_span) 35 = .ok (.ifCond .ne 7, 3) := by decide +kernel
theorem d_X_span_38 : decode (qB q_X_span) 38 = .ok (.ldc2_w 51, 3) := by decide +kernel
theorem d_X_span_41 : decode (qB q_X_span) 41 = .ok (.lreturn, 1) := by decide +kernel
theorem d_X_span_42 : decode (qB q_X_span) 42 = .ok (.new 163, 3) := by decide +kernel
theorem d_X_span_45 : decode (qB q_X_span) 45 = .ok (.dup, 1) := by decide +kernel
theorem d_X_span_46 : decode (qB q_X_span) 46 = .ok (.invokespecial 165, 3) := by decide +kernel
theorem d_X_span_49 : decode (qB q_X_span) 49 = .ok (.astore 5, 2) := by decide +kernel
theorem d_X_span_51 : decode (qB q_X_span) 51 = .ok (.aload 4, 2) := by decide +kernel
theorem d_X_span_53 : decode (qB q_X_span) 53 = .ok (.aload_n 0, 1) := by decide +kernel
theorem d_X_span_54 : decode (qB q_X_span) 54 = .ok (.getfield 23, 3) := by decide +kernel
theorem d_X_span_57 : decode (qB q_X_span) 57 = .ok (.iload_n 1, 1) := by decide +kernel
theorem d_X_span_58 : decode (qB q_X_span) 58 = .ok (.invokevirtual 166, 3) := by decide +kernel
theorem d_X_span_61 : decode (qB q_X_span) 61 = .ok (.lstore 6, 2) := by decide +kernel
theorem d_X_span_63 : decode (qB q_X_span) 63 = .ok (.aload 4, 2) := by decide +kernel
theorem d_X_span_65 : decode (qB q_X_span) 65 = .ok (.aload_n 0, 1) := by decide +kernel
theorem d_X_span_66 : decode (qB q_X_span) 66 = .ok (.getfield 23, 3) := by decide +kernel
theorem d_X_span_69 : decode (qB q_X_span) 69 = .ok (.invokevirtual 143, 3) := by decide +kernel
theorem d_X_span_72 : decode (qB q_X_span) 72 = .ok (.aload_n 0, 1) := by decide +kernel
theorem d_X_span_73 : decode (qB q_X_span) 73 = .ok (.getfield 23, 3) := by decide +kernel
theorem d_X_span_76 : decode (qB q_X_span) 76 = .ok (.getfield 109, 3) := by decide +kernel
theorem d_X_span_79 : decode (qB q_X_span) 79 = .ok (.iload_n 1, 1) := by decide +kernel
theorem d_X_span_80 : decode (qB q_X_span) 80 = .ok (.laload, 1) := by decide +kernel
theorem d_X_span_81 : decode (qB q_X_span) 81 = .ok (.lload 6, 2) := by decide +kernel
theorem d_X_span_83 : decode (qB q_X_span) 83 = .ok (.lmul, 1) := by decide +kernel
theorem d_X_span_84 : decode (qB q_X_span) 84 = .ok (.lsub, 1) := by decide +kernel
theorem d_X_span_85 : decode (qB q_X_span) 85 = .ok (.lstore 8, 2) := by decide +kernel
theorem d_X_span_87 : decode (qB q_X_span) 87 = .ok (.iconst 0, 1) := by decide +kernel
theorem d_X_span_88 : decode (qB q_X_span) 88 = .ok (.istore 10, 2) := by decide +kernel
theorem d_X_span_90 : decode (qB q_X_span) 90 = .ok (.iload 10, 2) := by decide +kernel
theorem d_X_span_92 : decode (qB q_X_span) 92 = .ok (.aload_n 0, 1) := by decide +kernel
theorem d_X_span_93 : decode (qB q_X_span) 93 = .ok (.getfield 43, 3) := by decide +kernel
theorem d_X_span_96 : decode (qB q_X_span) 96 = .ok (.if_icmp .ge 70, 3) := by decide +kernel
theorem d_X_span_99 : decode (qB q_X_span) 99 = .ok (.aload_n 0, 1) := by decide +kernel
theorem d_X_span_100 : decode (qB q_X_span) 100 = .ok (.getfield 38, 3) := by decide +kernel
theorem d_X_span_103 : decode (qB q_X_span) 103 = .ok (.iload 10, 2) := by decide +kernel
theorem d_X_span_105 : decode (qB q_X_span) 105 = .ok (.aaload, 1) := by decide +kernel
theorem d_X_span_106 : decode (qB q_X_span) 106 = .ok (.aload_n 0, 1) := by decide +kernel
theorem d_X_span_107 : decode (qB q_X_span) 107 = .ok (.getfield 23, 3) := by decide +kernel
theorem d_X_span_110 : decode (qB q_X_span) 110 = .ok (.iload_n 1, 1) := by decide +kernel
theorem d_X_span_111 : decode (qB q_X_span) 111 = .ok (.invokevirtual 166, 3) := by decide +kernel
theorem d_X_span_114 : decode (qB q_X_span) 114 = .ok (.lstore 11, 2) := by decide +kernel
theorem d_X_span_116 : decode (qB q_X_span) 116 = .ok (.aload_n 0, 1) := by decide +kernel
theorem d_X_span_117 : decode (qB q_X_span) 117 = .ok (.getfield 38, 3) := by decide +kernel
theorem d_X_span_120 : decode (qB q_X_span) 120 = .ok (.iload 10, 2) := by decide +kernel
theorem d_X_span_122 : decode (qB q_X_span) 122 = .ok (.aaload, 1) := by decide +kernel
theorem d_X_span_123 : decode (qB q_X_span) 123 = .ok (.aload_n 0, 1) := by decide +kernel
theorem d_X_span_124 : decode (qB q_X_span) 124 = .ok (.getfield 23, 3) := by decide +kernel
theorem d_X_span_127 : decode (qB q_X_span) 127 = .ok (.invokevirtual 143, 3) := by decide +kernel
theorem d_X_span_130 : decode (qB q_X_span) 130 = .ok (.aload_n 0, 1) := by decide +kernel
theorem d_X_span_131 : decode (qB q_X_span) 131 = .ok (.getfield 23, 3) := by decide +kernel
theorem d_X_span_134 : decode (qB q_X_span) 134 = .ok (.getfield 109, 3) := by decide +kernel
theorem d_X_span_137 : decode (qB q_X_span) 137 = .ok (.iload_n 1, 1) := by decide +kernel
theorem d_X_span_138 : decode (qB q_X_span) 138 = .ok (.laload, 1) := by decide +kernel
theorem d_X_span_139 : decode (qB q_X_span) 139 = .ok (.lload 11, 2) := by decide +kernel
theorem d_X_span_141 : decode (qB q_X_span) 141 = .ok (.lmul, 1) := by decide +kernel
theorem d_X_span_142 : decode (qB q_X_span) 142 = .ok (.lsub, 1) := by decide +kernel
theorem d_X_span_143 : decode (qB q_X_span) 143 = .ok (.lstore 13, 2) := by decide +kernel
theorem d_X_span_145 : decode (qB q_X_span) 145 = .ok (.aload 5, 2) := by decide +kernel
theorem d_X_span_147 : decode (qB q_X_span) 147 = .ok (.lload 6, 2) := by decide +kernel
theorem d_X_span_149 : decode (qB q_X_span) 149 = .ok (.lload 11, 2) := by decide +kernel
theorem d_X_span_151 : decode (qB q_X_span) 151 = .ok (.lsub, 1) := by decide +kernel
theorem d_X_span_152 : decode (qB q_X_span) 152 = .ok (.lload 13, 2) := by decide +kernel
theorem d_X_span_154 : decode (qB q_X_span) 154 = .ok (.lload 8, 2) := by decide +kernel
theorem d_X_span_156 : decode (qB q_X_span) 156 = .ok (.lsub, 1) := by decide +kernel
theorem d_X_span_157 : decode (qB q_X_span) 157 = .ok (.invokevirtual 170, 3) := by decide +kernel
theorem d_X_span_160 : decode (qB q_X_span) 160 = .ok (.iinc 10 1, 3) := by decide +kernel
theorem d_X_span_163 : decode (qB q_X_span) 163 = .ok (.goto (-73), 3) := by decide +kernel
theorem d_X_span_166 : decode (qB q_X_span) 166 = .ok (.aload 5, 2) := by decide +kernel
theorem d_X_span_168 : decode (qB q_X_span) 168 = .ok (.iload_n 2, 1) := by decide +kernel
theorem d_X_span_169 : decode (qB q_X_span) 169 = .ok (.iload_n 3, 1) := by decide +kernel
theorem d_X_span_170 : decode (qB q_X_span) 170 = .ok (.invokevirtual 174, 3) := by decide +kernel
theorem d_X_span_173 : decode (qB q_X_span) 173 = .ok (.lreturn, 1) := by decide +kernel
set_option maxRecDepth 10000 in
theorem k_X_span {G : mxG} (hG : mx_GG G) : ∀ pc r, t_X_span pc = some r → mx_Ok G mx_W mx_MT q_X_span pc r := (bn_ok (bn_ok (bn_ok (bn_ok (bn_ok (bn_ok (bl_ok (ok_aload_n rfl d_X_span_0)) (bl_ok (ok_cv mx_W_good (cl_0 hG) d_X_span_1 (mt_X_wayAtHand) mk_X_wayAtHand w_453 w_455 ws_X_wayAtHand (by decide) (by decide)))) (bn_ok (bl_ok (ok_astore d_X_span_4 (by decide))) (bn_ok (bl_ok (ok_aload d_X_span_6)) (bl_ok (ok_ifnull d_X_span_8 (by decide)))))) (bn_ok (bn_ok (bl_ok (ok_iload_n rfl d_X_span_11)) (bn_ok (bl_ok (ok_cs mx_W_good d_X_span_12 (mt_X_isAim) mk_X_isAim w_252 w_253 (by decide) (by decide))) (bl_ok (ok_ifeq d_X_span_15 (by decide))))) (bn_ok (bl_ok (ok_iload_n rfl d_X_span_18)) (bn_ok (bl_ok (ok_i2l d_X_span_19)) (bl_ok (ok_lconst (by decide) d_X_span_20)))))) (bn_ok (bn_ok (bn_ok (bl_ok (ok_lconst (by decide) d_X_span_21)) (bl_ok (ok_cs mx_W_good d_X_span_22 (mt_X_within) mk_X_within w_234 w_235 (by decide) (by decide)))) (bn_ok (bl_ok (ok_ifeq d_X_span_25 (by decide))) (bn_ok (bl_ok (ok_iload_n rfl d_X_span_28)) (bl_ok (ok_i2l d_X_span_29))))) (bn_ok (bn_ok (bl_ok (ok_lconst (by decide) d_X_span_30)) (bn_ok (bl_ok (ok_lconst (by decide) d_X_span_31)) (bl_ok (ok_cs mx_W_good d_X_span_32 (mt_X_within) mk_X_within w_234 w_235 (by decide) (by decide))))) (bn_ok (bl_ok (ok_ifne d_X_span_35 (by decide))) (bn_ok (bl_ok (ok_ldc2 d_X_span_38 w_205)) (bl_ok (ok_lreturn d_X_span_41 rfl))))))) (bn_ok (bn_ok (bn_ok (bn_ok (bl_ok (ok_new d_X_span_42 (cl_6 hG) w_495 w_496 w_10 rfl (df_6_ok) rfl)) (bl_ok (ok_dup d_X_span_45))) (bn_ok (bl_ok (ok_ciN mx_W_good d_X_span_46 (mt_P_init) mk_P_init rfl rfl (mx_nin hG (by decide +kernel : Cond.methodLinkNest "CorridorCells" 165 ⟨"CorridorCells$Span", "<init>", "()V"⟩ "CorridorCells" ∈ mx_ns)) w_498 (by decide) (by decide))) (bn_ok (bl_ok (ok_astore d_X_span_49 (by decide))) (bl_ok (ok_aload d_X_span_51))))) (bn_ok (bn_ok (bl_ok (ok_aload_n rfl d_X_span_53)) (bn_ok (bl_ok (ok_getf d_X_span_54 (cl_0 hG) (by decide) w_206)) (bl_ok (ok_iload_n rfl d_X_span_57)))) (bn_ok (bl_ok (ok_cv mx_W_good (cl_4 hG) d_X_span_58 (mt_W_amountOf) mk_W_amountOf w_517 w_518 w_519 (by decide) (by decide))) (bn_ok (bl_ok (ok_lstore d_X_span_61 (by decide))) (bl_ok (ok_aload d_X_span_63)))))) (bn_ok (bn_ok (bn_ok (bl_ok (ok_aload_n rfl d_X_span_65)) (bn_ok (bl_ok (ok_getf d_X_span_66 (cl_0 hG) (by decide) w_206)) (bl_ok (ok_cv mx_W_good (cl_4 hG) d_X_span_69 (mt_W_scaledCost) mk_W_scaledCost w_461 w_462 w_463 (by decide) (by decide))))) (bn_ok (bl_ok (ok_aload_n rfl d_X_span_72)) (bn_ok (bl_ok (ok_getf d_X_span_73 (cl_0 hG) (by decide) w_206)) (bl_ok (ok_getf d_X_span_76 (cl_1 hG) (by decide) w_69))))) (bn_ok (bn_ok (bl_ok (ok_iload_n rfl d_X_span_79)) (bn_ok (bl_ok (ok_lald d_X_span_80 (kt_1 hG))) (bl_ok (ok_lload d_X_span_81)))) (bn_ok (bl_ok (ok_lmul d_X_span_83)) (bn_ok (bl_ok (ok_lsub d_X_span_84)) (bl_ok (ok_lstore d_X_span_85 (by decide))))))))) (bn_ok (bn_ok (bn_ok (bn_ok (bn_ok (bl_ok (ok_iconst (by decide) d_X_span_87)) (bl_ok (ok_istore d_X_span_88 (by decide)))) (bn_ok (bl_ok (ok_iload d_X_span_90)) (bn_ok (bl_ok (ok_aload_n rfl d_X_span_92)) (bl_ok (ok_getf d_X_span_93 (cl_0 hG) (by decide) w_209))))) (bn_ok (bn_ok (bl_ok (ok_icge d_X_span_96 (by decide))) (bn_ok (bl_ok (ok_aload_n rfl d_X_span_99)) (bl_ok (ok_getf d_X_span_100 (cl_0 hG) (by decide) w_208)))) (bn_ok (bl_ok (ok_iload d_X_span_103)) (bn_ok (bl_ok (ok_aald d_X_span_105 (kt_3 hG) (by decide))) (bl_ok (ok_aload_n rfl d_X_span_106)))))) (bn_ok (bn_ok (bn_ok (bl_ok (ok_getf d_X_span_107 (cl_0 hG) (by decide) w_206)) (bn_ok (bl_ok (ok_iload_n rfl d_X_span_110)) (bl_ok (ok_cv mx_W_good (cl_4 hG) d_X_span_111 (mt_W_amountOf) mk_W_amountOf w_517 w_518 w_519 (by decide) (by decide))))) (bn_ok (bl_ok (ok_lstore d_X_span_114 (by decide))) (bn_ok (bl_ok (ok_aload_n rfl d_X_span_116)) (bl_ok (ok_getf d_X_span_117 (cl_0 hG) (by decide) w_208))))) (bn_ok (bn_ok (bl_ok (ok_iload d_X_span_120)) (bn_ok (bl_ok (ok_aald d_X_span_122 (kt_3 hG) (by decide))) (bl_ok (ok_aload_n rfl d_X_span_123)))) (bn_ok (bl_ok (ok_getf d_X_span_124 (cl_0 hG) (by decide) w_206)) (bn_ok (bl_ok (ok_cv mx_W_good (cl_4 hG) d_X_span_127 (mt_W_scaledCost) mk_W_scaledCost w_461 w_462 w_463 (by decide) (by decide))) (bl_ok (ok_aload_n rfl d_X_span_130))))))) (bn_ok (bn_ok (bn_ok (bn_ok (bl_ok (ok_getf d_X_span_131 (cl_0 hG) (by decide) w_206)) (bl_ok (ok_getf d_X_span_134 (cl_1 hG) (by decide) w_69))) (bn_ok (bl_ok (ok_iload_n rfl d_X_span_137)) (bn_ok (bl_ok (ok_lald d_X_span_138 (kt_1 hG))) (bl_ok (ok_lload d_X_span_139))))) (bn_ok (bn_ok (bl_ok (ok_lmul d_X_span_141)) (bn_ok (bl_ok (ok_lsub d_X_span_142)) (bl_ok (ok_lstore d_X_span_143 (by decide))))) (bn_ok (bl_ok (ok_aload d_X_span_145)) (bn_ok (bl_ok (ok_lload d_X_span_147)) (bl_ok (ok_lload d_X_span_149)))))) (bn_ok (bn_ok (bn_ok (bl_ok (ok_lsub d_X_span_151)) (bn_ok (bl_ok (ok_lload d_X_span_152)) (bl_ok (ok_lload d_X_span_154)))) (bn_ok (bl_ok (ok_lsub d_X_span_156)) (bn_ok (bl_ok (ok_cv mx_W_good (cl_6 hG) d_X_span_157 (mt_P_keepBelow) mk_P_keepBelow w_523 w_524 w_525 (by decide) (by decide))) (bl_ok (ok_iinc d_X_span_160 (by decide) (by decide)))))) (bn_ok (bn_ok (bl_ok (ok_goto d_X_span_163 (by decide))) (bn_ok (bl_ok (ok_aload d_X_span_166)) (bl_ok (ok_iload_n rfl d_X_span_168)))) (bn_ok (bl_ok (ok_iload_n rfl d_X_span_169)) (bn_ok (bl_ok (ok_cv mx_W_good (cl_6 hG) d_X_span_170 (mt_P_told) mk_P_told w_541 w_542 w_543 (by decide) (by decide))) (bl_ok (ok_lreturn d_X_span_173 rfl)))))))))
theorem d_X_bridge_0 : decode (qB q_X_bridge) 0 = .ok (.aload_n 0, 1) := by decide +kernel
theorem d_X_bridge_1 : decode (qB q_X_bridge) 1 = .ok (.getfield 23, 3) := by decide +kernel
theorem d_X_bridge_4 : decode (qB q_X_bridge) 4 = .ok (.iload_n 1, 1) := by decide +kernel
theorem d_X_bridge_5 : decode (qB q_X_bridge) 5 = .ok (.iload_n 2, 1) := by decide +kernel
theorem d_X_bridge_6 : decode (qB q_X_bridge) 6 = .ok (.invokevirtual 60, 3) := by decide +kernel
theorem d_X_bridge_9 : decode (qB q_X_bridge) 9 = .ok (.istore 6, 2) := by decide +kernel
theorem d_X_bridge_11 : decode (qB q_X_bridge) 11 = .ok (.iload 6, 2) := by decide +kernel
theorem d_X_bridge_13 : decode (qB q_X_bridge) 13 = .ok (.ifCond .lt 27, 3) := by decide +kernel
theorem d_X_bridge_16 : decode (qB q_X_bridge) 16 = .ok (.iload_n 3, 1) := by decide +kernel
theorem d_X_bridge_17 : decode (qB q_X_bridge) 17 = .ok (.i2l, 1) := by decide +kernel
theorem d_X_bridge_18 : decode (qB q_X_bridge) 18 = .ok (.lconst 1, 1) := by decide +kernel
theorem d_X_bridge_19 : decode (qB q_X_bridge) 19 = .ok (.ldc2_w 178, 3) := by decide +kernel
theorem d_X_bridge_22 : decode (qB q_X_bridge) 22 = .ok (.invokestatic 65, 3) := by decide +kernel
theorem d_X_bridge_25 : decode (qB q_X_bridge) 25 = .ok (.ifCond .eq 15, 3) := by decide +kernel
theorem d_X_bridge_28 : decode (qB q_X_bridge) 28 = .ok (.lload 4, 2) := by decide +kernel
theorem d_X_bridge_30 : decode (qB q_X_bridge) 30 = .ok (.lconst 0, 1) := by decide +kernel
theorem d_X_bridge_31 : decode (qB q_X_bridge) 31 = .ok (.ldc2_w 69, 3) := by decide +kernel
theorem d_X_bridge_34 : decode (qB q_X_bridge) 34 = .ok (.invokestatic 65, 3) := by decide +kernel
theorem d_X_bridge_37 : decode (qB q_X_bridge) 37 = .ok (.ifCond .ne 5, 3) := by decide +kernel
theorem d_X_bridge_40 : decode (qB q_X_bridge) 40 = .ok (.iconst 0, 1) := by decide +kernel
theorem d_X_bridge_41 : decode (qB q_X_bridge) 41 = .ok (.ireturn, 1) := by decide +kernel
theorem d_X_bridge_42 : decode (qB q_X_bridge) 42 = .ok (.aload_n 0, 1) := by decide +kernel
theorem d_X_bridge_43 : decode (qB q_X_bridge) 43 = .ok (.getfield 23, 3) := by decide +kernel
theorem d_X_bridge_46 : decode (qB q_X_bridge) 46 = .ok (.getfield 180, 3) := by decide +kernel
theorem d_X_bridge_49 : decode (qB q_X_bridge) 49 = .ok (.iload 6, 2) := by decide +kernel
theorem d_X_bridge_51 : decode (qB q_X_bridge) 51 = .ok (.iload_n 3, 1) := by decide +kernel
theorem d_X_bridge_52 : decode (qB q_X_bridge) 52 = .ok (.iastore, 1) := by decide +kernel
theorem d_X_bridge_53 : decode (qB q_X_bridge) 53 = .ok (.aload_n 0, 1) := by decide +kernel
theorem d_X_bridge_54 : decode (qB q_X_bridge) 54 = .ok (.getfield 23, 3) := by decide +kernel
theorem d_X_bridge_57 : decode (qB q_X_bridge) 57 = .ok (.getfield 183, 3) := by decide +kernel
theorem d_X_bridge_60 : decode (qB q_X_bridge) 60 = .ok (.iload 6, 2) := by decide +kernel
theorem d_X_bridge_62 : decode (qB q_X_bridge) 62 = .ok (.lload 4, 2) := by decide +kernel
theorem d_X_bridge_64 : decode (qB q_X_bridge) 64 = .ok (.l2i, 1) := by decide +kernel
theorem d_X_bridge_65 : decode (qB q_X_bridge) 65 = .ok (.iastore, 1) := by decide +kernel
theorem d_X_bridge_66 : decode (qB q_X_bridge) 66 = .ok (.iconst 1, 1) := by decide +kernel
theorem d_X_bridge_67 : decode (qB q_X_bridge) 67 = .ok (.ireturn, 1) := by decide +kernel
set_option maxRecDepth 10000 in
theorem k_X_bridge {G : mxG} (hG : mx_GG G) : ∀ pc r, t_X_bridge pc = some r → mx_Ok G mx_W mx_MT q_X_bridge pc r := (bn_ok (bn_ok (bn_ok (bn_ok (bn_ok (bl_ok (ok_aload_n rfl d_X_bridge_0)) (bl_ok (ok_getf d_X_bridge_1 (cl_0 hG) (by decide) w_206))) (bn_ok (bl_ok (ok_iload_n rfl d_X_bridge_4)) (bl_ok (ok_iload_n rfl d_X_bridge_5)))) (bn_ok (bn_ok (bl_ok (ok_cv mx_W_good (cl_1 hG) d_X_bridge_6 (mt_G_numberOf) mk_G_numberOf w_232 w_37 w_38 (by decide) (by decide))) (bl_ok (ok_istore d_X_bridge_9 (by decide)))) (bn_ok (bl_ok (ok_iload d_X_bridge_11)) (bn_ok (bl_ok (ok_iflt d_X_bridge_13 (by decide))) (bl_ok (ok_iload_n rfl d_X_bridge_16)))))) (bn_ok (bn_ok (bn_ok (bl_ok (ok_i2l d_X_bridge_17)) (bl_ok (ok_lconst (by decide) d_X_bridge_18))) (bn_ok (bl_ok (ok_ldc2 d_X_bridge_19 w_255)) (bl_ok (ok_cs mx_W_good d_X_bridge_22 (mt_X_within) mk_X_within w_234 w_235 (by decide) (by decide))))) (bn_ok (bn_ok (bl_ok (ok_ifeq d_X_bridge_25 (by decide))) (bl_ok (ok_lload d_X_bridge_28))) (bn_ok (bl_ok (ok_lconst (by decide) d_X_bridge_30)) (bn_ok (bl_ok (ok_ldc2 d_X_bridge_31 w_237)) (bl_ok (ok_cs mx_W_good d_X_bridge_34 (mt_X_within) mk_X_within w_234 w_235 (by decide) (by decide)))))))) (bn_ok (bn_ok (bn_ok (bn_ok (bl_ok (ok_ifne d_X_bridge_37 (by decide))) (bl_ok (ok_iconst (by decide) d_X_bridge_40))) (bn_ok (bl_ok (ok_zreturn d_X_bridge_41 rfl)) (bl_ok (ok_aload_n rfl d_X_bridge_42)))) (bn_ok (bn_ok (bl_ok (ok_getf d_X_bridge_43 (cl_0 hG) (by decide) w_206)) (bl_ok (ok_getf d_X_bridge_46 (cl_1 hG) (by decide) w_60))) (bn_ok (bl_ok (ok_iload d_X_bridge_49)) (bn_ok (bl_ok (ok_iload_n rfl d_X_bridge_51)) (bl_ok (ok_iast d_X_bridge_52 (kt_0 hG))))))) (bn_ok (bn_ok (bn_ok (bl_ok (ok_aload_n rfl d_X_bridge_53)) (bl_ok (ok_getf d_X_bridge_54 (cl_0 hG) (by decide) w_206))) (bn_ok (bl_ok (ok_getf d_X_bridge_57 (cl_1 hG) (by decide) w_62)) (bl_ok (ok_iload d_X_bridge_60)))) (bn_ok (bn_ok (bl_ok (ok_lload d_X_bridge_62)) (bl_ok (ok_l2i d_X_bridge_64))) (bn_ok (bl_ok (ok_iast d_X_bridge_65 (kt_0 hG))) (bn_ok (bl_ok (ok_iconst (by decide) d_X_bridge_66)) (bl_ok (ok_zreturn d_X_bridge_67 rfl))))))))
theorem d_X_mark_0 : decode (qB q_X_mark) 0 = .ok (.aload_n 0, 1) := by decide +kernel
theorem d_X_mark_1 : decode (qB q_X_mark) 1 = .ok (.getfield 23, 3) := by decide +kernel
theorem d_X_mark_4 : decode (qB q_X_mark) 4 = .ok (.iload_n 2, 1) := by decide +kernel
theorem d_X_mark_5 : decode (qB q_X_mark) 5 = .ok (.iload_n 3, 1) := by decide +kernel
theorem d_X_mark_6 : decode (qB q_X_mark) 6 = .ok (.invokevirtual 60, 3) := by decide +kernel
theorem d_X_mark_9 : decode (qB q_X_mark) 9 = .ok (.istore 5, 2) := by decide +kernel
theorem d_X_mark_11 : decode (qB q_X_mark) 11 = .ok (.iload 5, 2) := by decide +kernel
theorem d_X_mark_13 : decode (qB q_X_mark) 13 = .ok (.ifCond .lt 28, 3) := by decide +kernel
theorem d_X_mark_16 : decode (qB q_X_mark) 16 = .ok (.iload_n 1, 1) := by decide +kernel
theorem d_X_mark_17 : decode (qB q_X_mark) 17 = .ok (.i2l, 1) := by decide +kernel
theorem d_X_mark_18 : decode (qB q_X_mark) 18 = .ok (.lconst 0, 1) := by decide +kernel
theorem d_X_mark_19 : decode (qB q_X_mark) 19 = .ok (.ldc2_w 186, 3) := by decide +kernel
theorem d_X_mark_22 : decode (qB q_X_mark) 22 = .ok (.invokestatic 65, 3) := by decide +kernel
theorem d_X_mark_25 : decode (qB q_X_mark) 25 = .ok (.ifCond .eq 16, 3) := by decide +kernel
theorem d_X_mark_28 : decode (qB q_X_mark) 28 = .ok (.iload 4, 2) := by decide +kernel
theorem d_X_mark_30 : decode (qB q_X_mark) 30 = .ok (.i2l, 1) := by decide +kernel
theorem d_X_mark_31 : decode (qB q_X_mark) 31 = .ok (.lconst 0, 1) := by decide +kernel
theorem d_X_mark_32 : decode (qB q_X_mark) 32 = .ok (.ldc2_w 178, 3) := by decide +kernel
theorem d_X_mark_35 : decode (qB q_X_mark) 35 = .ok (.invokestatic 65, 3) := by decide +kernel
theorem d_X_mark_38 : decode (qB q_X_mark) 38 = .ok (.ifCond .ne 5, 3) := by decide +kernel
theorem d_X_mark_41 : decode (qB q_X_mark) 41 = .ok (.iconst (-1), 1) := by decide +kernel
theorem d_X_mark_42 : decode (qB q_X_mark) 42 = .ok (.ireturn, 1) := by decide +kernel
theorem d_X_mark_43 : decode (qB q_X_mark) 43 = .ok (.aload_n 0, 1) := by decide +kernel
theorem d_X_mark_44 : decode (qB q_X_mark) 44 = .ok (.getfield 23, 3) := by decide +kernel
theorem d_X_mark_47 : decode (qB q_X_mark) 47 = .ok (.iload 5, 2) := by decide +kernel
theorem d_X_mark_49 : decode (qB q_X_mark) 49 = .ok (.iload_n 1, 1) := by decide +kernel
theorem d_X_mark_50 : decode (qB q_X_mark) 50 = .ok (.iload 4, 2) := by decide +kernel
theorem d_X_mark_52 : decode (qB q_X_mark) 52 = .ok (.invokevirtual 188, 3) := by decide +kernel
theorem d_X_mark_55 : decode (qB q_X_mark) 55 = .ok (.ireturn, 1) := by decide +kernel
set_option maxRecDepth 10000 in
theorem k_X_mark {G : mxG} (hG : mx_GG G) : ∀ pc r, t_X_mark pc = some r → mx_Ok G mx_W mx_MT q_X_mark pc r := (bn_ok (bn_ok (bn_ok (bn_ok (bl_ok (ok_aload_n rfl d_X_mark_0)) (bn_ok (bl_ok (ok_getf d_X_mark_1 (cl_0 hG) (by decide) w_206)) (bl_ok (ok_iload_n rfl d_X_mark_4)))) (bn_ok (bn_ok (bl_ok (ok_iload_n rfl d_X_mark_5)) (bl_ok (ok_cv mx_W_good (cl_1 hG) d_X_mark_6 (mt_G_numberOf) mk_G_numberOf w_232 w_37 w_38 (by decide) (by decide)))) (bn_ok (bl_ok (ok_istore d_X_mark_9 (by decide))) (bl_ok (ok_iload d_X_mark_11))))) (bn_ok (bn_ok (bl_ok (ok_iflt d_X_mark_13 (by decide))) (bn_ok (bl_ok (ok_iload_n rfl d_X_mark_16)) (bl_ok (ok_i2l d_X_mark_17)))) (bn_ok (bn_ok (bl_ok (ok_lconst (by decide) d_X_mark_18)) (bl_ok (ok_ldc2 d_X_mark_19 w_556))) (bn_ok (bl_ok (ok_cs mx_W_good d_X_mark_22 (mt_X_within) mk_X_within w_234 w_235 (by decide) (by decide))) (bl_ok (ok_ifeq d_X_mark_25 (by decide))))))) (bn_ok (bn_ok (bn_ok (bl_ok (ok_iload d_X_mark_28)) (bn_ok (bl_ok (ok_i2l d_X_mark_30)) (bl_ok (ok_lconst (by decide) d_X_mark_31)))) (bn_ok (bn_ok (bl_ok (ok_ldc2 d_X_mark_32 w_255)) (bl_ok (ok_cs mx_W_good d_X_mark_35 (mt_X_within) mk_X_within w_234 w_235 (by decide) (by decide)))) (bn_ok (bl_ok (ok_ifne d_X_mark_38 (by decide))) (bl_ok (ok_iconst (by decide) d_X_mark_41))))) (bn_ok (bn_ok (bn_ok (bl_ok (ok_ireturn d_X_mark_42 rfl)) (bl_ok (ok_aload_n rfl d_X_mark_43))) (bn_ok (bl_ok (ok_getf d_X_mark_44 (cl_0 hG) (by decide) w_206)) (bl_ok (ok_iload d_X_mark_47)))) (bn_ok (bn_ok (bl_ok (ok_iload_n rfl d_X_mark_49)) (bl_ok (ok_iload d_X_mark_50))) (bn_ok (bl_ok (ok_cv mx_W_good (cl_1 hG) d_X_mark_52 (mt_G_putMark) mk_G_putMark w_557 w_558 w_559 (by decide) (by decide))) (bl_ok (ok_ireturn d_X_mark_55 rfl)))))))
theorem d_X_zone_0 : decode (qB q_X_zone) 0 = .ok (.aload_n 0, 1) := by decide +kernel
theorem d_X_zone_1 : decode (qB q_X_zone) 1 = .ok (.getfield 23, 3) := by decide +kernel
theorem d_X_zone_4 : decode (qB q_X_zone) 4 = .ok (.iload_n 2, 1) := by decide +kernel
theorem d_X_zone_5 : decode (qB q_X_zone) 5 = .ok (.iload_n 3, 1) := by decide +kernel
theorem d_X_zone_6 : decode (qB q_X_zone) 6 = .ok (.invokevirtual 60, 3) := by decide +kernel
theorem d_X_zone_9 : decode (qB q_X_zone) 9 = .ok (.istore 4, 2) := by decide +kernel
theorem d_X_zone_11 : decode (qB q_X_zone) 11 = .ok (.iload 4, 2) := by decide +kernel
theorem d_X_zone_13 : decode (qB q_X_zone) 13 = .ok (.ifCond .lt 10, 3) := by decide +kernel
theorem d_X_zone_16 : decode (qB q_X_zone) 16 = .ok (.iload_n 1, 1) := by decide +kernel
theorem d_X_zone_17 : decode (qB q_X_zone) 17 = .ok (.invokestatic 191, 3) := by decide +kernel
theorem d_X_zone_20 : decode (qB q_X_zone) 20 = .ok (.ifCond .ne 5, 3) := by decide +kernel
theorem d_X_zone_23 : decode (qB q_X_zone) 23 = .ok (.iconst (-1), 1) := by decide +kernel
theorem d_X_zone_24 : decode (qB q_X_zone) 24 = .ok (.ireturn, 1) := by decide +kernel
theorem d_X_zone_25 : decode (qB q_X_zone) 25 = .ok (.aload_n 0, 1) := by decide +kernel
theorem d_X_zone_26 : decode (qB q_X_zone) 26 = .ok (.getfield 23, 3) := by decide +kernel
theorem d_X_zone_29 : decode (qB q_X_zone) 29 = .ok (.getfield 194, 3) := by decide +kernel
theorem d_X_zone_32 : decode (qB q_X_zone) 32 = .ok (.iload 4, 2) := by decide +kernel
theorem d_X_zone_34 : decode (qB q_X_zone) 34 = .ok (.iaload, 1) := by decide +kernel
theorem d_X_zone_35 : decode (qB q_X_zone) 35 = .ok (.istore 5, 2) := by decide +kernel
theorem d_X_zone_37 : decode (qB q_X_zone) 37 = .ok (.aload_n 0, 1) := by decide +kernel
theorem d_X_zone_38 : decode (qB q_X_zone) 38 = .ok (.getfield 23, 3) := by decide +kernel
theorem d_X_zone_41 : decode (qB q_X_zone) 41 = .ok (.getfield 194, 3) := by decide +kernel
theorem d_X_zone_44 : decode (qB q_X_zone) 44 = .ok (.iload 4, 2) := by decide +kernel
theorem d_X_zone_46 : decode (qB q_X_zone) 46 = .ok (.iload_n 1, 1) := by decide +kernel
theorem d_X_zone_47 : decode (qB q_X_zone) 47 = .ok (.iastore, 1) := by decide +kernel
theorem d_X_zone_48 : decode (qB q_X_zone) 48 = .ok (.iload 5, 2) := by decide +kernel
theorem d_X_zone_50 : decode (qB q_X_zone) 50 = .ok (.ireturn, 1) := by decide +kernel
set_option maxRecDepth 10000 in
theorem k_X_zone {G : mxG} (hG : mx_GG G) : ∀ pc r, t_X_zone pc = some r → mx_Ok G mx_W mx_MT q_X_zone pc r := (bn_ok (bn_ok (bn_ok (bn_ok (bl_ok (ok_aload_n rfl d_X_zone_0)) (bn_ok (bl_ok (ok_getf d_X_zone_1 (cl_0 hG) (by decide) w_206)) (bl_ok (ok_iload_n rfl d_X_zone_4)))) (bn_ok (bl_ok (ok_iload_n rfl d_X_zone_5)) (bn_ok (bl_ok (ok_cv mx_W_good (cl_1 hG) d_X_zone_6 (mt_G_numberOf) mk_G_numberOf w_232 w_37 w_38 (by decide) (by decide))) (bl_ok (ok_istore d_X_zone_9 (by decide)))))) (bn_ok (bn_ok (bl_ok (ok_iload d_X_zone_11)) (bn_ok (bl_ok (ok_iflt d_X_zone_13 (by decide))) (bl_ok (ok_iload_n rfl d_X_zone_16)))) (bn_ok (bn_ok (bl_ok (ok_cs mx_W_good d_X_zone_17 (mt_X_isZone) mk_X_isZone w_565 w_566 (by decide) (by decide))) (bl_ok (ok_ifne d_X_zone_20 (by decide)))) (bn_ok (bl_ok (ok_iconst (by decide) d_X_zone_23)) (bl_ok (ok_ireturn d_X_zone_24 rfl)))))) (bn_ok (bn_ok (bn_ok (bl_ok (ok_aload_n rfl d_X_zone_25)) (bn_ok (bl_ok (ok_getf d_X_zone_26 (cl_0 hG) (by decide) w_206)) (bl_ok (ok_getf d_X_zone_29 (cl_1 hG) (by decide) w_64)))) (bn_ok (bn_ok (bl_ok (ok_iload d_X_zone_32)) (bl_ok (ok_iald d_X_zone_34 (kt_0 hG)))) (bn_ok (bl_ok (ok_istore d_X_zone_35 (by decide))) (bl_ok (ok_aload_n rfl d_X_zone_37))))) (bn_ok (bn_ok (bl_ok (ok_getf d_X_zone_38 (cl_0 hG) (by decide) w_206)) (bn_ok (bl_ok (ok_getf d_X_zone_41 (cl_1 hG) (by decide) w_64)) (bl_ok (ok_iload d_X_zone_44)))) (bn_ok (bn_ok (bl_ok (ok_iload_n rfl d_X_zone_46)) (bl_ok (ok_iast d_X_zone_47 (kt_0 hG)))) (bn_ok (bl_ok (ok_iload d_X_zone_48)) (bl_ok (ok_ireturn d_X_zone_50 rfl)))))))
theorem d_X_sum_0 : decode (qB q_X_sum) 0 = .ok (.aload_n 0, 1) := by decide +kernel
theorem d_X_sum_1 : decode (qB q_X_sum) 1 = .ok (.invokevirtual 124, 3) := by decide +kernel
theorem d_X_sum_4 : decode (qB q_X_sum) 4 = .ok (.astore_n 2, 1) := by decide +kernel
theorem d_X_sum_5 : decode (qB q_X_sum) 5 = .ok (.aload_n 2, 1) := by decide +kernel
theorem d_X_sum_6 : decode (qB q_X_sum) 6 = .ok (.ifnull 10, 3) := by decide +kernel
theorem d_X_sum_9 : decode (qB q_X_sum) 9 = .ok (.iload_n 1, 1) := by decide +kernel
theorem d_X_sum_10 : decode (qB q_X_sum) 10 = .ok (.invokestatic 191, 3) := by decide +kernel
theorem d_X_sum_13 : decode (qB q_X_sum) 13 = .ok (.ifCond .ne 7, 3) := by decide +kernel
theorem d_X_sum_16 : decode (qB q_X_sum) 16 = .ok (.ldc2_w 51, 3) := by decide +kernel
theorem d_X_sum_19 : decode (qB q_X_sum) 19 = .ok (.lreturn, 1) := by decide +kernel
theorem d_X_sum_20 : decode (qB q_X_sum) 20 = .ok (.lconst 0, 1) := by decide +kernel
theorem d_X_sum_21 : decode (qB q_X_sum) 21 = .ok (.lstore_n 3, 1) := by decide +kernel
theorem d_X_sum_22 : decode (qB q_X_sum) 22 = .ok (.iconst 0, 1) := by decide +kernel
theorem d_X_sum_23 : decode (qB q_X_sum) 23 = .ok (.istore 5, 2) := by decide +kernel
theorem d_X_sum_25 : decode (qB q_X_sum) 25 = .ok (.iload 5, 2) := by decide +kernel
theorem d_X_sum_27 : decode (qB q_X_sum) 27 = .ok (.aload_n 2, 1) := by decide +kernel
theorem d_X_sum_28 : decode (qB q_X_sum) 28 = .ok (.getfield 128, 3) := by decide +kernel
theorem d_X_sum_31 : decode (qB q_X_sum) 31 = .ok (.if_icmp .gt 46, 3) := by decide +kernel
theorem d_X_sum_34 : decode (qB q_X_sum) 34 = .ok (.aload_n 2, 1) := by decide +kernel
theorem d_X_sum_35 : decode (qB q_X_sum) 35 = .ok (.getfield 134, 3) := by decide +kernel
theorem d_X_sum_38 : decode (qB q_X_sum) 38 = .ok (.iload 5, 2) := by decide +kernel
theorem d_X_sum_40 : decode (qB q_X_sum) 40 = .ok (.iaload, 1) := by decide +kernel
theorem d_X_sum_41 : decode (qB q_X_sum) 41 = .ok (.istore 6, 2) := by decide +kernel
theorem d_X_sum_43 : decode (qB q_X_sum) 43 = .ok (.aload_n 0, 1) := by decide +kernel
theorem d_X_sum_44 : decode (qB q_X_sum) 44 = .ok (.getfield 23, 3) := by decide +kernel
theorem d_X_sum_47 : decode (qB q_X_sum) 47 = .ok (.getfield 194, 3) := by decide +kernel
theorem d_X_sum_50 : decode (qB q_X_sum) 50 = .ok (.iload 6, 2) := by decide +kernel
theorem d_X_sum_52 : decode (qB q_X_sum) 52 = .ok (.iaload, 1) := by decide +kernel
theorem d_X_sum_53 : decode (qB q_X_sum) 53 = .ok (.iload_n 1, 1) := by decide +kernel
theorem d_X_sum_54 : decode (qB q_X_sum) 54 = .ok (.if_icmp .ne 17, 3) := by decide +kernel
theorem d_X_sum_57 : decode (qB q_X_sum) 57 = .ok (.lload_n 3, 1) := by decide +kernel
theorem d_X_sum_58 : decode (qB q_X_sum) 58 = .ok (.aload_n 0, 1) := by decide +kernel
theorem d_X_sum_59 : decode (qB q_X_sum) 59 = .ok (.getfield 23, 3) := by decide +kernel
theorem d_X_sum_62 : decode (qB q_X_sum) 62 = .ok (.getfield 71, 3) := by decide +kernel
theorem d_X_sum_65 : decode (qB q_X_sum) 65 = .ok (.iload 6, 2) := by decide +kernel
theorem d_X_sum_67 : decode (qB q_X_sum) 67 = .ok (.iaload, 1) := by decide +kernel
theorem d_X_sum_68 : decode (qB q_X_sum) 68 = .ok (.i2l, 1) := by decide +kernel
theorem d_X_sum_69 : decode (qB q_X_sum) 69 = .ok (.ladd, 1) := by decide +kernel
theorem d_X_sum_70 : decode (qB q_X_sum) 70 = .ok (.lstore_n 3, 1) := by decide +kernel
theorem d_X_sum_71 : decode (qB q_X_sum) 71 = .ok (.iinc 5 1, 3) := by decide +kernel
theorem d_X_sum_74 : decode (qB q_X_sum) 74 = .ok (.goto (-49), 3) := by decide +kernel
theorem d_X_sum_77 : decode (qB q_X_sum) 77 = .ok (.lload_n 3, 1) := by decide +kernel
theorem d_X_sum_78 : decode (qB q_X_sum) 78 = .ok (.lreturn, 1) := by decide +kernel
set_option maxRecDepth 10000 in
theorem k_X_sum {G : mxG} (hG : mx_GG G) : ∀ pc r, t_X_sum pc = some r → mx_Ok G mx_W mx_MT q_X_sum pc r := (bn_ok (bn_ok (bn_ok (bn_ok (bn_ok (bl_ok (ok_aload_n rfl d_X_sum_0)) (bl_ok (ok_cv mx_W_good (cl_0 hG) d_X_sum_1 (mt_X_wayAtHand) mk_X_wayAtHand w_453 w_455 ws_X_wayAtHand (by decide) (by decide)))) (bn_ok (bl_ok (ok_astore_n rfl d_X_sum_4 (by decide))) (bn_ok (bl_ok (ok_aload_n rfl d_X_sum_5)) (bl_ok (ok_ifnull d_X_sum_6 (by decide)))))) (bn_ok (bn_ok (bl_ok (ok_iload_n rfl d_X_sum_9)) (bl_ok (ok_cs mx_W_good d_X_sum_10 (mt_X_isZone) mk_X_isZone w_565 w_566 (by decide) (by decide)))) (bn_ok (bl_ok (ok_ifne d_X_sum_13 (by decide))) (bn_ok (bl_ok (ok_ldc2 d_X_sum_16 w_205)) (bl_ok (ok_lreturn d_X_sum_19 rfl)))))) (bn_ok (bn_ok (bn_ok (bl_ok (ok_lconst (by decide) d_X_sum_20)) (bl_ok (ok_lstore_n rfl d_X_sum_21 (by decide)))) (bn_ok (bl_ok (ok_iconst (by decide) d_X_sum_22)) (bn_ok (bl_ok (ok_istore d_X_sum_23 (by decide))) (bl_ok (ok_iload d_X_sum_25))))) (bn_ok (bn_ok (bl_ok (ok_aload_n rfl d_X_sum_27)) (bn_ok (bl_ok (ok_getf d_X_sum_28 (cl_4 hG) (by decide) w_197)) (bl_ok (ok_icgt d_X_sum_31 (by decide))))) (bn_ok (bl_ok (ok_aload_n rfl d_X_sum_34)) (bn_ok (bl_ok (ok_getf d_X_sum_35 (cl_4 hG) (by decide) w_191)) (bl_ok (ok_iload d_X_sum_38))))))) (bn_ok (bn_ok (bn_ok (bn_ok (bl_ok (ok_iald d_X_sum_40 (kt_0 hG))) (bl_ok (ok_istore d_X_sum_41 (by decide)))) (bn_ok (bl_ok (ok_aload_n rfl d_X_sum_43)) (bn_ok (bl_ok (ok_getf d_X_sum_44 (cl_0 hG) (by decide) w_206)) (bl_ok (ok_getf d_X_sum_47 (cl_1 hG) (by decide) w_64))))) (bn_ok (bn_ok (bl_ok (ok_iload d_X_sum_50)) (bn_ok (bl_ok (ok_iald d_X_sum_52 (kt_0 hG))) (bl_ok (ok_iload_n rfl d_X_sum_53)))) (bn_ok (bl_ok (ok_icne d_X_sum_54 (by decide))) (bn_ok (bl_ok (ok_lload_n rfl d_X_sum_57)) (bl_ok (ok_aload_n rfl d_X_sum_58)))))) (bn_ok (bn_ok (bn_ok (bl_ok (ok_getf d_X_sum_59 (cl_0 hG) (by decide) w_206)) (bl_ok (ok_getf d_X_sum_62 (cl_1 hG) (by decide) w_51))) (bn_ok (bl_ok (ok_iload d_X_sum_65)) (bn_ok (bl_ok (ok_iald d_X_sum_67 (kt_0 hG))) (bl_ok (ok_i2l d_X_sum_68))))) (bn_ok (bn_ok (bl_ok (ok_ladd d_X_sum_69)) (bn_ok (bl_ok (ok_lstore_n rfl d_X_sum_70 (by decide))) (bl_ok (ok_iinc d_X_sum_71 (by decide) (by decide))))) (bn_ok (bl_ok (ok_goto d_X_sum_74 (by decide))) (bn_ok (bl_ok (ok_lload_n rfl d_X_sum_77)) (bl_ok (ok_lreturn d_X_sum_78 rfl))))))))
theorem d_X_turns_0 : decode (qB q_X_turns) 0 = .ok (.aload_n 0, 1) := by decide +kernel
theorem d_X_turns_1 : decode (qB q_X_turns) 1 = .ok (.invokevirtual 124, 3) := by decide +kernel
theorem d_X_turns_4 : decode (qB q_X_turns) 4 = .ok (.astore_n 1, 1) := by decide +kernel
theorem d_X_turns_5 : decode (qB q_X_turns) 5 = .ok (.aload_n 1, 1) := by decide +kernel
theorem d_X_turns_6 : decode (qB q_X_turns) 6 = .ok (.ifnonnull 7, 3) := by decide +kernel
theorem d_X_turns_9 : decode (qB q_X_turns) 9 = .ok (.iconst (-1), 1) := by decide +kernel
theorem d_X_turns_10 : decode (qB q_X_turns) 10 = .ok (.goto 7, 3) := by decide +kernel
theorem d_X_turns_13 : decode (qB q_X_turns) 13 = .ok (.aload_n 1, 1) := by decide +kernel
theorem d_X_turns_14 : decode (qB q_X_turns) 14 = .ok (.invokevirtual 197, 3) := by decide +kernel
theorem d_X_turns_17 : decode (qB q_X_turns) 17 = .ok (.ireturn, 1) := by decide +kernel
set_option maxRecDepth 10000 in
theorem k_X_turns {G : mxG} (hG : mx_GG G) : ∀ pc r, t_X_turns pc = some r → mx_Ok G mx_W mx_MT q_X_turns pc r := (bn_ok (bn_ok (bn_ok (bl_ok (ok_aload_n rfl d_X_turns_0)) (bl_ok (ok_cv mx_W_good (cl_0 hG) d_X_turns_1 (mt_X_wayAtHand) mk_X_wayAtHand w_453 w_455 ws_X_wayAtHand (by decide) (by decide)))) (bn_ok (bl_ok (ok_astore_n rfl d_X_turns_4 (by decide))) (bn_ok (bl_ok (ok_aload_n rfl d_X_turns_5)) (bl_ok (ok_ifnonnull d_X_turns_6 (by decide)))))) (bn_ok (bn_ok (bl_ok (ok_iconst (by decide) d_X_turns_9)) (bl_ok (ok_goto d_X_turns_10 (by decide)))) (bn_ok (bl_ok (ok_aload_n rfl d_X_turns_13)) (bn_ok (bl_ok (ok_cv mx_W_good (cl_4 hG) d_X_turns_14 (mt_W_turnCount) mk_W_turnCount w_576 w_577 w_578 (by decide) (by decide))) (bl_ok (ok_ireturn d_X_turns_17 rfl))))))
theorem d_X_keeps_0 : decode (qB q_X_keeps) 0 = .ok (.aload_n 0, 1) := by decide +kernel
theorem d_X_keeps_1 : decode (qB q_X_keeps) 1 = .ok (.invokevirtual 124, 3) := by decide +kernel
theorem d_X_keeps_4 : decode (qB q_X_keeps) 4 = .ok (.astore_n 1, 1) := by decide +kernel
theorem d_X_keeps_5 : decode (qB q_X_keeps) 5 = .ok (.aload_n 1, 1) := by decide +kernel
theorem d_X_keeps_6 : decode (qB q_X_keeps) 6 = .ok (.ifnull 18, 3) := by decide +kernel
theorem d_X_keeps_9 : decode (qB q_X_keeps) 9 = .ok (.aload_n 1, 1) := by decide +kernel
theorem d_X_keeps_10 : decode (qB q_X_keeps) 10 = .ok (.aload_n 0, 1) := by decide +kernel
theorem d_X_keeps_11 : decode (qB q_X_keeps) 11 = .ok (.getfield 23, 3) := by decide +kernel
theorem d_X_keeps_14 : decode (qB q_X_keeps) 14 = .ok (.invokevirtual 200, 3) := by decide +kernel
theorem d_X_keeps_17 : decode (qB q_X_keeps) 17 = .ok (.ifCond .eq 7, 3) := by decide +kernel
theorem d_X_keeps_20 : decode (qB q_X_keeps) 20 = .ok (.iconst 1, 1) := by decide +kernel
theorem d_X_keeps_21 : decode (qB q_X_keeps) 21 = .ok (.goto 4, 3) := by decide +kernel
theorem d_X_keeps_24 : decode (qB q_X_keeps) 24 = .ok (.iconst 0, 1) := by decide +kernel
theorem d_X_keeps_25 : decode (qB q_X_keeps) 25 = .ok (.ireturn, 1) := by decide +kernel
set_option maxRecDepth 10000 in
theorem k_X_keeps {G : mxG} (hG : mx_GG G) : ∀ pc r, t_X_keeps pc = some r → mx_Ok G mx_W mx_MT q_X_keeps pc r := (bn_ok (bn_ok (bn_ok (bl_ok (ok_aload_n rfl d_X_keeps_0)) (bn_ok (bl_ok (ok_cv mx_W_good (cl_0 hG) d_X_keeps_1 (mt_X_wayAtHand) mk_X_wayAtHand w_453 w_455 ws_X_wayAtHand (by decide) (by decide))) (bl_ok (ok_astore_n rfl d_X_keeps_4 (by decide))))) (bn_ok (bn_ok (bl_ok (ok_aload_n rfl d_X_keeps_5)) (bl_ok (ok_ifnull d_X_keeps_6 (by decide)))) (bn_ok (bl_ok (ok_aload_n rfl d_X_keeps_9)) (bl_ok (ok_aload_n rfl d_X_keeps_10))))) (bn_ok (bn_ok (bl_ok (ok_getf d_X_keeps_11 (cl_0 hG) (by decide) w_206)) (bn_ok (bl_ok (ok_cv mx_W_good (cl_4 hG) d_X_keeps_14 (mt_W_isKept) mk_W_isKept w_584 w_585 w_586 (by decide) (by decide))) (bl_ok (ok_ifeq d_X_keeps_17 (by decide))))) (bn_ok (bn_ok (bl_ok (ok_iconst (by decide) d_X_keeps_20)) (bl_ok (ok_goto d_X_keeps_21 (by decide)))) (bn_ok (bl_ok (ok_iconst (by decide) d_X_keeps_24)) (bl_ok (ok_zreturn d_X_keeps_25 rfl))))))
theorem d_X_wayAtHand_0 : decode (qB q_X_wayAtHand) 0 = .ok (.aload_n 0, 1) := by decide +kernel
theorem d_X_wayAtHand_1 : decode (qB q_X_wayAtHand) 1 = .ok (.getfield 43, 3) := by decide +kernel
theorem d_X_wayAtHand_4 : decode (qB q_X_wayAtHand) 4 = .ok (.iconst 1, 1) := by decide +kernel
theorem d_X_wayAtHand_5 : decode (qB q_X_wayAtHand) 5 = .ok (.if_icmp .lt 12, 3) := by decide +kernel
theorem d_X_wayAtHand_8 : decode (qB q_X_wayAtHand) 8 = .ok (.aload_n 0, 1) := by decide +kernel
theorem d_X_wayAtHand_9 : decode (qB q_X_wayAtHand) 9 = .ok (.getfield 43, 3) := by decide +kernel
theorem d_X_wayAtHand_12 : decode (qB q_X_wayAtHand) 12 = .ok (.bipush 6, 2) := by decide +kernel
theorem d_X_wayAtHand_14 : decode (qB q_X_wayAtHand) 14 = .ok (.if_icmp .le 7, 3) := by decide +kernel
theorem d_X_wayAtHand_17 : decode (qB q_X_wayAtHand) 17 = .ok (.aconst_null, 1) := by decide +kernel
theorem d_X_wayAtHand_18 : decode (qB q_X_wayAtHand) 18 = .ok (.goto 14, 3) := by decide +kernel
theorem d_X_wayAtHand_21 : decode (qB q_X_wayAtHand) 21 = .ok (.aload_n 0, 1) := by decide +kernel
theorem d_X_wayAtHand_22 : decode (qB q_X_wayAtHand) 22 = .ok (.getfield 38, 3) := by decide +kernel
theorem d_X_wayAtHand_25 : decode (qB q_X_wayAtHand) 25 = .ok (.aload_n 0, 1) := by decide +kernel
theorem d_X_wayAtHand_26 : decode (qB q_X_wayAtHand) 26 = .ok (.getfield 43, 3) := by decide +kernel
theorem d_X_wayAtHand_29 : decode (qB q_X_wayAtHand) 29 = .ok (.iconst 1, 1) := by decide +kernel
theorem d_X_wayAtHand_30 : decode (qB q_X_wayAtHand) 30 = .ok (.isub, 1) := by decide +kernel
theorem d_X_wayAtHand_31 : decode (qB q_X_wayAtHand) 31 = .ok (.aaload, 1) := by decide +kernel
theorem d_X_wayAtHand_32 : decode (qB q_X_wayAtHand) 32 = .ok (.areturn, 1) := by decide +kernel
set_option maxRecDepth 10000 in
theorem k_X_wayAtHand {G : mxG} (hG : mx_GG G) : ∀ pc r, t_X_wayAtHand pc = some r → mx_Ok G mx_W mx_MT q_X_wayAtHand pc r := (bn_ok (bn_ok (bn_ok (bn_ok (bl_ok (ok_aload_n rfl d_X_wayAtHand_0)) (bl_ok (ok_getf d_X_wayAtHand_1 (cl_0 hG) (by decide) w_209))) (bn_ok (bl_ok (ok_iconst (by decide) d_X_wayAtHand_4)) (bl_ok (ok_iclt d_X_wayAtHand_5 (by decide))))) (bn_ok (bn_ok (bl_ok (ok_aload_n rfl d_X_wayAtHand_8)) (bl_ok (ok_getf d_X_wayAtHand_9 (cl_0 hG) (by decide) w_209))) (bn_ok (bl_ok (ok_bipush (by decide) d_X_wayAtHand_12)) (bn_ok (bl_ok (ok_icle d_X_wayAtHand_14 (by decide))) (bl_ok (ok_null d_X_wayAtHand_17)))))) (bn_ok (bn_ok (bn_ok (bl_ok (ok_goto d_X_wayAtHand_18 (by decide))) (bl_ok (ok_aload_n rfl d_X_wayAtHand_21))) (bn_ok (bl_ok (ok_getf d_X_wayAtHand_22 (cl_0 hG) (by decide) w_208)) (bl_ok (ok_aload_n rfl d_X_wayAtHand_25)))) (bn_ok (bn_ok (bl_ok (ok_getf d_X_wayAtHand_26 (cl_0 hG) (by decide) w_209)) (bl_ok (ok_iconst (by decide) d_X_wayAtHand_29))) (bn_ok (bl_ok (ok_isub d_X_wayAtHand_30)) (bn_ok (bl_ok (ok_aald d_X_wayAtHand_31 (kt_3 hG) (by decide))) (bl_ok (ok_areturn d_X_wayAtHand_32 rfl (Or.inl ⟨_, rfl⟩))))))))
theorem d_X_seek_0 : decode (qB q_X_seek) 0 = .ok (.aload_n 0, 1) := by decide +kernel
theorem d_X_seek_1 : decode (qB q_X_seek) 1 = .ok (.getfield 32, 3) := by decide +kernel
theorem d_X_seek_4 : decode (qB q_X_seek) 4 = .ok (.iload_n 1, 1) := by decide +kernel
theorem d_X_seek_5 : decode (qB q_X_seek) 5 = .ok (.iload_n 2, 1) := by decide +kernel
theorem d_X_seek_6 : decode (qB q_X_seek) 6 = .ok (.iload_n 3, 1) := by decide +kernel
theorem d_X_seek_7 : decode (qB q_X_seek) 7 = .ok (.aload_n 0, 1) := by decide +kernel
theorem d_X_seek_8 : decode (qB q_X_seek) 8 = .ok (.getfield 47, 3) := by decide +kernel
theorem d_X_seek_11 : decode (qB q_X_seek) 11 = .ok (.invokevirtual 204, 3) := by decide +kernel
theorem d_X_seek_14 : decode (qB q_X_seek) 14 = .ok (.istore 4, 2) := by decide +kernel
theorem d_X_seek_16 : decode (qB q_X_seek) 16 = .ok (.aload_n 0, 1) := by decide +kernel
theorem d_X_seek_17 : decode (qB q_X_seek) 17 = .ok (.aload_n 0, 1) := by decide +kernel
theorem d_X_seek_18 : decode (qB q_X_seek) 18 = .ok (.getfield 32, 3) := by decide +kernel
theorem d_X_seek_21 : decode (qB q_X_seek) 21 = .ok (.getfield 208, 3) := by decide +kernel
theorem d_X_seek_24 : decode (qB q_X_seek) 24 = .ok (.lconst 0, 1) := by decide +kernel
theorem d_X_seek_25 : decode (qB q_X_seek) 25 = .ok (.lcmp, 1) := by decide +kernel
theorem d_X_seek_26 : decode (qB q_X_seek) 26 = .ok (.ifCond .ge 9, 3) := by decide +kernel
theorem d_X_seek_29 : decode (qB q_X_seek) 29 = .ok (.ldc2_w 51, 3) := by decide +kernel
theorem d_X_seek_32 : decode (qB q_X_seek) 32 = .ok (.goto 14, 3) := by decide +kernel
theorem d_X_seek_35 : decode (qB q_X_seek) 35 = .ok (.aload_n 0, 1) := by decide +kernel
theorem d_X_seek_36 : decode (qB q_X_seek) 36 = .ok (.getfield 32, 3) := by decide +kernel
theorem d_X_seek_39 : decode (qB q_X_seek) 39 = .ok (.getfield 208, 3) := by decide +kernel
theorem d_X_seek_42 : decode (qB q_X_seek) 42 = .ok (.ldc2_w 113, 3) := by decide +kernel
theorem d_X_seek_45 : decode (qB q_X_seek) 45 = .ok (.ldiv, 1) := by decide +kernel
theorem d_X_seek_46 : decode (qB q_X_seek) 46 = .ok (.putfield 53, 3) := by decide +kernel
theorem d_X_seek_49 : decode (qB q_X_seek) 49 = .ok (.aload_n 0, 1) := by decide +kernel
theorem d_X_seek_50 : decode (qB q_X_seek) 50 = .ok (.iload 4, 2) := by decide +kernel
theorem d_X_seek_52 : decode (qB q_X_seek) 52 = .ok (.bipush (-2), 2) := by decide +kernel
theorem d_X_seek_54 : decode (qB q_X_seek) 54 = .ok (.if_icmp .eq 7, 3) := by decide +kernel
theorem d_X_seek_57 : decode (qB q_X_seek) 57 = .ok (.iconst 1, 1) := by decide +kernel
theorem d_X_seek_58 : decode (qB q_X_seek) 58 = .ok (.goto 4, 3) := by decide +kernel
theorem d_X_seek_61 : decode (qB q_X_seek) 61 = .ok (.iconst 0, 1) := by decide +kernel
theorem d_X_seek_62 : decode (qB q_X_seek) 62 = .ok (.putfield 56, 3) := by decide +kernel
theorem d_X_seek_65 : decode (qB q_X_seek) 65 = .ok (.iload 4, 2) := by decide +kernel
theorem d_X_seek_67 : decode (qB q_X_seek) 67 = .ok (.ifCond .lt 12, 3) := by decide +kernel
theorem d_X_seek_70 : decode (qB q_X_seek) 70 = .ok (.aload_n 0, 1) := by decide +kernel
theorem d_X_seek_71 : decode (qB q_X_seek) 71 = .ok (.getfield 43, 3) := by decide +kernel
theorem d_X_seek_74 : decode (qB q_X_seek) 74 = .ok (.bipush 6, 2) := by decide +kernel
theorem d_X_seek_76 : decode (qB q_X_seek) 76 = .ok (.if_icmp .lt 6, 3) := by decide +kernel
theorem d_X_seek_79 : decode (qB q_X_seek) 79 = .ok (.iload 4, 2) := by decide +kernel
theorem d_X_seek_81 : decode (qB q_X_seek) 81 = .ok (.ireturn, 1) := by decide +kernel
theorem d_X_seek_82 : decode (qB q_X_seek) 82 = .ok (.aload_n 0, 1) := by decide +kernel
theorem d_X_seek_83 : decode (qB q_X_seek) 83 = .ok (.getfield 38, 3) := by decide +kernel
theorem d_X_seek_86 : decode (qB q_X_seek) 86 = .ok (.aload_n 0, 1) := by decide +kernel
theorem d_X_seek_87 : decode (qB q_X_seek) 87 = .ok (.getfield 43, 3) := by decide +kernel
theorem d_X_seek_90 : decode (qB q_X_seek) 90 = .ok (.aaload, 1) := by decide +kernel
theorem d_X_seek_91 : decode (qB q_X_seek) 91 = .ok (.astore 5, 2) := by decide +kernel
theorem d_X_seek_93 : decode (qB q_X_seek) 93 = .ok (.aload_n 0, 1) := by decide +kernel
theorem d_X_seek_94 : decode (qB q_X_seek) 94 = .ok (.getfield 32, 3) := by decide +kernel
theorem d_X_seek_97 : decode (qB q_X_seek) 97 = .ok (.iload 4, 2) := by decide +kernel
theorem d_X_seek_99 : decode (qB q_X_seek) 99 = .ok (.aload 5, 2) := by decide +kernel
theorem d_X_seek_101 : decode (qB q_X_seek) 101 = .ok (.invokevirtual 211, 3) := by decide +kernel
theorem d_X_seek_104 : decode (qB q_X_seek) 104 = .ok (.aload_n 0, 1) := by decide +kernel
theorem d_X_seek_105 : decode (qB q_X_seek) 105 = .ok (.getfield 32, 3) := by decide +kernel
theorem d_X_seek_108 : decode (qB q_X_seek) 108 = .ok (.aload 5, 2) := by decide +kernel
theorem d_X_seek_110 : decode (qB q_X_seek) 110 = .ok (.invokevirtual 215, 3) := by decide +kernel
theorem d_X_seek_113 : decode (qB q_X_seek) 113 = .ok (.aload_n 0, 1) := by decide +kernel
theorem d_X_seek_114 : decode (qB q_X_seek) 114 = .ok (.dup, 1) := by decide +kernel
theorem d_X_seek_115 : decode (qB q_X_seek) 115 = .ok (.getfield 43, 3) := by decide +kernel
theorem d_X_seek_118 : decode (qB q_X_seek) 118 = .ok (.iconst 1, 1) := by decide +kernel
theorem d_X_seek_119 : decode (qB q_X_seek) 119 = .ok (.iadd, 1) := by decide +kernel
theorem d_X_seek_120 : decode (qB q_X_seek) 120 = .ok (.putfield 43, 3) := by decide +kernel
theorem d_X_seek_123 : decode (qB q_X_seek) 123 = .ok (.aload 5, 2) := by decide +kernel
theorem d_X_seek_125 : decode (qB q_X_seek) 125 = .ok (.getfield 128, 3) := by decide +kernel
theorem d_X_seek_128 : decode (qB q_X_seek) 128 = .ok (.ireturn, 1) := by decide +kernel
set_option maxRecDepth 10000 in
theorem k_X_seek {G : mxG} (hG : mx_GG G) : ∀ pc r, t_X_seek pc = some r → mx_Ok G mx_W mx_MT q_X_seek pc r := (bn_ok (bn_ok (bn_ok (bn_ok (bn_ok (bn_ok (bl_ok (ok_aload_n rfl d_X_seek_0)) (bl_ok (ok_getf d_X_seek_1 (cl_0 hG) (by decide) w_207))) (bn_ok (bl_ok (ok_iload_n rfl d_X_seek_4)) (bl_ok (ok_iload_n rfl d_X_seek_5)))) (bn_ok (bn_ok (bl_ok (ok_iload_n rfl d_X_seek_6)) (bl_ok (ok_aload_n rfl d_X_seek_7))) (bn_ok (bl_ok (ok_getf d_X_seek_8 (cl_0 hG) (by decide) w_210)) (bl_ok (ok_cv mx_W_good (cl_2 hG) d_X_seek_11 (mt_S_close) mk_S_close w_276 w_277 w_278 (by decide) (by decide)))))) (bn_ok (bn_ok (bn_ok (bl_ok (ok_istore d_X_seek_14 (by decide))) (bl_ok (ok_aload_n rfl d_X_seek_16))) (bn_ok (bl_ok (ok_aload_n rfl d_X_seek_17)) (bl_ok (ok_getf d_X_seek_18 (cl_0 hG) (by decide) w_207)))) (bn_ok (bn_ok (bl_ok (ok_getf d_X_seek_21 (cl_2 hG) (by decide) w_160)) (bl_ok (ok_lconst (by decide) d_X_seek_24))) (bn_ok (bl_ok (ok_lcmp d_X_seek_25)) (bl_ok (ok_ifge d_X_seek_26 (by decide))))))) (bn_ok (bn_ok (bn_ok (bn_ok (bl_ok (ok_ldc2 d_X_seek_29 w_205)) (bl_ok (ok_goto d_X_seek_32 (by decide)))) (bn_ok (bl_ok (ok_aload_n rfl d_X_seek_35)) (bl_ok (ok_getf d_X_seek_36 (cl_0 hG) (by decide) w_207)))) (bn_ok (bn_ok (bl_ok (ok_getf d_X_seek_39 (cl_2 hG) (by decide) w_160)) (bl_ok (ok_ldc2 d_X_seek_42 w_262))) (bn_ok (bl_ok (ok_ldiv d_X_seek_45)) (bl_ok (ok_putf d_X_seek_46 (cl_0 hG) (by decide) w_211 rfl (Or.inl rfl)))))) (bn_ok (bn_ok (bn_ok (bl_ok (ok_aload_n rfl d_X_seek_49)) (bl_ok (ok_iload d_X_seek_50))) (bn_ok (bl_ok (ok_bipush (by decide) d_X_seek_52)) (bl_ok (ok_iceq d_X_seek_54 (by decide))))) (bn_ok (bn_ok (bl_ok (ok_iconst (by decide) d_X_seek_57)) (bl_ok (ok_goto d_X_seek_58 (by decide)))) (bn_ok (bl_ok (ok_iconst (by decide) d_X_seek_61)) (bl_ok (ok_putf d_X_seek_62 (cl_0 hG) (by decide) w_212 rfl (Or.inl rfl)))))))) (bn_ok (bn_ok (bn_ok (bn_ok (bn_ok (bl_ok (ok_iload d_X_seek_65)) (bl_ok (ok_iflt d_X_seek_67 (by decide)))) (bn_ok (bl_ok (ok_aload_n rfl d_X_seek_70)) (bl_ok (ok_getf d_X_seek_71 (cl_0 hG) (by decide) w_209)))) (bn_ok (bn_ok (bl_ok (ok_bipush (by decide) d_X_seek_74)) (bl_ok (ok_iclt d_X_seek_76 (by decide)))) (bn_ok (bl_ok (ok_iload d_X_seek_79)) (bl_ok (ok_ireturn d_X_seek_81 rfl))))) (bn_ok (bn_ok (bn_ok (bl_ok (ok_aload_n rfl d_X_seek_82)) (bl_ok (ok_getf d_X_seek_83 (cl_0 hG) (by decide) w_208))) (bn_ok (bl_ok (ok_aload_n rfl d_X_seek_86)) (bl_ok (ok_getf d_X_seek_87 (cl_0 hG) (by decide) w_209)))) (bn_ok (bn_ok (bl_ok (ok_aald d_X_seek_90 (kt_3 hG) (by decide))) (bl_ok (ok_astore d_X_seek_91 (by decide)))) (bn_ok (bl_ok (ok_aload_n rfl d_X_seek_93)) (bl_ok (ok_getf d_X_seek_94 (cl_0 hG) (by decide) w_207)))))) (bn_ok (bn_ok (bn_ok (bn_ok (bl_ok (ok_iload d_X_seek_97)) (bl_ok (ok_aload d_X_seek_99))) (bn_ok (bl_ok (ok_cv mx_W_good (cl_2 hG) d_X_seek_101 (mt_S_trace) mk_S_trace w_397 w_398 w_399 (by decide) (by decide))) (bl_ok (ok_aload_n rfl d_X_seek_104)))) (bn_ok (bn_ok (bl_ok (ok_getf d_X_seek_105 (cl_0 hG) (by decide) w_207)) (bl_ok (ok_aload d_X_seek_108))) (bn_ok (bl_ok (ok_cv mx_W_good (cl_2 hG) d_X_seek_110 (mt_S_share) mk_S_share w_437 w_438 w_439 (by decide) (by decide))) (bl_ok (ok_aload_n rfl d_X_seek_113))))) (bn_ok (bn_ok (bn_ok (bl_ok (ok_dup d_X_seek_114)) (bl_ok (ok_getf d_X_seek_115 (cl_0 hG) (by decide) w_209))) (bn_ok (bl_ok (ok_iconst (by decide) d_X_seek_118)) (bl_ok (ok_iadd d_X_seek_119)))) (bn_ok (bn_ok (bl_ok (ok_putf d_X_seek_120 (cl_0 hG) (by decide) w_209 rfl (Or.inl rfl))) (bl_ok (ok_aload d_X_seek_123))) (bn_ok (bl_ok (ok_getf d_X_seek_125 (cl_4 hG) (by decide) w_197)) (bl_ok (ok_ireturn d_X_seek_128 rfl))))))))
