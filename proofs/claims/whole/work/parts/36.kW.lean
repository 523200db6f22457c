theorem d_W_init_0 : decode (qB q_W_init) 0 = .ok (.aload_n 0, 1) := by decide +kernel
theorem d_W_init_1 : decode (qB q_W_init) 1 = .ok (.invokespecial 3, 3) := by decide +kernel
theorem d_W_init_4 : decode (qB q_W_init) 4 = .ok (.aload_n 0, 1) := by decide +kernel
theorem d_W_init_5 : decode (qB q_W_init) 5 = .ok (.bipush 12, 2) := by decide +kernel
theorem d_W_init_7 : decode (qB q_W_init) 7 = .ok (.newarray .int, 2) := by decide +kernel
theorem d_W_init_9 : decode (qB q_W_init) 9 = .ok (.putfield 9, 3) := by decide +kernel
theorem d_W_init_12 : decode (qB q_W_init) 12 = .ok (.aload_n 0, 1) := by decide +kernel
theorem d_W_init_13 : decode (qB q_W_init) 13 = .ok (.bipush 12, 2) := by decide +kernel
theorem d_W_init_15 : decode (qB q_W_init) 15 = .ok (.newarray .int, 2) := by decide +kernel
theorem d_W_init_17 : decode (qB q_W_init) 17 = .ok (.putfield 15, 3) := by decide +kernel
theorem d_W_init_20 : decode (qB q_W_init) 20 = .ok (.return_, 1) := by decide +kernel
set_option maxRecDepth 10000 in
theorem k_W_init {G : mxG} (hG : mx_GG G) : ∀ pc r, t_W_init pc = some r → mx_Ok G mx_W mx_MT q_W_init pc r := (bn_ok (bn_ok (bn_ok (bl_ok (ok_aload_n rfl d_W_init_0)) (bl_ok (ok_oin d_W_init_1 w_188 w_18 (w_oc) (by decide) (by decide)))) (bn_ok (bl_ok (ok_aload_n rfl d_W_init_4)) (bn_ok (bl_ok (ok_bipush (by decide) d_W_init_5)) (bl_ok (ok_newi d_W_init_7 w_114 (kt_0 hG)))))) (bn_ok (bn_ok (bl_ok (ok_putf d_W_init_9 (cl_4 hG) (by decide) w_189 rfl (Or.inl rfl))) (bn_ok (bl_ok (ok_aload_n rfl d_W_init_12)) (bl_ok (ok_bipush (by decide) d_W_init_13)))) (bn_ok (bl_ok (ok_newi d_W_init_15 w_114 (kt_0 hG))) (bn_ok (bl_ok (ok_putf d_W_init_17 (cl_4 hG) (by decide) w_192 rfl (Or.inl rfl))) (bl_ok (ok_return d_W_init_20 rfl))))))
theorem d_W_begin_0 : decode (qB q_W_begin) 0 = .ok (.aload_n 0, 1) := by decide +kernel
theorem d_W_begin_1 : decode (qB q_W_begin) 1 = .ok (.getfield 9, 3) := by decide +kernel
theorem d_W_begin_4 : decode (qB q_W_begin) 4 = .ok (.arraylength, 1) := by decide +kernel
theorem d_W_begin_5 : decode (qB q_W_begin) 5 = .ok (.iload_n 2, 1) := by decide +kernel
theorem d_W_begin_6 : decode (qB q_W_begin) 6 = .ok (.if_icmp .gt 25, 3) := by decide +kernel
theorem d_W_begin_9 : decode (qB q_W_begin) 9 = .ok (.aload_n 0, 1) := by decide +kernel
theorem d_W_begin_10 : decode (qB q_W_begin) 10 = .ok (.iconst 2, 1) := by decide +kernel
theorem d_W_begin_11 : decode (qB q_W_begin) 11 = .ok (.iload_n 2, 1) := by decide +kernel
theorem d_W_begin_12 : decode (qB q_W_begin) 12 = .ok (.imul, 1) := by decide +kernel
theorem d_W_begin_13 : decode (qB q_W_begin) 13 = .ok (.iconst 1, 1) := by decide +kernel
theorem d_W_begin_14 : decode (qB q_W_begin) 14 = .ok (.iadd, 1) := by decide +kernel
theorem d_W_begin_15 : decode (qB q_W_begin) 15 = .ok (.newarray .int, 2) := by decide +kernel
theorem d_W_begin_17 : decode (qB q_W_begin) 17 = .ok (.putfield 9, 3) := by decide +kernel
theorem d_W_begin_20 : decode (qB q_W_begin) 20 = .ok (.aload_n 0, 1) := by decide +kernel
theorem d_W_begin_21 : decode (qB q_W_begin) 21 = .ok (.iconst 2, 1) := by decide +kernel
theorem d_W_begin_22 : decode (qB q_W_begin) 22 = .ok (.iload_n 2, 1) := by decide +kernel
theorem d_W_begin_23 : decode (qB q_W_begin) 23 = .ok (.imul, 1) := by decide +kernel
theorem d_W_begin_24 : decode (qB q_W_begin) 24 = .ok (.iconst 1, 1) := by decide +kernel
theorem d_W_begin_25 : decode (qB q_W_begin) 25 = .ok (.iadd, 1) := by decide +kernel
theorem d_W_begin_26 : decode (qB q_W_begin) 26 = .ok (.newarray .int, 2) := by decide +kernel
theorem d_W_begin_28 : decode (qB q_W_begin) 28 = .ok (.putfield 15, 3) := by decide +kernel
theorem d_W_begin_31 : decode (qB q_W_begin) 31 = .ok (.aload_n 0, 1) := by decide +kernel
theorem d_W_begin_32 : decode (qB q_W_begin) 32 = .ok (.iload_n 2, 1) := by decide +kernel
theorem d_W_begin_33 : decode (qB q_W_begin) 33 = .ok (.putfield 18, 3) := by decide +kernel
theorem d_W_begin_36 : decode (qB q_W_begin) 36 = .ok (.aload_n 0, 1) := by decide +kernel
theorem d_W_begin_37 : decode (qB q_W_begin) 37 = .ok (.getfield 9, 3) := by decide +kernel
theorem d_W_begin_40 : decode (qB q_W_begin) 40 = .ok (.iconst 0, 1) := by decide +kernel
theorem d_W_begin_41 : decode (qB q_W_begin) 41 = .ok (.iload_n 1, 1) := by decide +kernel
theorem d_W_begin_42 : decode (qB q_W_begin) 42 = .ok (.iastore, 1) := by decide +kernel
theorem d_W_begin_43 : decode (qB q_W_begin) 43 = .ok (.aload_n 0, 1) := by decide +kernel
theorem d_W_begin_44 : decode (qB q_W_begin) 44 = .ok (.getfield 15, 3) := by decide +kernel
theorem d_W_begin_47 : decode (qB q_W_begin) 47 = .ok (.iconst 0, 1) := by decide +kernel
theorem d_W_begin_48 : decode (qB q_W_begin) 48 = .ok (.bipush 16, 2) := by decide +kernel
theorem d_W_begin_50 : decode (qB q_W_begin) 50 = .ok (.iastore, 1) := by decide +kernel
theorem d_W_begin_51 : decode (qB q_W_begin) 51 = .ok (.return_, 1) := by decide +kernel
set_option maxRecDepth 10000 in
theorem k_W_begin {G : mxG} (hG : mx_GG G) : ∀ pc r, t_W_begin pc = some r → mx_Ok G mx_W mx_MT q_W_begin pc r := (bn_ok (bn_ok (bn_ok (bn_ok (bn_ok (bl_ok (ok_aload_n rfl d_W_begin_0)) (bl_ok (ok_getf d_W_begin_1 (cl_4 hG) (by decide) w_189))) (bn_ok (bl_ok (ok_alen d_W_begin_4)) (bl_ok (ok_iload_n rfl d_W_begin_5)))) (bn_ok (bn_ok (bl_ok (ok_icgt d_W_begin_6 (by decide))) (bl_ok (ok_aload_n rfl d_W_begin_9))) (bn_ok (bl_ok (ok_iconst (by decide) d_W_begin_10)) (bl_ok (ok_iload_n rfl d_W_begin_11))))) (bn_ok (bn_ok (bn_ok (bl_ok (ok_imul d_W_begin_12)) (bl_ok (ok_iconst (by decide) d_W_begin_13))) (bn_ok (bl_ok (ok_iadd d_W_begin_14)) (bl_ok (ok_newi d_W_begin_15 w_114 (kt_0 hG))))) (bn_ok (bn_ok (bl_ok (ok_putf d_W_begin_17 (cl_4 hG) (by decide) w_189 rfl (Or.inl rfl))) (bl_ok (ok_aload_n rfl d_W_begin_20))) (bn_ok (bl_ok (ok_iconst (by decide) d_W_begin_21)) (bn_ok (bl_ok (ok_iload_n rfl d_W_begin_22)) (bl_ok (ok_imul d_W_begin_23))))))) (bn_ok (bn_ok (bn_ok (bn_ok (bl_ok (ok_iconst (by decide) d_W_begin_24)) (bl_ok (ok_iadd d_W_begin_25))) (bn_ok (bl_ok (ok_newi d_W_begin_26 w_114 (kt_0 hG))) (bl_ok (ok_putf d_W_begin_28 (cl_4 hG) (by decide) w_192 rfl (Or.inl rfl))))) (bn_ok (bn_ok (bl_ok (ok_aload_n rfl d_W_begin_31)) (bl_ok (ok_iload_n rfl d_W_begin_32))) (bn_ok (bl_ok (ok_putf d_W_begin_33 (cl_4 hG) (by decide) w_195 rfl (Or.inl rfl))) (bn_ok (bl_ok (ok_aload_n rfl d_W_begin_36)) (bl_ok (ok_getf d_W_begin_37 (cl_4 hG) (by decide) w_189)))))) (bn_ok (bn_ok (bn_ok (bl_ok (ok_iconst (by decide) d_W_begin_40)) (bl_ok (ok_iload_n rfl d_W_begin_41))) (bn_ok (bl_ok (ok_iast d_W_begin_42 (kt_0 hG))) (bl_ok (ok_aload_n rfl d_W_begin_43)))) (bn_ok (bn_ok (bl_ok (ok_getf d_W_begin_44 (cl_4 hG) (by decide) w_192)) (bl_ok (ok_iconst (by decide) d_W_begin_47))) (bn_ok (bl_ok (ok_bipush (by decide) d_W_begin_48)) (bn_ok (bl_ok (ok_iast d_W_begin_50 (kt_0 hG))) (bl_ok (ok_return d_W_begin_51 rfl))))))))
theorem d_W_firstPlace_0 : decode (qB q_W_firstPlace) 0 = .ok (.aload_n 0, 1) := by decide +kernel
theorem d_W_firstPlace_1 : decode (qB q_W_firstPlace) 1 = .ok (.getfield 9, 3) := by decide +kernel
theorem d_W_firstPlace_4 : decode (qB q_W_firstPlace) 4 = .ok (.iconst 0, 1) := by decide +kernel
theorem d_W_firstPlace_5 : decode (qB q_W_firstPlace) 5 = .ok (.iaload, 1) := by decide +kernel
theorem d_W_firstPlace_6 : decode (qB q_W_firstPlace) 6 = .ok (.ireturn, 1) := by decide +kernel
set_option maxRecDepth 10000 in
theorem k_W_firstPlace {G : mxG} (hG : mx_GG G) : ∀ pc r, t_W_firstPlace pc = some r → mx_Ok G mx_W mx_MT q_W_firstPlace pc r := (bn_ok (bn_ok (bl_ok (ok_aload_n rfl d_W_firstPlace_0)) (bl_ok (ok_getf d_W_firstPlace_1 (cl_4 hG) (by decide) w_189))) (bn_ok (bl_ok (ok_iconst (by decide) d_W_firstPlace_4)) (bn_ok (bl_ok (ok_iald d_W_firstPlace_5 (kt_0 hG))) (bl_ok (ok_ireturn d_W_firstPlace_6 rfl)))))
theorem d_W_lastPlace_0 : decode (qB q_W_lastPlace) 0 = .ok (.aload_n 0, 1) := by decide +kernel
theorem d_W_lastPlace_1 : decode (qB q_W_lastPlace) 1 = .ok (.getfield 9, 3) := by decide +kernel
theorem d_W_lastPlace_4 : decode (qB q_W_lastPlace) 4 = .ok (.aload_n 0, 1) := by decide +kernel
theorem d_W_lastPlace_5 : decode (qB q_W_lastPlace) 5 = .ok (.getfield 18, 3) := by decide +kernel
theorem d_W_lastPlace_8 : decode (qB q_W_lastPlace) 8 = .ok (.iaload, 1) := by decide +kernel
theorem d_W_lastPlace_9 : decode (qB q_W_lastPlace) 9 = .ok (.ireturn, 1) := by decide +kernel
set_option maxRecDepth 10000 in
theorem k_W_lastPlace {G : mxG} (hG : mx_GG G) : ∀ pc r, t_W_lastPlace pc = some r → mx_Ok G mx_W mx_MT q_W_lastPlace pc r := (bn_ok (bn_ok (bl_ok (ok_aload_n rfl d_W_lastPlace_0)) (bn_ok (bl_ok (ok_getf d_W_lastPlace_1 (cl_4 hG) (by decide) w_189)) (bl_ok (ok_aload_n rfl d_W_lastPlace_4)))) (bn_ok (bl_ok (ok_getf d_W_lastPlace_5 (cl_4 hG) (by decide) w_195)) (bn_ok (bl_ok (ok_iald d_W_lastPlace_8 (kt_0 hG))) (bl_ok (ok_ireturn d_W_lastPlace_9 rfl)))))
theorem d_W_scaledCost_0 : decode (qB q_W_scaledCost) 0 = .ok (.lconst 0, 1) := by decide +kernel
theorem d_W_scaledCost_1 : decode (qB q_W_scaledCost) 1 = .ok (.lstore_n 2, 1) := by decide +kernel
theorem d_W_scaledCost_2 : decode (qB q_W_scaledCost) 2 = .ok (.iconst 1, 1) := by decide +kernel
theorem d_W_scaledCost_3 : decode (qB q_W_scaledCost) 3 = .ok (.istore 4, 2) := by decide +kernel
theorem d_W_scaledCost_5 : decode (qB q_W_scaledCost) 5 = .ok (.iload 4, 2) := by decide +kernel
theorem d_W_scaledCost_7 : decode (qB q_W_scaledCost) 7 = .ok (.aload_n 0, 1) := by decide +kernel
theorem d_W_scaledCost_8 : decode (qB q_W_scaledCost) 8 = .ok (.getfield 18, 3) := by decide +kernel
theorem d_W_scaledCost_11 : decode (qB q_W_scaledCost) 11 = .ok (.if_icmp .gt 36, 3) := by decide +kernel
theorem d_W_scaledCost_14 : decode (qB q_W_scaledCost) 14 = .ok (.lload_n 2, 1) := by decide +kernel
theorem d_W_scaledCost_15 : decode (qB q_W_scaledCost) 15 = .ok (.getstatic 22, 3) := by decide +kernel
theorem d_W_scaledCost_18 : decode (qB q_W_scaledCost) 18 = .ok (.aload_n 0, 1) := by decide +kernel
theorem d_W_scaledCost_19 : decode (qB q_W_scaledCost) 19 = .ok (.getfield 15, 3) := by decide +kernel
theorem d_W_scaledCost_22 : decode (qB q_W_scaledCost) 22 = .ok (.iload 4, 2) := by decide +kernel
theorem d_W_scaledCost_24 : decode (qB q_W_scaledCost) 24 = .ok (.iaload, 1) := by decide +kernel
theorem d_W_scaledCost_25 : decode (qB q_W_scaledCost) 25 = .ok (.iaload, 1) := by decide +kernel
theorem d_W_scaledCost_26 : decode (qB q_W_scaledCost) 26 = .ok (.i2l, 1) := by decide +kernel
theorem d_W_scaledCost_27 : decode (qB q_W_scaledCost) 27 = .ok (.aload_n 1, 1) := by decide +kernel
theorem d_W_scaledCost_28 : decode (qB q_W_scaledCost) 28 = .ok (.aload_n 0, 1) := by decide +kernel
theorem d_W_scaledCost_29 : decode (qB q_W_scaledCost) 29 = .ok (.getfield 9, 3) := by decide +kernel
theorem d_W_scaledCost_32 : decode (qB q_W_scaledCost) 32 = .ok (.iload 4, 2) := by decide +kernel
theorem d_W_scaledCost_34 : decode (qB q_W_scaledCost) 34 = .ok (.iaload, 1) := by decide +kernel
theorem d_W_scaledCost_35 : decode (qB q_W_scaledCost) 35 = .ok (.invokevirtual 25, 3) := by decide +kernel
theorem d_W_scaledCost_38 : decode (qB q_W_scaledCost) 38 = .ok (.lmul, 1) := by decide +kernel
theorem d_W_scaledCost_39 : decode (qB q_W_scaledCost) 39 = .ok (.ladd, 1) := by decide +kernel
theorem d_W_scaledCost_40 : decode (qB q_W_scaledCost) 40 = .ok (.lstore_n 2, 1) := by decide +kernel
theorem d_W_scaledCost_41 : decode (qB q_W_scaledCost) 41 = .ok (.iinc 4 1, 3) := by decide +kernel
theorem d_W_scaledCost_44 : decode (qB q_W_scaledCost) 44 = .ok (.goto (-39), 3) := by decide +kernel
theorem d_W_scaledCost_47 : decode (qB q_W_scaledCost) 47 = .ok (.lload_n 2, 1) := by decide +kernel
theorem d_W_scaledCost_48 : decode (qB q_W_scaledCost) 48 = .ok (.lreturn, 1) := by decide +kernel
set_option maxRecDepth 10000 in
theorem k_W_scaledCost {G : mxG} (hG : mx_GG G) : ∀ pc r, t_W_scaledCost pc = some r → mx_Ok G mx_W mx_MT q_W_scaledCost pc r := (bn_ok (bn_ok (bn_ok (bn_ok (bl_ok (ok_lconst (by decide) d_W_scaledCost_0)) (bn_ok (bl_ok (ok_lstore_n rfl d_W_scaledCost_1 (by decide))) (bl_ok (ok_iconst (by decide) d_W_scaledCost_2)))) (bn_ok (bn_ok (bl_ok (ok_istore d_W_scaledCost_3 (by decide))) (bl_ok (ok_iload d_W_scaledCost_5))) (bn_ok (bl_ok (ok_aload_n rfl d_W_scaledCost_7)) (bl_ok (ok_getf d_W_scaledCost_8 (cl_4 hG) (by decide) w_195))))) (bn_ok (bn_ok (bl_ok (ok_icgt d_W_scaledCost_11 (by decide))) (bn_ok (bl_ok (ok_lload_n rfl d_W_scaledCost_14)) (bl_ok (ok_getsN d_W_scaledCost_15 (by decide) (mx_zin hG (by decide +kernel)) (mx_nin hG (by decide +kernel : Cond.fieldLinkNest "CorridorCells$Way" 22 "CorridorCells" "LENGTHS" "[I" "CorridorCells" ∈ mx_ns)))))) (bn_ok (bn_ok (bl_ok (ok_aload_n rfl d_W_scaledCost_18)) (bl_ok (ok_getf d_W_scaledCost_19 (cl_4 hG) (by decide) w_192))) (bn_ok (bl_ok (ok_iload d_W_scaledCost_22)) (bl_ok (ok_iald d_W_scaledCost_24 (kt_0 hG))))))) (bn_ok (bn_ok (bn_ok (bl_ok (ok_iald d_W_scaledCost_25 (kt_0 hG))) (bn_ok (bl_ok (ok_i2l d_W_scaledCost_26)) (bl_ok (ok_aload_n rfl d_W_scaledCost_27)))) (bn_ok (bn_ok (bl_ok (ok_aload_n rfl d_W_scaledCost_28)) (bl_ok (ok_getf d_W_scaledCost_29 (cl_4 hG) (by decide) w_189))) (bn_ok (bl_ok (ok_iload d_W_scaledCost_32)) (bl_ok (ok_iald d_W_scaledCost_34 (kt_0 hG)))))) (bn_ok (bn_ok (bn_ok (bl_ok (ok_cv mx_W_good (cl_1 hG) d_W_scaledCost_35 (mt_G_unitCost) mk_G_unitCost w_466 w_285 w_286 (by decide) (by decide))) (bl_ok (ok_lmul d_W_scaledCost_38))) (bn_ok (bl_ok (ok_ladd d_W_scaledCost_39)) (bl_ok (ok_lstore_n rfl d_W_scaledCost_40 (by decide))))) (bn_ok (bn_ok (bl_ok (ok_iinc d_W_scaledCost_41 (by decide) (by decide))) (bl_ok (ok_goto d_W_scaledCost_44 (by decide)))) (bn_ok (bl_ok (ok_lload_n rfl d_W_scaledCost_47)) (bl_ok (ok_lreturn d_W_scaledCost_48 rfl)))))))
theorem d_W_amountOf_0 : decode (qB q_W_amountOf) 0 = .ok (.lconst 0, 1) := by decide +kernel
theorem d_W_amountOf_1 : decode (qB q_W_amountOf) 1 = .ok (.lstore_n 3, 1) := by decide +kernel
theorem d_W_amountOf_2 : decode (qB q_W_amountOf) 2 = .ok (.iconst 1, 1) := by decide +kernel
theorem d_W_amountOf_3 : decode (qB q_W_amountOf) 3 = .ok (.istore 5, 2) := by decide +kernel
theorem d_W_amountOf_5 : decode (qB q_W_amountOf) 5 = .ok (.iload 5, 2) := by decide +kernel
theorem d_W_amountOf_7 : decode (qB q_W_amountOf) 7 = .ok (.aload_n 0, 1) := by decide +kernel
theorem d_W_amountOf_8 : decode (qB q_W_amountOf) 8 = .ok (.getfield 18, 3) := by decide +kernel
theorem d_W_amountOf_11 : decode (qB q_W_amountOf) 11 = .ok (.if_icmp .gt 51, 3) := by decide +kernel
theorem d_W_amountOf_14 : decode (qB q_W_amountOf) 14 = .ok (.aload_n 1, 1) := by decide +kernel
theorem d_W_amountOf_15 : decode (qB q_W_amountOf) 15 = .ok (.aload_n 0, 1) := by decide +kernel
theorem d_W_amountOf_16 : decode (qB q_W_amountOf) 16 = .ok (.getfield 9, 3) := by decide +kernel
theorem d_W_amountOf_19 : decode (qB q_W_amountOf) 19 = .ok (.iload 5, 2) := by decide +kernel
theorem d_W_amountOf_21 : decode (qB q_W_amountOf) 21 = .ok (.iaload, 1) := by decide +kernel
theorem d_W_amountOf_22 : decode (qB q_W_amountOf) 22 = .ok (.invokevirtual 31, 3) := by decide +kernel
theorem d_W_amountOf_25 : decode (qB q_W_amountOf) 25 = .ok (.ifCond .ne 31, 3) := by decide +kernel
theorem d_W_amountOf_28 : decode (qB q_W_amountOf) 28 = .ok (.lload_n 3, 1) := by decide +kernel
theorem d_W_amountOf_29 : decode (qB q_W_amountOf) 29 = .ok (.getstatic 22, 3) := by decide +kernel
theorem d_W_amountOf_32 : decode (qB q_W_amountOf) 32 = .ok (.aload_n 0, 1) := by decide +kernel
theorem d_W_amountOf_33 : decode (qB q_W_amountOf) 33 = .ok (.getfield 15, 3) := by decide +kernel
theorem d_W_amountOf_36 : decode (qB q_W_amountOf) 36 = .ok (.iload 5, 2) := by decide +kernel
theorem d_W_amountOf_38 : decode (qB q_W_amountOf) 38 = .ok (.iaload, 1) := by decide +kernel
theorem d_W_amountOf_39 : decode (qB q_W_amountOf) 39 = .ok (.iaload, 1) := by decide +kernel
theorem d_W_amountOf_40 : decode (qB q_W_amountOf) 40 = .ok (.i2l, 1) := by decide +kernel
theorem d_W_amountOf_41 : decode (qB q_W_amountOf) 41 = .ok (.aload_n 1, 1) := by decide +kernel
theorem d_W_amountOf_42 : decode (qB q_W_amountOf) 42 = .ok (.iload_n 2, 1) := by decide +kernel
theorem d_W_amountOf_43 : decode (qB q_W_amountOf) 43 = .ok (.aload_n 0, 1) := by decide +kernel
theorem d_W_amountOf_44 : decode (qB q_W_amountOf) 44 = .ok (.getfield 9, 3) := by decide +kernel
theorem d_W_amountOf_47 : decode (qB q_W_amountOf) 47 = .ok (.iload 5, 2) := by decide +kernel
theorem d_W_amountOf_49 : decode (qB q_W_amountOf) 49 = .ok (.iaload, 1) := by decide +kernel
theorem d_W_amountOf_50 : decode (qB q_W_amountOf) 50 = .ok (.invokevirtual 35, 3) := by decide +kernel
theorem d_W_amountOf_53 : decode (qB q_W_amountOf) 53 = .ok (.lmul, 1) := by decide +kernel
theorem d_W_amountOf_54 : decode (qB q_W_amountOf) 54 = .ok (.ladd, 1) := by decide +kernel
theorem d_W_amountOf_55 : decode (qB q_W_amountOf) 55 = .ok (.lstore_n 3, 1) := by decide +kernel
theorem d_W_amountOf_56 : decode (qB q_W_amountOf) 56 = .ok (.iinc 5 1, 3) := by decide +kernel
theorem d_W_amountOf_59 : decode (qB q_W_amountOf) 59 = .ok (.goto (-54), 3) := by decide +kernel
theorem d_W_amountOf_62 : decode (qB q_W_amountOf) 62 = .ok (.lload_n 3, 1) := by decide +kernel
theorem d_W_amountOf_63 : decode (qB q_W_amountOf) 63 = .ok (.lreturn, 1) := by decide +kernel
set_option maxRecDepth 10000 in
theorem k_W_amountOf {G : mxG} (hG : mx_GG G) : ∀ pc r, t_W_amountOf pc = some r → mx_Ok G mx_W mx_MT q_W_amountOf pc r := (bn_ok (bn_ok (bn_ok (bn_ok (bn_ok (bl_ok (ok_lconst (by decide) d_W_amountOf_0)) (bl_ok (ok_lstore_n rfl d_W_amountOf_1 (by decide)))) (bn_ok (bl_ok (ok_iconst (by decide) d_W_amountOf_2)) (bl_ok (ok_istore d_W_amountOf_3 (by decide))))) (bn_ok (bn_ok (bl_ok (ok_iload d_W_amountOf_5)) (bl_ok (ok_aload_n rfl d_W_amountOf_7))) (bn_ok (bl_ok (ok_getf d_W_amountOf_8 (cl_4 hG) (by decide) w_195)) (bn_ok (bl_ok (ok_icgt d_W_amountOf_11 (by decide))) (bl_ok (ok_aload_n rfl d_W_amountOf_14)))))) (bn_ok (bn_ok (bn_ok (bl_ok (ok_aload_n rfl d_W_amountOf_15)) (bl_ok (ok_getf d_W_amountOf_16 (cl_4 hG) (by decide) w_189))) (bn_ok (bl_ok (ok_iload d_W_amountOf_19)) (bl_ok (ok_iald d_W_amountOf_21 (kt_0 hG))))) (bn_ok (bn_ok (bl_ok (ok_cv mx_W_good (cl_1 hG) d_W_amountOf_22 (mt_G_isBridged) mk_G_isBridged w_521 w_289 w_290 (by decide) (by decide))) (bl_ok (ok_ifne d_W_amountOf_25 (by decide)))) (bn_ok (bl_ok (ok_lload_n rfl d_W_amountOf_28)) (bn_ok (bl_ok (ok_getsN d_W_amountOf_29 (by decide) (mx_zin hG (by decide +kernel)) (mx_nin hG (by decide +kernel : Cond.fieldLinkNest "CorridorCells$Way" 22 "CorridorCells" "LENGTHS" "[I" "CorridorCells" ∈ mx_ns)))) (bl_ok (ok_aload_n rfl d_W_amountOf_32))))))) (bn_ok (bn_ok (bn_ok (bn_ok (bl_ok (ok_getf d_W_amountOf_33 (cl_4 hG) (by decide) w_192)) (bl_ok (ok_iload d_W_amountOf_36))) (bn_ok (bl_ok (ok_iald d_W_amountOf_38 (kt_0 hG))) (bl_ok (ok_iald d_W_amountOf_39 (kt_0 hG))))) (bn_ok (bn_ok (bl_ok (ok_i2l d_W_amountOf_40)) (bl_ok (ok_aload_n rfl d_W_amountOf_41))) (bn_ok (bl_ok (ok_iload_n rfl d_W_amountOf_42)) (bn_ok (bl_ok (ok_aload_n rfl d_W_amountOf_43)) (bl_ok (ok_getf d_W_amountOf_44 (cl_4 hG) (by decide) w_189)))))) (bn_ok (bn_ok (bn_ok (bl_ok (ok_iload d_W_amountOf_47)) (bl_ok (ok_iald d_W_amountOf_49 (kt_0 hG)))) (bn_ok (bl_ok (ok_cv mx_W_good (cl_1 hG) d_W_amountOf_50 (mt_G_valueOf) mk_G_valueOf w_522 w_294 w_295 (by decide) (by decide))) (bn_ok (bl_ok (ok_lmul d_W_amountOf_53)) (bl_ok (ok_ladd d_W_amountOf_54))))) (bn_ok (bn_ok (bl_ok (ok_lstore_n rfl d_W_amountOf_55 (by decide))) (bl_ok (ok_iinc d_W_amountOf_56 (by decide) (by decide)))) (bn_ok (bl_ok (ok_goto d_W_amountOf_59 (by decide))) (bn_ok (bl_ok (ok_lload_n rfl d_W_amountOf_62)) (bl_ok (ok_lreturn d_W_amountOf_63 rfl))))))))
theorem d_W_turnCount_0 : decode (qB q_W_turnCount) 0 = .ok (.iconst 0, 1) := by decide +kernel
theorem d_W_turnCount_1 : decode (qB q_W_turnCount) 1 = .ok (.istore_n 1, 1) := by decide +kernel
theorem d_W_turnCount_2 : decode (qB q_W_turnCount) 2 = .ok (.iconst 2, 1) := by decide +kernel
theorem d_W_turnCount_3 : decode (qB q_W_turnCount) 3 = .ok (.istore_n 2, 1) := by decide +kernel
theorem d_W_turnCount_4 : decode (qB q_W_turnCount) 4 = .ok (.iload_n 2, 1) := by decide +kernel
theorem d_W_turnCount_5 : decode (qB q_W_turnCount) 5 = .ok (.aload_n 0, 1) := by decide +kernel
theorem d_W_turnCount_6 : decode (qB q_W_turnCount) 6 = .ok (.getfield 18, 3) := by decide +kernel
theorem d_W_turnCount_9 : decode (qB q_W_turnCount) 9 = .ok (.if_icmp .gt 29, 3) := by decide +kernel
theorem d_W_turnCount_12 : decode (qB q_W_turnCount) 12 = .ok (.aload_n 0, 1) := by decide +kernel
theorem d_W_turnCount_13 : decode (qB q_W_turnCount) 13 = .ok (.getfield 15, 3) := by decide +kernel
theorem d_W_turnCount_16 : decode (qB q_W_turnCount) 16 = .ok (.iload_n 2, 1) := by decide +kernel
theorem d_W_turnCount_17 : decode (qB q_W_turnCount) 17 = .ok (.iaload, 1) := by decide +kernel
theorem d_W_turnCount_18 : decode (qB q_W_turnCount) 18 = .ok (.aload_n 0, 1) := by decide +kernel
theorem d_W_turnCount_19 : decode (qB q_W_turnCount) 19 = .ok (.getfield 15, 3) := by decide +kernel
theorem d_W_turnCount_22 : decode (qB q_W_turnCount) 22 = .ok (.iload_n 2, 1) := by decide +kernel
theorem d_W_turnCount_23 : decode (qB q_W_turnCount) 23 = .ok (.iconst 1, 1) := by decide +kernel
theorem d_W_turnCount_24 : decode (qB q_W_turnCount) 24 = .ok (.isub, 1) := by decide +kernel
theorem d_W_turnCount_25 : decode (qB q_W_turnCount) 25 = .ok (.iaload, 1) := by decide +kernel
theorem d_W_turnCount_26 : decode (qB q_W_turnCount) 26 = .ok (.if_icmp .eq 6, 3) := by decide +kernel
theorem d_W_turnCount_29 : decode (qB q_W_turnCount) 29 = .ok (.iinc 1 1, 3) := by decide +kernel
theorem d_W_turnCount_32 : decode (qB q_W_turnCount) 32 = .ok (.iinc 2 1, 3) := by decide +kernel
theorem d_W_turnCount_35 : decode (qB q_W_turnCount) 35 = .ok (.goto (-31), 3) := by decide +kernel
theorem d_W_turnCount_38 : decode (qB q_W_turnCount) 38 = .ok (.iload_n 1, 1) := by decide +kernel
theorem d_W_turnCount_39 : decode (qB q_W_turnCount) 39 = .ok (.ireturn, 1) := by decide +kernel
set_option maxRecDepth 10000 in
theorem k_W_turnCount {G : mxG} (hG : mx_GG G) : ∀ pc r, t_W_turnCount pc = some r → mx_Ok G mx_W mx_MT q_W_turnCount pc r := (bn_ok (bn_ok (bn_ok (bn_ok (bl_ok (ok_iconst (by decide) d_W_turnCount_0)) (bn_ok (bl_ok (ok_istore_n rfl d_W_turnCount_1 (by decide))) (bl_ok (ok_iconst (by decide) d_W_turnCount_2)))) (bn_ok (bl_ok (ok_istore_n rfl d_W_turnCount_3 (by decide))) (bn_ok (bl_ok (ok_iload_n rfl d_W_turnCount_4)) (bl_ok (ok_aload_n rfl d_W_turnCount_5))))) (bn_ok (bn_ok (bl_ok (ok_getf d_W_turnCount_6 (cl_4 hG) (by decide) w_195)) (bn_ok (bl_ok (ok_icgt d_W_turnCount_9 (by decide))) (bl_ok (ok_aload_n rfl d_W_turnCount_12)))) (bn_ok (bl_ok (ok_getf d_W_turnCount_13 (cl_4 hG) (by decide) w_192)) (bn_ok (bl_ok (ok_iload_n rfl d_W_turnCount_16)) (bl_ok (ok_iald d_W_turnCount_17 (kt_0 hG))))))) (bn_ok (bn_ok (bn_ok (bl_ok (ok_aload_n rfl d_W_turnCount_18)) (bn_ok (bl_ok (ok_getf d_W_turnCount_19 (cl_4 hG) (by decide) w_192)) (bl_ok (ok_iload_n rfl d_W_turnCount_22)))) (bn_ok (bl_ok (ok_iconst (by decide) d_W_turnCount_23)) (bn_ok (bl_ok (ok_isub d_W_turnCount_24)) (bl_ok (ok_iald d_W_turnCount_25 (kt_0 hG)))))) (bn_ok (bn_ok (bl_ok (ok_iceq d_W_turnCount_26 (by decide))) (bn_ok (bl_ok (ok_iinc d_W_turnCount_29 (by decide) (by decide))) (bl_ok (ok_iinc d_W_turnCount_32 (by decide) (by decide))))) (bn_ok (bl_ok (ok_goto d_W_turnCount_35 (by decide))) (bn_ok (bl_ok (ok_iload_n rfl d_W_turnCount_38)) (bl_ok (ok_ireturn d_W_turnCount_39 rfl)))))))
theorem d_W_isKept_0 : decode (qB q_W_isKept) 0 = .ok (.aload_n 1, 1) := by decide +kernel
theorem d_W_isKept_1 : decode (qB q_W_isKept) 1 = .ok (.getfield 39, 3) := by decide +kernel
theorem d_W_isKept_4 : decode (qB q_W_isKept) 4 = .ok (.aload_n 0, 1) := by decide +kernel
theorem d_W_isKept_5 : decode (qB q_W_isKept) 5 = .ok (.invokevirtual 43, 3) := by decide +kernel
theorem d_W_isKept_8 : decode (qB q_W_isKept) 8 = .ok (.baload, 1) := by decide +kernel
theorem d_W_isKept_9 : decode (qB q_W_isKept) 9 = .ok (.ifCond .ne 15, 3) := by decide +kernel
theorem d_W_isKept_12 : decode (qB q_W_isKept) 12 = .ok (.aload_n 1, 1) := by decide +kernel
theorem d_W_isKept_13 : decode (qB q_W_isKept) 13 = .ok (.getfield 39, 3) := by decide +kernel
theorem d_W_isKept_16 : decode (qB q_W_isKept) 16 = .ok (.aload_n 0, 1) := by decide +kernel
theorem d_W_isKept_17 : decode (qB q_W_isKept) 17 = .ok (.invokevirtual 47, 3) := by decide +kernel
theorem d_W_isKept_20 : decode (qB q_W_isKept) 20 = .ok (.baload, 1) := by decide +kernel
theorem d_W_isKept_21 : decode (qB q_W_isKept) 21 = .ok (.ifCond .eq 5, 3) := by decide +kernel
theorem d_W_isKept_24 : decode (qB q_W_isKept) 24 = .ok (.iconst 0, 1) := by decide +kernel
theorem d_W_isKept_25 : decode (qB q_W_isKept) 25 = .ok (.ireturn, 1) := by decide +kernel
theorem d_W_isKept_26 : decode (qB q_W_isKept) 26 = .ok (.iconst 0, 1) := by decide +kernel
theorem d_W_isKept_27 : decode (qB q_W_isKept) 27 = .ok (.istore_n 2, 1) := by decide +kernel
theorem d_W_isKept_28 : decode (qB q_W_isKept) 28 = .ok (.iconst 1, 1) := by decide +kernel
theorem d_W_isKept_29 : decode (qB q_W_isKept) 29 = .ok (.istore_n 3, 1) := by decide +kernel
theorem d_W_isKept_30 : decode (qB q_W_isKept) 30 = .ok (.iload_n 3, 1) := by decide +kernel
theorem d_W_isKept_31 : decode (qB q_W_isKept) 31 = .ok (.aload_n 0, 1) := by decide +kernel
theorem d_W_isKept_32 : decode (qB q_W_isKept) 32 = .ok (.getfield 18, 3) := by decide +kernel
theorem d_W_isKept_35 : decode (qB q_W_isKept) 35 = .ok (.if_icmp .gt 58, 3) := by decide +kernel
theorem d_W_isKept_38 : decode (qB q_W_isKept) 38 = .ok (.aload_n 1, 1) := by decide +kernel
theorem d_W_isKept_39 : decode (qB q_W_isKept) 39 = .ok (.aload_n 0, 1) := by decide +kernel
theorem d_W_isKept_40 : decode (qB q_W_isKept) 40 = .ok (.getfield 9, 3) := by decide +kernel
theorem d_W_isKept_43 : decode (qB q_W_isKept) 43 = .ok (.iload_n 3, 1) := by decide +kernel
theorem d_W_isKept_44 : decode (qB q_W_isKept) 44 = .ok (.iconst 1, 1) := by decide +kernel
theorem d_W_isKept_45 : decode (qB q_W_isKept) 45 = .ok (.isub, 1) := by decide +kernel
theorem d_W_isKept_46 : decode (qB q_W_isKept) 46 = .ok (.iaload, 1) := by decide +kernel
theorem d_W_isKept_47 : decode (qB q_W_isKept) 47 = .ok (.aload_n 0, 1) := by decide +kernel
theorem d_W_isKept_48 : decode (qB q_W_isKept) 48 = .ok (.getfield 15, 3) := by decide +kernel
theorem d_W_isKept_51 : decode (qB q_W_isKept) 51 = .ok (.iload_n 3, 1) := by decide +kernel
theorem d_W_isKept_52 : decode (qB q_W_isKept) 52 = .ok (.iconst 1, 1) := by decide +kernel
theorem d_W_isKept_53 : decode (qB q_W_isKept) 53 = .ok (.isub, 1) := by decide +kernel
theorem d_W_isKept_54 : decode (qB q_W_isKept) 54 = .ok (.iaload, 1) := by decide +kernel
theorem d_W_isKept_55 : decode (qB q_W_isKept) 55 = .ok (.aload_n 0, 1) := by decide +kernel
theorem d_W_isKept_56 : decode (qB q_W_isKept) 56 = .ok (.getfield 15, 3) := by decide +kernel
theorem d_W_isKept_59 : decode (qB q_W_isKept) 59 = .ok (.iload_n 3, 1) := by decide +kernel
theorem d_W_isKept_60 : decode (qB q_W_isKept) 60 = .ok (.iaload, 1) := by decide +kernel
theorem d_W_isKept_61 : decode (qB q_W_isKept) 61 = .ok (.invokevirtual 50, 3) := by decide +kernel
theorem d_W_isKept_64 : decode (qB q_W_isKept) 64 = .ok (.istore 4, 2) := by decide +kernel
theorem d_W_isKept_66 : decode (qB q_W_isKept) 66 = .ok (.iload 4, 2) := by decide +kernel
theorem d_W_isKept_68 : decode (qB q_W_isKept) 68 = .ok (.ifCond .ge 5, 3) := by decide +kernel
theorem d_W_isKept_71 : decode (qB q_W_isKept) 71 = .ok (.iconst 0, 1) := by decide +kernel
theorem d_W_isKept_72 : decode (qB q_W_isKept) 72 = .ok (.ireturn, 1) := by decide +kernel
theorem d_W_isKept_73 : decode (qB q_W_isKept) 73 = .ok (.aload_n 1, 1) := by decide +kernel
theorem d_W_isKept_74 : decode (qB q_W_isKept) 74 = .ok (.iload 4, 2) := by decide +kernel
theorem d_W_isKept_76 : decode (qB q_W_isKept) 76 = .ok (.iload_n 2, 1) := by decide +kernel
theorem d_W_isKept_77 : decode (qB q_W_isKept) 77 = .ok (.invokevirtual 54, 3) := by decide +kernel
theorem d_W_isKept_80 : decode (qB q_W_isKept) 80 = .ok (.istore_n 2, 1) := by decide +kernel
theorem d_W_isKept_81 : decode (qB q_W_isKept) 81 = .ok (.iload_n 2, 1) := by decide +kernel
theorem d_W_isKept_82 : decode (qB q_W_isKept) 82 = .ok (.ifCond .ge 5, 3) := by decide +kernel
theorem d_W_isKept_85 : decode (qB q_W_isKept) 85 = .ok (.iconst 0, 1) := by decide +kernel
theorem d_W_isKept_86 : decode (qB q_W_isKept) 86 = .ok (.ireturn, 1) := by decide +kernel
theorem d_W_isKept_87 : decode (qB q_W_isKept) 87 = .ok (.iinc 3 1, 3) := by decide +kernel
theorem d_W_isKept_90 : decode (qB q_W_isKept) 90 = .ok (.goto (-60), 3) := by decide +kernel
theorem d_W_isKept_93 : decode (qB q_W_isKept) 93 = .ok (.iconst 1, 1) := by decide +kernel
theorem d_W_isKept_94 : decode (qB q_W_isKept) 94 = .ok (.ireturn, 1) := by decide +kernel
set_option maxRecDepth 10000 in
theorem k_W_isKept {G : mxG} (hG : mx_GG G) : ∀ pc r, t_W_isKept pc = some r → mx_Ok G mx_W mx_MT q_W_isKept pc r := (bn_ok (bn_ok (bn_ok (bn_ok (bn_ok (bl_ok (ok_aload_n rfl d_W_isKept_0)) (bn_ok (bl_ok (ok_getf d_W_isKept_1 (cl_1 hG) (by decide) w_57)) (bl_ok (ok_aload_n rfl d_W_isKept_4)))) (bn_ok (bn_ok (bl_ok (ok_cv mx_W_good (cl_4 hG) d_W_isKept_5 (mt_W_firstPlace) mk_W_firstPlace w_588 w_442 w_443 (by decide) (by decide))) (bl_ok (ok_zald d_W_isKept_8 (kt_2 hG)))) (bn_ok (bl_ok (ok_ifne d_W_isKept_9 (by decide))) (bl_ok (ok_aload_n rfl d_W_isKept_12))))) (bn_ok (bn_ok (bl_ok (ok_getf d_W_isKept_13 (cl_1 hG) (by decide) w_57)) (bn_ok (bl_ok (ok_aload_n rfl d_W_isKept_16)) (bl_ok (ok_cv mx_W_good (cl_4 hG) d_W_isKept_17 (mt_W_lastPlace) mk_W_lastPlace w_589 w_446 w_447 (by decide) (by decide))))) (bn_ok (bn_ok (bl_ok (ok_zald d_W_isKept_20 (kt_2 hG))) (bl_ok (ok_ifeq d_W_isKept_21 (by decide)))) (bn_ok (bl_ok (ok_iconst (by decide) d_W_isKept_24)) (bl_ok (ok_zreturn d_W_isKept_25 rfl)))))) (bn_ok (bn_ok (bn_ok (bl_ok (ok_iconst (by decide) d_W_isKept_26)) (bn_ok (bl_ok (ok_istore_n rfl d_W_isKept_27 (by decide))) (bl_ok (ok_iconst (by decide) d_W_isKept_28)))) (bn_ok (bn_ok (bl_ok (ok_istore_n rfl d_W_isKept_29 (by decide))) (bl_ok (ok_iload_n rfl d_W_isKept_30))) (bn_ok (bl_ok (ok_aload_n rfl d_W_isKept_31)) (bl_ok (ok_getf d_W_isKept_32 (cl_4 hG) (by decide) w_195))))) (bn_ok (bn_ok (bn_ok (bl_ok (ok_icgt d_W_isKept_35 (by decide))) (bl_ok (ok_aload_n rfl d_W_isKept_38))) (bn_ok (bl_ok (ok_aload_n rfl d_W_isKept_39)) (bl_ok (ok_getf d_W_isKept_40 (cl_4 hG) (by decide) w_189)))) (bn_ok (bn_ok (bl_ok (ok_iload_n rfl d_W_isKept_43)) (bl_ok (ok_iconst (by decide) d_W_isKept_44))) (bn_ok (bl_ok (ok_isub d_W_isKept_45)) (bl_ok (ok_iald d_W_isKept_46 (kt_0 hG)))))))) (bn_ok (bn_ok (bn_ok (bn_ok (bl_ok (ok_aload_n rfl d_W_isKept_47)) (bn_ok (bl_ok (ok_getf d_W_isKept_48 (cl_4 hG) (by decide) w_192)) (bl_ok (ok_iload_n rfl d_W_isKept_51)))) (bn_ok (bn_ok (bl_ok (ok_iconst (by decide) d_W_isKept_52)) (bl_ok (ok_isub d_W_isKept_53))) (bn_ok (bl_ok (ok_iald d_W_isKept_54 (kt_0 hG))) (bl_ok (ok_aload_n rfl d_W_isKept_55))))) (bn_ok (bn_ok (bl_ok (ok_getf d_W_isKept_56 (cl_4 hG) (by decide) w_192)) (bn_ok (bl_ok (ok_iload_n rfl d_W_isKept_59)) (bl_ok (ok_iald d_W_isKept_60 (kt_0 hG))))) (bn_ok (bn_ok (bl_ok (ok_cv mx_W_good (cl_1 hG) d_W_isKept_61 (mt_G_moveFrom) mk_G_moveFrom w_590 w_419 w_420 (by decide) (by decide))) (bl_ok (ok_istore d_W_isKept_64 (by decide)))) (bn_ok (bl_ok (ok_iload d_W_isKept_66)) (bl_ok (ok_ifge d_W_isKept_68 (by decide))))))) (bn_ok (bn_ok (bn_ok (bl_ok (ok_iconst (by decide) d_W_isKept_71)) (bn_ok (bl_ok (ok_zreturn d_W_isKept_72 rfl)) (bl_ok (ok_aload_n rfl d_W_isKept_73)))) (bn_ok (bn_ok (bl_ok (ok_iload d_W_isKept_74)) (bl_ok (ok_iload_n rfl d_W_isKept_76))) (bn_ok (bl_ok (ok_cv mx_W_good (cl_1 hG) d_W_isKept_77 (mt_G_bridgedUpTo) mk_G_bridgedUpTo w_591 w_430 w_431 (by decide) (by decide))) (bl_ok (ok_istore_n rfl d_W_isKept_80 (by decide)))))) (bn_ok (bn_ok (bn_ok (bl_ok (ok_iload_n rfl d_W_isKept_81)) (bl_ok (ok_ifge d_W_isKept_82 (by decide)))) (bn_ok (bl_ok (ok_iconst (by decide) d_W_isKept_85)) (bl_ok (ok_zreturn d_W_isKept_86 rfl)))) (bn_ok (bn_ok (bl_ok (ok_iinc d_W_isKept_87 (by decide) (by decide))) (bl_ok (ok_goto d_W_isKept_90 (by decide)))) (bn_ok (bl_ok (ok_iconst (by decide) d_W_isKept_93)) (bl_ok (ok_zreturn d_W_isKept_94 rfl))))))))
