theorem d_M_sum_0 : decode (qB q_M_sum) 0 = .ok (.aload_n 0, 1) := by decide +kernel
theorem d_M_sum_1 : decode (qB q_M_sum) 1 = .ok (.getfield 48, 3) := by decide +kernel
theorem d_M_sum_4 : decode (qB q_M_sum) 4 = .ok (.iconst (-1), 1) := by decide +kernel
theorem d_M_sum_5 : decode (qB q_M_sum) 5 = .ok (.if_icmp .eq 13, 3) := by decide +kernel
theorem d_M_sum_8 : decode (qB q_M_sum) 8 = .ok (.iload_n 1, 1) := by decide +kernel
theorem d_M_sum_9 : decode (qB q_M_sum) 9 = .ok (.ifCond .lt 9, 3) := by decide +kernel
theorem d_M_sum_12 : decode (qB q_M_sum) 12 = .ok (.iload_n 1, 1) := by decide +kernel
theorem d_M_sum_13 : decode (qB q_M_sum) 13 = .ok (.bipush 7, 2) := by decide +kernel
theorem d_M_sum_15 : decode (qB q_M_sum) 15 = .ok (.if_icmp .le 7, 3) := by decide +kernel
theorem d_M_sum_18 : decode (qB q_M_sum) 18 = .ok (.ldc2_w 60, 3) := by decide +kernel
theorem d_M_sum_21 : decode (qB q_M_sum) 21 = .ok (.lreturn, 1) := by decide +kernel
theorem d_M_sum_22 : decode (qB q_M_sum) 22 = .ok (.lconst 0, 1) := by decide +kernel
theorem d_M_sum_23 : decode (qB q_M_sum) 23 = .ok (.lstore_n 2, 1) := by decide +kernel
theorem d_M_sum_24 : decode (qB q_M_sum) 24 = .ok (.iconst 0, 1) := by decide +kernel
theorem d_M_sum_25 : decode (qB q_M_sum) 25 = .ok (.istore 4, 2) := by decide +kernel
theorem d_M_sum_27 : decode (qB q_M_sum) 27 = .ok (.iload 4, 2) := by decide +kernel
theorem d_M_sum_29 : decode (qB q_M_sum) 29 = .ok (.aload_n 0, 1) := by decide +kernel
theorem d_M_sum_30 : decode (qB q_M_sum) 30 = .ok (.getfield 51, 3) := by decide +kernel
theorem d_M_sum_33 : decode (qB q_M_sum) 33 = .ok (.aload_n 0, 1) := by decide +kernel
theorem d_M_sum_34 : decode (qB q_M_sum) 34 = .ok (.getfield 48, 3) := by decide +kernel
theorem d_M_sum_37 : decode (qB q_M_sum) 37 = .ok (.iaload, 1) := by decide +kernel
theorem d_M_sum_38 : decode (qB q_M_sum) 38 = .ok (.if_icmp .ge 53, 3) := by decide +kernel
theorem d_M_sum_41 : decode (qB q_M_sum) 41 = .ok (.aload_n 0, 1) := by decide +kernel
theorem d_M_sum_42 : decode (qB q_M_sum) 42 = .ok (.getfield 54, 3) := by decide +kernel
theorem d_M_sum_45 : decode (qB q_M_sum) 45 = .ok (.sipush 5000, 3) := by decide +kernel
theorem d_M_sum_48 : decode (qB q_M_sum) 48 = .ok (.aload_n 0, 1) := by decide +kernel
theorem d_M_sum_49 : decode (qB q_M_sum) 49 = .ok (.getfield 48, 3) := by decide +kernel
theorem d_M_sum_52 : decode (qB q_M_sum) 52 = .ok (.imul, 1) := by decide +kernel
theorem d_M_sum_53 : decode (qB q_M_sum) 53 = .ok (.iload 4, 2) := by decide +kernel
theorem d_M_sum_55 : decode (qB q_M_sum) 55 = .ok (.iadd, 1) := by decide +kernel
theorem d_M_sum_56 : decode (qB q_M_sum) 56 = .ok (.iaload, 1) := by decide +kernel
theorem d_M_sum_57 : decode (qB q_M_sum) 57 = .ok (.istore 5, 2) := by decide +kernel
theorem d_M_sum_59 : decode (qB q_M_sum) 59 = .ok (.lload_n 2, 1) := by decide +kernel
theorem d_M_sum_60 : decode (qB q_M_sum) 60 = .ok (.aload_n 0, 1) := by decide +kernel
theorem d_M_sum_61 : decode (qB q_M_sum) 61 = .ok (.getfield 32, 3) := by decide +kernel
theorem d_M_sum_64 : decode (qB q_M_sum) 64 = .ok (.iload 5, 2) := by decide +kernel
theorem d_M_sum_66 : decode (qB q_M_sum) 66 = .ok (.iaload, 1) := by decide +kernel
theorem d_M_sum_67 : decode (qB q_M_sum) 67 = .ok (.iload_n 1, 1) := by decide +kernel
theorem d_M_sum_68 : decode (qB q_M_sum) 68 = .ok (.if_icmp .ne 14, 3) := by decide +kernel
theorem d_M_sum_71 : decode (qB q_M_sum) 71 = .ok (.aload_n 0, 1) := by decide +kernel
theorem d_M_sum_72 : decode (qB q_M_sum) 72 = .ok (.getfield 7, 3) := by decide +kernel
theorem d_M_sum_75 : decode (qB q_M_sum) 75 = .ok (.iload 5, 2) := by decide +kernel
theorem d_M_sum_77 : decode (qB q_M_sum) 77 = .ok (.iaload, 1) := by decide +kernel
theorem d_M_sum_78 : decode (qB q_M_sum) 78 = .ok (.i2l, 1) := by decide +kernel
theorem d_M_sum_79 : decode (qB q_M_sum) 79 = .ok (.goto 4, 3) := by decide +kernel
theorem d_M_sum_82 : decode (qB q_M_sum) 82 = .ok (.lconst 0, 1) := by decide +kernel
theorem d_M_sum_83 : decode (qB q_M_sum) 83 = .ok (.ladd, 1) := by decide +kernel
theorem d_M_sum_84 : decode (qB q_M_sum) 84 = .ok (.lstore_n 2, 1) := by decide +kernel
theorem d_M_sum_85 : decode (qB q_M_sum) 85 = .ok (.iinc 4 1, 3) := by decide +kernel
theorem d_M_sum_88 : decode (qB q_M_sum) 88 = .ok (.goto (-61), 3) := by decide +kernel
theorem d_M_sum_91 : decode (qB q_M_sum) 91 = .ok (.lload_n 2, 1) := by decide +kernel
theorem d_M_sum_92 : decode (qB q_M_sum) 92 = .ok (.lreturn, 1) := by decide +kernel
set_option maxRecDepth 10000 in
theorem k_M_sum {G : mxG} (hG : mx_GG G) : ∀ pc r, t_M_sum pc = some r → mx_Ok G mx_W mx_MT q_M_sum pc r := (bn_ok (bn_ok (bn_ok (bn_ok (bn_ok (bl_ok (ok_aload_n rfl d_M_sum_0)) (bn_ok (bl_ok (ok_getf d_M_sum_1 (cl_5 hG) (by decide) w_618)) (bl_ok (ok_iconst (by decide) d_M_sum_4)))) (bn_ok (bl_ok (ok_iceq d_M_sum_5 (by decide))) (bn_ok (bl_ok (ok_iload_n rfl d_M_sum_8)) (bl_ok (ok_iflt d_M_sum_9 (by decide)))))) (bn_ok (bn_ok (bl_ok (ok_iload_n rfl d_M_sum_12)) (bn_ok (bl_ok (ok_bipush (by decide) d_M_sum_13)) (bl_ok (ok_icle d_M_sum_15 (by decide))))) (bn_ok (bn_ok (bl_ok (ok_ldc2 d_M_sum_18 w_601)) (bl_ok (ok_lreturn d_M_sum_21 rfl))) (bn_ok (bl_ok (ok_lconst (by decide) d_M_sum_22)) (bl_ok (ok_lstore_n rfl d_M_sum_23 (by decide))))))) (bn_ok (bn_ok (bn_ok (bl_ok (ok_iconst (by decide) d_M_sum_24)) (bn_ok (bl_ok (ok_istore d_M_sum_25 (by decide))) (bl_ok (ok_iload d_M_sum_27)))) (bn_ok (bl_ok (ok_aload_n rfl d_M_sum_29)) (bn_ok (bl_ok (ok_getf d_M_sum_30 (cl_5 hG) (by decide) w_619)) (bl_ok (ok_aload_n rfl d_M_sum_33))))) (bn_ok (bn_ok (bl_ok (ok_getf d_M_sum_34 (cl_5 hG) (by decide) w_618)) (bn_ok (bl_ok (ok_iald d_M_sum_37 (kt_0 hG))) (bl_ok (ok_icge d_M_sum_38 (by decide))))) (bn_ok (bn_ok (bl_ok (ok_aload_n rfl d_M_sum_41)) (bl_ok (ok_getf d_M_sum_42 (cl_5 hG) (by decide) w_620))) (bn_ok (bl_ok (ok_sipush (by decide) d_M_sum_45)) (bl_ok (ok_aload_n rfl d_M_sum_48))))))) (bn_ok (bn_ok (bn_ok (bn_ok (bl_ok (ok_getf d_M_sum_49 (cl_5 hG) (by decide) w_618)) (bn_ok (bl_ok (ok_imul d_M_sum_52)) (bl_ok (ok_iload d_M_sum_53)))) (bn_ok (bl_ok (ok_iadd d_M_sum_55)) (bn_ok (bl_ok (ok_iald d_M_sum_56 (kt_0 hG))) (bl_ok (ok_istore d_M_sum_57 (by decide)))))) (bn_ok (bn_ok (bl_ok (ok_lload_n rfl d_M_sum_59)) (bn_ok (bl_ok (ok_aload_n rfl d_M_sum_60)) (bl_ok (ok_getf d_M_sum_61 (cl_5 hG) (by decide) w_612)))) (bn_ok (bn_ok (bl_ok (ok_iload d_M_sum_64)) (bl_ok (ok_iald d_M_sum_66 (kt_0 hG)))) (bn_ok (bl_ok (ok_iload_n rfl d_M_sum_67)) (bl_ok (ok_icne d_M_sum_68 (by decide))))))) (bn_ok (bn_ok (bn_ok (bl_ok (ok_aload_n rfl d_M_sum_71)) (bn_ok (bl_ok (ok_getf d_M_sum_72 (cl_5 hG) (by decide) w_605)) (bl_ok (ok_iload d_M_sum_75)))) (bn_ok (bl_ok (ok_iald d_M_sum_77 (kt_0 hG))) (bn_ok (bl_ok (ok_i2l d_M_sum_78)) (bl_ok (ok_goto d_M_sum_79 (by decide)))))) (bn_ok (bn_ok (bl_ok (ok_lconst (by decide) d_M_sum_82)) (bn_ok (bl_ok (ok_ladd d_M_sum_83)) (bl_ok (ok_lstore_n rfl d_M_sum_84 (by decide))))) (bn_ok (bn_ok (bl_ok (ok_iinc d_M_sum_85 (by decide) (by decide))) (bl_ok (ok_goto d_M_sum_88 (by decide)))) (bn_ok (bl_ok (ok_lload_n rfl d_M_sum_91)) (bl_ok (ok_lreturn d_M_sum_92 rfl))))))))
theorem d_M_turns_0 : decode (qB q_M_turns) 0 = .ok (.aload_n 0, 1) := by decide +kernel
theorem d_M_turns_1 : decode (qB q_M_turns) 1 = .ok (.getfield 48, 3) := by decide +kernel
theorem d_M_turns_4 : decode (qB q_M_turns) 4 = .ok (.iconst (-1), 1) := by decide +kernel
theorem d_M_turns_5 : decode (qB q_M_turns) 5 = .ok (.if_icmp .ne 5, 3) := by decide +kernel
theorem d_M_turns_8 : decode (qB q_M_turns) 8 = .ok (.iconst (-1), 1) := by decide +kernel
theorem d_M_turns_9 : decode (qB q_M_turns) 9 = .ok (.ireturn, 1) := by decide +kernel
theorem d_M_turns_10 : decode (qB q_M_turns) 10 = .ok (.iconst 0, 1) := by decide +kernel
theorem d_M_turns_11 : decode (qB q_M_turns) 11 = .ok (.istore_n 1, 1) := by decide +kernel
theorem d_M_turns_12 : decode (qB q_M_turns) 12 = .ok (.iconst 2, 1) := by decide +kernel
theorem d_M_turns_13 : decode (qB q_M_turns) 13 = .ok (.istore_n 2, 1) := by decide +kernel
theorem d_M_turns_14 : decode (qB q_M_turns) 14 = .ok (.iload_n 2, 1) := by decide +kernel
theorem d_M_turns_15 : decode (qB q_M_turns) 15 = .ok (.aload_n 0, 1) := by decide +kernel
theorem d_M_turns_16 : decode (qB q_M_turns) 16 = .ok (.getfield 51, 3) := by decide +kernel
theorem d_M_turns_19 : decode (qB q_M_turns) 19 = .ok (.aload_n 0, 1) := by decide +kernel
theorem d_M_turns_20 : decode (qB q_M_turns) 20 = .ok (.getfield 48, 3) := by decide +kernel
theorem d_M_turns_23 : decode (qB q_M_turns) 23 = .ok (.iaload, 1) := by decide +kernel
theorem d_M_turns_24 : decode (qB q_M_turns) 24 = .ok (.if_icmp .ge 52, 3) := by decide +kernel
theorem d_M_turns_27 : decode (qB q_M_turns) 27 = .ok (.iload_n 1, 1) := by decide +kernel
theorem d_M_turns_28 : decode (qB q_M_turns) 28 = .ok (.aload_n 0, 1) := by decide +kernel
theorem d_M_turns_29 : decode (qB q_M_turns) 29 = .ok (.getfield 57, 3) := by decide +kernel
theorem d_M_turns_32 : decode (qB q_M_turns) 32 = .ok (.sipush 5000, 3) := by decide +kernel
theorem d_M_turns_35 : decode (qB q_M_turns) 35 = .ok (.aload_n 0, 1) := by decide +kernel
theorem d_M_turns_36 : decode (qB q_M_turns) 36 = .ok (.getfield 48, 3) := by decide +kernel
theorem d_M_turns_39 : decode (qB q_M_turns) 39 = .ok (.imul, 1) := by decide +kernel
theorem d_M_turns_40 : decode (qB q_M_turns) 40 = .ok (.iload_n 2, 1) := by decide +kernel
theorem d_M_turns_41 : decode (qB q_M_turns) 41 = .ok (.iadd, 1) := by decide +kernel
theorem d_M_turns_42 : decode (qB q_M_turns) 42 = .ok (.iaload, 1) := by decide +kernel
theorem d_M_turns_43 : decode (qB q_M_turns) 43 = .ok (.aload_n 0, 1) := by decide +kernel
theorem d_M_turns_44 : decode (qB q_M_turns) 44 = .ok (.getfield 57, 3) := by decide +kernel
theorem d_M_turns_47 : decode (qB q_M_turns) 47 = .ok (.sipush 5000, 3) := by decide +kernel
theorem d_M_turns_50 : decode (qB q_M_turns) 50 = .ok (.aload_n 0, 1) := by decide +kernel
theorem d_M_turns_51 : decode (qB q_M_turns) 51 = .ok (.getfield 48, 3) := by decide +kernel
theorem d_M_turns_54 : decode (qB q_M_turns) 54 = .ok (.imul, 1) := by decide +kernel
theorem d_M_turns_55 : decode (qB q_M_turns) 55 = .ok (.iload_n 2, 1) := by decide +kernel
theorem d_M_turns_56 : decode (qB q_M_turns) 56 = .ok (.iadd, 1) := by decide +kernel
theorem d_M_turns_57 : decode (qB q_M_turns) 57 = .ok (.iconst 1, 1) := by decide +kernel
theorem d_M_turns_58 : decode (qB q_M_turns) 58 = .ok (.isub, 1) := by decide +kernel
theorem d_M_turns_59 : decode (qB q_M_turns) 59 = .ok (.iaload, 1) := by decide +kernel
theorem d_M_turns_60 : decode (qB q_M_turns) 60 = .ok (.if_icmp .eq 7, 3) := by decide +kernel
theorem d_M_turns_63 : decode (qB q_M_turns) 63 = .ok (.iconst 1, 1) := by decide +kernel
theorem d_M_turns_64 : decode (qB q_M_turns) 64 = .ok (.goto 4, 3) := by decide +kernel
theorem d_M_turns_67 : decode (qB q_M_turns) 67 = .ok (.iconst 0, 1) := by decide +kernel
theorem d_M_turns_68 : decode (qB q_M_turns) 68 = .ok (.iadd, 1) := by decide +kernel
theorem d_M_turns_69 : decode (qB q_M_turns) 69 = .ok (.istore_n 1, 1) := by decide +kernel
theorem d_M_turns_70 : decode (qB q_M_turns) 70 = .ok (.iinc 2 1, 3) := by decide +kernel
theorem d_M_turns_73 : decode (qB q_M_turns) 73 = .ok (.goto (-59), 3) := by decide +kernel
theorem d_M_turns_76 : decode (qB q_M_turns) 76 = .ok (.iload_n 1, 1) := by decide +kernel
theorem d_M_turns_77 : decode (qB q_M_turns) 77 = .ok (.ireturn, 1) := by decide +kernel
set_option maxRecDepth 10000 in
theorem k_M_turns {G : mxG} (hG : mx_GG G) : ∀ pc r, t_M_turns pc = some r → mx_Ok G mx_W mx_MT q_M_turns pc r := (bn_ok (bn_ok (bn_ok (bn_ok (bn_ok (bl_ok (ok_aload_n rfl d_M_turns_0)) (bn_ok (bl_ok (ok_getf d_M_turns_1 (cl_5 hG) (by decide) w_618)) (bl_ok (ok_iconst (by decide) d_M_turns_4)))) (bn_ok (bl_ok (ok_icne d_M_turns_5 (by decide))) (bn_ok (bl_ok (ok_iconst (by decide) d_M_turns_8)) (bl_ok (ok_ireturn d_M_turns_9 rfl))))) (bn_ok (bn_ok (bl_ok (ok_iconst (by decide) d_M_turns_10)) (bn_ok (bl_ok (ok_istore_n rfl d_M_turns_11 (by decide))) (bl_ok (ok_iconst (by decide) d_M_turns_12)))) (bn_ok (bl_ok (ok_istore_n rfl d_M_turns_13 (by decide))) (bn_ok (bl_ok (ok_iload_n rfl d_M_turns_14)) (bl_ok (ok_aload_n rfl d_M_turns_15)))))) (bn_ok (bn_ok (bn_ok (bl_ok (ok_getf d_M_turns_16 (cl_5 hG) (by decide) w_619)) (bn_ok (bl_ok (ok_aload_n rfl d_M_turns_19)) (bl_ok (ok_getf d_M_turns_20 (cl_5 hG) (by decide) w_618)))) (bn_ok (bl_ok (ok_iald d_M_turns_23 (kt_0 hG))) (bn_ok (bl_ok (ok_icge d_M_turns_24 (by decide))) (bl_ok (ok_iload_n rfl d_M_turns_27))))) (bn_ok (bn_ok (bl_ok (ok_aload_n rfl d_M_turns_28)) (bn_ok (bl_ok (ok_getf d_M_turns_29 (cl_5 hG) (by decide) w_621)) (bl_ok (ok_sipush (by decide) d_M_turns_32)))) (bn_ok (bl_ok (ok_aload_n rfl d_M_turns_35)) (bn_ok (bl_ok (ok_getf d_M_turns_36 (cl_5 hG) (by decide) w_618)) (bl_ok (ok_imul d_M_turns_39))))))) (bn_ok (bn_ok (bn_ok (bn_ok (bl_ok (ok_iload_n rfl d_M_turns_40)) (bn_ok (bl_ok (ok_iadd d_M_turns_41)) (bl_ok (ok_iald d_M_turns_42 (kt_0 hG))))) (bn_ok (bl_ok (ok_aload_n rfl d_M_turns_43)) (bn_ok (bl_ok (ok_getf d_M_turns_44 (cl_5 hG) (by decide) w_621)) (bl_ok (ok_sipush (by decide) d_M_turns_47))))) (bn_ok (bn_ok (bl_ok (ok_aload_n rfl d_M_turns_50)) (bn_ok (bl_ok (ok_getf d_M_turns_51 (cl_5 hG) (by decide) w_618)) (bl_ok (ok_imul d_M_turns_54)))) (bn_ok (bl_ok (ok_iload_n rfl d_M_turns_55)) (bn_ok (bl_ok (ok_iadd d_M_turns_56)) (bl_ok (ok_iconst (by decide) d_M_turns_57)))))) (bn_ok (bn_ok (bn_ok (bl_ok (ok_isub d_M_turns_58)) (bn_ok (bl_ok (ok_iald d_M_turns_59 (kt_0 hG))) (bl_ok (ok_iceq d_M_turns_60 (by decide))))) (bn_ok (bl_ok (ok_iconst (by decide) d_M_turns_63)) (bn_ok (bl_ok (ok_goto d_M_turns_64 (by decide))) (bl_ok (ok_iconst (by decide) d_M_turns_67))))) (bn_ok (bn_ok (bl_ok (ok_iadd d_M_turns_68)) (bn_ok (bl_ok (ok_istore_n rfl d_M_turns_69 (by decide))) (bl_ok (ok_iinc d_M_turns_70 (by decide) (by decide))))) (bn_ok (bl_ok (ok_goto d_M_turns_73 (by decide))) (bn_ok (bl_ok (ok_iload_n rfl d_M_turns_76)) (bl_ok (ok_ireturn d_M_turns_77 rfl))))))))
theorem d_M_keeps_0 : decode (qB q_M_keeps) 0 = .ok (.aload_n 0, 1) := by decide +kernel
theorem d_M_keeps_1 : decode (qB q_M_keeps) 1 = .ok (.getfield 48, 3) := by decide +kernel
theorem d_M_keeps_4 : decode (qB q_M_keeps) 4 = .ok (.iconst (-1), 1) := by decide +kernel
theorem d_M_keeps_5 : decode (qB q_M_keeps) 5 = .ok (.if_icmp .ne 5, 3) := by decide +kernel
theorem d_M_keeps_8 : decode (qB q_M_keeps) 8 = .ok (.iconst 0, 1) := by decide +kernel
theorem d_M_keeps_9 : decode (qB q_M_keeps) 9 = .ok (.ireturn, 1) := by decide +kernel
theorem d_M_keeps_10 : decode (qB q_M_keeps) 10 = .ok (.sipush 5000, 3) := by decide +kernel
theorem d_M_keeps_13 : decode (qB q_M_keeps) 13 = .ok (.aload_n 0, 1) := by decide +kernel
theorem d_M_keeps_14 : decode (qB q_M_keeps) 14 = .ok (.getfield 48, 3) := by decide +kernel
theorem d_M_keeps_17 : decode (qB q_M_keeps) 17 = .ok (.imul, 1) := by decide +kernel
theorem d_M_keeps_18 : decode (qB q_M_keeps) 18 = .ok (.istore_n 1, 1) := by decide +kernel
theorem d_M_keeps_19 : decode (qB q_M_keeps) 19 = .ok (.aload_n 0, 1) := by decide +kernel
theorem d_M_keeps_20 : decode (qB q_M_keeps) 20 = .ok (.getfield 51, 3) := by decide +kernel
theorem d_M_keeps_23 : decode (qB q_M_keeps) 23 = .ok (.aload_n 0, 1) := by decide +kernel
theorem d_M_keeps_24 : decode (qB q_M_keeps) 24 = .ok (.getfield 48, 3) := by decide +kernel
theorem d_M_keeps_27 : decode (qB q_M_keeps) 27 = .ok (.iaload, 1) := by decide +kernel
theorem d_M_keeps_28 : decode (qB q_M_keeps) 28 = .ok (.iconst 1, 1) := by decide +kernel
theorem d_M_keeps_29 : decode (qB q_M_keeps) 29 = .ok (.isub, 1) := by decide +kernel
theorem d_M_keeps_30 : decode (qB q_M_keeps) 30 = .ok (.istore_n 2, 1) := by decide +kernel
theorem d_M_keeps_31 : decode (qB q_M_keeps) 31 = .ok (.aload_n 0, 1) := by decide +kernel
theorem d_M_keeps_32 : decode (qB q_M_keeps) 32 = .ok (.getfield 16, 3) := by decide +kernel
theorem d_M_keeps_35 : decode (qB q_M_keeps) 35 = .ok (.aload_n 0, 1) := by decide +kernel
theorem d_M_keeps_36 : decode (qB q_M_keeps) 36 = .ok (.getfield 54, 3) := by decide +kernel
theorem d_M_keeps_39 : decode (qB q_M_keeps) 39 = .ok (.iload_n 1, 1) := by decide +kernel
theorem d_M_keeps_40 : decode (qB q_M_keeps) 40 = .ok (.iaload, 1) := by decide +kernel
theorem d_M_keeps_41 : decode (qB q_M_keeps) 41 = .ok (.baload, 1) := by decide +kernel
theorem d_M_keeps_42 : decode (qB q_M_keeps) 42 = .ok (.ifCond .ne 23, 3) := by decide +kernel
theorem d_M_keeps_45 : decode (qB q_M_keeps) 45 = .ok (.aload_n 0, 1) := by decide +kernel
theorem d_M_keeps_46 : decode (qB q_M_keeps) 46 = .ok (.getfield 16, 3) := by decide +kernel
theorem d_M_keeps_49 : decode (qB q_M_keeps) 49 = .ok (.aload_n 0, 1) := by decide +kernel
theorem d_M_keeps_50 : decode (qB q_M_keeps) 50 = .ok (.getfield 54, 3) := by decide +kernel
theorem d_M_keeps_53 : decode (qB q_M_keeps) 53 = .ok (.iload_n 1, 1) := by decide +kernel
theorem d_M_keeps_54 : decode (qB q_M_keeps) 54 = .ok (.iload_n 2, 1) := by decide +kernel
theorem d_M_keeps_55 : decode (qB q_M_keeps) 55 = .ok (.iadd, 1) := by decide +kernel
theorem d_M_keeps_56 : decode (qB q_M_keeps) 56 = .ok (.iaload, 1) := by decide +kernel
theorem d_M_keeps_57 : decode (qB q_M_keeps) 57 = .ok (.baload, 1) := by decide +kernel
theorem d_M_keeps_58 : decode (qB q_M_keeps) 58 = .ok (.ifCond .ne 7, 3) := by decide +kernel
theorem d_M_keeps_61 : decode (qB q_M_keeps) 61 = .ok (.iconst 1, 1) := by decide +kernel
theorem d_M_keeps_62 : decode (qB q_M_keeps) 62 = .ok (.goto 4, 3) := by decide +kernel
theorem d_M_keeps_65 : decode (qB q_M_keeps) 65 = .ok (.iconst 0, 1) := by decide +kernel
theorem d_M_keeps_66 : decode (qB q_M_keeps) 66 = .ok (.istore_n 3, 1) := by decide +kernel
theorem d_M_keeps_67 : decode (qB q_M_keeps) 67 = .ok (.iconst 0, 1) := by decide +kernel
theorem d_M_keeps_68 : decode (qB q_M_keeps) 68 = .ok (.istore 4, 2) := by decide +kernel
theorem d_M_keeps_70 : decode (qB q_M_keeps) 70 = .ok (.iconst 1, 1) := by decide +kernel
theorem d_M_keeps_71 : decode (qB q_M_keeps) 71 = .ok (.istore 5, 2) := by decide +kernel
theorem d_M_keeps_73 : decode (qB q_M_keeps) 73 = .ok (.iload 5, 2) := by decide +kernel
theorem d_M_keeps_75 : decode (qB q_M_keeps) 75 = .ok (.iload_n 2, 1) := by decide +kernel
theorem d_M_keeps_76 : decode (qB q_M_keeps) 76 = .ok (.if_icmp .gt 147, 3) := by decide +kernel
theorem d_M_keeps_79 : decode (qB q_M_keeps) 79 = .ok (.iload_n 3, 1) := by decide +kernel
theorem d_M_keeps_80 : decode (qB q_M_keeps) 80 = .ok (.ifCond .eq 143, 3) := by decide +kernel
theorem d_M_keeps_83 : decode (qB q_M_keeps) 83 = .ok (.aload_n 0, 1) := by decide +kernel
theorem d_M_keeps_84 : decode (qB q_M_keeps) 84 = .ok (.getfield 54, 3) := by decide +kernel
theorem d_M_keeps_87 : decode (qB q_M_keeps) 87 = .ok (.iload_n 1, 1) := by decide +kernel
theorem d_M_keeps_88 : decode (qB q_M_keeps) 88 = .ok (.iload 5, 2) := by decide +kernel
theorem d_M_keeps_90 : decode (qB q_M_keeps) 90 = .ok (.iadd, 1) := by decide +kernel
theorem d_M_keeps_91 : decode (qB q_M_keeps) 91 = .ok (.iconst 1, 1) := by decide +kernel
theorem d_M_keeps_92 : decode (qB q_M_keeps) 92 = .ok (.isub, 1) := by decide +kernel
theorem d_M_keeps_93 : decode (qB q_M_keeps) 93 = .ok (.iaload, 1) := by decide +kernel
theorem d_M_keeps_94 : decode (qB q_M_keeps) 94 = .ok (.istore 6, 2) := by decide +kernel
theorem d_M_keeps_96 : decode (qB q_M_keeps) 96 = .ok (.aload_n 0, 1) := by decide +kernel
theorem d_M_keeps_97 : decode (qB q_M_keeps) 97 = .ok (.getfield 54, 3) := by decide +kernel
theorem d_M_keeps_100 : decode (qB q_M_keeps) 100 = .ok (.iload_n 1, 1) := by decide +kernel
theorem d_M_keeps_101 : decode (qB q_M_keeps) 101 = .ok (.iload 5, 2) := by decide +kernel
theorem d_M_keeps_103 : decode (qB q_M_keeps) 103 = .ok (.iadd, 1) := by decide +kernel
theorem d_M_keeps_104 : decode (qB q_M_keeps) 104 = .ok (.iaload, 1) := by decide +kernel
theorem d_M_keeps_105 : decode (qB q_M_keeps) 105 = .ok (.istore 7, 2) := by decide +kernel
theorem d_M_keeps_107 : decode (qB q_M_keeps) 107 = .ok (.aload_n 0, 1) := by decide +kernel
theorem d_M_keeps_108 : decode (qB q_M_keeps) 108 = .ok (.getfield 57, 3) := by decide +kernel
theorem d_M_keeps_111 : decode (qB q_M_keeps) 111 = .ok (.iload_n 1, 1) := by decide +kernel
theorem d_M_keeps_112 : decode (qB q_M_keeps) 112 = .ok (.iload 5, 2) := by decide +kernel
theorem d_M_keeps_114 : decode (qB q_M_keeps) 114 = .ok (.iadd, 1) := by decide +kernel
theorem d_M_keeps_115 : decode (qB q_M_keeps) 115 = .ok (.iaload, 1) := by decide +kernel
theorem d_M_keeps_116 : decode (qB q_M_keeps) 116 = .ok (.istore 8, 2) := by decide +kernel
theorem d_M_keeps_118 : decode (qB q_M_keeps) 118 = .ok (.aload_n 0, 1) := by decide +kernel
theorem d_M_keeps_119 : decode (qB q_M_keeps) 119 = .ok (.iload 7, 2) := by decide +kernel
theorem d_M_keeps_121 : decode (qB q_M_keeps) 121 = .ok (.invokevirtual 121, 3) := by decide +kernel
theorem d_M_keeps_124 : decode (qB q_M_keeps) 124 = .ok (.ifCond .eq 10, 3) := by decide +kernel
theorem d_M_keeps_127 : decode (qB q_M_keeps) 127 = .ok (.iload 4, 2) := by decide +kernel
theorem d_M_keeps_129 : decode (qB q_M_keeps) 129 = .ok (.iconst 1, 1) := by decide +kernel
theorem d_M_keeps_130 : decode (qB q_M_keeps) 130 = .ok (.iadd, 1) := by decide +kernel
theorem d_M_keeps_131 : decode (qB q_M_keeps) 131 = .ok (.goto 4, 3) := by decide +kernel
theorem d_M_keeps_134 : decode (qB q_M_keeps) 134 = .ok (.iconst 0, 1) := by decide +kernel
theorem d_M_keeps_135 : decode (qB q_M_keeps) 135 = .ok (.istore 4, 2) := by decide +kernel
theorem d_M_keeps_137 : decode (qB q_M_keeps) 137 = .ok (.aload_n 0, 1) := by decide +kernel
theorem d_M_keeps_138 : decode (qB q_M_keeps) 138 = .ok (.iload 8, 2) := by decide +kernel
theorem d_M_keeps_140 : decode (qB q_M_keeps) 140 = .ok (.invokevirtual 175, 3) := by decide +kernel
theorem d_M_keeps_143 : decode (qB q_M_keeps) 143 = .ok (.ifCond .eq 72, 3) := by decide +kernel
theorem d_M_keeps_146 : decode (qB q_M_keeps) 146 = .ok (.aload_n 0, 1) := by decide +kernel
theorem d_M_keeps_147 : decode (qB q_M_keeps) 147 = .ok (.iload 7, 2) := by decide +kernel
theorem d_M_keeps_149 : decode (qB q_M_keeps) 149 = .ok (.invokevirtual 162, 3) := by decide +kernel
theorem d_M_keeps_152 : decode (qB q_M_keeps) 152 = .ok (.ifCond .ne 63, 3) := by decide +kernel
theorem d_M_keeps_155 : decode (qB q_M_keeps) 155 = .ok (.aload_n 0, 1) := by decide +kernel
theorem d_M_keeps_156 : decode (qB q_M_keeps) 156 = .ok (.iload 6, 2) := by decide +kernel
theorem d_M_keeps_158 : decode (qB q_M_keeps) 158 = .ok (.iload 7, 2) := by decide +kernel
theorem d_M_keeps_160 : decode (qB q_M_keeps) 160 = .ok (.invokevirtual 165, 3) := by decide +kernel
theorem d_M_keeps_163 : decode (qB q_M_keeps) 163 = .ok (.ifCond .eq 52, 3) := by decide +kernel
theorem d_M_keeps_166 : decode (qB q_M_keeps) 166 = .ok (.aload_n 0, 1) := by decide +kernel
theorem d_M_keeps_167 : decode (qB q_M_keeps) 167 = .ok (.aload_n 0, 1) := by decide +kernel
theorem d_M_keeps_168 : decode (qB q_M_keeps) 168 = .ok (.getfield 57, 3) := by decide +kernel
theorem d_M_keeps_171 : decode (qB q_M_keeps) 171 = .ok (.iload_n 1, 1) := by decide +kernel
theorem d_M_keeps_172 : decode (qB q_M_keeps) 172 = .ok (.iload 5, 2) := by decide +kernel
theorem d_M_keeps_174 : decode (qB q_M_keeps) 174 = .ok (.iadd, 1) := by decide +kernel
theorem d_M_keeps_175 : decode (qB q_M_keeps) 175 = .ok (.iconst 1, 1) := by decide +kernel
theorem d_M_keeps_176 : decode (qB q_M_keeps) 176 = .ok (.isub, 1) := by decide +kernel
theorem d_M_keeps_177 : decode (qB q_M_keeps) 177 = .ok (.iaload, 1) := by decide +kernel
theorem d_M_keeps_178 : decode (qB q_M_keeps) 178 = .ok (.iload 8, 2) := by decide +kernel
theorem d_M_keeps_180 : decode (qB q_M_keeps) 180 = .ok (.iload 6, 2) := by decide +kernel
theorem d_M_keeps_182 : decode (qB q_M_keeps) 182 = .ok (.iload 7, 2) := by decide +kernel
theorem d_M_keeps_184 : decode (qB q_M_keeps) 184 = .ok (.invokevirtual 178, 3) := by decide +kernel
theorem d_M_keeps_187 : decode (qB q_M_keeps) 187 = .ok (.ifCond .eq 28, 3) := by decide +kernel
theorem d_M_keeps_190 : decode (qB q_M_keeps) 190 = .ok (.aload_n 0, 1) := by decide +kernel
theorem d_M_keeps_191 : decode (qB q_M_keeps) 191 = .ok (.iload 7, 2) := by decide +kernel
theorem d_M_keeps_193 : decode (qB q_M_keeps) 193 = .ok (.invokevirtual 121, 3) := by decide +kernel
theorem d_M_keeps_196 : decode (qB q_M_keeps) 196 = .ok (.ifCond .eq 15, 3) := by decide +kernel
theorem d_M_keeps_199 : decode (qB q_M_keeps) 199 = .ok (.iload 4, 2) := by decide +kernel
theorem d_M_keeps_201 : decode (qB q_M_keeps) 201 = .ok (.aload_n 0, 1) := by decide +kernel
theorem d_M_keeps_202 : decode (qB q_M_keeps) 202 = .ok (.getfield 20, 3) := by decide +kernel
theorem d_M_keeps_205 : decode (qB q_M_keeps) 205 = .ok (.iload 7, 2) := by decide +kernel
theorem d_M_keeps_207 : decode (qB q_M_keeps) 207 = .ok (.iaload, 1) := by decide +kernel
theorem d_M_keeps_208 : decode (qB q_M_keeps) 208 = .ok (.if_icmp .gt 7, 3) := by decide +kernel
theorem d_M_keeps_211 : decode (qB q_M_keeps) 211 = .ok (.iconst 1, 1) := by decide +kernel
theorem d_M_keeps_212 : decode (qB q_M_keeps) 212 = .ok (.goto 4, 3) := by decide +kernel
theorem d_M_keeps_215 : decode (qB q_M_keeps) 215 = .ok (.iconst 0, 1) := by decide +kernel
theorem d_M_keeps_216 : decode (qB q_M_keeps) 216 = .ok (.istore_n 3, 1) := by decide +kernel
theorem d_M_keeps_217 : decode (qB q_M_keeps) 217 = .ok (.iinc 5 1, 3) := by decide +kernel
theorem d_M_keeps_220 : decode (qB q_M_keeps) 220 = .ok (.goto (-147), 3) := by decide +kernel
theorem d_M_keeps_223 : decode (qB q_M_keeps) 223 = .ok (.iload_n 3, 1) := by decide +kernel
theorem d_M_keeps_224 : decode (qB q_M_keeps) 224 = .ok (.ireturn, 1) := by decide +kernel
set_option maxRecDepth 10000 in
theorem k_M_keeps {G : mxG} (hG : mx_GG G) : ∀ pc r, t_M_keeps pc = some r → mx_Ok G mx_W mx_MT q_M_keeps pc r := (bn_ok (bn_ok (bn_ok (bn_ok (bn_ok (bn_ok (bn_ok (bl_ok (ok_aload_n rfl d_M_keeps_0)) (bl_ok (ok_getf d_M_keeps_1 (cl_5 hG) (by decide) w_618))) (bn_ok (bl_ok (ok_iconst (by decide) d_M_keeps_4)) (bl_ok (ok_icne d_M_keeps_5 (by decide))))) (bn_ok (bn_ok (bl_ok (ok_iconst (by decide) d_M_keeps_8)) (bl_ok (ok_zreturn d_M_keeps_9 rfl))) (bn_ok (bl_ok (ok_sipush (by decide) d_M_keeps_10)) (bl_ok (ok_aload_n rfl d_M_keeps_13))))) (bn_ok (bn_ok (bn_ok (bl_ok (ok_getf d_M_keeps_14 (cl_5 hG) (by decide) w_618)) (bl_ok (ok_imul d_M_keeps_17))) (bn_ok (bl_ok (ok_istore_n rfl d_M_keeps_18 (by decide))) (bl_ok (ok_aload_n rfl d_M_keeps_19)))) (bn_ok (bn_ok (bl_ok (ok_getf d_M_keeps_20 (cl_5 hG) (by decide) w_619)) (bl_ok (ok_aload_n rfl d_M_keeps_23))) (bn_ok (bl_ok (ok_getf d_M_keeps_24 (cl_5 hG) (by decide) w_618)) (bl_ok (ok_iald d_M_keeps_27 (kt_0 hG))))))) (bn_ok (bn_ok (bn_ok (bn_ok (bl_ok (ok_iconst (by decide) d_M_keeps_28)) (bl_ok (ok_isub d_M_keeps_29))) (bn_ok (bl_ok (ok_istore_n rfl d_M_keeps_30 (by decide))) (bl_ok (ok_aload_n rfl d_M_keeps_31)))) (bn_ok (bn_ok (bl_ok (ok_getf d_M_keeps_32 (cl_5 hG) (by decide) w_607)) (bl_ok (ok_aload_n rfl d_M_keeps_35))) (bn_ok (bl_ok (ok_getf d_M_keeps_36 (cl_5 hG) (by decide) w_620)) (bl_ok (ok_iload_n rfl d_M_keeps_39))))) (bn_ok (bn_ok (bn_ok (bl_ok (ok_iald d_M_keeps_40 (kt_0 hG))) (bl_ok (ok_zald d_M_keeps_41 (kt_2 hG)))) (bn_ok (bl_ok (ok_ifne d_M_keeps_42 (by decide))) (bl_ok (ok_aload_n rfl d_M_keeps_45)))) (bn_ok (bn_ok (bl_ok (ok_getf d_M_keeps_46 (cl_5 hG) (by decide) w_607)) (bl_ok (ok_aload_n rfl d_M_keeps_49))) (bn_ok (bl_ok (ok_getf d_M_keeps_50 (cl_5 hG) (by decide) w_620)) (bl_ok (ok_iload_n rfl d_M_keeps_53))))))) (bn_ok (bn_ok (bn_ok (bn_ok (bn_ok (bl_ok (ok_iload_n rfl d_M_keeps_54)) (bl_ok (ok_iadd d_M_keeps_55))) (bn_ok (bl_ok (ok_iald d_M_keeps_56 (kt_0 hG))) (bl_ok (ok_zald d_M_keeps_57 (kt_2 hG))))) (bn_ok (bn_ok (bl_ok (ok_ifne d_M_keeps_58 (by decide))) (bl_ok (ok_iconst (by decide) d_M_keeps_61))) (bn_ok (bl_ok (ok_goto d_M_keeps_62 (by decide))) (bl_ok (ok_iconst (by decide) d_M_keeps_65))))) (bn_ok (bn_ok (bn_ok (bl_ok (ok_istore_n rfl d_M_keeps_66 (by decide))) (bl_ok (ok_iconst (by decide) d_M_keeps_67))) (bn_ok (bl_ok (ok_istore d_M_keeps_68 (by decide))) (bl_ok (ok_iconst (by decide) d_M_keeps_70)))) (bn_ok (bn_ok (bl_ok (ok_istore d_M_keeps_71 (by decide))) (bl_ok (ok_iload d_M_keeps_73))) (bn_ok (bl_ok (ok_iload_n rfl d_M_keeps_75)) (bl_ok (ok_icgt d_M_keeps_76 (by decide))))))) (bn_ok (bn_ok (bn_ok (bn_ok (bl_ok (ok_iload_n rfl d_M_keeps_79)) (bl_ok (ok_ifeq d_M_keeps_80 (by decide)))) (bn_ok (bl_ok (ok_aload_n rfl d_M_keeps_83)) (bl_ok (ok_getf d_M_keeps_84 (cl_5 hG) (by decide) w_620)))) (bn_ok (bn_ok (bl_ok (ok_iload_n rfl d_M_keeps_87)) (bl_ok (ok_iload d_M_keeps_88))) (bn_ok (bl_ok (ok_iadd d_M_keeps_90)) (bl_ok (ok_iconst (by decide) d_M_keeps_91))))) (bn_ok (bn_ok (bn_ok (bl_ok (ok_isub d_M_keeps_92)) (bl_ok (ok_iald d_M_keeps_93 (kt_0 hG)))) (bn_ok (bl_ok (ok_istore d_M_keeps_94 (by decide))) (bl_ok (ok_aload_n rfl d_M_keeps_96)))) (bn_ok (bn_ok (bl_ok (ok_getf d_M_keeps_97 (cl_5 hG) (by decide) w_620)) (bl_ok (ok_iload_n rfl d_M_keeps_100))) (bn_ok (bl_ok (ok_iload d_M_keeps_101)) (bl_ok (ok_iadd d_M_keeps_103)))))))) (bn_ok (bn_ok (bn_ok (bn_ok (bn_ok (bn_ok (bl_ok (ok_iald d_M_keeps_104 (kt_0 hG))) (bl_ok (ok_istore d_M_keeps_105 (by decide)))) (bn_ok (bl_ok (ok_aload_n rfl d_M_keeps_107)) (bl_ok (ok_getf d_M_keeps_108 (cl_5 hG) (by decide) w_621)))) (bn_ok (bn_ok (bl_ok (ok_iload_n rfl d_M_keeps_111)) (bl_ok (ok_iload d_M_keeps_112))) (bn_ok (bl_ok (ok_iadd d_M_keeps_114)) (bl_ok (ok_iald d_M_keeps_115 (kt_0 hG)))))) (bn_ok (bn_ok (bn_ok (bl_ok (ok_istore d_M_keeps_116 (by decide))) (bl_ok (ok_aload_n rfl d_M_keeps_118))) (bn_ok (bl_ok (ok_iload d_M_keeps_119)) (bl_ok (ok_cv mx_W_good (cl_5 hG) d_M_keeps_121 (mt_M_isBridged) mk_M_isBridged w_816 w_818 ws_M_isBridged (by decide) (by decide))))) (bn_ok (bn_ok (bl_ok (ok_ifeq d_M_keeps_124 (by decide))) (bl_ok (ok_iload d_M_keeps_127))) (bn_ok (bl_ok (ok_iconst (by decide) d_M_keeps_129)) (bl_ok (ok_iadd d_M_keeps_130)))))) (bn_ok (bn_ok (bn_ok (bn_ok (bl_ok (ok_goto d_M_keeps_131 (by decide))) (bl_ok (ok_iconst (by decide) d_M_keeps_134))) (bn_ok (bl_ok (ok_istore d_M_keeps_135 (by decide))) (bl_ok (ok_aload_n rfl d_M_keeps_137)))) (bn_ok (bn_ok (bl_ok (ok_iload d_M_keeps_138)) (bl_ok (ok_cv mx_W_good (cl_5 hG) d_M_keeps_140 (mt_M_isHeading) mk_M_isHeading w_760 w_762 ws_M_isHeading (by decide) (by decide)))) (bn_ok (bl_ok (ok_ifeq d_M_keeps_143 (by decide))) (bl_ok (ok_aload_n rfl d_M_keeps_146))))) (bn_ok (bn_ok (bn_ok (bl_ok (ok_iload d_M_keeps_147)) (bl_ok (ok_cv mx_W_good (cl_5 hG) d_M_keeps_149 (mt_M_isShut) mk_M_isShut w_801 w_803 ws_M_isShut (by decide) (by decide)))) (bn_ok (bl_ok (ok_ifne d_M_keeps_152 (by decide))) (bl_ok (ok_aload_n rfl d_M_keeps_155)))) (bn_ok (bn_ok (bl_ok (ok_iload d_M_keeps_156)) (bl_ok (ok_iload d_M_keeps_158))) (bn_ok (bl_ok (ok_cv mx_W_good (cl_5 hG) d_M_keeps_160 (mt_M_isFlat) mk_M_isFlat w_805 w_807 ws_M_isFlat (by decide) (by decide))) (bl_ok (ok_ifeq d_M_keeps_163 (by decide)))))))) (bn_ok (bn_ok (bn_ok (bn_ok (bn_ok (bl_ok (ok_aload_n rfl d_M_keeps_166)) (bl_ok (ok_aload_n rfl d_M_keeps_167))) (bn_ok (bl_ok (ok_getf d_M_keeps_168 (cl_5 hG) (by decide) w_621)) (bl_ok (ok_iload_n rfl d_M_keeps_171)))) (bn_ok (bn_ok (bl_ok (ok_iload d_M_keeps_172)) (bl_ok (ok_iadd d_M_keeps_174))) (bn_ok (bl_ok (ok_iconst (by decide) d_M_keeps_175)) (bl_ok (ok_isub d_M_keeps_176))))) (bn_ok (bn_ok (bn_ok (bl_ok (ok_iald d_M_keeps_177 (kt_0 hG))) (bl_ok (ok_iload d_M_keeps_178))) (bn_ok (bl_ok (ok_iload d_M_keeps_180)) (bl_ok (ok_iload d_M_keeps_182)))) (bn_ok (bn_ok (bl_ok (ok_cv mx_W_good (cl_5 hG) d_M_keeps_184 (mt_M_follows) mk_M_follows w_824 w_826 ws_M_follows (by decide) (by decide))) (bl_ok (ok_ifeq d_M_keeps_187 (by decide)))) (bn_ok (bl_ok (ok_aload_n rfl d_M_keeps_190)) (bl_ok (ok_iload d_M_keeps_191)))))) (bn_ok (bn_ok (bn_ok (bn_ok (bl_ok (ok_cv mx_W_good (cl_5 hG) d_M_keeps_193 (mt_M_isBridged) mk_M_isBridged w_816 w_818 ws_M_isBridged (by decide) (by decide))) (bl_ok (ok_ifeq d_M_keeps_196 (by decide)))) (bn_ok (bl_ok (ok_iload d_M_keeps_199)) (bl_ok (ok_aload_n rfl d_M_keeps_201)))) (bn_ok (bn_ok (bl_ok (ok_getf d_M_keeps_202 (cl_5 hG) (by decide) w_608)) (bl_ok (ok_iload d_M_keeps_205))) (bn_ok (bl_ok (ok_iald d_M_keeps_207 (kt_0 hG))) (bl_ok (ok_icgt d_M_keeps_208 (by decide)))))) (bn_ok (bn_ok (bn_ok (bl_ok (ok_iconst (by decide) d_M_keeps_211)) (bl_ok (ok_goto d_M_keeps_212 (by decide)))) (bn_ok (bl_ok (ok_iconst (by decide) d_M_keeps_215)) (bl_ok (ok_istore_n rfl d_M_keeps_216 (by decide))))) (bn_ok (bn_ok (bl_ok (ok_iinc d_M_keeps_217 (by decide) (by decide))) (bl_ok (ok_goto d_M_keeps_220 (by decide)))) (bn_ok (bl_ok (ok_iload_n rfl d_M_keeps_223)) (bl_ok (ok_zreturn d_M_keeps_224 rfl)))))))))
