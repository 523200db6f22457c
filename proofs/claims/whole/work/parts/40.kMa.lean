theorem d_M_isFlat_0 : decode (qB q_M_isFlat) 0 = .ok (.aload_n 0, 1) := by decide +kernel
theorem d_M_isFlat_1 : decode (qB q_M_isFlat) 1 = .ok (.getfield 13, 3) := by decide +kernel
theorem d_M_isFlat_4 : decode (qB q_M_isFlat) 4 = .ok (.iload_n 1, 1) := by decide +kernel
theorem d_M_isFlat_5 : decode (qB q_M_isFlat) 5 = .ok (.iaload, 1) := by decide +kernel
theorem d_M_isFlat_6 : decode (qB q_M_isFlat) 6 = .ok (.aload_n 0, 1) := by decide +kernel
theorem d_M_isFlat_7 : decode (qB q_M_isFlat) 7 = .ok (.getfield 13, 3) := by decide +kernel
theorem d_M_isFlat_10 : decode (qB q_M_isFlat) 10 = .ok (.iload_n 2, 1) := by decide +kernel
theorem d_M_isFlat_11 : decode (qB q_M_isFlat) 11 = .ok (.iaload, 1) := by decide +kernel
theorem d_M_isFlat_12 : decode (qB q_M_isFlat) 12 = .ok (.isub, 1) := by decide +kernel
theorem d_M_isFlat_13 : decode (qB q_M_isFlat) 13 = .ok (.istore_n 3, 1) := by decide +kernel
theorem d_M_isFlat_14 : decode (qB q_M_isFlat) 14 = .ok (.iload_n 3, 1) := by decide +kernel
theorem d_M_isFlat_15 : decode (qB q_M_isFlat) 15 = .ok (.aload_n 0, 1) := by decide +kernel
theorem d_M_isFlat_16 : decode (qB q_M_isFlat) 16 = .ok (.getfield 42, 3) := by decide +kernel
theorem d_M_isFlat_19 : decode (qB q_M_isFlat) 19 = .ok (.if_icmp .gt 16, 3) := by decide +kernel
theorem d_M_isFlat_22 : decode (qB q_M_isFlat) 22 = .ok (.iload_n 3, 1) := by decide +kernel
theorem d_M_isFlat_23 : decode (qB q_M_isFlat) 23 = .ok (.ineg, 1) := by decide +kernel
theorem d_M_isFlat_24 : decode (qB q_M_isFlat) 24 = .ok (.aload_n 0, 1) := by decide +kernel
theorem d_M_isFlat_25 : decode (qB q_M_isFlat) 25 = .ok (.getfield 42, 3) := by decide +kernel
theorem d_M_isFlat_28 : decode (qB q_M_isFlat) 28 = .ok (.if_icmp .gt 7, 3) := by decide +kernel
theorem d_M_isFlat_31 : decode (qB q_M_isFlat) 31 = .ok (.iconst 1, 1) := by decide +kernel
theorem d_M_isFlat_32 : decode (qB q_M_isFlat) 32 = .ok (.goto 4, 3) := by decide +kernel
theorem d_M_isFlat_35 : decode (qB q_M_isFlat) 35 = .ok (.iconst 0, 1) := by decide +kernel
theorem d_M_isFlat_36 : decode (qB q_M_isFlat) 36 = .ok (.ireturn, 1) := by decide +kernel
set_option maxRecDepth 10000 in
theorem k_M_isFlat {G : mxG} (hG : mx_GG G) : ∀ pc r, t_M_isFlat pc = some r → mx_Ok G mx_W mx_MT q_M_isFlat pc r := (bn_ok (bn_ok (bn_ok (bn_ok (bl_ok (ok_aload_n rfl d_M_isFlat_0)) (bl_ok (ok_getf d_M_isFlat_1 (cl_5 hG) (by decide) w_606))) (bn_ok (bl_ok (ok_iload_n rfl d_M_isFlat_4)) (bn_ok (bl_ok (ok_iald d_M_isFlat_5 (kt_0 hG))) (bl_ok (ok_aload_n rfl d_M_isFlat_6))))) (bn_ok (bn_ok (bl_ok (ok_getf d_M_isFlat_7 (cl_5 hG) (by decide) w_606)) (bn_ok (bl_ok (ok_iload_n rfl d_M_isFlat_10)) (bl_ok (ok_iald d_M_isFlat_11 (kt_0 hG))))) (bn_ok (bl_ok (ok_isub d_M_isFlat_12)) (bn_ok (bl_ok (ok_istore_n rfl d_M_isFlat_13 (by decide))) (bl_ok (ok_iload_n rfl d_M_isFlat_14)))))) (bn_ok (bn_ok (bn_ok (bl_ok (ok_aload_n rfl d_M_isFlat_15)) (bn_ok (bl_ok (ok_getf d_M_isFlat_16 (cl_5 hG) (by decide) w_615)) (bl_ok (ok_icgt d_M_isFlat_19 (by decide))))) (bn_ok (bl_ok (ok_iload_n rfl d_M_isFlat_22)) (bn_ok (bl_ok (ok_ineg d_M_isFlat_23)) (bl_ok (ok_aload_n rfl d_M_isFlat_24))))) (bn_ok (bn_ok (bl_ok (ok_getf d_M_isFlat_25 (cl_5 hG) (by decide) w_615)) (bn_ok (bl_ok (ok_icgt d_M_isFlat_28 (by decide))) (bl_ok (ok_iconst (by decide) d_M_isFlat_31)))) (bn_ok (bl_ok (ok_goto d_M_isFlat_32 (by decide))) (bn_ok (bl_ok (ok_iconst (by decide) d_M_isFlat_35)) (bl_ok (ok_zreturn d_M_isFlat_36 rfl)))))))
theorem d_M_follows_0 : decode (qB q_M_follows) 0 = .ok (.iload_n 1, 1) := by decide +kernel
theorem d_M_follows_1 : decode (qB q_M_follows) 1 = .ok (.bipush 16, 2) := by decide +kernel
theorem d_M_follows_3 : decode (qB q_M_follows) 3 = .ok (.if_icmp .eq 8, 3) := by decide +kernel
theorem d_M_follows_6 : decode (qB q_M_follows) 6 = .ok (.iload_n 1, 1) := by decide +kernel
theorem d_M_follows_7 : decode (qB q_M_follows) 7 = .ok (.iload_n 2, 1) := by decide +kernel
theorem d_M_follows_8 : decode (qB q_M_follows) 8 = .ok (.if_icmp .ne 5, 3) := by decide +kernel
theorem d_M_follows_11 : decode (qB q_M_follows) 11 = .ok (.iconst 1, 1) := by decide +kernel
theorem d_M_follows_12 : decode (qB q_M_follows) 12 = .ok (.ireturn, 1) := by decide +kernel
theorem d_M_follows_13 : decode (qB q_M_follows) 13 = .ok (.aload_n 0, 1) := by decide +kernel
theorem d_M_follows_14 : decode (qB q_M_follows) 14 = .ok (.iload_n 3, 1) := by decide +kernel
theorem d_M_follows_15 : decode (qB q_M_follows) 15 = .ok (.invokevirtual 121, 3) := by decide +kernel
theorem d_M_follows_18 : decode (qB q_M_follows) 18 = .ok (.ifCond .ne 28, 3) := by decide +kernel
theorem d_M_follows_21 : decode (qB q_M_follows) 21 = .ok (.aload_n 0, 1) := by decide +kernel
theorem d_M_follows_22 : decode (qB q_M_follows) 22 = .ok (.iload 4, 2) := by decide +kernel
theorem d_M_follows_24 : decode (qB q_M_follows) 24 = .ok (.invokevirtual 121, 3) := by decide +kernel
theorem d_M_follows_27 : decode (qB q_M_follows) 27 = .ok (.ifCond .ne 19, 3) := by decide +kernel
theorem d_M_follows_30 : decode (qB q_M_follows) 30 = .ok (.iload_n 1, 1) := by decide +kernel
theorem d_M_follows_31 : decode (qB q_M_follows) 31 = .ok (.iload_n 2, 1) := by decide +kernel
theorem d_M_follows_32 : decode (qB q_M_follows) 32 = .ok (.invokestatic 136, 3) := by decide +kernel
theorem d_M_follows_35 : decode (qB q_M_follows) 35 = .ok (.aload_n 0, 1) := by decide +kernel
theorem d_M_follows_36 : decode (qB q_M_follows) 36 = .ok (.getfield 45, 3) := by decide +kernel
theorem d_M_follows_39 : decode (qB q_M_follows) 39 = .ok (.if_icmp .gt 7, 3) := by decide +kernel
theorem d_M_follows_42 : decode (qB q_M_follows) 42 = .ok (.iconst 1, 1) := by decide +kernel
theorem d_M_follows_43 : decode (qB q_M_follows) 43 = .ok (.goto 4, 3) := by decide +kernel
theorem d_M_follows_46 : decode (qB q_M_follows) 46 = .ok (.iconst 0, 1) := by decide +kernel
theorem d_M_follows_47 : decode (qB q_M_follows) 47 = .ok (.ireturn, 1) := by decide +kernel
set_option maxRecDepth 10000 in
theorem k_M_follows {G : mxG} (hG : mx_GG G) : ∀ pc r, t_M_follows pc = some r → mx_Ok G mx_W mx_MT q_M_follows pc r := (bn_ok (bn_ok (bn_ok (bn_ok (bl_ok (ok_iload_n rfl d_M_follows_0)) (bn_ok (bl_ok (ok_bipush (by decide) d_M_follows_1)) (bl_ok (ok_iceq d_M_follows_3 (by decide))))) (bn_ok (bl_ok (ok_iload_n rfl d_M_follows_6)) (bn_ok (bl_ok (ok_iload_n rfl d_M_follows_7)) (bl_ok (ok_icne d_M_follows_8 (by decide)))))) (bn_ok (bn_ok (bl_ok (ok_iconst (by decide) d_M_follows_11)) (bn_ok (bl_ok (ok_zreturn d_M_follows_12 rfl)) (bl_ok (ok_aload_n rfl d_M_follows_13)))) (bn_ok (bn_ok (bl_ok (ok_iload_n rfl d_M_follows_14)) (bl_ok (ok_cv mx_W_good (cl_5 hG) d_M_follows_15 (mt_M_isBridged) mk_M_isBridged w_816 w_818 ws_M_isBridged (by decide) (by decide)))) (bn_ok (bl_ok (ok_ifne d_M_follows_18 (by decide))) (bl_ok (ok_aload_n rfl d_M_follows_21)))))) (bn_ok (bn_ok (bn_ok (bl_ok (ok_iload d_M_follows_22)) (bn_ok (bl_ok (ok_cv mx_W_good (cl_5 hG) d_M_follows_24 (mt_M_isBridged) mk_M_isBridged w_816 w_818 ws_M_isBridged (by decide) (by decide))) (bl_ok (ok_ifne d_M_follows_27 (by decide))))) (bn_ok (bl_ok (ok_iload_n rfl d_M_follows_30)) (bn_ok (bl_ok (ok_iload_n rfl d_M_follows_31)) (bl_ok (ok_cs mx_W_good d_M_follows_32 (mt_M_differ) mk_M_differ w_828 w_829 (by decide) (by decide)))))) (bn_ok (bn_ok (bl_ok (ok_aload_n rfl d_M_follows_35)) (bn_ok (bl_ok (ok_getf d_M_follows_36 (cl_5 hG) (by decide) w_616)) (bl_ok (ok_icgt d_M_follows_39 (by decide))))) (bn_ok (bn_ok (bl_ok (ok_iconst (by decide) d_M_follows_42)) (bl_ok (ok_goto d_M_follows_43 (by decide)))) (bn_ok (bl_ok (ok_iconst (by decide) d_M_follows_46)) (bl_ok (ok_zreturn d_M_follows_47 rfl)))))))
theorem d_M_labelOf_0 : decode (qB q_M_labelOf) 0 = .ok (.sipush 612, 3) := by decide +kernel
theorem d_M_labelOf_3 : decode (qB q_M_labelOf) 3 = .ok (.iload_n 0, 1) := by decide +kernel
theorem d_M_labelOf_4 : decode (qB q_M_labelOf) 4 = .ok (.imul, 1) := by decide +kernel
theorem d_M_labelOf_5 : decode (qB q_M_labelOf) 5 = .ok (.bipush 36, 2) := by decide +kernel
theorem d_M_labelOf_7 : decode (qB q_M_labelOf) 7 = .ok (.iload_n 1, 1) := by decide +kernel
theorem d_M_labelOf_8 : decode (qB q_M_labelOf) 8 = .ok (.imul, 1) := by decide +kernel
theorem d_M_labelOf_9 : decode (qB q_M_labelOf) 9 = .ok (.iadd, 1) := by decide +kernel
theorem d_M_labelOf_10 : decode (qB q_M_labelOf) 10 = .ok (.bipush 9, 2) := by decide +kernel
theorem d_M_labelOf_12 : decode (qB q_M_labelOf) 12 = .ok (.iload_n 2, 1) := by decide +kernel
theorem d_M_labelOf_13 : decode (qB q_M_labelOf) 13 = .ok (.imul, 1) := by decide +kernel
theorem d_M_labelOf_14 : decode (qB q_M_labelOf) 14 = .ok (.iadd, 1) := by decide +kernel
theorem d_M_labelOf_15 : decode (qB q_M_labelOf) 15 = .ok (.iload_n 3, 1) := by decide +kernel
theorem d_M_labelOf_16 : decode (qB q_M_labelOf) 16 = .ok (.iadd, 1) := by decide +kernel
theorem d_M_labelOf_17 : decode (qB q_M_labelOf) 17 = .ok (.ireturn, 1) := by decide +kernel
set_option maxRecDepth 10000 in
theorem k_M_labelOf {G : mxG} (hG : mx_GG G) : ∀ pc r, t_M_labelOf pc = some r → mx_Ok G mx_W mx_MT q_M_labelOf pc r := (bn_ok (bn_ok (bn_ok (bl_ok (ok_sipush (by decide) d_M_labelOf_0)) (bn_ok (bl_ok (ok_iload_n rfl d_M_labelOf_3)) (bl_ok (ok_imul d_M_labelOf_4)))) (bn_ok (bn_ok (bl_ok (ok_bipush (by decide) d_M_labelOf_5)) (bl_ok (ok_iload_n rfl d_M_labelOf_7))) (bn_ok (bl_ok (ok_imul d_M_labelOf_8)) (bl_ok (ok_iadd d_M_labelOf_9))))) (bn_ok (bn_ok (bl_ok (ok_bipush (by decide) d_M_labelOf_10)) (bn_ok (bl_ok (ok_iload_n rfl d_M_labelOf_12)) (bl_ok (ok_imul d_M_labelOf_13)))) (bn_ok (bn_ok (bl_ok (ok_iadd d_M_labelOf_14)) (bl_ok (ok_iload_n rfl d_M_labelOf_15))) (bn_ok (bl_ok (ok_iadd d_M_labelOf_16)) (bl_ok (ok_ireturn d_M_labelOf_17 rfl))))))
theorem d_M_isBefore_0 : decode (qB q_M_isBefore) 0 = .ok (.aload_n 0, 1) := by decide +kernel
theorem d_M_isBefore_1 : decode (qB q_M_isBefore) 1 = .ok (.getfield 70, 3) := by decide +kernel
theorem d_M_isBefore_4 : decode (qB q_M_isBefore) 4 = .ok (.iload_n 1, 1) := by decide +kernel
theorem d_M_isBefore_5 : decode (qB q_M_isBefore) 5 = .ok (.laload, 1) := by decide +kernel
theorem d_M_isBefore_6 : decode (qB q_M_isBefore) 6 = .ok (.aload_n 0, 1) := by decide +kernel
theorem d_M_isBefore_7 : decode (qB q_M_isBefore) 7 = .ok (.getfield 70, 3) := by decide +kernel
theorem d_M_isBefore_10 : decode (qB q_M_isBefore) 10 = .ok (.iload_n 2, 1) := by decide +kernel
theorem d_M_isBefore_11 : decode (qB q_M_isBefore) 11 = .ok (.laload, 1) := by decide +kernel
theorem d_M_isBefore_12 : decode (qB q_M_isBefore) 12 = .ok (.lcmp, 1) := by decide +kernel
theorem d_M_isBefore_13 : decode (qB q_M_isBefore) 13 = .ok (.ifCond .eq 25, 3) := by decide +kernel
theorem d_M_isBefore_16 : decode (qB q_M_isBefore) 16 = .ok (.aload_n 0, 1) := by decide +kernel
theorem d_M_isBefore_17 : decode (qB q_M_isBefore) 17 = .ok (.getfield 70, 3) := by decide +kernel
theorem d_M_isBefore_20 : decode (qB q_M_isBefore) 20 = .ok (.iload_n 1, 1) := by decide +kernel
theorem d_M_isBefore_21 : decode (qB q_M_isBefore) 21 = .ok (.laload, 1) := by decide +kernel
theorem d_M_isBefore_22 : decode (qB q_M_isBefore) 22 = .ok (.aload_n 0, 1) := by decide +kernel
theorem d_M_isBefore_23 : decode (qB q_M_isBefore) 23 = .ok (.getfield 70, 3) := by decide +kernel
theorem d_M_isBefore_26 : decode (qB q_M_isBefore) 26 = .ok (.iload_n 2, 1) := by decide +kernel
theorem d_M_isBefore_27 : decode (qB q_M_isBefore) 27 = .ok (.laload, 1) := by decide +kernel
theorem d_M_isBefore_28 : decode (qB q_M_isBefore) 28 = .ok (.lcmp, 1) := by decide +kernel
theorem d_M_isBefore_29 : decode (qB q_M_isBefore) 29 = .ok (.ifCond .ge 7, 3) := by decide +kernel
theorem d_M_isBefore_32 : decode (qB q_M_isBefore) 32 = .ok (.iconst 1, 1) := by decide +kernel
theorem d_M_isBefore_33 : decode (qB q_M_isBefore) 33 = .ok (.goto 4, 3) := by decide +kernel
theorem d_M_isBefore_36 : decode (qB q_M_isBefore) 36 = .ok (.iconst 0, 1) := by decide +kernel
theorem d_M_isBefore_37 : decode (qB q_M_isBefore) 37 = .ok (.ireturn, 1) := by decide +kernel
theorem d_M_isBefore_38 : decode (qB q_M_isBefore) 38 = .ok (.aload_n 0, 1) := by decide +kernel
theorem d_M_isBefore_39 : decode (qB q_M_isBefore) 39 = .ok (.getfield 74, 3) := by decide +kernel
theorem d_M_isBefore_42 : decode (qB q_M_isBefore) 42 = .ok (.iload_n 1, 1) := by decide +kernel
theorem d_M_isBefore_43 : decode (qB q_M_isBefore) 43 = .ok (.iaload, 1) := by decide +kernel
theorem d_M_isBefore_44 : decode (qB q_M_isBefore) 44 = .ok (.aload_n 0, 1) := by decide +kernel
theorem d_M_isBefore_45 : decode (qB q_M_isBefore) 45 = .ok (.getfield 74, 3) := by decide +kernel
theorem d_M_isBefore_48 : decode (qB q_M_isBefore) 48 = .ok (.iload_n 2, 1) := by decide +kernel
theorem d_M_isBefore_49 : decode (qB q_M_isBefore) 49 = .ok (.iaload, 1) := by decide +kernel
theorem d_M_isBefore_50 : decode (qB q_M_isBefore) 50 = .ok (.if_icmp .eq 24, 3) := by decide +kernel
theorem d_M_isBefore_53 : decode (qB q_M_isBefore) 53 = .ok (.aload_n 0, 1) := by decide +kernel
theorem d_M_isBefore_54 : decode (qB q_M_isBefore) 54 = .ok (.getfield 74, 3) := by decide +kernel
theorem d_M_isBefore_57 : decode (qB q_M_isBefore) 57 = .ok (.iload_n 1, 1) := by decide +kernel
theorem d_M_isBefore_58 : decode (qB q_M_isBefore) 58 = .ok (.iaload, 1) := by decide +kernel
theorem d_M_isBefore_59 : decode (qB q_M_isBefore) 59 = .ok (.aload_n 0, 1) := by decide +kernel
theorem d_M_isBefore_60 : decode (qB q_M_isBefore) 60 = .ok (.getfield 74, 3) := by decide +kernel
theorem d_M_isBefore_63 : decode (qB q_M_isBefore) 63 = .ok (.iload_n 2, 1) := by decide +kernel
theorem d_M_isBefore_64 : decode (qB q_M_isBefore) 64 = .ok (.iaload, 1) := by decide +kernel
theorem d_M_isBefore_65 : decode (qB q_M_isBefore) 65 = .ok (.if_icmp .ge 7, 3) := by decide +kernel
theorem d_M_isBefore_68 : decode (qB q_M_isBefore) 68 = .ok (.iconst 1, 1) := by decide +kernel
theorem d_M_isBefore_69 : decode (qB q_M_isBefore) 69 = .ok (.goto 4, 3) := by decide +kernel
theorem d_M_isBefore_72 : decode (qB q_M_isBefore) 72 = .ok (.iconst 0, 1) := by decide +kernel
theorem d_M_isBefore_73 : decode (qB q_M_isBefore) 73 = .ok (.ireturn, 1) := by decide +kernel
theorem d_M_isBefore_74 : decode (qB q_M_isBefore) 74 = .ok (.aload_n 0, 1) := by decide +kernel
theorem d_M_isBefore_75 : decode (qB q_M_isBefore) 75 = .ok (.getfield 77, 3) := by decide +kernel
theorem d_M_isBefore_78 : decode (qB q_M_isBefore) 78 = .ok (.iload_n 1, 1) := by decide +kernel
theorem d_M_isBefore_79 : decode (qB q_M_isBefore) 79 = .ok (.iaload, 1) := by decide +kernel
theorem d_M_isBefore_80 : decode (qB q_M_isBefore) 80 = .ok (.aload_n 0, 1) := by decide +kernel
theorem d_M_isBefore_81 : decode (qB q_M_isBefore) 81 = .ok (.getfield 77, 3) := by decide +kernel
theorem d_M_isBefore_84 : decode (qB q_M_isBefore) 84 = .ok (.iload_n 2, 1) := by decide +kernel
theorem d_M_isBefore_85 : decode (qB q_M_isBefore) 85 = .ok (.iaload, 1) := by decide +kernel
theorem d_M_isBefore_86 : decode (qB q_M_isBefore) 86 = .ok (.if_icmp .eq 26, 3) := by decide +kernel
theorem d_M_isBefore_89 : decode (qB q_M_isBefore) 89 = .ok (.aload_n 0, 1) := by decide +kernel
theorem d_M_isBefore_90 : decode (qB q_M_isBefore) 90 = .ok (.getfield 77, 3) := by decide +kernel
theorem d_M_isBefore_93 : decode (qB q_M_isBefore) 93 = .ok (.iload_n 1, 1) := by decide +kernel
theorem d_M_isBefore_94 : decode (qB q_M_isBefore) 94 = .ok (.iaload, 1) := by decide +kernel
theorem d_M_isBefore_95 : decode (qB q_M_isBefore) 95 = .ok (.aload_n 0, 1) := by decide +kernel
theorem d_M_isBefore_96 : decode (qB q_M_isBefore) 96 = .ok (.getfield 77, 3) := by decide +kernel
theorem d_M_isBefore_99 : decode (qB q_M_isBefore) 99 = .ok (.iload_n 2, 1) := by decide +kernel
theorem d_M_isBefore_100 : decode (qB q_M_isBefore) 100 = .ok (.iaload, 1) := by decide +kernel
theorem d_M_isBefore_101 : decode (qB q_M_isBefore) 101 = .ok (.if_icmp .ge 7, 3) := by decide +kernel
theorem d_M_isBefore_104 : decode (qB q_M_isBefore) 104 = .ok (.iconst 1, 1) := by decide +kernel
theorem d_M_isBefore_105 : decode (qB q_M_isBefore) 105 = .ok (.goto 17, 3) := by decide +kernel
theorem d_M_isBefore_108 : decode (qB q_M_isBefore) 108 = .ok (.iconst 0, 1) := by decide +kernel
theorem d_M_isBefore_109 : decode (qB q_M_isBefore) 109 = .ok (.goto 13, 3) := by decide +kernel
theorem d_M_isBefore_112 : decode (qB q_M_isBefore) 112 = .ok (.iload_n 1, 1) := by decide +kernel
theorem d_M_isBefore_113 : decode (qB q_M_isBefore) 113 = .ok (.iload_n 2, 1) := by decide +kernel
theorem d_M_isBefore_114 : decode (qB q_M_isBefore) 114 = .ok (.if_icmp .ge 7, 3) := by decide +kernel
theorem d_M_isBefore_117 : decode (qB q_M_isBefore) 117 = .ok (.iconst 1, 1) := by decide +kernel
theorem d_M_isBefore_118 : decode (qB q_M_isBefore) 118 = .ok (.goto 4, 3) := by decide +kernel
theorem d_M_isBefore_121 : decode (qB q_M_isBefore) 121 = .ok (.iconst 0, 1) := by decide +kernel
theorem d_M_isBefore_122 : decode (qB q_M_isBefore) 122 = .ok (.ireturn, 1) := by decide +kernel
set_option maxRecDepth 10000 in
theorem k_M_isBefore {G : mxG} (hG : mx_GG G) : ∀ pc r, t_M_isBefore pc = some r → mx_Ok G mx_W mx_MT q_M_isBefore pc r := (bn_ok (bn_ok (bn_ok (bn_ok (bn_ok (bn_ok (bl_ok (ok_aload_n rfl d_M_isBefore_0)) (bl_ok (ok_getf d_M_isBefore_1 (cl_5 hG) (by decide) w_629))) (bn_ok (bl_ok (ok_iload_n rfl d_M_isBefore_4)) (bl_ok (ok_lald d_M_isBefore_5 (kt_1 hG))))) (bn_ok (bn_ok (bl_ok (ok_aload_n rfl d_M_isBefore_6)) (bl_ok (ok_getf d_M_isBefore_7 (cl_5 hG) (by decide) w_629))) (bn_ok (bl_ok (ok_iload_n rfl d_M_isBefore_10)) (bn_ok (bl_ok (ok_lald d_M_isBefore_11 (kt_1 hG))) (bl_ok (ok_lcmp d_M_isBefore_12)))))) (bn_ok (bn_ok (bn_ok (bl_ok (ok_ifeq d_M_isBefore_13 (by decide))) (bl_ok (ok_aload_n rfl d_M_isBefore_16))) (bn_ok (bl_ok (ok_getf d_M_isBefore_17 (cl_5 hG) (by decide) w_629)) (bl_ok (ok_iload_n rfl d_M_isBefore_20)))) (bn_ok (bn_ok (bl_ok (ok_lald d_M_isBefore_21 (kt_1 hG))) (bl_ok (ok_aload_n rfl d_M_isBefore_22))) (bn_ok (bl_ok (ok_getf d_M_isBefore_23 (cl_5 hG) (by decide) w_629)) (bn_ok (bl_ok (ok_iload_n rfl d_M_isBefore_26)) (bl_ok (ok_lald d_M_isBefore_27 (kt_1 hG)))))))) (bn_ok (bn_ok (bn_ok (bn_ok (bl_ok (ok_lcmp d_M_isBefore_28)) (bl_ok (ok_ifge d_M_isBefore_29 (by decide)))) (bn_ok (bl_ok (ok_iconst (by decide) d_M_isBefore_32)) (bl_ok (ok_goto d_M_isBefore_33 (by decide))))) (bn_ok (bn_ok (bl_ok (ok_iconst (by decide) d_M_isBefore_36)) (bl_ok (ok_zreturn d_M_isBefore_37 rfl))) (bn_ok (bl_ok (ok_aload_n rfl d_M_isBefore_38)) (bn_ok (bl_ok (ok_getf d_M_isBefore_39 (cl_5 hG) (by decide) w_630)) (bl_ok (ok_iload_n rfl d_M_isBefore_42)))))) (bn_ok (bn_ok (bn_ok (bl_ok (ok_iald d_M_isBefore_43 (kt_0 hG))) (bl_ok (ok_aload_n rfl d_M_isBefore_44))) (bn_ok (bl_ok (ok_getf d_M_isBefore_45 (cl_5 hG) (by decide) w_630)) (bn_ok (bl_ok (ok_iload_n rfl d_M_isBefore_48)) (bl_ok (ok_iald d_M_isBefore_49 (kt_0 hG)))))) (bn_ok (bn_ok (bl_ok (ok_iceq d_M_isBefore_50 (by decide))) (bl_ok (ok_aload_n rfl d_M_isBefore_53))) (bn_ok (bl_ok (ok_getf d_M_isBefore_54 (cl_5 hG) (by decide) w_630)) (bn_ok (bl_ok (ok_iload_n rfl d_M_isBefore_57)) (bl_ok (ok_iald d_M_isBefore_58 (kt_0 hG))))))))) (bn_ok (bn_ok (bn_ok (bn_ok (bn_ok (bl_ok (ok_aload_n rfl d_M_isBefore_59)) (bl_ok (ok_getf d_M_isBefore_60 (cl_5 hG) (by decide) w_630))) (bn_ok (bl_ok (ok_iload_n rfl d_M_isBefore_63)) (bl_ok (ok_iald d_M_isBefore_64 (kt_0 hG))))) (bn_ok (bn_ok (bl_ok (ok_icge d_M_isBefore_65 (by decide))) (bl_ok (ok_iconst (by decide) d_M_isBefore_68))) (bn_ok (bl_ok (ok_goto d_M_isBefore_69 (by decide))) (bn_ok (bl_ok (ok_iconst (by decide) d_M_isBefore_72)) (bl_ok (ok_zreturn d_M_isBefore_73 rfl)))))) (bn_ok (bn_ok (bn_ok (bl_ok (ok_aload_n rfl d_M_isBefore_74)) (bl_ok (ok_getf d_M_isBefore_75 (cl_5 hG) (by decide) w_631))) (bn_ok (bl_ok (ok_iload_n rfl d_M_isBefore_78)) (bn_ok (bl_ok (ok_iald d_M_isBefore_79 (kt_0 hG))) (bl_ok (ok_aload_n rfl d_M_isBefore_80))))) (bn_ok (bn_ok (bl_ok (ok_getf d_M_isBefore_81 (cl_5 hG) (by decide) w_631)) (bl_ok (ok_iload_n rfl d_M_isBefore_84))) (bn_ok (bl_ok (ok_iald d_M_isBefore_85 (kt_0 hG))) (bn_ok (bl_ok (ok_iceq d_M_isBefore_86 (by decide))) (bl_ok (ok_aload_n rfl d_M_isBefore_89))))))) (bn_ok (bn_ok (bn_ok (bn_ok (bl_ok (ok_getf d_M_isBefore_90 (cl_5 hG) (by decide) w_631)) (bl_ok (ok_iload_n rfl d_M_isBefore_93))) (bn_ok (bl_ok (ok_iald d_M_isBefore_94 (kt_0 hG))) (bl_ok (ok_aload_n rfl d_M_isBefore_95)))) (bn_ok (bn_ok (bl_ok (ok_getf d_M_isBefore_96 (cl_5 hG) (by decide) w_631)) (bl_ok (ok_iload_n rfl d_M_isBefore_99))) (bn_ok (bl_ok (ok_iald d_M_isBefore_100 (kt_0 hG))) (bn_ok (bl_ok (ok_icge d_M_isBefore_101 (by decide))) (bl_ok (ok_iconst (by decide) d_M_isBefore_104)))))) (bn_ok (bn_ok (bn_ok (bl_ok (ok_goto d_M_isBefore_105 (by decide))) (bl_ok (ok_iconst (by decide) d_M_isBefore_108))) (bn_ok (bl_ok (ok_goto d_M_isBefore_109 (by decide))) (bn_ok (bl_ok (ok_iload_n rfl d_M_isBefore_112)) (bl_ok (ok_iload_n rfl d_M_isBefore_113))))) (bn_ok (bn_ok (bl_ok (ok_icge d_M_isBefore_114 (by decide))) (bl_ok (ok_iconst (by decide) d_M_isBefore_117))) (bn_ok (bl_ok (ok_goto d_M_isBefore_118 (by decide))) (bn_ok (bl_ok (ok_iconst (by decide) d_M_isBefore_121)) (bl_ok (ok_zreturn d_M_isBefore_122 rfl)))))))))
theorem d_M_lay_0 : decode (qB q_M_lay) 0 = .ok (.aload_n 0, 1) := by decide +kernel
theorem d_M_lay_1 : decode (qB q_M_lay) 1 = .ok (.getfield 86, 3) := by decide +kernel
theorem d_M_lay_4 : decode (qB q_M_lay) 4 = .ok (.iload_n 1, 1) := by decide +kernel
theorem d_M_lay_5 : decode (qB q_M_lay) 5 = .ok (.iload_n 2, 1) := by decide +kernel
theorem d_M_lay_6 : decode (qB q_M_lay) 6 = .ok (.iastore, 1) := by decide +kernel
theorem d_M_lay_7 : decode (qB q_M_lay) 7 = .ok (.aload_n 0, 1) := by decide +kernel
theorem d_M_lay_8 : decode (qB q_M_lay) 8 = .ok (.getfield 83, 3) := by decide +kernel
theorem d_M_lay_11 : decode (qB q_M_lay) 11 = .ok (.iload_n 2, 1) := by decide +kernel
theorem d_M_lay_12 : decode (qB q_M_lay) 12 = .ok (.iload_n 1, 1) := by decide +kernel
theorem d_M_lay_13 : decode (qB q_M_lay) 13 = .ok (.iastore, 1) := by decide +kernel
theorem d_M_lay_14 : decode (qB q_M_lay) 14 = .ok (.return_, 1) := by decide +kernel
set_option maxRecDepth 10000 in
theorem k_M_lay {G : mxG} (hG : mx_GG G) : ∀ pc r, t_M_lay pc = some r → mx_Ok G mx_W mx_MT q_M_lay pc r := (bn_ok (bn_ok (bn_ok (bl_ok (ok_aload_n rfl d_M_lay_0)) (bl_ok (ok_getf d_M_lay_1 (cl_5 hG) (by decide) w_635))) (bn_ok (bl_ok (ok_iload_n rfl d_M_lay_4)) (bn_ok (bl_ok (ok_iload_n rfl d_M_lay_5)) (bl_ok (ok_iast d_M_lay_6 (kt_0 hG)))))) (bn_ok (bn_ok (bl_ok (ok_aload_n rfl d_M_lay_7)) (bn_ok (bl_ok (ok_getf d_M_lay_8 (cl_5 hG) (by decide) w_633)) (bl_ok (ok_iload_n rfl d_M_lay_11)))) (bn_ok (bl_ok (ok_iload_n rfl d_M_lay_12)) (bn_ok (bl_ok (ok_iast d_M_lay_13 (kt_0 hG))) (bl_ok (ok_return d_M_lay_14 rfl))))))
theorem d_M_rise_0 : decode (qB q_M_rise) 0 = .ok (.iload_n 1, 1) := by decide +kernel
theorem d_M_rise_1 : decode (qB q_M_rise) 1 = .ok (.istore_n 2, 1) := by decide +kernel
theorem d_M_rise_2 : decode (qB q_M_rise) 2 = .ok (.aload_n 0, 1) := by decide +kernel
theorem d_M_rise_3 : decode (qB q_M_rise) 3 = .ok (.getfield 86, 3) := by decide +kernel
theorem d_M_rise_6 : decode (qB q_M_rise) 6 = .ok (.iload_n 2, 1) := by decide +kernel
theorem d_M_rise_7 : decode (qB q_M_rise) 7 = .ok (.iaload, 1) := by decide +kernel
theorem d_M_rise_8 : decode (qB q_M_rise) 8 = .ok (.istore_n 3, 1) := by decide +kernel
theorem d_M_rise_9 : decode (qB q_M_rise) 9 = .ok (.iload_n 2, 1) := by decide +kernel
theorem d_M_rise_10 : decode (qB q_M_rise) 10 = .ok (.ifCond .le 45, 3) := by decide +kernel
theorem d_M_rise_13 : decode (qB q_M_rise) 13 = .ok (.aload_n 0, 1) := by decide +kernel
theorem d_M_rise_14 : decode (qB q_M_rise) 14 = .ok (.iload_n 3, 1) := by decide +kernel
theorem d_M_rise_15 : decode (qB q_M_rise) 15 = .ok (.aload_n 0, 1) := by decide +kernel
theorem d_M_rise_16 : decode (qB q_M_rise) 16 = .ok (.getfield 86, 3) := by decide +kernel
theorem d_M_rise_19 : decode (qB q_M_rise) 19 = .ok (.iload_n 2, 1) := by decide +kernel
theorem d_M_rise_20 : decode (qB q_M_rise) 20 = .ok (.iconst 1, 1) := by decide +kernel
theorem d_M_rise_21 : decode (qB q_M_rise) 21 = .ok (.isub, 1) := by decide +kernel
theorem d_M_rise_22 : decode (qB q_M_rise) 22 = .ok (.iconst 2, 1) := by decide +kernel
theorem d_M_rise_23 : decode (qB q_M_rise) 23 = .ok (.idiv, 1) := by decide +kernel
theorem d_M_rise_24 : decode (qB q_M_rise) 24 = .ok (.iaload, 1) := by decide +kernel
theorem d_M_rise_25 : decode (qB q_M_rise) 25 = .ok (.invokevirtual 139, 3) := by decide +kernel
theorem d_M_rise_28 : decode (qB q_M_rise) 28 = .ok (.ifCond .eq 27, 3) := by decide +kernel
theorem d_M_rise_31 : decode (qB q_M_rise) 31 = .ok (.aload_n 0, 1) := by decide +kernel
theorem d_M_rise_32 : decode (qB q_M_rise) 32 = .ok (.iload_n 2, 1) := by decide +kernel
theorem d_M_rise_33 : decode (qB q_M_rise) 33 = .ok (.aload_n 0, 1) := by decide +kernel
theorem d_M_rise_34 : decode (qB q_M_rise) 34 = .ok (.getfield 86, 3) := by decide +kernel
theorem d_M_rise_37 : decode (qB q_M_rise) 37 = .ok (.iload_n 2, 1) := by decide +kernel
theorem d_M_rise_38 : decode (qB q_M_rise) 38 = .ok (.iconst 1, 1) := by decide +kernel
theorem d_M_rise_39 : decode (qB q_M_rise) 39 = .ok (.isub, 1) := by decide +kernel
theorem d_M_rise_40 : decode (qB q_M_rise) 40 = .ok (.iconst 2, 1) := by decide +kernel
theorem d_M_rise_41 : decode (qB q_M_rise) 41 = .ok (.idiv, 1) := by decide +kernel
theorem d_M_rise_42 : decode (qB q_M_rise) 42 = .ok (.iaload, 1) := by decide +kernel
theorem d_M_rise_43 : decode (qB q_M_rise) 43 = .ok (.invokevirtual 142, 3) := by decide +kernel
theorem d_M_rise_46 : decode (qB q_M_rise) 46 = .ok (.iload_n 2, 1) := by decide +kernel
theorem d_M_rise_47 : decode (qB q_M_rise) 47 = .ok (.iconst 1, 1) := by decide +kernel
theorem d_M_rise_48 : decode (qB q_M_rise) 48 = .ok (.isub, 1) := by decide +kernel
theorem d_M_rise_49 : decode (qB q_M_rise) 49 = .ok (.iconst 2, 1) := by decide +kernel
theorem d_M_rise_50 : decode (qB q_M_rise) 50 = .ok (.idiv, 1) := by decide +kernel
theorem d_M_rise_51 : decode (qB q_M_rise) 51 = .ok (.istore_n 2, 1) := by decide +kernel
theorem d_M_rise_52 : decode (qB q_M_rise) 52 = .ok (.goto (-43), 3) := by decide +kernel
theorem d_M_rise_55 : decode (qB q_M_rise) 55 = .ok (.aload_n 0, 1) := by decide +kernel
theorem d_M_rise_56 : decode (qB q_M_rise) 56 = .ok (.iload_n 2, 1) := by decide +kernel
theorem d_M_rise_57 : decode (qB q_M_rise) 57 = .ok (.iload_n 3, 1) := by decide +kernel
theorem d_M_rise_58 : decode (qB q_M_rise) 58 = .ok (.invokevirtual 142, 3) := by decide +kernel
theorem d_M_rise_61 : decode (qB q_M_rise) 61 = .ok (.return_, 1) := by decide +kernel
set_option maxRecDepth 10000 in
theorem k_M_rise {G : mxG} (hG : mx_GG G) : ∀ pc r, t_M_rise pc = some r → mx_Ok G mx_W mx_MT q_M_rise pc r := (bn_ok (bn_ok (bn_ok (bn_ok (bn_ok (bl_ok (ok_iload_n rfl d_M_rise_0)) (bl_ok (ok_istore_n rfl d_M_rise_1 (by decide)))) (bn_ok (bl_ok (ok_aload_n rfl d_M_rise_2)) (bn_ok (bl_ok (ok_getf d_M_rise_3 (cl_5 hG) (by decide) w_635)) (bl_ok (ok_iload_n rfl d_M_rise_6))))) (bn_ok (bn_ok (bl_ok (ok_iald d_M_rise_7 (kt_0 hG))) (bn_ok (bl_ok (ok_istore_n rfl d_M_rise_8 (by decide))) (bl_ok (ok_iload_n rfl d_M_rise_9)))) (bn_ok (bl_ok (ok_ifle d_M_rise_10 (by decide))) (bn_ok (bl_ok (ok_aload_n rfl d_M_rise_13)) (bl_ok (ok_iload_n rfl d_M_rise_14)))))) (bn_ok (bn_ok (bn_ok (bl_ok (ok_aload_n rfl d_M_rise_15)) (bl_ok (ok_getf d_M_rise_16 (cl_5 hG) (by decide) w_635))) (bn_ok (bl_ok (ok_iload_n rfl d_M_rise_19)) (bn_ok (bl_ok (ok_iconst (by decide) d_M_rise_20)) (bl_ok (ok_isub d_M_rise_21))))) (bn_ok (bn_ok (bl_ok (ok_iconst (by decide) d_M_rise_22)) (bn_ok (bl_ok (ok_idiv d_M_rise_23)) (bl_ok (ok_iald d_M_rise_24 (kt_0 hG))))) (bn_ok (bl_ok (ok_cv mx_W_good (cl_5 hG) d_M_rise_25 (mt_M_isBefore) mk_M_isBefore w_775 w_777 ws_M_isBefore (by decide) (by decide))) (bn_ok (bl_ok (ok_ifeq d_M_rise_28 (by decide))) (bl_ok (ok_aload_n rfl d_M_rise_31))))))) (bn_ok (bn_ok (bn_ok (bn_ok (bl_ok (ok_iload_n rfl d_M_rise_32)) (bl_ok (ok_aload_n rfl d_M_rise_33))) (bn_ok (bl_ok (ok_getf d_M_rise_34 (cl_5 hG) (by decide) w_635)) (bn_ok (bl_ok (ok_iload_n rfl d_M_rise_37)) (bl_ok (ok_iconst (by decide) d_M_rise_38))))) (bn_ok (bn_ok (bl_ok (ok_isub d_M_rise_39)) (bn_ok (bl_ok (ok_iconst (by decide) d_M_rise_40)) (bl_ok (ok_idiv d_M_rise_41)))) (bn_ok (bl_ok (ok_iald d_M_rise_42 (kt_0 hG))) (bn_ok (bl_ok (ok_cv mx_W_good (cl_5 hG) d_M_rise_43 (mt_M_lay) mk_M_lay w_779 w_781 ws_M_lay (by decide) (by decide))) (bl_ok (ok_iload_n rfl d_M_rise_46)))))) (bn_ok (bn_ok (bn_ok (bl_ok (ok_iconst (by decide) d_M_rise_47)) (bl_ok (ok_isub d_M_rise_48))) (bn_ok (bl_ok (ok_iconst (by decide) d_M_rise_49)) (bn_ok (bl_ok (ok_idiv d_M_rise_50)) (bl_ok (ok_istore_n rfl d_M_rise_51 (by decide)))))) (bn_ok (bn_ok (bl_ok (ok_goto d_M_rise_52 (by decide))) (bn_ok (bl_ok (ok_aload_n rfl d_M_rise_55)) (bl_ok (ok_iload_n rfl d_M_rise_56)))) (bn_ok (bl_ok (ok_iload_n rfl d_M_rise_57)) (bn_ok (bl_ok (ok_cv mx_W_good (cl_5 hG) d_M_rise_58 (mt_M_lay) mk_M_lay w_779 w_781 ws_M_lay (by decide) (by decide))) (bl_ok (ok_return d_M_rise_61 rfl))))))))
theorem d_M_takeLeast_0 : decode (qB q_M_takeLeast) 0 = .ok (.aload_n 0, 1) := by decide +kernel
theorem d_M_takeLeast_1 : decode (qB q_M_takeLeast) 1 = .ok (.getfield 86, 3) := by decide +kernel
theorem d_M_takeLeast_4 : decode (qB q_M_takeLeast) 4 = .ok (.iconst 0, 1) := by decide +kernel
theorem d_M_takeLeast_5 : decode (qB q_M_takeLeast) 5 = .ok (.iaload, 1) := by decide +kernel
theorem d_M_takeLeast_6 : decode (qB q_M_takeLeast) 6 = .ok (.istore_n 1, 1) := by decide +kernel
theorem d_M_takeLeast_7 : decode (qB q_M_takeLeast) 7 = .ok (.aload_n 0, 1) := by decide +kernel
theorem d_M_takeLeast_8 : decode (qB q_M_takeLeast) 8 = .ok (.dup, 1) := by decide +kernel
theorem d_M_takeLeast_9 : decode (qB q_M_takeLeast) 9 = .ok (.getfield 146, 3) := by decide +kernel
theorem d_M_takeLeast_12 : decode (qB q_M_takeLeast) 12 = .ok (.iconst 1, 1) := by decide +kernel
theorem d_M_takeLeast_13 : decode (qB q_M_takeLeast) 13 = .ok (.isub, 1) := by decide +kernel
theorem d_M_takeLeast_14 : decode (qB q_M_takeLeast) 14 = .ok (.putfield 146, 3) := by decide +kernel
theorem d_M_takeLeast_17 : decode (qB q_M_takeLeast) 17 = .ok (.aload_n 0, 1) := by decide +kernel
theorem d_M_takeLeast_18 : decode (qB q_M_takeLeast) 18 = .ok (.getfield 86, 3) := by decide +kernel
theorem d_M_takeLeast_21 : decode (qB q_M_takeLeast) 21 = .ok (.aload_n 0, 1) := by decide +kernel
theorem d_M_takeLeast_22 : decode (qB q_M_takeLeast) 22 = .ok (.getfield 146, 3) := by decide +kernel
theorem d_M_takeLeast_25 : decode (qB q_M_takeLeast) 25 = .ok (.iaload, 1) := by decide +kernel
theorem d_M_takeLeast_26 : decode (qB q_M_takeLeast) 26 = .ok (.istore_n 2, 1) := by decide +kernel
theorem d_M_takeLeast_27 : decode (qB q_M_takeLeast) 27 = .ok (.iconst 0, 1) := by decide +kernel
theorem d_M_takeLeast_28 : decode (qB q_M_takeLeast) 28 = .ok (.istore_n 3, 1) := by decide +kernel
theorem d_M_takeLeast_29 : decode (qB q_M_takeLeast) 29 = .ok (.aload_n 0, 1) := by decide +kernel
theorem d_M_takeLeast_30 : decode (qB q_M_takeLeast) 30 = .ok (.getfield 146, 3) := by decide +kernel
theorem d_M_takeLeast_33 : decode (qB q_M_takeLeast) 33 = .ok (.ifCond .le 7, 3) := by decide +kernel
theorem d_M_takeLeast_36 : decode (qB q_M_takeLeast) 36 = .ok (.iconst 1, 1) := by decide +kernel
theorem d_M_takeLeast_37 : decode (qB q_M_takeLeast) 37 = .ok (.goto 4, 3) := by decide +kernel
theorem d_M_takeLeast_40 : decode (qB q_M_takeLeast) 40 = .ok (.iconst 0, 1) := by decide +kernel
theorem d_M_takeLeast_41 : decode (qB q_M_takeLeast) 41 = .ok (.istore 4, 2) := by decide +kernel
theorem d_M_takeLeast_43 : decode (qB q_M_takeLeast) 43 = .ok (.iload 4, 2) := by decide +kernel
theorem d_M_takeLeast_45 : decode (qB q_M_takeLeast) 45 = .ok (.ifCond .eq 101, 3) := by decide +kernel
theorem d_M_takeLeast_48 : decode (qB q_M_takeLeast) 48 = .ok (.iconst 2, 1) := by decide +kernel
theorem d_M_takeLeast_49 : decode (qB q_M_takeLeast) 49 = .ok (.iload_n 3, 1) := by decide +kernel
theorem d_M_takeLeast_50 : decode (qB q_M_takeLeast) 50 = .ok (.imul, 1) := by decide +kernel
theorem d_M_takeLeast_51 : decode (qB q_M_takeLeast) 51 = .ok (.iconst 1, 1) := by decide +kernel
theorem d_M_takeLeast_52 : decode (qB q_M_takeLeast) 52 = .ok (.iadd, 1) := by decide +kernel
theorem d_M_takeLeast_53 : decode (qB q_M_takeLeast) 53 = .ok (.istore 5, 2) := by decide +kernel
theorem d_M_takeLeast_55 : decode (qB q_M_takeLeast) 55 = .ok (.iload 5, 2) := by decide +kernel
theorem d_M_takeLeast_57 : decode (qB q_M_takeLeast) 57 = .ok (.iconst 1, 1) := by decide +kernel
theorem d_M_takeLeast_58 : decode (qB q_M_takeLeast) 58 = .ok (.iadd, 1) := by decide +kernel
theorem d_M_takeLeast_59 : decode (qB q_M_takeLeast) 59 = .ok (.aload_n 0, 1) := by decide +kernel
theorem d_M_takeLeast_60 : decode (qB q_M_takeLeast) 60 = .ok (.getfield 146, 3) := by decide +kernel
theorem d_M_takeLeast_63 : decode (qB q_M_takeLeast) 63 = .ok (.if_icmp .ge 29, 3) := by decide +kernel
theorem d_M_takeLeast_66 : decode (qB q_M_takeLeast) 66 = .ok (.aload_n 0, 1) := by decide +kernel
theorem d_M_takeLeast_67 : decode (qB q_M_takeLeast) 67 = .ok (.aload_n 0, 1) := by decide +kernel
theorem d_M_takeLeast_68 : decode (qB q_M_takeLeast) 68 = .ok (.getfield 86, 3) := by decide +kernel
theorem d_M_takeLeast_71 : decode (qB q_M_takeLeast) 71 = .ok (.iload 5, 2) := by decide +kernel
theorem d_M_takeLeast_73 : decode (qB q_M_takeLeast) 73 = .ok (.iconst 1, 1) := by decide +kernel
theorem d_M_takeLeast_74 : decode (qB q_M_takeLeast) 74 = .ok (.iadd, 1) := by decide +kernel
theorem d_M_takeLeast_75 : decode (qB q_M_takeLeast) 75 = .ok (.iaload, 1) := by decide +kernel
theorem d_M_takeLeast_76 : decode (qB q_M_takeLeast) 76 = .ok (.aload_n 0, 1) := by decide +kernel
theorem d_M_takeLeast_77 : decode (qB q_M_takeLeast) 77 = .ok (.getfield 86, 3) := by decide +kernel
theorem d_M_takeLeast_80 : decode (qB q_M_takeLeast) 80 = .ok (.iload 5, 2) := by decide +kernel
theorem d_M_takeLeast_82 : decode (qB q_M_takeLeast) 82 = .ok (.iaload, 1) := by decide +kernel
theorem d_M_takeLeast_83 : decode (qB q_M_takeLeast) 83 = .ok (.invokevirtual 139, 3) := by decide +kernel
theorem d_M_takeLeast_86 : decode (qB q_M_takeLeast) 86 = .ok (.ifCond .eq 6, 3) := by decide +kernel
theorem d_M_takeLeast_89 : decode (qB q_M_takeLeast) 89 = .ok (.iinc 5 1, 3) := by decide +kernel
theorem d_M_takeLeast_92 : decode (qB q_M_takeLeast) 92 = .ok (.iload 5, 2) := by decide +kernel
theorem d_M_takeLeast_94 : decode (qB q_M_takeLeast) 94 = .ok (.aload_n 0, 1) := by decide +kernel
theorem d_M_takeLeast_95 : decode (qB q_M_takeLeast) 95 = .ok (.getfield 146, 3) := by decide +kernel
theorem d_M_takeLeast_98 : decode (qB q_M_takeLeast) 98 = .ok (.if_icmp .ge 22, 3) := by decide +kernel
theorem d_M_takeLeast_101 : decode (qB q_M_takeLeast) 101 = .ok (.aload_n 0, 1) := by decide +kernel
theorem d_M_takeLeast_102 : decode (qB q_M_takeLeast) 102 = .ok (.aload_n 0, 1) := by decide +kernel
theorem d_M_takeLeast_103 : decode (qB q_M_takeLeast) 103 = .ok (.getfield 86, 3) := by decide +kernel
theorem d_M_takeLeast_106 : decode (qB q_M_takeLeast) 106 = .ok (.iload 5, 2) := by decide +kernel
theorem d_M_takeLeast_108 : decode (qB q_M_takeLeast) 108 = .ok (.iaload, 1) := by decide +kernel
theorem d_M_takeLeast_109 : decode (qB q_M_takeLeast) 109 = .ok (.iload_n 2, 1) := by decide +kernel
theorem d_M_takeLeast_110 : decode (qB q_M_takeLeast) 110 = .ok (.invokevirtual 139, 3) := by decide +kernel
theorem d_M_takeLeast_113 : decode (qB q_M_takeLeast) 113 = .ok (.ifCond .eq 7, 3) := by decide +kernel
theorem d_M_takeLeast_116 : decode (qB q_M_takeLeast) 116 = .ok (.iconst 1, 1) := by decide +kernel
theorem d_M_takeLeast_117 : decode (qB q_M_takeLeast) 117 = .ok (.goto 4, 3) := by decide +kernel
theorem d_M_takeLeast_120 : decode (qB q_M_takeLeast) 120 = .ok (.iconst 0, 1) := by decide +kernel
theorem d_M_takeLeast_121 : decode (qB q_M_takeLeast) 121 = .ok (.istore 4, 2) := by decide +kernel
theorem d_M_takeLeast_123 : decode (qB q_M_takeLeast) 123 = .ok (.iload 4, 2) := by decide +kernel
theorem d_M_takeLeast_125 : decode (qB q_M_takeLeast) 125 = .ok (.ifCond .eq 18, 3) := by decide +kernel
theorem d_M_takeLeast_128 : decode (qB q_M_takeLeast) 128 = .ok (.aload_n 0, 1) := by decide +kernel
theorem d_M_takeLeast_129 : decode (qB q_M_takeLeast) 129 = .ok (.iload_n 3, 1) := by decide +kernel
theorem d_M_takeLeast_130 : decode (qB q_M_takeLeast) 130 = .ok (.aload_n 0, 1) := by decide +kernel
theorem d_M_takeLeast_131 : decode (qB q_M_takeLeast) 131 = .ok (.getfield 86, 3) := by decide +kernel
theorem d_M_takeLeast_134 : decode (qB q_M_takeLeast) 134 = .ok (.iload 5, 2) := by decide +kernel
theorem d_M_takeLeast_136 : decode (qB q_M_takeLeast) 136 = .ok (.iaload, 1) := by decide +kernel
theorem d_M_takeLeast_137 : decode (qB q_M_takeLeast) 137 = .ok (.invokevirtual 142, 3) := by decide +kernel
theorem d_M_takeLeast_140 : decode (qB q_M_takeLeast) 140 = .ok (.iload 5, 2) := by decide +kernel
theorem d_M_takeLeast_142 : decode (qB q_M_takeLeast) 142 = .ok (.istore_n 3, 1) := by decide +kernel
theorem d_M_takeLeast_143 : decode (qB q_M_takeLeast) 143 = .ok (.goto (-100), 3) := by decide +kernel
theorem d_M_takeLeast_146 : decode (qB q_M_takeLeast) 146 = .ok (.aload_n 0, 1) := by decide +kernel
theorem d_M_takeLeast_147 : decode (qB q_M_takeLeast) 147 = .ok (.getfield 146, 3) := by decide +kernel
theorem d_M_takeLeast_150 : decode (qB q_M_takeLeast) 150 = .ok (.ifCond .le 9, 3) := by decide +kernel
theorem d_M_takeLeast_153 : decode (qB q_M_takeLeast) 153 = .ok (.aload_n 0, 1) := by decide +kernel
theorem d_M_takeLeast_154 : decode (qB q_M_takeLeast) 154 = .ok (.iload_n 3, 1) := by decide +kernel
theorem d_M_takeLeast_155 : decode (qB q_M_takeLeast) 155 = .ok (.iload_n 2, 1) := by decide +kernel
theorem d_M_takeLeast_156 : decode (qB q_M_takeLeast) 156 = .ok (.invokevirtual 142, 3) := by decide +kernel
theorem d_M_takeLeast_159 : decode (qB q_M_takeLeast) 159 = .ok (.iload_n 1, 1) := by decide +kernel
theorem d_M_takeLeast_160 : decode (qB q_M_takeLeast) 160 = .ok (.ireturn, 1) := by decide +kernel
set_option maxRecDepth 10000 in
theorem k_M_takeLeast {G : mxG} (hG : mx_GG G) : ∀ pc r, t_M_takeLeast pc = some r → mx_Ok G mx_W mx_MT q_M_takeLeast pc r := (bn_ok (bn_ok (bn_ok (bn_ok (bn_ok (bn_ok (bl_ok (ok_aload_n rfl d_M_takeLeast_0)) (bl_ok (ok_getf d_M_takeLeast_1 (cl_5 hG) (by decide) w_635))) (bn_ok (bl_ok (ok_iconst (by decide) d_M_takeLeast_4)) (bn_ok (bl_ok (ok_iald d_M_takeLeast_5 (kt_0 hG))) (bl_ok (ok_istore_n rfl d_M_takeLeast_6 (by decide)))))) (bn_ok (bn_ok (bl_ok (ok_aload_n rfl d_M_takeLeast_7)) (bn_ok (bl_ok (ok_dup d_M_takeLeast_8)) (bl_ok (ok_getf d_M_takeLeast_9 (cl_5 hG) (by decide) w_634)))) (bn_ok (bl_ok (ok_iconst (by decide) d_M_takeLeast_12)) (bn_ok (bl_ok (ok_isub d_M_takeLeast_13)) (bl_ok (ok_putf d_M_takeLeast_14 (cl_5 hG) (by decide) w_634 rfl (Or.inl rfl))))))) (bn_ok (bn_ok (bn_ok (bl_ok (ok_aload_n rfl d_M_takeLeast_17)) (bl_ok (ok_getf d_M_takeLeast_18 (cl_5 hG) (by decide) w_635))) (bn_ok (bl_ok (ok_aload_n rfl d_M_takeLeast_21)) (bn_ok (bl_ok (ok_getf d_M_takeLeast_22 (cl_5 hG) (by decide) w_634)) (bl_ok (ok_iald d_M_takeLeast_25 (kt_0 hG)))))) (bn_ok (bn_ok (bl_ok (ok_istore_n rfl d_M_takeLeast_26 (by decide))) (bn_ok (bl_ok (ok_iconst (by decide) d_M_takeLeast_27)) (bl_ok (ok_istore_n rfl d_M_takeLeast_28 (by decide))))) (bn_ok (bl_ok (ok_aload_n rfl d_M_takeLeast_29)) (bn_ok (bl_ok (ok_getf d_M_takeLeast_30 (cl_5 hG) (by decide) w_634)) (bl_ok (ok_ifle d_M_takeLeast_33 (by decide)))))))) (bn_ok (bn_ok (bn_ok (bn_ok (bl_ok (ok_iconst (by decide) d_M_takeLeast_36)) (bl_ok (ok_goto d_M_takeLeast_37 (by decide)))) (bn_ok (bl_ok (ok_iconst (by decide) d_M_takeLeast_40)) (bn_ok (bl_ok (ok_istore d_M_takeLeast_41 (by decide))) (bl_ok (ok_iload d_M_takeLeast_43))))) (bn_ok (bn_ok (bl_ok (ok_ifeq d_M_takeLeast_45 (by decide))) (bn_ok (bl_ok (ok_iconst (by decide) d_M_takeLeast_48)) (bl_ok (ok_iload_n rfl d_M_takeLeast_49)))) (bn_ok (bl_ok (ok_imul d_M_takeLeast_50)) (bn_ok (bl_ok (ok_iconst (by decide) d_M_takeLeast_51)) (bl_ok (ok_iadd d_M_takeLeast_52)))))) (bn_ok (bn_ok (bn_ok (bl_ok (ok_istore d_M_takeLeast_53 (by decide))) (bn_ok (bl_ok (ok_iload d_M_takeLeast_55)) (bl_ok (ok_iconst (by decide) d_M_takeLeast_57)))) (bn_ok (bl_ok (ok_iadd d_M_takeLeast_58)) (bn_ok (bl_ok (ok_aload_n rfl d_M_takeLeast_59)) (bl_ok (ok_getf d_M_takeLeast_60 (cl_5 hG) (by decide) w_634))))) (bn_ok (bn_ok (bl_ok (ok_icge d_M_takeLeast_63 (by decide))) (bn_ok (bl_ok (ok_aload_n rfl d_M_takeLeast_66)) (bl_ok (ok_aload_n rfl d_M_takeLeast_67)))) (bn_ok (bl_ok (ok_getf d_M_takeLeast_68 (cl_5 hG) (by decide) w_635)) (bn_ok (bl_ok (ok_iload d_M_takeLeast_71)) (bl_ok (ok_iconst (by decide) d_M_takeLeast_73)))))))) (bn_ok (bn_ok (bn_ok (bn_ok (bn_ok (bl_ok (ok_iadd d_M_takeLeast_74)) (bl_ok (ok_iald d_M_takeLeast_75 (kt_0 hG)))) (bn_ok (bl_ok (ok_aload_n rfl d_M_takeLeast_76)) (bn_ok (bl_ok (ok_getf d_M_takeLeast_77 (cl_5 hG) (by decide) w_635)) (bl_ok (ok_iload d_M_takeLeast_80))))) (bn_ok (bn_ok (bl_ok (ok_iald d_M_takeLeast_82 (kt_0 hG))) (bn_ok (bl_ok (ok_cv mx_W_good (cl_5 hG) d_M_takeLeast_83 (mt_M_isBefore) mk_M_isBefore w_775 w_777 ws_M_isBefore (by decide) (by decide))) (bl_ok (ok_ifeq d_M_takeLeast_86 (by decide))))) (bn_ok (bl_ok (ok_iinc d_M_takeLeast_89 (by decide) (by decide))) (bn_ok (bl_ok (ok_iload d_M_takeLeast_92)) (bl_ok (ok_aload_n rfl d_M_takeLeast_94)))))) (bn_ok (bn_ok (bn_ok (bl_ok (ok_getf d_M_takeLeast_95 (cl_5 hG) (by decide) w_634)) (bn_ok (bl_ok (ok_icge d_M_takeLeast_98 (by decide))) (bl_ok (ok_aload_n rfl d_M_takeLeast_101)))) (bn_ok (bl_ok (ok_aload_n rfl d_M_takeLeast_102)) (bn_ok (bl_ok (ok_getf d_M_takeLeast_103 (cl_5 hG) (by decide) w_635)) (bl_ok (ok_iload d_M_takeLeast_106))))) (bn_ok (bn_ok (bl_ok (ok_iald d_M_takeLeast_108 (kt_0 hG))) (bn_ok (bl_ok (ok_iload_n rfl d_M_takeLeast_109)) (bl_ok (ok_cv mx_W_good (cl_5 hG) d_M_takeLeast_110 (mt_M_isBefore) mk_M_isBefore w_775 w_777 ws_M_isBefore (by decide) (by decide))))) (bn_ok (bl_ok (ok_ifeq d_M_takeLeast_113 (by decide))) (bn_ok (bl_ok (ok_iconst (by decide) d_M_takeLeast_116)) (bl_ok (ok_goto d_M_takeLeast_117 (by decide)))))))) (bn_ok (bn_ok (bn_ok (bn_ok (bl_ok (ok_iconst (by decide) d_M_takeLeast_120)) (bl_ok (ok_istore d_M_takeLeast_121 (by decide)))) (bn_ok (bl_ok (ok_iload d_M_takeLeast_123)) (bn_ok (bl_ok (ok_ifeq d_M_takeLeast_125 (by decide))) (bl_ok (ok_aload_n rfl d_M_takeLeast_128))))) (bn_ok (bn_ok (bl_ok (ok_iload_n rfl d_M_takeLeast_129)) (bn_ok (bl_ok (ok_aload_n rfl d_M_takeLeast_130)) (bl_ok (ok_getf d_M_takeLeast_131 (cl_5 hG) (by decide) w_635)))) (bn_ok (bl_ok (ok_iload d_M_takeLeast_134)) (bn_ok (bl_ok (ok_iald d_M_takeLeast_136 (kt_0 hG))) (bl_ok (ok_cv mx_W_good (cl_5 hG) d_M_takeLeast_137 (mt_M_lay) mk_M_lay w_779 w_781 ws_M_lay (by decide) (by decide))))))) (bn_ok (bn_ok (bn_ok (bl_ok (ok_iload d_M_takeLeast_140)) (bn_ok (bl_ok (ok_istore_n rfl d_M_takeLeast_142 (by decide))) (bl_ok (ok_goto d_M_takeLeast_143 (by decide))))) (bn_ok (bl_ok (ok_aload_n rfl d_M_takeLeast_146)) (bn_ok (bl_ok (ok_getf d_M_takeLeast_147 (cl_5 hG) (by decide) w_634)) (bl_ok (ok_ifle d_M_takeLeast_150 (by decide)))))) (bn_ok (bn_ok (bl_ok (ok_aload_n rfl d_M_takeLeast_153)) (bn_ok (bl_ok (ok_iload_n rfl d_M_takeLeast_154)) (bl_ok (ok_iload_n rfl d_M_takeLeast_155)))) (bn_ok (bl_ok (ok_cv mx_W_good (cl_5 hG) d_M_takeLeast_156 (mt_M_lay) mk_M_lay w_779 w_781 ws_M_lay (by decide) (by decide))) (bn_ok (bl_ok (ok_iload_n rfl d_M_takeLeast_159)) (bl_ok (ok_ireturn d_M_takeLeast_160 rfl)))))))))
theorem d_M_offer_0 : decode (qB q_M_offer) 0 = .ok (.aload_n 0, 1) := by decide +kernel
theorem d_M_offer_1 : decode (qB q_M_offer) 1 = .ok (.getfield 80, 3) := by decide +kernel
theorem d_M_offer_4 : decode (qB q_M_offer) 4 = .ok (.iload_n 1, 1) := by decide +kernel
theorem d_M_offer_5 : decode (qB q_M_offer) 5 = .ok (.iaload, 1) := by decide +kernel
theorem d_M_offer_6 : decode (qB q_M_offer) 6 = .ok (.iconst 2, 1) := by decide +kernel
theorem d_M_offer_7 : decode (qB q_M_offer) 7 = .ok (.if_icmp .ne 4, 3) := by decide +kernel
theorem d_M_offer_10 : decode (qB q_M_offer) 10 = .ok (.return_, 1) := by decide +kernel
theorem d_M_offer_11 : decode (qB q_M_offer) 11 = .ok (.aload_n 0, 1) := by decide +kernel
theorem d_M_offer_12 : decode (qB q_M_offer) 12 = .ok (.getfield 80, 3) := by decide +kernel
theorem d_M_offer_15 : decode (qB q_M_offer) 15 = .ok (.iload_n 1, 1) := by decide +kernel
theorem d_M_offer_16 : decode (qB q_M_offer) 16 = .ok (.iaload, 1) := by decide +kernel
theorem d_M_offer_17 : decode (qB q_M_offer) 17 = .ok (.ifCond .eq 58, 3) := by decide +kernel
theorem d_M_offer_20 : decode (qB q_M_offer) 20 = .ok (.lload_n 2, 1) := by decide +kernel
theorem d_M_offer_21 : decode (qB q_M_offer) 21 = .ok (.aload_n 0, 1) := by decide +kernel
theorem d_M_offer_22 : decode (qB q_M_offer) 22 = .ok (.getfield 70, 3) := by decide +kernel
theorem d_M_offer_25 : decode (qB q_M_offer) 25 = .ok (.iload_n 1, 1) := by decide +kernel
theorem d_M_offer_26 : decode (qB q_M_offer) 26 = .ok (.laload, 1) := by decide +kernel
theorem d_M_offer_27 : decode (qB q_M_offer) 27 = .ok (.lcmp, 1) := by decide +kernel
theorem d_M_offer_28 : decode (qB q_M_offer) 28 = .ok (.ifCond .lt 47, 3) := by decide +kernel
theorem d_M_offer_31 : decode (qB q_M_offer) 31 = .ok (.lload_n 2, 1) := by decide +kernel
theorem d_M_offer_32 : decode (qB q_M_offer) 32 = .ok (.aload_n 0, 1) := by decide +kernel
theorem d_M_offer_33 : decode (qB q_M_offer) 33 = .ok (.getfield 70, 3) := by decide +kernel
theorem d_M_offer_36 : decode (qB q_M_offer) 36 = .ok (.iload_n 1, 1) := by decide +kernel
theorem d_M_offer_37 : decode (qB q_M_offer) 37 = .ok (.laload, 1) := by decide +kernel
theorem d_M_offer_38 : decode (qB q_M_offer) 38 = .ok (.lcmp, 1) := by decide +kernel
theorem d_M_offer_39 : decode (qB q_M_offer) 39 = .ok (.ifCond .ne 40, 3) := by decide +kernel
theorem d_M_offer_42 : decode (qB q_M_offer) 42 = .ok (.iload 4, 2) := by decide +kernel
theorem d_M_offer_44 : decode (qB q_M_offer) 44 = .ok (.aload_n 0, 1) := by decide +kernel
theorem d_M_offer_45 : decode (qB q_M_offer) 45 = .ok (.getfield 74, 3) := by decide +kernel
theorem d_M_offer_48 : decode (qB q_M_offer) 48 = .ok (.iload_n 1, 1) := by decide +kernel
theorem d_M_offer_49 : decode (qB q_M_offer) 49 = .ok (.iaload, 1) := by decide +kernel
theorem d_M_offer_50 : decode (qB q_M_offer) 50 = .ok (.if_icmp .lt 25, 3) := by decide +kernel
theorem d_M_offer_53 : decode (qB q_M_offer) 53 = .ok (.iload 4, 2) := by decide +kernel
theorem d_M_offer_55 : decode (qB q_M_offer) 55 = .ok (.aload_n 0, 1) := by decide +kernel
theorem d_M_offer_56 : decode (qB q_M_offer) 56 = .ok (.getfield 74, 3) := by decide +kernel
theorem d_M_offer_59 : decode (qB q_M_offer) 59 = .ok (.iload_n 1, 1) := by decide +kernel
theorem d_M_offer_60 : decode (qB q_M_offer) 60 = .ok (.iaload, 1) := by decide +kernel
theorem d_M_offer_61 : decode (qB q_M_offer) 61 = .ok (.if_icmp .ne 18, 3) := by decide +kernel
theorem d_M_offer_64 : decode (qB q_M_offer) 64 = .ok (.iload 5, 2) := by decide +kernel
theorem d_M_offer_66 : decode (qB q_M_offer) 66 = .ok (.aload_n 0, 1) := by decide +kernel
theorem d_M_offer_67 : decode (qB q_M_offer) 67 = .ok (.getfield 77, 3) := by decide +kernel
theorem d_M_offer_70 : decode (qB q_M_offer) 70 = .ok (.iload_n 1, 1) := by decide +kernel
theorem d_M_offer_71 : decode (qB q_M_offer) 71 = .ok (.iaload, 1) := by decide +kernel
theorem d_M_offer_72 : decode (qB q_M_offer) 72 = .ok (.if_icmp .ge 7, 3) := by decide +kernel
theorem d_M_offer_75 : decode (qB q_M_offer) 75 = .ok (.iconst 1, 1) := by decide +kernel
theorem d_M_offer_76 : decode (qB q_M_offer) 76 = .ok (.goto 4, 3) := by decide +kernel
theorem d_M_offer_79 : decode (qB q_M_offer) 79 = .ok (.iconst 0, 1) := by decide +kernel
theorem d_M_offer_80 : decode (qB q_M_offer) 80 = .ok (.istore 6, 2) := by decide +kernel
theorem d_M_offer_82 : decode (qB q_M_offer) 82 = .ok (.iload 6, 2) := by decide +kernel
theorem d_M_offer_84 : decode (qB q_M_offer) 84 = .ok (.ifCond .ne 4, 3) := by decide +kernel
theorem d_M_offer_87 : decode (qB q_M_offer) 87 = .ok (.return_, 1) := by decide +kernel
theorem d_M_offer_88 : decode (qB q_M_offer) 88 = .ok (.aload_n 0, 1) := by decide +kernel
theorem d_M_offer_89 : decode (qB q_M_offer) 89 = .ok (.getfield 70, 3) := by decide +kernel
theorem d_M_offer_92 : decode (qB q_M_offer) 92 = .ok (.iload_n 1, 1) := by decide +kernel
theorem d_M_offer_93 : decode (qB q_M_offer) 93 = .ok (.lload_n 2, 1) := by decide +kernel
theorem d_M_offer_94 : decode (qB q_M_offer) 94 = .ok (.lastore, 1) := by decide +kernel
theorem d_M_offer_95 : decode (qB q_M_offer) 95 = .ok (.aload_n 0, 1) := by decide +kernel
theorem d_M_offer_96 : decode (qB q_M_offer) 96 = .ok (.getfield 74, 3) := by decide +kernel
theorem d_M_offer_99 : decode (qB q_M_offer) 99 = .ok (.iload_n 1, 1) := by decide +kernel
theorem d_M_offer_100 : decode (qB q_M_offer) 100 = .ok (.iload 4, 2) := by decide +kernel
theorem d_M_offer_102 : decode (qB q_M_offer) 102 = .ok (.iastore, 1) := by decide +kernel
theorem d_M_offer_103 : decode (qB q_M_offer) 103 = .ok (.aload_n 0, 1) := by decide +kernel
theorem d_M_offer_104 : decode (qB q_M_offer) 104 = .ok (.getfield 77, 3) := by decide +kernel
theorem d_M_offer_107 : decode (qB q_M_offer) 107 = .ok (.iload_n 1, 1) := by decide +kernel
theorem d_M_offer_108 : decode (qB q_M_offer) 108 = .ok (.iload 5, 2) := by decide +kernel
theorem d_M_offer_110 : decode (qB q_M_offer) 110 = .ok (.iastore, 1) := by decide +kernel
theorem d_M_offer_111 : decode (qB q_M_offer) 111 = .ok (.aload_n 0, 1) := by decide +kernel
theorem d_M_offer_112 : decode (qB q_M_offer) 112 = .ok (.getfield 80, 3) := by decide +kernel
theorem d_M_offer_115 : decode (qB q_M_offer) 115 = .ok (.iload_n 1, 1) := by decide +kernel
theorem d_M_offer_116 : decode (qB q_M_offer) 116 = .ok (.iaload, 1) := by decide +kernel
theorem d_M_offer_117 : decode (qB q_M_offer) 117 = .ok (.ifCond .ne 43, 3) := by decide +kernel
theorem d_M_offer_120 : decode (qB q_M_offer) 120 = .ok (.aload_n 0, 1) := by decide +kernel
theorem d_M_offer_121 : decode (qB q_M_offer) 121 = .ok (.getfield 80, 3) := by decide +kernel
theorem d_M_offer_124 : decode (qB q_M_offer) 124 = .ok (.iload_n 1, 1) := by decide +kernel
theorem d_M_offer_125 : decode (qB q_M_offer) 125 = .ok (.iconst 1, 1) := by decide +kernel
theorem d_M_offer_126 : decode (qB q_M_offer) 126 = .ok (.iastore, 1) := by decide +kernel
theorem d_M_offer_127 : decode (qB q_M_offer) 127 = .ok (.aload_n 0, 1) := by decide +kernel
theorem d_M_offer_128 : decode (qB q_M_offer) 128 = .ok (.getfield 86, 3) := by decide +kernel
theorem d_M_offer_131 : decode (qB q_M_offer) 131 = .ok (.aload_n 0, 1) := by decide +kernel
theorem d_M_offer_132 : decode (qB q_M_offer) 132 = .ok (.getfield 146, 3) := by decide +kernel
theorem d_M_offer_135 : decode (qB q_M_offer) 135 = .ok (.iload_n 1, 1) := by decide +kernel
theorem d_M_offer_136 : decode (qB q_M_offer) 136 = .ok (.iastore, 1) := by decide +kernel
theorem d_M_offer_137 : decode (qB q_M_offer) 137 = .ok (.aload_n 0, 1) := by decide +kernel
theorem d_M_offer_138 : decode (qB q_M_offer) 138 = .ok (.dup, 1) := by decide +kernel
theorem d_M_offer_139 : decode (qB q_M_offer) 139 = .ok (.getfield 146, 3) := by decide +kernel
theorem d_M_offer_142 : decode (qB q_M_offer) 142 = .ok (.iconst 1, 1) := by decide +kernel
theorem d_M_offer_143 : decode (qB q_M_offer) 143 = .ok (.iadd, 1) := by decide +kernel
theorem d_M_offer_144 : decode (qB q_M_offer) 144 = .ok (.putfield 146, 3) := by decide +kernel
theorem d_M_offer_147 : decode (qB q_M_offer) 147 = .ok (.aload_n 0, 1) := by decide +kernel
theorem d_M_offer_148 : decode (qB q_M_offer) 148 = .ok (.aload_n 0, 1) := by decide +kernel
theorem d_M_offer_149 : decode (qB q_M_offer) 149 = .ok (.getfield 146, 3) := by decide +kernel
theorem d_M_offer_152 : decode (qB q_M_offer) 152 = .ok (.iconst 1, 1) := by decide +kernel
theorem d_M_offer_153 : decode (qB q_M_offer) 153 = .ok (.isub, 1) := by decide +kernel
theorem d_M_offer_154 : decode (qB q_M_offer) 154 = .ok (.invokevirtual 149, 3) := by decide +kernel
theorem d_M_offer_157 : decode (qB q_M_offer) 157 = .ok (.goto 13, 3) := by decide +kernel
theorem d_M_offer_160 : decode (qB q_M_offer) 160 = .ok (.aload_n 0, 1) := by decide +kernel
theorem d_M_offer_161 : decode (qB q_M_offer) 161 = .ok (.aload_n 0, 1) := by decide +kernel
theorem d_M_offer_162 : decode (qB q_M_offer) 162 = .ok (.getfield 83, 3) := by decide +kernel
theorem d_M_offer_165 : decode (qB q_M_offer) 165 = .ok (.iload_n 1, 1) := by decide +kernel
theorem d_M_offer_166 : decode (qB q_M_offer) 166 = .ok (.iaload, 1) := by decide +kernel
theorem d_M_offer_167 : decode (qB q_M_offer) 167 = .ok (.invokevirtual 149, 3) := by decide +kernel
theorem d_M_offer_170 : decode (qB q_M_offer) 170 = .ok (.return_, 1) := by decide +kernel
set_option maxRecDepth 10000 in
theorem k_M_offer {G : mxG} (hG : mx_GG G) : ∀ pc r, t_M_offer pc = some r → mx_Ok G mx_W mx_MT q_M_offer pc r := (bn_ok (bn_ok (bn_ok (bn_ok (bn_ok (bn_ok (bl_ok (ok_aload_n rfl d_M_offer_0)) (bn_ok (bl_ok (ok_getf d_M_offer_1 (cl_5 hG) (by decide) w_632)) (bl_ok (ok_iload_n rfl d_M_offer_4)))) (bn_ok (bl_ok (ok_iald d_M_offer_5 (kt_0 hG))) (bn_ok (bl_ok (ok_iconst (by decide) d_M_offer_6)) (bl_ok (ok_icne d_M_offer_7 (by decide)))))) (bn_ok (bn_ok (bl_ok (ok_return d_M_offer_10 rfl)) (bn_ok (bl_ok (ok_aload_n rfl d_M_offer_11)) (bl_ok (ok_getf d_M_offer_12 (cl_5 hG) (by decide) w_632)))) (bn_ok (bl_ok (ok_iload_n rfl d_M_offer_15)) (bn_ok (bl_ok (ok_iald d_M_offer_16 (kt_0 hG))) (bl_ok (ok_ifeq d_M_offer_17 (by decide))))))) (bn_ok (bn_ok (bn_ok (bl_ok (ok_lload_n rfl d_M_offer_20)) (bn_ok (bl_ok (ok_aload_n rfl d_M_offer_21)) (bl_ok (ok_getf d_M_offer_22 (cl_5 hG) (by decide) w_629)))) (bn_ok (bl_ok (ok_iload_n rfl d_M_offer_25)) (bn_ok (bl_ok (ok_lald d_M_offer_26 (kt_1 hG))) (bl_ok (ok_lcmp d_M_offer_27))))) (bn_ok (bn_ok (bl_ok (ok_iflt d_M_offer_28 (by decide))) (bn_ok (bl_ok (ok_lload_n rfl d_M_offer_31)) (bl_ok (ok_aload_n rfl d_M_offer_32)))) (bn_ok (bn_ok (bl_ok (ok_getf d_M_offer_33 (cl_5 hG) (by decide) w_629)) (bl_ok (ok_iload_n rfl d_M_offer_36))) (bn_ok (bl_ok (ok_lald d_M_offer_37 (kt_1 hG))) (bl_ok (ok_lcmp d_M_offer_38))))))) (bn_ok (bn_ok (bn_ok (bn_ok (bl_ok (ok_ifne d_M_offer_39 (by decide))) (bn_ok (bl_ok (ok_iload d_M_offer_42)) (bl_ok (ok_aload_n rfl d_M_offer_44)))) (bn_ok (bl_ok (ok_getf d_M_offer_45 (cl_5 hG) (by decide) w_630)) (bn_ok (bl_ok (ok_iload_n rfl d_M_offer_48)) (bl_ok (ok_iald d_M_offer_49 (kt_0 hG)))))) (bn_ok (bn_ok (bl_ok (ok_iclt d_M_offer_50 (by decide))) (bn_ok (bl_ok (ok_iload d_M_offer_53)) (bl_ok (ok_aload_n rfl d_M_offer_55)))) (bn_ok (bn_ok (bl_ok (ok_getf d_M_offer_56 (cl_5 hG) (by decide) w_630)) (bl_ok (ok_iload_n rfl d_M_offer_59))) (bn_ok (bl_ok (ok_iald d_M_offer_60 (kt_0 hG))) (bl_ok (ok_icne d_M_offer_61 (by decide))))))) (bn_ok (bn_ok (bn_ok (bl_ok (ok_iload d_M_offer_64)) (bn_ok (bl_ok (ok_aload_n rfl d_M_offer_66)) (bl_ok (ok_getf d_M_offer_67 (cl_5 hG) (by decide) w_631)))) (bn_ok (bl_ok (ok_iload_n rfl d_M_offer_70)) (bn_ok (bl_ok (ok_iald d_M_offer_71 (kt_0 hG))) (bl_ok (ok_icge d_M_offer_72 (by decide)))))) (bn_ok (bn_ok (bl_ok (ok_iconst (by decide) d_M_offer_75)) (bn_ok (bl_ok (ok_goto d_M_offer_76 (by decide))) (bl_ok (ok_iconst (by decide) d_M_offer_79)))) (bn_ok (bn_ok (bl_ok (ok_istore d_M_offer_80 (by decide))) (bl_ok (ok_iload d_M_offer_82))) (bn_ok (bl_ok (ok_ifne d_M_offer_84 (by decide))) (bl_ok (ok_return d_M_offer_87 rfl)))))))) (bn_ok (bn_ok (bn_ok (bn_ok (bn_ok (bl_ok (ok_aload_n rfl d_M_offer_88)) (bn_ok (bl_ok (ok_getf d_M_offer_89 (cl_5 hG) (by decide) w_629)) (bl_ok (ok_iload_n rfl d_M_offer_92)))) (bn_ok (bl_ok (ok_lload_n rfl d_M_offer_93)) (bn_ok (bl_ok (ok_last d_M_offer_94 (kt_1 hG))) (bl_ok (ok_aload_n rfl d_M_offer_95))))) (bn_ok (bn_ok (bl_ok (ok_getf d_M_offer_96 (cl_5 hG) (by decide) w_630)) (bn_ok (bl_ok (ok_iload_n rfl d_M_offer_99)) (bl_ok (ok_iload d_M_offer_100)))) (bn_ok (bl_ok (ok_iast d_M_offer_102 (kt_0 hG))) (bn_ok (bl_ok (ok_aload_n rfl d_M_offer_103)) (bl_ok (ok_getf d_M_offer_104 (cl_5 hG) (by decide) w_631)))))) (bn_ok (bn_ok (bn_ok (bl_ok (ok_iload_n rfl d_M_offer_107)) (bn_ok (bl_ok (ok_iload d_M_offer_108)) (bl_ok (ok_iast d_M_offer_110 (kt_0 hG))))) (bn_ok (bl_ok (ok_aload_n rfl d_M_offer_111)) (bn_ok (bl_ok (ok_getf d_M_offer_112 (cl_5 hG) (by decide) w_632)) (bl_ok (ok_iload_n rfl d_M_offer_115))))) (bn_ok (bn_ok (bl_ok (ok_iald d_M_offer_116 (kt_0 hG))) (bn_ok (bl_ok (ok_ifne d_M_offer_117 (by decide))) (bl_ok (ok_aload_n rfl d_M_offer_120)))) (bn_ok (bn_ok (bl_ok (ok_getf d_M_offer_121 (cl_5 hG) (by decide) w_632)) (bl_ok (ok_iload_n rfl d_M_offer_124))) (bn_ok (bl_ok (ok_iconst (by decide) d_M_offer_125)) (bl_ok (ok_iast d_M_offer_126 (kt_0 hG)))))))) (bn_ok (bn_ok (bn_ok (bn_ok (bl_ok (ok_aload_n rfl d_M_offer_127)) (bn_ok (bl_ok (ok_getf d_M_offer_128 (cl_5 hG) (by decide) w_635)) (bl_ok (ok_aload_n rfl d_M_offer_131)))) (bn_ok (bl_ok (ok_getf d_M_offer_132 (cl_5 hG) (by decide) w_634)) (bn_ok (bl_ok (ok_iload_n rfl d_M_offer_135)) (bl_ok (ok_iast d_M_offer_136 (kt_0 hG)))))) (bn_ok (bn_ok (bl_ok (ok_aload_n rfl d_M_offer_137)) (bn_ok (bl_ok (ok_dup d_M_offer_138)) (bl_ok (ok_getf d_M_offer_139 (cl_5 hG) (by decide) w_634)))) (bn_ok (bn_ok (bl_ok (ok_iconst (by decide) d_M_offer_142)) (bl_ok (ok_iadd d_M_offer_143))) (bn_ok (bl_ok (ok_putf d_M_offer_144 (cl_5 hG) (by decide) w_634 rfl (Or.inl rfl))) (bl_ok (ok_aload_n rfl d_M_offer_147)))))) (bn_ok (bn_ok (bn_ok (bl_ok (ok_aload_n rfl d_M_offer_148)) (bn_ok (bl_ok (ok_getf d_M_offer_149 (cl_5 hG) (by decide) w_634)) (bl_ok (ok_iconst (by decide) d_M_offer_152)))) (bn_ok (bl_ok (ok_isub d_M_offer_153)) (bn_ok (bl_ok (ok_cv mx_W_good (cl_5 hG) d_M_offer_154 (mt_M_rise) mk_M_rise w_771 w_773 ws_M_rise (by decide) (by decide))) (bl_ok (ok_goto d_M_offer_157 (by decide)))))) (bn_ok (bn_ok (bl_ok (ok_aload_n rfl d_M_offer_160)) (bn_ok (bl_ok (ok_aload_n rfl d_M_offer_161)) (bl_ok (ok_getf d_M_offer_162 (cl_5 hG) (by decide) w_633)))) (bn_ok (bn_ok (bl_ok (ok_iload_n rfl d_M_offer_165)) (bl_ok (ok_iald d_M_offer_166 (kt_0 hG)))) (bn_ok (bl_ok (ok_cv mx_W_good (cl_5 hG) d_M_offer_167 (mt_M_rise) mk_M_rise w_771 w_773 ws_M_rise (by decide) (by decide))) (bl_ok (ok_return d_M_offer_170 rfl)))))))))
theorem d_M_spread_0 : decode (qB q_M_spread) 0 = .ok (.iload_n 1, 1) := by decide +kernel
theorem d_M_spread_1 : decode (qB q_M_spread) 1 = .ok (.sipush 612, 3) := by decide +kernel
theorem d_M_spread_4 : decode (qB q_M_spread) 4 = .ok (.idiv, 1) := by decide +kernel
theorem d_M_spread_5 : decode (qB q_M_spread) 5 = .ok (.istore_n 2, 1) := by decide +kernel
theorem d_M_spread_6 : decode (qB q_M_spread) 6 = .ok (.iload_n 1, 1) := by decide +kernel
theorem d_M_spread_7 : decode (qB q_M_spread) 7 = .ok (.bipush 36, 2) := by decide +kernel
theorem d_M_spread_9 : decode (qB q_M_spread) 9 = .ok (.idiv, 1) := by decide +kernel
theorem d_M_spread_10 : decode (qB q_M_spread) 10 = .ok (.bipush 17, 2) := by decide +kernel
theorem d_M_spread_12 : decode (qB q_M_spread) 12 = .ok (.irem, 1) := by decide +kernel
theorem d_M_spread_13 : decode (qB q_M_spread) 13 = .ok (.istore_n 3, 1) := by decide +kernel
theorem d_M_spread_14 : decode (qB q_M_spread) 14 = .ok (.iload_n 1, 1) := by decide +kernel
theorem d_M_spread_15 : decode (qB q_M_spread) 15 = .ok (.bipush 9, 2) := by decide +kernel
theorem d_M_spread_17 : decode (qB q_M_spread) 17 = .ok (.idiv, 1) := by decide +kernel
theorem d_M_spread_18 : decode (qB q_M_spread) 18 = .ok (.iconst 4, 1) := by decide +kernel
theorem d_M_spread_19 : decode (qB q_M_spread) 19 = .ok (.irem, 1) := by decide +kernel
theorem d_M_spread_20 : decode (qB q_M_spread) 20 = .ok (.istore 4, 2) := by decide +kernel
theorem d_M_spread_22 : decode (qB q_M_spread) 22 = .ok (.iload_n 1, 1) := by decide +kernel
theorem d_M_spread_23 : decode (qB q_M_spread) 23 = .ok (.bipush 9, 2) := by decide +kernel
theorem d_M_spread_25 : decode (qB q_M_spread) 25 = .ok (.irem, 1) := by decide +kernel
theorem d_M_spread_26 : decode (qB q_M_spread) 26 = .ok (.iload_n 2, 1) := by decide +kernel
theorem d_M_spread_27 : decode (qB q_M_spread) 27 = .ok (.aload_n 0, 1) := by decide +kernel
theorem d_M_spread_28 : decode (qB q_M_spread) 28 = .ok (.getfield 153, 3) := by decide +kernel
theorem d_M_spread_31 : decode (qB q_M_spread) 31 = .ok (.if_icmp .eq 16, 3) := by decide +kernel
theorem d_M_spread_34 : decode (qB q_M_spread) 34 = .ok (.aload_n 0, 1) := by decide +kernel
theorem d_M_spread_35 : decode (qB q_M_spread) 35 = .ok (.getfield 66, 3) := by decide +kernel
theorem d_M_spread_38 : decode (qB q_M_spread) 38 = .ok (.iload_n 2, 1) := by decide +kernel
theorem d_M_spread_39 : decode (qB q_M_spread) 39 = .ok (.baload, 1) := by decide +kernel
theorem d_M_spread_40 : decode (qB q_M_spread) 40 = .ok (.ifCond .eq 7, 3) := by decide +kernel
theorem d_M_spread_43 : decode (qB q_M_spread) 43 = .ok (.iconst 1, 1) := by decide +kernel
theorem d_M_spread_44 : decode (qB q_M_spread) 44 = .ok (.goto 4, 3) := by decide +kernel
theorem d_M_spread_47 : decode (qB q_M_spread) 47 = .ok (.iconst 0, 1) := by decide +kernel
theorem d_M_spread_48 : decode (qB q_M_spread) 48 = .ok (.iadd, 1) := by decide +kernel
theorem d_M_spread_49 : decode (qB q_M_spread) 49 = .ok (.istore 5, 2) := by decide +kernel
theorem d_M_spread_51 : decode (qB q_M_spread) 51 = .ok (.iload_n 3, 1) := by decide +kernel
theorem d_M_spread_52 : decode (qB q_M_spread) 52 = .ok (.bipush 16, 2) := by decide +kernel
theorem d_M_spread_54 : decode (qB q_M_spread) 54 = .ok (.if_icmp .eq 12, 3) := by decide +kernel
theorem d_M_spread_57 : decode (qB q_M_spread) 57 = .ok (.iload 5, 2) := by decide +kernel
theorem d_M_spread_59 : decode (qB q_M_spread) 59 = .ok (.aload_n 0, 1) := by decide +kernel
theorem d_M_spread_60 : decode (qB q_M_spread) 60 = .ok (.getfield 156, 3) := by decide +kernel
theorem d_M_spread_63 : decode (qB q_M_spread) 63 = .ok (.if_icmp .le 4, 3) := by decide +kernel
theorem d_M_spread_66 : decode (qB q_M_spread) 66 = .ok (.return_, 1) := by decide +kernel
theorem d_M_spread_67 : decode (qB q_M_spread) 67 = .ok (.aload_n 0, 1) := by decide +kernel
theorem d_M_spread_68 : decode (qB q_M_spread) 68 = .ok (.iload_n 2, 1) := by decide +kernel
theorem d_M_spread_69 : decode (qB q_M_spread) 69 = .ok (.iload_n 3, 1) := by decide +kernel
theorem d_M_spread_70 : decode (qB q_M_spread) 70 = .ok (.bipush 8, 2) := by decide +kernel
theorem d_M_spread_72 : decode (qB q_M_spread) 72 = .ok (.iadd, 1) := by decide +kernel
theorem d_M_spread_73 : decode (qB q_M_spread) 73 = .ok (.bipush 16, 2) := by decide +kernel
theorem d_M_spread_75 : decode (qB q_M_spread) 75 = .ok (.irem, 1) := by decide +kernel
theorem d_M_spread_76 : decode (qB q_M_spread) 76 = .ok (.invokevirtual 159, 3) := by decide +kernel
theorem d_M_spread_79 : decode (qB q_M_spread) 79 = .ok (.istore 6, 2) := by decide +kernel
theorem d_M_spread_81 : decode (qB q_M_spread) 81 = .ok (.iload 6, 2) := by decide +kernel
theorem d_M_spread_83 : decode (qB q_M_spread) 83 = .ok (.iconst (-1), 1) := by decide +kernel
theorem d_M_spread_84 : decode (qB q_M_spread) 84 = .ok (.if_icmp .eq 22, 3) := by decide +kernel
theorem d_M_spread_87 : decode (qB q_M_spread) 87 = .ok (.aload_n 0, 1) := by decide +kernel
theorem d_M_spread_88 : decode (qB q_M_spread) 88 = .ok (.iload 6, 2) := by decide +kernel
theorem d_M_spread_90 : decode (qB q_M_spread) 90 = .ok (.invokevirtual 162, 3) := by decide +kernel
theorem d_M_spread_93 : decode (qB q_M_spread) 93 = .ok (.ifCond .ne 13, 3) := by decide +kernel
theorem d_M_spread_96 : decode (qB q_M_spread) 96 = .ok (.aload_n 0, 1) := by decide +kernel
theorem d_M_spread_97 : decode (qB q_M_spread) 97 = .ok (.iload 6, 2) := by decide +kernel
theorem d_M_spread_99 : decode (qB q_M_spread) 99 = .ok (.iload_n 2, 1) := by decide +kernel
theorem d_M_spread_100 : decode (qB q_M_spread) 100 = .ok (.invokevirtual 165, 3) := by decide +kernel
theorem d_M_spread_103 : decode (qB q_M_spread) 103 = .ok (.ifCond .ne 4, 3) := by decide +kernel
theorem d_M_spread_106 : decode (qB q_M_spread) 106 = .ok (.return_, 1) := by decide +kernel
theorem d_M_spread_107 : decode (qB q_M_spread) 107 = .ok (.aload_n 0, 1) := by decide +kernel
theorem d_M_spread_108 : decode (qB q_M_spread) 108 = .ok (.getfield 70, 3) := by decide +kernel
theorem d_M_spread_111 : decode (qB q_M_spread) 111 = .ok (.iload_n 1, 1) := by decide +kernel
theorem d_M_spread_112 : decode (qB q_M_spread) 112 = .ok (.laload, 1) := by decide +kernel
theorem d_M_spread_113 : decode (qB q_M_spread) 113 = .ok (.iload_n 3, 1) := by decide +kernel
theorem d_M_spread_114 : decode (qB q_M_spread) 114 = .ok (.invokestatic 168, 3) := by decide +kernel
theorem d_M_spread_117 : decode (qB q_M_spread) 117 = .ok (.i2l, 1) := by decide +kernel
theorem d_M_spread_118 : decode (qB q_M_spread) 118 = .ok (.aload_n 0, 1) := by decide +kernel
theorem d_M_spread_119 : decode (qB q_M_spread) 119 = .ok (.iload_n 2, 1) := by decide +kernel
theorem d_M_spread_120 : decode (qB q_M_spread) 120 = .ok (.iconst (-1), 1) := by decide +kernel
theorem d_M_spread_121 : decode (qB q_M_spread) 121 = .ok (.invokevirtual 171, 3) := by decide +kernel
theorem d_M_spread_124 : decode (qB q_M_spread) 124 = .ok (.lmul, 1) := by decide +kernel
theorem d_M_spread_125 : decode (qB q_M_spread) 125 = .ok (.ladd, 1) := by decide +kernel
theorem d_M_spread_126 : decode (qB q_M_spread) 126 = .ok (.lstore 7, 2) := by decide +kernel
theorem d_M_spread_128 : decode (qB q_M_spread) 128 = .ok (.aload_n 0, 1) := by decide +kernel
theorem d_M_spread_129 : decode (qB q_M_spread) 129 = .ok (.iload 6, 2) := by decide +kernel
theorem d_M_spread_131 : decode (qB q_M_spread) 131 = .ok (.invokevirtual 121, 3) := by decide +kernel
theorem d_M_spread_134 : decode (qB q_M_spread) 134 = .ok (.ifCond .eq 7, 3) := by decide +kernel
theorem d_M_spread_137 : decode (qB q_M_spread) 137 = .ok (.iconst 1, 1) := by decide +kernel
theorem d_M_spread_138 : decode (qB q_M_spread) 138 = .ok (.goto 4, 3) := by decide +kernel
theorem d_M_spread_141 : decode (qB q_M_spread) 141 = .ok (.iconst 0, 1) := by decide +kernel
theorem d_M_spread_142 : decode (qB q_M_spread) 142 = .ok (.istore 9, 2) := by decide +kernel
theorem d_M_spread_144 : decode (qB q_M_spread) 144 = .ok (.aload_n 0, 1) := by decide +kernel
theorem d_M_spread_145 : decode (qB q_M_spread) 145 = .ok (.iload 6, 2) := by decide +kernel
theorem d_M_spread_147 : decode (qB q_M_spread) 147 = .ok (.invokevirtual 121, 3) := by decide +kernel
theorem d_M_spread_150 : decode (qB q_M_spread) 150 = .ok (.ifCond .eq 13, 3) := by decide +kernel
theorem d_M_spread_153 : decode (qB q_M_spread) 153 = .ok (.aload_n 0, 1) := by decide +kernel
theorem d_M_spread_154 : decode (qB q_M_spread) 154 = .ok (.getfield 20, 3) := by decide +kernel
theorem d_M_spread_157 : decode (qB q_M_spread) 157 = .ok (.iload 6, 2) := by decide +kernel
theorem d_M_spread_159 : decode (qB q_M_spread) 159 = .ok (.iaload, 1) := by decide +kernel
theorem d_M_spread_160 : decode (qB q_M_spread) 160 = .ok (.goto 4, 3) := by decide +kernel
theorem d_M_spread_163 : decode (qB q_M_spread) 163 = .ok (.iconst 0, 1) := by decide +kernel
theorem d_M_spread_164 : decode (qB q_M_spread) 164 = .ok (.istore 10, 2) := by decide +kernel
theorem d_M_spread_166 : decode (qB q_M_spread) 166 = .ok (.iload 9, 2) := by decide +kernel
theorem d_M_spread_168 : decode (qB q_M_spread) 168 = .ok (.istore 11, 2) := by decide +kernel
theorem d_M_spread_170 : decode (qB q_M_spread) 170 = .ok (.iload 11, 2) := by decide +kernel
theorem d_M_spread_172 : decode (qB q_M_spread) 172 = .ok (.iload 10, 2) := by decide +kernel
theorem d_M_spread_174 : decode (qB q_M_spread) 174 = .ok (.if_icmp .gt 150, 3) := by decide +kernel
theorem d_M_spread_177 : decode (qB q_M_spread) 177 = .ok (.aload_n 0, 1) := by decide +kernel
theorem d_M_spread_178 : decode (qB q_M_spread) 178 = .ok (.iload_n 2, 1) := by decide +kernel
theorem d_M_spread_179 : decode (qB q_M_spread) 179 = .ok (.invokevirtual 121, 3) := by decide +kernel
theorem d_M_spread_182 : decode (qB q_M_spread) 182 = .ok (.ifCond .eq 15, 3) := by decide +kernel
theorem d_M_spread_185 : decode (qB q_M_spread) 185 = .ok (.iload 11, 2) := by decide +kernel
theorem d_M_spread_187 : decode (qB q_M_spread) 187 = .ok (.iconst 1, 1) := by decide +kernel
theorem d_M_spread_188 : decode (qB q_M_spread) 188 = .ok (.iadd, 1) := by decide +kernel
theorem d_M_spread_189 : decode (qB q_M_spread) 189 = .ok (.iload 4, 2) := by decide +kernel
theorem d_M_spread_191 : decode (qB q_M_spread) 191 = .ok (.if_icmp .eq 6, 3) := by decide +kernel
theorem d_M_spread_194 : decode (qB q_M_spread) 194 = .ok (.goto 124, 3) := by decide +kernel
theorem d_M_spread_197 : decode (qB q_M_spread) 197 = .ok (.iconst 0, 1) := by decide +kernel
theorem d_M_spread_198 : decode (qB q_M_spread) 198 = .ok (.istore 12, 2) := by decide +kernel
theorem d_M_spread_200 : decode (qB q_M_spread) 200 = .ok (.iload 12, 2) := by decide +kernel
theorem d_M_spread_202 : decode (qB q_M_spread) 202 = .ok (.bipush 16, 2) := by decide +kernel
theorem d_M_spread_204 : decode (qB q_M_spread) 204 = .ok (.if_icmp .ge 74, 3) := by decide +kernel
theorem d_M_spread_207 : decode (qB q_M_spread) 207 = .ok (.aload_n 0, 1) := by decide +kernel
theorem d_M_spread_208 : decode (qB q_M_spread) 208 = .ok (.iload 12, 2) := by decide +kernel
theorem d_M_spread_210 : decode (qB q_M_spread) 210 = .ok (.invokevirtual 175, 3) := by decide +kernel
theorem d_M_spread_213 : decode (qB q_M_spread) 213 = .ok (.ifCond .eq 59, 3) := by decide +kernel
theorem d_M_spread_216 : decode (qB q_M_spread) 216 = .ok (.aload_n 0, 1) := by decide +kernel
theorem d_M_spread_217 : decode (qB q_M_spread) 217 = .ok (.iload 12, 2) := by decide +kernel
theorem d_M_spread_219 : decode (qB q_M_spread) 219 = .ok (.iload_n 3, 1) := by decide +kernel
theorem d_M_spread_220 : decode (qB q_M_spread) 220 = .ok (.iload 6, 2) := by decide +kernel
theorem d_M_spread_222 : decode (qB q_M_spread) 222 = .ok (.iload_n 2, 1) := by decide +kernel
theorem d_M_spread_223 : decode (qB q_M_spread) 223 = .ok (.invokevirtual 178, 3) := by decide +kernel
theorem d_M_spread_226 : decode (qB q_M_spread) 226 = .ok (.ifCond .eq 46, 3) := by decide +kernel
theorem d_M_spread_229 : decode (qB q_M_spread) 229 = .ok (.aload_n 0, 1) := by decide +kernel
theorem d_M_spread_230 : decode (qB q_M_spread) 230 = .ok (.iload 6, 2) := by decide +kernel
theorem d_M_spread_232 : decode (qB q_M_spread) 232 = .ok (.iload 12, 2) := by decide +kernel
theorem d_M_spread_234 : decode (qB q_M_spread) 234 = .ok (.iload 11, 2) := by decide +kernel
theorem d_M_spread_236 : decode (qB q_M_spread) 236 = .ok (.iload 5, 2) := by decide +kernel
theorem d_M_spread_238 : decode (qB q_M_spread) 238 = .ok (.invokestatic 182, 3) := by decide +kernel
theorem d_M_spread_241 : decode (qB q_M_spread) 241 = .ok (.lload 7, 2) := by decide +kernel
theorem d_M_spread_243 : decode (qB q_M_spread) 243 = .ok (.aload_n 0, 1) := by decide +kernel
theorem d_M_spread_244 : decode (qB q_M_spread) 244 = .ok (.getfield 74, 3) := by decide +kernel
theorem d_M_spread_247 : decode (qB q_M_spread) 247 = .ok (.iload_n 1, 1) := by decide +kernel
theorem d_M_spread_248 : decode (qB q_M_spread) 248 = .ok (.iaload, 1) := by decide +kernel
theorem d_M_spread_249 : decode (qB q_M_spread) 249 = .ok (.iload 12, 2) := by decide +kernel
theorem d_M_spread_251 : decode (qB q_M_spread) 251 = .ok (.iload_n 3, 1) := by decide +kernel
theorem d_M_spread_252 : decode (qB q_M_spread) 252 = .ok (.if_icmp .eq 7, 3) := by decide +kernel
theorem d_M_spread_255 : decode (qB q_M_spread) 255 = .ok (.iconst 1, 1) := by decide +kernel
theorem d_M_spread_256 : decode (qB q_M_spread) 256 = .ok (.goto 4, 3) := by decide +kernel
theorem d_M_spread_259 : decode (qB q_M_spread) 259 = .ok (.iconst 0, 1) := by decide +kernel
theorem d_M_spread_260 : decode (qB q_M_spread) 260 = .ok (.iadd, 1) := by decide +kernel
theorem d_M_spread_261 : decode (qB q_M_spread) 261 = .ok (.aload_n 0, 1) := by decide +kernel
theorem d_M_spread_262 : decode (qB q_M_spread) 262 = .ok (.getfield 77, 3) := by decide +kernel
theorem d_M_spread_265 : decode (qB q_M_spread) 265 = .ok (.iload_n 1, 1) := by decide +kernel
theorem d_M_spread_266 : decode (qB q_M_spread) 266 = .ok (.iaload, 1) := by decide +kernel
theorem d_M_spread_267 : decode (qB q_M_spread) 267 = .ok (.iconst 1, 1) := by decide +kernel
theorem d_M_spread_268 : decode (qB q_M_spread) 268 = .ok (.iadd, 1) := by decide +kernel
theorem d_M_spread_269 : decode (qB q_M_spread) 269 = .ok (.invokevirtual 186, 3) := by decide +kernel
theorem d_M_spread_272 : decode (qB q_M_spread) 272 = .ok (.iinc 12 1, 3) := by decide +kernel
theorem d_M_spread_275 : decode (qB q_M_spread) 275 = .ok (.goto (-75), 3) := by decide +kernel
theorem d_M_spread_278 : decode (qB q_M_spread) 278 = .ok (.iload 6, 2) := by decide +kernel
theorem d_M_spread_280 : decode (qB q_M_spread) 280 = .ok (.aload_n 0, 1) := by decide +kernel
theorem d_M_spread_281 : decode (qB q_M_spread) 281 = .ok (.getfield 190, 3) := by decide +kernel
theorem d_M_spread_284 : decode (qB q_M_spread) 284 = .ok (.if_icmp .ne 34, 3) := by decide +kernel
theorem d_M_spread_287 : decode (qB q_M_spread) 287 = .ok (.aload_n 0, 1) := by decide +kernel
theorem d_M_spread_288 : decode (qB q_M_spread) 288 = .ok (.iload 6, 2) := by decide +kernel
theorem d_M_spread_290 : decode (qB q_M_spread) 290 = .ok (.bipush 16, 2) := by decide +kernel
theorem d_M_spread_292 : decode (qB q_M_spread) 292 = .ok (.iload 11, 2) := by decide +kernel
theorem d_M_spread_294 : decode (qB q_M_spread) 294 = .ok (.iload 5, 2) := by decide +kernel
theorem d_M_spread_296 : decode (qB q_M_spread) 296 = .ok (.invokestatic 182, 3) := by decide +kernel
theorem d_M_spread_299 : decode (qB q_M_spread) 299 = .ok (.lload 7, 2) := by decide +kernel
theorem d_M_spread_301 : decode (qB q_M_spread) 301 = .ok (.aload_n 0, 1) := by decide +kernel
theorem d_M_spread_302 : decode (qB q_M_spread) 302 = .ok (.getfield 74, 3) := by decide +kernel
theorem d_M_spread_305 : decode (qB q_M_spread) 305 = .ok (.iload_n 1, 1) := by decide +kernel
theorem d_M_spread_306 : decode (qB q_M_spread) 306 = .ok (.iaload, 1) := by decide +kernel
theorem d_M_spread_307 : decode (qB q_M_spread) 307 = .ok (.aload_n 0, 1) := by decide +kernel
theorem d_M_spread_308 : decode (qB q_M_spread) 308 = .ok (.getfield 77, 3) := by decide +kernel
theorem d_M_spread_311 : decode (qB q_M_spread) 311 = .ok (.iload_n 1, 1) := by decide +kernel
theorem d_M_spread_312 : decode (qB q_M_spread) 312 = .ok (.iaload, 1) := by decide +kernel
theorem d_M_spread_313 : decode (qB q_M_spread) 313 = .ok (.iconst 1, 1) := by decide +kernel
theorem d_M_spread_314 : decode (qB q_M_spread) 314 = .ok (.iadd, 1) := by decide +kernel
theorem d_M_spread_315 : decode (qB q_M_spread) 315 = .ok (.invokevirtual 186, 3) := by decide +kernel
theorem d_M_spread_318 : decode (qB q_M_spread) 318 = .ok (.iinc 11 1, 3) := by decide +kernel
theorem d_M_spread_321 : decode (qB q_M_spread) 321 = .ok (.goto (-151), 3) := by decide +kernel
theorem d_M_spread_324 : decode (qB q_M_spread) 324 = .ok (.return_, 1) := by decide +kernel
set_option maxRecDepth 10000 in
theorem k_M_spread {G : mxG} (hG : mx_GG G) : ∀ pc r, t_M_spread pc = some r → mx_Ok G mx_W mx_MT q_M_spread pc r := (bn_ok (bn_ok (bn_ok (bn_ok (bn_ok (bn_ok (bn_ok (bl_ok (ok_iload_n rfl d_M_spread_0)) (bl_ok (ok_sipush (by decide) d_M_spread_1))) (bn_ok (bl_ok (ok_idiv d_M_spread_4)) (bn_ok (bl_ok (ok_istore_n rfl d_M_spread_5 (by decide))) (bl_ok (ok_iload_n rfl d_M_spread_6))))) (bn_ok (bn_ok (bl_ok (ok_bipush (by decide) d_M_spread_7)) (bn_ok (bl_ok (ok_idiv d_M_spread_9)) (bl_ok (ok_bipush (by decide) d_M_spread_10)))) (bn_ok (bl_ok (ok_irem d_M_spread_12)) (bn_ok (bl_ok (ok_istore_n rfl d_M_spread_13 (by decide))) (bl_ok (ok_iload_n rfl d_M_spread_14)))))) (bn_ok (bn_ok (bn_ok (bl_ok (ok_bipush (by decide) d_M_spread_15)) (bl_ok (ok_idiv d_M_spread_17))) (bn_ok (bl_ok (ok_iconst (by decide) d_M_spread_18)) (bn_ok (bl_ok (ok_irem d_M_spread_19)) (bl_ok (ok_istore d_M_spread_20 (by decide)))))) (bn_ok (bn_ok (bl_ok (ok_iload_n rfl d_M_spread_22)) (bn_ok (bl_ok (ok_bipush (by decide) d_M_spread_23)) (bl_ok (ok_irem d_M_spread_25)))) (bn_ok (bl_ok (ok_iload_n rfl d_M_spread_26)) (bn_ok (bl_ok (ok_aload_n rfl d_M_spread_27)) (bl_ok (ok_getf d_M_spread_28 (cl_5 hG) (by decide) w_626))))))) (bn_ok (bn_ok (bn_ok (bn_ok (bl_ok (ok_iceq d_M_spread_31 (by decide))) (bl_ok (ok_aload_n rfl d_M_spread_34))) (bn_ok (bl_ok (ok_getf d_M_spread_35 (cl_5 hG) (by decide) w_628)) (bn_ok (bl_ok (ok_iload_n rfl d_M_spread_38)) (bl_ok (ok_zald d_M_spread_39 (kt_2 hG)))))) (bn_ok (bn_ok (bl_ok (ok_ifeq d_M_spread_40 (by decide))) (bn_ok (bl_ok (ok_iconst (by decide) d_M_spread_43)) (bl_ok (ok_goto d_M_spread_44 (by decide))))) (bn_ok (bl_ok (ok_iconst (by decide) d_M_spread_47)) (bn_ok (bl_ok (ok_iadd d_M_spread_48)) (bl_ok (ok_istore d_M_spread_49 (by decide))))))) (bn_ok (bn_ok (bn_ok (bl_ok (ok_iload_n rfl d_M_spread_51)) (bl_ok (ok_bipush (by decide) d_M_spread_52))) (bn_ok (bl_ok (ok_iceq d_M_spread_54 (by decide))) (bn_ok (bl_ok (ok_iload d_M_spread_57)) (bl_ok (ok_aload_n rfl d_M_spread_59))))) (bn_ok (bn_ok (bl_ok (ok_getf d_M_spread_60 (cl_5 hG) (by decide) w_627)) (bn_ok (bl_ok (ok_icle d_M_spread_63 (by decide))) (bl_ok (ok_return d_M_spread_66 rfl)))) (bn_ok (bl_ok (ok_aload_n rfl d_M_spread_67)) (bn_ok (bl_ok (ok_iload_n rfl d_M_spread_68)) (bl_ok (ok_iload_n rfl d_M_spread_69)))))))) (bn_ok (bn_ok (bn_ok (bn_ok (bn_ok (bl_ok (ok_bipush (by decide) d_M_spread_70)) (bl_ok (ok_iadd d_M_spread_72))) (bn_ok (bl_ok (ok_bipush (by decide) d_M_spread_73)) (bn_ok (bl_ok (ok_irem d_M_spread_75)) (bl_ok (ok_cv mx_W_good (cl_5 hG) d_M_spread_76 (mt_M_onward) mk_M_onward w_791 w_793 ws_M_onward (by decide) (by decide)))))) (bn_ok (bn_ok (bl_ok (ok_istore d_M_spread_79 (by decide))) (bn_ok (bl_ok (ok_iload d_M_spread_81)) (bl_ok (ok_iconst (by decide) d_M_spread_83)))) (bn_ok (bl_ok (ok_iceq d_M_spread_84 (by decide))) (bn_ok (bl_ok (ok_aload_n rfl d_M_spread_87)) (bl_ok (ok_iload d_M_spread_88)))))) (bn_ok (bn_ok (bn_ok (bl_ok (ok_cv mx_W_good (cl_5 hG) d_M_spread_90 (mt_M_isShut) mk_M_isShut w_801 w_803 ws_M_isShut (by decide) (by decide))) (bl_ok (ok_ifne d_M_spread_93 (by decide)))) (bn_ok (bl_ok (ok_aload_n rfl d_M_spread_96)) (bn_ok (bl_ok (ok_iload d_M_spread_97)) (bl_ok (ok_iload_n rfl d_M_spread_99))))) (bn_ok (bn_ok (bl_ok (ok_cv mx_W_good (cl_5 hG) d_M_spread_100 (mt_M_isFlat) mk_M_isFlat w_805 w_807 ws_M_isFlat (by decide) (by decide))) (bn_ok (bl_ok (ok_ifne d_M_spread_103 (by decide))) (bl_ok (ok_return d_M_spread_106 rfl)))) (bn_ok (bl_ok (ok_aload_n rfl d_M_spread_107)) (bn_ok (bl_ok (ok_getf d_M_spread_108 (cl_5 hG) (by decide) w_629)) (bl_ok (ok_iload_n rfl d_M_spread_111))))))) (bn_ok (bn_ok (bn_ok (bn_ok (bl_ok (ok_lald d_M_spread_112 (kt_1 hG))) (bl_ok (ok_iload_n rfl d_M_spread_113))) (bn_ok (bl_ok (ok_cs mx_W_good d_M_spread_114 (mt_M_lengthOf) mk_M_lengthOf w_809 w_810 (by decide) (by decide))) (bn_ok (bl_ok (ok_i2l d_M_spread_117)) (bl_ok (ok_aload_n rfl d_M_spread_118))))) (bn_ok (bn_ok (bl_ok (ok_iload_n rfl d_M_spread_119)) (bn_ok (bl_ok (ok_iconst (by decide) d_M_spread_120)) (bl_ok (ok_cv mx_W_good (cl_5 hG) d_M_spread_121 (mt_M_costOf) mk_M_costOf w_812 w_814 ws_M_costOf (by decide) (by decide))))) (bn_ok (bl_ok (ok_lmul d_M_spread_124)) (bn_ok (bl_ok (ok_ladd d_M_spread_125)) (bl_ok (ok_lstore d_M_spread_126 (by decide))))))) (bn_ok (bn_ok (bn_ok (bl_ok (ok_aload_n rfl d_M_spread_128)) (bn_ok (bl_ok (ok_iload d_M_spread_129)) (bl_ok (ok_cv mx_W_good (cl_5 hG) d_M_spread_131 (mt_M_isBridged) mk_M_isBridged w_816 w_818 ws_M_isBridged (by decide) (by decide))))) (bn_ok (bl_ok (ok_ifeq d_M_spread_134 (by decide))) (bn_ok (bl_ok (ok_iconst (by decide) d_M_spread_137)) (bl_ok (ok_goto d_M_spread_138 (by decide)))))) (bn_ok (bn_ok (bl_ok (ok_iconst (by decide) d_M_spread_141)) (bn_ok (bl_ok (ok_istore d_M_spread_142 (by decide))) (bl_ok (ok_aload_n rfl d_M_spread_144)))) (bn_ok (bl_ok (ok_iload d_M_spread_145)) (bn_ok (bl_ok (ok_cv mx_W_good (cl_5 hG) d_M_spread_147 (mt_M_isBridged) mk_M_isBridged w_816 w_818 ws_M_isBridged (by decide) (by decide))) (bl_ok (ok_ifeq d_M_spread_150 (by decide)))))))))) (bn_ok (bn_ok (bn_ok (bn_ok (bn_ok (bn_ok (bl_ok (ok_aload_n rfl d_M_spread_153)) (bl_ok (ok_getf d_M_spread_154 (cl_5 hG) (by decide) w_608))) (bn_ok (bl_ok (ok_iload d_M_spread_157)) (bn_ok (bl_ok (ok_iald d_M_spread_159 (kt_0 hG))) (bl_ok (ok_goto d_M_spread_160 (by decide)))))) (bn_ok (bn_ok (bl_ok (ok_iconst (by decide) d_M_spread_163)) (bn_ok (bl_ok (ok_istore d_M_spread_164 (by decide))) (bl_ok (ok_iload d_M_spread_166)))) (bn_ok (bl_ok (ok_istore d_M_spread_168 (by decide))) (bn_ok (bl_ok (ok_iload d_M_spread_170)) (bl_ok (ok_iload d_M_spread_172)))))) (bn_ok (bn_ok (bn_ok (bl_ok (ok_icgt d_M_spread_174 (by decide))) (bl_ok (ok_aload_n rfl d_M_spread_177))) (bn_ok (bl_ok (ok_iload_n rfl d_M_spread_178)) (bn_ok (bl_ok (ok_cv mx_W_good (cl_5 hG) d_M_spread_179 (mt_M_isBridged) mk_M_isBridged w_816 w_818 ws_M_isBridged (by decide) (by decide))) (bl_ok (ok_ifeq d_M_spread_182 (by decide)))))) (bn_ok (bn_ok (bl_ok (ok_iload d_M_spread_185)) (bn_ok (bl_ok (ok_iconst (by decide) d_M_spread_187)) (bl_ok (ok_iadd d_M_spread_188)))) (bn_ok (bl_ok (ok_iload d_M_spread_189)) (bn_ok (bl_ok (ok_iceq d_M_spread_191 (by decide))) (bl_ok (ok_goto d_M_spread_194 (by decide)))))))) (bn_ok (bn_ok (bn_ok (bn_ok (bl_ok (ok_iconst (by decide) d_M_spread_197)) (bl_ok (ok_istore d_M_spread_198 (by decide)))) (bn_ok (bl_ok (ok_iload d_M_spread_200)) (bn_ok (bl_ok (ok_bipush (by decide) d_M_spread_202)) (bl_ok (ok_icge d_M_spread_204 (by decide)))))) (bn_ok (bn_ok (bl_ok (ok_aload_n rfl d_M_spread_207)) (bn_ok (bl_ok (ok_iload d_M_spread_208)) (bl_ok (ok_cv mx_W_good (cl_5 hG) d_M_spread_210 (mt_M_isHeading) mk_M_isHeading w_760 w_762 ws_M_isHeading (by decide) (by decide))))) (bn_ok (bl_ok (ok_ifeq d_M_spread_213 (by decide))) (bn_ok (bl_ok (ok_aload_n rfl d_M_spread_216)) (bl_ok (ok_iload d_M_spread_217)))))) (bn_ok (bn_ok (bn_ok (bl_ok (ok_iload_n rfl d_M_spread_219)) (bn_ok (bl_ok (ok_iload d_M_spread_220)) (bl_ok (ok_iload_n rfl d_M_spread_222)))) (bn_ok (bl_ok (ok_cv mx_W_good (cl_5 hG) d_M_spread_223 (mt_M_follows) mk_M_follows w_824 w_826 ws_M_follows (by decide) (by decide))) (bn_ok (bl_ok (ok_ifeq d_M_spread_226 (by decide))) (bl_ok (ok_aload_n rfl d_M_spread_229))))) (bn_ok (bn_ok (bl_ok (ok_iload d_M_spread_230)) (bn_ok (bl_ok (ok_iload d_M_spread_232)) (bl_ok (ok_iload d_M_spread_234)))) (bn_ok (bl_ok (ok_iload d_M_spread_236)) (bn_ok (bl_ok (ok_cs mx_W_good d_M_spread_238 (mt_M_labelOf) mk_M_labelOf w_764 w_765 (by decide) (by decide))) (bl_ok (ok_lload d_M_spread_241)))))))) (bn_ok (bn_ok (bn_ok (bn_ok (bn_ok (bl_ok (ok_aload_n rfl d_M_spread_243)) (bl_ok (ok_getf d_M_spread_244 (cl_5 hG) (by decide) w_630))) (bn_ok (bl_ok (ok_iload_n rfl d_M_spread_247)) (bn_ok (bl_ok (ok_iald d_M_spread_248 (kt_0 hG))) (bl_ok (ok_iload d_M_spread_249))))) (bn_ok (bn_ok (bl_ok (ok_iload_n rfl d_M_spread_251)) (bn_ok (bl_ok (ok_iceq d_M_spread_252 (by decide))) (bl_ok (ok_iconst (by decide) d_M_spread_255)))) (bn_ok (bl_ok (ok_goto d_M_spread_256 (by decide))) (bn_ok (bl_ok (ok_iconst (by decide) d_M_spread_259)) (bl_ok (ok_iadd d_M_spread_260)))))) (bn_ok (bn_ok (bn_ok (bl_ok (ok_aload_n rfl d_M_spread_261)) (bl_ok (ok_getf d_M_spread_262 (cl_5 hG) (by decide) w_631))) (bn_ok (bl_ok (ok_iload_n rfl d_M_spread_265)) (bn_ok (bl_ok (ok_iald d_M_spread_266 (kt_0 hG))) (bl_ok (ok_iconst (by decide) d_M_spread_267))))) (bn_ok (bn_ok (bl_ok (ok_iadd d_M_spread_268)) (bn_ok (bl_ok (ok_cv mx_W_good (cl_5 hG) d_M_spread_269 (mt_M_offer) mk_M_offer w_767 w_769 ws_M_offer (by decide) (by decide))) (bl_ok (ok_iinc d_M_spread_272 (by decide) (by decide))))) (bn_ok (bl_ok (ok_goto d_M_spread_275 (by decide))) (bn_ok (bl_ok (ok_iload d_M_spread_278)) (bl_ok (ok_aload_n rfl d_M_spread_280))))))) (bn_ok (bn_ok (bn_ok (bn_ok (bl_ok (ok_getf d_M_spread_281 (cl_5 hG) (by decide) w_625)) (bl_ok (ok_icne d_M_spread_284 (by decide)))) (bn_ok (bl_ok (ok_aload_n rfl d_M_spread_287)) (bn_ok (bl_ok (ok_iload d_M_spread_288)) (bl_ok (ok_bipush (by decide) d_M_spread_290))))) (bn_ok (bn_ok (bl_ok (ok_iload d_M_spread_292)) (bn_ok (bl_ok (ok_iload d_M_spread_294)) (bl_ok (ok_cs mx_W_good d_M_spread_296 (mt_M_labelOf) mk_M_labelOf w_764 w_765 (by decide) (by decide))))) (bn_ok (bl_ok (ok_lload d_M_spread_299)) (bn_ok (bl_ok (ok_aload_n rfl d_M_spread_301)) (bl_ok (ok_getf d_M_spread_302 (cl_5 hG) (by decide) w_630)))))) (bn_ok (bn_ok (bn_ok (bl_ok (ok_iload_n rfl d_M_spread_305)) (bn_ok (bl_ok (ok_iald d_M_spread_306 (kt_0 hG))) (bl_ok (ok_aload_n rfl d_M_spread_307)))) (bn_ok (bl_ok (ok_getf d_M_spread_308 (cl_5 hG) (by decide) w_631)) (bn_ok (bl_ok (ok_iload_n rfl d_M_spread_311)) (bl_ok (ok_iald d_M_spread_312 (kt_0 hG)))))) (bn_ok (bn_ok (bl_ok (ok_iconst (by decide) d_M_spread_313)) (bn_ok (bl_ok (ok_iadd d_M_spread_314)) (bl_ok (ok_cv mx_W_good (cl_5 hG) d_M_spread_315 (mt_M_offer) mk_M_offer w_767 w_769 ws_M_offer (by decide) (by decide))))) (bn_ok (bl_ok (ok_iinc d_M_spread_318 (by decide) (by decide))) (bn_ok (bl_ok (ok_goto d_M_spread_321 (by decide))) (bl_ok (ok_return d_M_spread_324 rfl))))))))))
theorem d_M_search_0 : decode (qB q_M_search) 0 = .ok (.iconst 0, 1) := by decide +kernel
theorem d_M_search_1 : decode (qB q_M_search) 1 = .ok (.istore_n 1, 1) := by decide +kernel
theorem d_M_search_2 : decode (qB q_M_search) 2 = .ok (.iload_n 1, 1) := by decide +kernel
theorem d_M_search_3 : decode (qB q_M_search) 3 = .ok (.ldc 69, 2) := by decide +kernel
theorem d_M_search_5 : decode (qB q_M_search) 5 = .ok (.if_icmp .ge 16, 3) := by decide +kernel
theorem d_M_search_8 : decode (qB q_M_search) 8 = .ok (.aload_n 0, 1) := by decide +kernel
theorem d_M_search_9 : decode (qB q_M_search) 9 = .ok (.getfield 80, 3) := by decide +kernel
theorem d_M_search_12 : decode (qB q_M_search) 12 = .ok (.iload_n 1, 1) := by decide +kernel
theorem d_M_search_13 : decode (qB q_M_search) 13 = .ok (.iconst 0, 1) := by decide +kernel
theorem d_M_search_14 : decode (qB q_M_search) 14 = .ok (.iastore, 1) := by decide +kernel
theorem d_M_search_15 : decode (qB q_M_search) 15 = .ok (.iinc 1 1, 3) := by decide +kernel
theorem d_M_search_18 : decode (qB q_M_search) 18 = .ok (.goto (-16), 3) := by decide +kernel
theorem d_M_search_21 : decode (qB q_M_search) 21 = .ok (.aload_n 0, 1) := by decide +kernel
theorem d_M_search_22 : decode (qB q_M_search) 22 = .ok (.iconst 0, 1) := by decide +kernel
theorem d_M_search_23 : decode (qB q_M_search) 23 = .ok (.putfield 146, 3) := by decide +kernel
theorem d_M_search_26 : decode (qB q_M_search) 26 = .ok (.aload_n 0, 1) := by decide +kernel
theorem d_M_search_27 : decode (qB q_M_search) 27 = .ok (.ldc2_w 60, 3) := by decide +kernel
theorem d_M_search_30 : decode (qB q_M_search) 30 = .ok (.putfield 62, 3) := by decide +kernel
theorem d_M_search_33 : decode (qB q_M_search) 33 = .ok (.aload_n 0, 1) := by decide +kernel
theorem d_M_search_34 : decode (qB q_M_search) 34 = .ok (.iconst 0, 1) := by decide +kernel
theorem d_M_search_35 : decode (qB q_M_search) 35 = .ok (.putfield 193, 3) := by decide +kernel
theorem d_M_search_38 : decode (qB q_M_search) 38 = .ok (.iconst 0, 1) := by decide +kernel
theorem d_M_search_39 : decode (qB q_M_search) 39 = .ok (.istore_n 1, 1) := by decide +kernel
theorem d_M_search_40 : decode (qB q_M_search) 40 = .ok (.iload_n 1, 1) := by decide +kernel
theorem d_M_search_41 : decode (qB q_M_search) 41 = .ok (.bipush 16, 2) := by decide +kernel
theorem d_M_search_43 : decode (qB q_M_search) 43 = .ok (.if_icmp .ge 34, 3) := by decide +kernel
theorem d_M_search_46 : decode (qB q_M_search) 46 = .ok (.aload_n 0, 1) := by decide +kernel
theorem d_M_search_47 : decode (qB q_M_search) 47 = .ok (.iload_n 1, 1) := by decide +kernel
theorem d_M_search_48 : decode (qB q_M_search) 48 = .ok (.invokevirtual 175, 3) := by decide +kernel
theorem d_M_search_51 : decode (qB q_M_search) 51 = .ok (.ifCond .eq 20, 3) := by decide +kernel
theorem d_M_search_54 : decode (qB q_M_search) 54 = .ok (.aload_n 0, 1) := by decide +kernel
theorem d_M_search_55 : decode (qB q_M_search) 55 = .ok (.aload_n 0, 1) := by decide +kernel
theorem d_M_search_56 : decode (qB q_M_search) 56 = .ok (.getfield 153, 3) := by decide +kernel
theorem d_M_search_59 : decode (qB q_M_search) 59 = .ok (.iload_n 1, 1) := by decide +kernel
theorem d_M_search_60 : decode (qB q_M_search) 60 = .ok (.iconst 0, 1) := by decide +kernel
theorem d_M_search_61 : decode (qB q_M_search) 61 = .ok (.iconst 0, 1) := by decide +kernel
theorem d_M_search_62 : decode (qB q_M_search) 62 = .ok (.invokestatic 182, 3) := by decide +kernel
theorem d_M_search_65 : decode (qB q_M_search) 65 = .ok (.lconst 0, 1) := by decide +kernel
theorem d_M_search_66 : decode (qB q_M_search) 66 = .ok (.iconst 0, 1) := by decide +kernel
theorem d_M_search_67 : decode (qB q_M_search) 67 = .ok (.iconst 0, 1) := by decide +kernel
theorem d_M_search_68 : decode (qB q_M_search) 68 = .ok (.invokevirtual 186, 3) := by decide +kernel
theorem d_M_search_71 : decode (qB q_M_search) 71 = .ok (.iinc 1 1, 3) := by decide +kernel
theorem d_M_search_74 : decode (qB q_M_search) 74 = .ok (.goto (-34), 3) := by decide +kernel
theorem d_M_search_77 : decode (qB q_M_search) 77 = .ok (.iconst 0, 1) := by decide +kernel
theorem d_M_search_78 : decode (qB q_M_search) 78 = .ok (.istore_n 1, 1) := by decide +kernel
theorem d_M_search_79 : decode (qB q_M_search) 79 = .ok (.aload_n 0, 1) := by decide +kernel
theorem d_M_search_80 : decode (qB q_M_search) 80 = .ok (.getfield 146, 3) := by decide +kernel
theorem d_M_search_83 : decode (qB q_M_search) 83 = .ok (.ifCond .le 82, 3) := by decide +kernel
theorem d_M_search_86 : decode (qB q_M_search) 86 = .ok (.iload_n 1, 1) := by decide +kernel
theorem d_M_search_87 : decode (qB q_M_search) 87 = .ok (.aload_n 0, 1) := by decide +kernel
theorem d_M_search_88 : decode (qB q_M_search) 88 = .ok (.getfield 197, 3) := by decide +kernel
theorem d_M_search_91 : decode (qB q_M_search) 91 = .ok (.if_icmp .ne 6, 3) := by decide +kernel
theorem d_M_search_94 : decode (qB q_M_search) 94 = .ok (.bipush (-2), 2) := by decide +kernel
theorem d_M_search_96 : decode (qB q_M_search) 96 = .ok (.ireturn, 1) := by decide +kernel
theorem d_M_search_97 : decode (qB q_M_search) 97 = .ok (.aload_n 0, 1) := by decide +kernel
theorem d_M_search_98 : decode (qB q_M_search) 98 = .ok (.invokevirtual 200, 3) := by decide +kernel
theorem d_M_search_101 : decode (qB q_M_search) 101 = .ok (.istore_n 2, 1) := by decide +kernel
theorem d_M_search_102 : decode (qB q_M_search) 102 = .ok (.aload_n 0, 1) := by decide +kernel
theorem d_M_search_103 : decode (qB q_M_search) 103 = .ok (.getfield 80, 3) := by decide +kernel
theorem d_M_search_106 : decode (qB q_M_search) 106 = .ok (.iload_n 2, 1) := by decide +kernel
theorem d_M_search_107 : decode (qB q_M_search) 107 = .ok (.iconst 2, 1) := by decide +kernel
theorem d_M_search_108 : decode (qB q_M_search) 108 = .ok (.iastore, 1) := by decide +kernel
theorem d_M_search_109 : decode (qB q_M_search) 109 = .ok (.iinc 1 1, 3) := by decide +kernel
theorem d_M_search_112 : decode (qB q_M_search) 112 = .ok (.aload_n 0, 1) := by decide +kernel
theorem d_M_search_113 : decode (qB q_M_search) 113 = .ok (.aload_n 0, 1) := by decide +kernel
theorem d_M_search_114 : decode (qB q_M_search) 114 = .ok (.getfield 70, 3) := by decide +kernel
theorem d_M_search_117 : decode (qB q_M_search) 117 = .ok (.iload_n 2, 1) := by decide +kernel
theorem d_M_search_118 : decode (qB q_M_search) 118 = .ok (.laload, 1) := by decide +kernel
theorem d_M_search_119 : decode (qB q_M_search) 119 = .ok (.ldc2_w 117, 3) := by decide +kernel
theorem d_M_search_122 : decode (qB q_M_search) 122 = .ok (.ldiv, 1) := by decide +kernel
theorem d_M_search_123 : decode (qB q_M_search) 123 = .ok (.putfield 62, 3) := by decide +kernel
theorem d_M_search_126 : decode (qB q_M_search) 126 = .ok (.iload_n 2, 1) := by decide +kernel
theorem d_M_search_127 : decode (qB q_M_search) 127 = .ok (.sipush 612, 3) := by decide +kernel
theorem d_M_search_130 : decode (qB q_M_search) 130 = .ok (.idiv, 1) := by decide +kernel
theorem d_M_search_131 : decode (qB q_M_search) 131 = .ok (.aload_n 0, 1) := by decide +kernel
theorem d_M_search_132 : decode (qB q_M_search) 132 = .ok (.getfield 190, 3) := by decide +kernel
theorem d_M_search_135 : decode (qB q_M_search) 135 = .ok (.if_icmp .ne 22, 3) := by decide +kernel
theorem d_M_search_138 : decode (qB q_M_search) 138 = .ok (.iload_n 2, 1) := by decide +kernel
theorem d_M_search_139 : decode (qB q_M_search) 139 = .ok (.bipush 36, 2) := by decide +kernel
theorem d_M_search_141 : decode (qB q_M_search) 141 = .ok (.idiv, 1) := by decide +kernel
theorem d_M_search_142 : decode (qB q_M_search) 142 = .ok (.bipush 17, 2) := by decide +kernel
theorem d_M_search_144 : decode (qB q_M_search) 144 = .ok (.irem, 1) := by decide +kernel
theorem d_M_search_145 : decode (qB q_M_search) 145 = .ok (.bipush 16, 2) := by decide +kernel
theorem d_M_search_147 : decode (qB q_M_search) 147 = .ok (.if_icmp .ne 10, 3) := by decide +kernel
theorem d_M_search_150 : decode (qB q_M_search) 150 = .ok (.aload_n 0, 1) := by decide +kernel
theorem d_M_search_151 : decode (qB q_M_search) 151 = .ok (.iconst 1, 1) := by decide +kernel
theorem d_M_search_152 : decode (qB q_M_search) 152 = .ok (.putfield 193, 3) := by decide +kernel
theorem d_M_search_155 : decode (qB q_M_search) 155 = .ok (.iload_n 2, 1) := by decide +kernel
theorem d_M_search_156 : decode (qB q_M_search) 156 = .ok (.ireturn, 1) := by decide +kernel
theorem d_M_search_157 : decode (qB q_M_search) 157 = .ok (.aload_n 0, 1) := by decide +kernel
theorem d_M_search_158 : decode (qB q_M_search) 158 = .ok (.iload_n 2, 1) := by decide +kernel
theorem d_M_search_159 : decode (qB q_M_search) 159 = .ok (.invokevirtual 204, 3) := by decide +kernel
theorem d_M_search_162 : decode (qB q_M_search) 162 = .ok (.goto (-83), 3) := by decide +kernel
theorem d_M_search_165 : decode (qB q_M_search) 165 = .ok (.aload_n 0, 1) := by decide +kernel
theorem d_M_search_166 : decode (qB q_M_search) 166 = .ok (.iconst 1, 1) := by decide +kernel
theorem d_M_search_167 : decode (qB q_M_search) 167 = .ok (.putfield 193, 3) := by decide +kernel
theorem d_M_search_170 : decode (qB q_M_search) 170 = .ok (.iconst (-1), 1) := by decide +kernel
theorem d_M_search_171 : decode (qB q_M_search) 171 = .ok (.ireturn, 1) := by decide +kernel
set_option maxRecDepth 10000 in
theorem k_M_search {G : mxG} (hG : mx_GG G) : ∀ pc r, t_M_search pc = some r → mx_Ok G mx_W mx_MT q_M_search pc r := (bn_ok (bn_ok (bn_ok (bn_ok (bn_ok (bn_ok (bl_ok (ok_iconst (by decide) d_M_search_0)) (bn_ok (bl_ok (ok_istore_n rfl d_M_search_1 (by decide))) (bl_ok (ok_iload_n rfl d_M_search_2)))) (bn_ok (bl_ok (ok_ldc d_M_search_3 w_602)) (bn_ok (bl_ok (ok_icge d_M_search_5 (by decide))) (bl_ok (ok_aload_n rfl d_M_search_8))))) (bn_ok (bn_ok (bl_ok (ok_getf d_M_search_9 (cl_5 hG) (by decide) w_632)) (bn_ok (bl_ok (ok_iload_n rfl d_M_search_12)) (bl_ok (ok_iconst (by decide) d_M_search_13)))) (bn_ok (bl_ok (ok_iast d_M_search_14 (kt_0 hG))) (bn_ok (bl_ok (ok_iinc d_M_search_15 (by decide) (by decide))) (bl_ok (ok_goto d_M_search_18 (by decide))))))) (bn_ok (bn_ok (bn_ok (bl_ok (ok_aload_n rfl d_M_search_21)) (bn_ok (bl_ok (ok_iconst (by decide) d_M_search_22)) (bl_ok (ok_putf d_M_search_23 (cl_5 hG) (by decide) w_634 rfl (Or.inl rfl))))) (bn_ok (bl_ok (ok_aload_n rfl d_M_search_26)) (bn_ok (bl_ok (ok_ldc2 d_M_search_27 w_601)) (bl_ok (ok_putf d_M_search_30 (cl_5 hG) (by decide) w_623 rfl (Or.inl rfl)))))) (bn_ok (bn_ok (bl_ok (ok_aload_n rfl d_M_search_33)) (bn_ok (bl_ok (ok_iconst (by decide) d_M_search_34)) (bl_ok (ok_putf d_M_search_35 (cl_5 hG) (by decide) w_624 rfl (Or.inl rfl))))) (bn_ok (bl_ok (ok_iconst (by decide) d_M_search_38)) (bn_ok (bl_ok (ok_istore_n rfl d_M_search_39 (by decide))) (bl_ok (ok_iload_n rfl d_M_search_40))))))) (bn_ok (bn_ok (bn_ok (bn_ok (bl_ok (ok_bipush (by decide) d_M_search_41)) (bn_ok (bl_ok (ok_icge d_M_search_43 (by decide))) (bl_ok (ok_aload_n rfl d_M_search_46)))) (bn_ok (bl_ok (ok_iload_n rfl d_M_search_47)) (bn_ok (bl_ok (ok_cv mx_W_good (cl_5 hG) d_M_search_48 (mt_M_isHeading) mk_M_isHeading w_760 w_762 ws_M_isHeading (by decide) (by decide))) (bl_ok (ok_ifeq d_M_search_51 (by decide)))))) (bn_ok (bn_ok (bl_ok (ok_aload_n rfl d_M_search_54)) (bn_ok (bl_ok (ok_aload_n rfl d_M_search_55)) (bl_ok (ok_getf d_M_search_56 (cl_5 hG) (by decide) w_626)))) (bn_ok (bl_ok (ok_iload_n rfl d_M_search_59)) (bn_ok (bl_ok (ok_iconst (by decide) d_M_search_60)) (bl_ok (ok_iconst (by decide) d_M_search_61)))))) (bn_ok (bn_ok (bn_ok (bl_ok (ok_cs mx_W_good d_M_search_62 (mt_M_labelOf) mk_M_labelOf w_764 w_765 (by decide) (by decide))) (bn_ok (bl_ok (ok_lconst (by decide) d_M_search_65)) (bl_ok (ok_iconst (by decide) d_M_search_66)))) (bn_ok (bl_ok (ok_iconst (by decide) d_M_search_67)) (bn_ok (bl_ok (ok_cv mx_W_good (cl_5 hG) d_M_search_68 (mt_M_offer) mk_M_offer w_767 w_769 ws_M_offer (by decide) (by decide))) (bl_ok (ok_iinc d_M_search_71 (by decide) (by decide)))))) (bn_ok (bn_ok (bl_ok (ok_goto d_M_search_74 (by decide))) (bn_ok (bl_ok (ok_iconst (by decide) d_M_search_77)) (bl_ok (ok_istore_n rfl d_M_search_78 (by decide))))) (bn_ok (bn_ok (bl_ok (ok_aload_n rfl d_M_search_79)) (bl_ok (ok_getf d_M_search_80 (cl_5 hG) (by decide) w_634))) (bn_ok (bl_ok (ok_ifle d_M_search_83 (by decide))) (bl_ok (ok_iload_n rfl d_M_search_86)))))))) (bn_ok (bn_ok (bn_ok (bn_ok (bn_ok (bl_ok (ok_aload_n rfl d_M_search_87)) (bn_ok (bl_ok (ok_getf d_M_search_88 (cl_5 hG) (by decide) w_622)) (bl_ok (ok_icne d_M_search_91 (by decide))))) (bn_ok (bl_ok (ok_bipush (by decide) d_M_search_94)) (bn_ok (bl_ok (ok_ireturn d_M_search_96 rfl)) (bl_ok (ok_aload_n rfl d_M_search_97))))) (bn_ok (bn_ok (bl_ok (ok_cv mx_W_good (cl_5 hG) d_M_search_98 (mt_M_takeLeast) mk_M_takeLeast w_783 w_785 ws_M_takeLeast (by decide) (by decide))) (bn_ok (bl_ok (ok_istore_n rfl d_M_search_101 (by decide))) (bl_ok (ok_aload_n rfl d_M_search_102)))) (bn_ok (bl_ok (ok_getf d_M_search_103 (cl_5 hG) (by decide) w_632)) (bn_ok (bl_ok (ok_iload_n rfl d_M_search_106)) (bl_ok (ok_iconst (by decide) d_M_search_107)))))) (bn_ok (bn_ok (bn_ok (bl_ok (ok_iast d_M_search_108 (kt_0 hG))) (bn_ok (bl_ok (ok_iinc d_M_search_109 (by decide) (by decide))) (bl_ok (ok_aload_n rfl d_M_search_112)))) (bn_ok (bl_ok (ok_aload_n rfl d_M_search_113)) (bn_ok (bl_ok (ok_getf d_M_search_114 (cl_5 hG) (by decide) w_629)) (bl_ok (ok_iload_n rfl d_M_search_117))))) (bn_ok (bn_ok (bl_ok (ok_lald d_M_search_118 (kt_1 hG))) (bn_ok (bl_ok (ok_ldc2 d_M_search_119 w_737)) (bl_ok (ok_ldiv d_M_search_122)))) (bn_ok (bl_ok (ok_putf d_M_search_123 (cl_5 hG) (by decide) w_623 rfl (Or.inl rfl))) (bn_ok (bl_ok (ok_iload_n rfl d_M_search_126)) (bl_ok (ok_sipush (by decide) d_M_search_127))))))) (bn_ok (bn_ok (bn_ok (bn_ok (bl_ok (ok_idiv d_M_search_130)) (bn_ok (bl_ok (ok_aload_n rfl d_M_search_131)) (bl_ok (ok_getf d_M_search_132 (cl_5 hG) (by decide) w_625)))) (bn_ok (bl_ok (ok_icne d_M_search_135 (by decide))) (bn_ok (bl_ok (ok_iload_n rfl d_M_search_138)) (bl_ok (ok_bipush (by decide) d_M_search_139))))) (bn_ok (bn_ok (bl_ok (ok_idiv d_M_search_141)) (bn_ok (bl_ok (ok_bipush (by decide) d_M_search_142)) (bl_ok (ok_irem d_M_search_144)))) (bn_ok (bl_ok (ok_bipush (by decide) d_M_search_145)) (bn_ok (bl_ok (ok_icne d_M_search_147 (by decide))) (bl_ok (ok_aload_n rfl d_M_search_150)))))) (bn_ok (bn_ok (bn_ok (bl_ok (ok_iconst (by decide) d_M_search_151)) (bn_ok (bl_ok (ok_putf d_M_search_152 (cl_5 hG) (by decide) w_624 rfl (Or.inl rfl))) (bl_ok (ok_iload_n rfl d_M_search_155)))) (bn_ok (bl_ok (ok_ireturn d_M_search_156 rfl)) (bn_ok (bl_ok (ok_aload_n rfl d_M_search_157)) (bl_ok (ok_iload_n rfl d_M_search_158))))) (bn_ok (bn_ok (bl_ok (ok_cv mx_W_good (cl_5 hG) d_M_search_159 (mt_M_spread) mk_M_spread w_787 w_789 ws_M_spread (by decide) (by decide))) (bn_ok (bl_ok (ok_goto d_M_search_162 (by decide))) (bl_ok (ok_aload_n rfl d_M_search_165)))) (bn_ok (bn_ok (bl_ok (ok_iconst (by decide) d_M_search_166)) (bl_ok (ok_putf d_M_search_167 (cl_5 hG) (by decide) w_624 rfl (Or.inl rfl)))) (bn_ok (bl_ok (ok_iconst (by decide) d_M_search_170)) (bl_ok (ok_ireturn d_M_search_171 rfl)))))))))
theorem d_M_keep_0 : decode (qB q_M_keep) 0 = .ok (.sipush 5000, 3) := by decide +kernel
theorem d_M_keep_3 : decode (qB q_M_keep) 3 = .ok (.aload_n 0, 1) := by decide +kernel
theorem d_M_keep_4 : decode (qB q_M_keep) 4 = .ok (.getfield 207, 3) := by decide +kernel
theorem d_M_keep_7 : decode (qB q_M_keep) 7 = .ok (.imul, 1) := by decide +kernel
theorem d_M_keep_8 : decode (qB q_M_keep) 8 = .ok (.istore_n 2, 1) := by decide +kernel
theorem d_M_keep_9 : decode (qB q_M_keep) 9 = .ok (.iload_n 1, 1) := by decide +kernel
theorem d_M_keep_10 : decode (qB q_M_keep) 10 = .ok (.istore_n 3, 1) := by decide +kernel
theorem d_M_keep_11 : decode (qB q_M_keep) 11 = .ok (.iconst 0, 1) := by decide +kernel
theorem d_M_keep_12 : decode (qB q_M_keep) 12 = .ok (.istore 4, 2) := by decide +kernel
theorem d_M_keep_14 : decode (qB q_M_keep) 14 = .ok (.aload_n 0, 1) := by decide +kernel
theorem d_M_keep_15 : decode (qB q_M_keep) 15 = .ok (.getfield 54, 3) := by decide +kernel
theorem d_M_keep_18 : decode (qB q_M_keep) 18 = .ok (.iload_n 2, 1) := by decide +kernel
theorem d_M_keep_19 : decode (qB q_M_keep) 19 = .ok (.aload_n 0, 1) := by decide +kernel
theorem d_M_keep_20 : decode (qB q_M_keep) 20 = .ok (.getfield 190, 3) := by decide +kernel
theorem d_M_keep_23 : decode (qB q_M_keep) 23 = .ok (.iastore, 1) := by decide +kernel
theorem d_M_keep_24 : decode (qB q_M_keep) 24 = .ok (.aload_n 0, 1) := by decide +kernel
theorem d_M_keep_25 : decode (qB q_M_keep) 25 = .ok (.getfield 57, 3) := by decide +kernel
theorem d_M_keep_28 : decode (qB q_M_keep) 28 = .ok (.iload_n 2, 1) := by decide +kernel
theorem d_M_keep_29 : decode (qB q_M_keep) 29 = .ok (.bipush 16, 2) := by decide +kernel
theorem d_M_keep_31 : decode (qB q_M_keep) 31 = .ok (.iastore, 1) := by decide +kernel
theorem d_M_keep_32 : decode (qB q_M_keep) 32 = .ok (.aload_n 0, 1) := by decide +kernel
theorem d_M_keep_33 : decode (qB q_M_keep) 33 = .ok (.getfield 77, 3) := by decide +kernel
theorem d_M_keep_36 : decode (qB q_M_keep) 36 = .ok (.iload_n 3, 1) := by decide +kernel
theorem d_M_keep_37 : decode (qB q_M_keep) 37 = .ok (.iaload, 1) := by decide +kernel
theorem d_M_keep_38 : decode (qB q_M_keep) 38 = .ok (.ifCond .le 45, 3) := by decide +kernel
theorem d_M_keep_41 : decode (qB q_M_keep) 41 = .ok (.aload_n 0, 1) := by decide +kernel
theorem d_M_keep_42 : decode (qB q_M_keep) 42 = .ok (.iload_n 3, 1) := by decide +kernel
theorem d_M_keep_43 : decode (qB q_M_keep) 43 = .ok (.invokevirtual 210, 3) := by decide +kernel
theorem d_M_keep_46 : decode (qB q_M_keep) 46 = .ok (.istore_n 3, 1) := by decide +kernel
theorem d_M_keep_47 : decode (qB q_M_keep) 47 = .ok (.iinc 4 1, 3) := by decide +kernel
theorem d_M_keep_50 : decode (qB q_M_keep) 50 = .ok (.aload_n 0, 1) := by decide +kernel
theorem d_M_keep_51 : decode (qB q_M_keep) 51 = .ok (.getfield 54, 3) := by decide +kernel
theorem d_M_keep_54 : decode (qB q_M_keep) 54 = .ok (.iload_n 2, 1) := by decide +kernel
theorem d_M_keep_55 : decode (qB q_M_keep) 55 = .ok (.iload 4, 2) := by decide +kernel
theorem d_M_keep_57 : decode (qB q_M_keep) 57 = .ok (.iadd, 1) := by decide +kernel
theorem d_M_keep_58 : decode (qB q_M_keep) 58 = .ok (.iload_n 3, 1) := by decide +kernel
theorem d_M_keep_59 : decode (qB q_M_keep) 59 = .ok (.sipush 612, 3) := by decide +kernel
theorem d_M_keep_62 : decode (qB q_M_keep) 62 = .ok (.idiv, 1) := by decide +kernel
theorem d_M_keep_63 : decode (qB q_M_keep) 63 = .ok (.iastore, 1) := by decide +kernel
theorem d_M_keep_64 : decode (qB q_M_keep) 64 = .ok (.aload_n 0, 1) := by decide +kernel
theorem d_M_keep_65 : decode (qB q_M_keep) 65 = .ok (.getfield 57, 3) := by decide +kernel
theorem d_M_keep_68 : decode (qB q_M_keep) 68 = .ok (.iload_n 2, 1) := by decide +kernel
theorem d_M_keep_69 : decode (qB q_M_keep) 69 = .ok (.iload 4, 2) := by decide +kernel
theorem d_M_keep_71 : decode (qB q_M_keep) 71 = .ok (.iadd, 1) := by decide +kernel
theorem d_M_keep_72 : decode (qB q_M_keep) 72 = .ok (.iload_n 3, 1) := by decide +kernel
theorem d_M_keep_73 : decode (qB q_M_keep) 73 = .ok (.bipush 36, 2) := by decide +kernel
theorem d_M_keep_75 : decode (qB q_M_keep) 75 = .ok (.idiv, 1) := by decide +kernel
theorem d_M_keep_76 : decode (qB q_M_keep) 76 = .ok (.bipush 17, 2) := by decide +kernel
theorem d_M_keep_78 : decode (qB q_M_keep) 78 = .ok (.irem, 1) := by decide +kernel
theorem d_M_keep_79 : decode (qB q_M_keep) 79 = .ok (.iastore, 1) := by decide +kernel
theorem d_M_keep_80 : decode (qB q_M_keep) 80 = .ok (.goto (-48), 3) := by decide +kernel
theorem d_M_keep_83 : decode (qB q_M_keep) 83 = .ok (.aload_n 0, 1) := by decide +kernel
theorem d_M_keep_84 : decode (qB q_M_keep) 84 = .ok (.getfield 51, 3) := by decide +kernel
theorem d_M_keep_87 : decode (qB q_M_keep) 87 = .ok (.aload_n 0, 1) := by decide +kernel
theorem d_M_keep_88 : decode (qB q_M_keep) 88 = .ok (.getfield 207, 3) := by decide +kernel
theorem d_M_keep_91 : decode (qB q_M_keep) 91 = .ok (.iload 4, 2) := by decide +kernel
theorem d_M_keep_93 : decode (qB q_M_keep) 93 = .ok (.iconst 1, 1) := by decide +kernel
theorem d_M_keep_94 : decode (qB q_M_keep) 94 = .ok (.iadd, 1) := by decide +kernel
theorem d_M_keep_95 : decode (qB q_M_keep) 95 = .ok (.iastore, 1) := by decide +kernel
theorem d_M_keep_96 : decode (qB q_M_keep) 96 = .ok (.aload_n 0, 1) := by decide +kernel
theorem d_M_keep_97 : decode (qB q_M_keep) 97 = .ok (.aload_n 0, 1) := by decide +kernel
theorem d_M_keep_98 : decode (qB q_M_keep) 98 = .ok (.getfield 207, 3) := by decide +kernel
theorem d_M_keep_101 : decode (qB q_M_keep) 101 = .ok (.putfield 48, 3) := by decide +kernel
theorem d_M_keep_104 : decode (qB q_M_keep) 104 = .ok (.aload_n 0, 1) := by decide +kernel
theorem d_M_keep_105 : decode (qB q_M_keep) 105 = .ok (.dup, 1) := by decide +kernel
theorem d_M_keep_106 : decode (qB q_M_keep) 106 = .ok (.getfield 207, 3) := by decide +kernel
theorem d_M_keep_109 : decode (qB q_M_keep) 109 = .ok (.iconst 1, 1) := by decide +kernel
theorem d_M_keep_110 : decode (qB q_M_keep) 110 = .ok (.iadd, 1) := by decide +kernel
theorem d_M_keep_111 : decode (qB q_M_keep) 111 = .ok (.putfield 207, 3) := by decide +kernel
theorem d_M_keep_114 : decode (qB q_M_keep) 114 = .ok (.iload 4, 2) := by decide +kernel
theorem d_M_keep_116 : decode (qB q_M_keep) 116 = .ok (.ireturn, 1) := by decide +kernel
set_option maxRecDepth 10000 in
theorem k_M_keep {G : mxG} (hG : mx_GG G) : ∀ pc r, t_M_keep pc = some r → mx_Ok G mx_W mx_MT q_M_keep pc r := (bn_ok (bn_ok (bn_ok (bn_ok (bn_ok (bn_ok (bl_ok (ok_sipush (by decide) d_M_keep_0)) (bl_ok (ok_aload_n rfl d_M_keep_3))) (bn_ok (bl_ok (ok_getf d_M_keep_4 (cl_5 hG) (by decide) w_617)) (bl_ok (ok_imul d_M_keep_7)))) (bn_ok (bn_ok (bl_ok (ok_istore_n rfl d_M_keep_8 (by decide))) (bl_ok (ok_iload_n rfl d_M_keep_9))) (bn_ok (bl_ok (ok_istore_n rfl d_M_keep_10 (by decide))) (bl_ok (ok_iconst (by decide) d_M_keep_11))))) (bn_ok (bn_ok (bn_ok (bl_ok (ok_istore d_M_keep_12 (by decide))) (bl_ok (ok_aload_n rfl d_M_keep_14))) (bn_ok (bl_ok (ok_getf d_M_keep_15 (cl_5 hG) (by decide) w_620)) (bl_ok (ok_iload_n rfl d_M_keep_18)))) (bn_ok (bn_ok (bl_ok (ok_aload_n rfl d_M_keep_19)) (bl_ok (ok_getf d_M_keep_20 (cl_5 hG) (by decide) w_625))) (bn_ok (bl_ok (ok_iast d_M_keep_23 (kt_0 hG))) (bn_ok (bl_ok (ok_aload_n rfl d_M_keep_24)) (bl_ok (ok_getf d_M_keep_25 (cl_5 hG) (by decide) w_621))))))) (bn_ok (bn_ok (bn_ok (bn_ok (bl_ok (ok_iload_n rfl d_M_keep_28)) (bl_ok (ok_bipush (by decide) d_M_keep_29))) (bn_ok (bl_ok (ok_iast d_M_keep_31 (kt_0 hG))) (bl_ok (ok_aload_n rfl d_M_keep_32)))) (bn_ok (bn_ok (bl_ok (ok_getf d_M_keep_33 (cl_5 hG) (by decide) w_631)) (bl_ok (ok_iload_n rfl d_M_keep_36))) (bn_ok (bl_ok (ok_iald d_M_keep_37 (kt_0 hG))) (bn_ok (bl_ok (ok_ifle d_M_keep_38 (by decide))) (bl_ok (ok_aload_n rfl d_M_keep_41)))))) (bn_ok (bn_ok (bn_ok (bl_ok (ok_iload_n rfl d_M_keep_42)) (bl_ok (ok_cv mx_W_good (cl_5 hG) d_M_keep_43 (mt_M_next) mk_M_next w_835 w_837 ws_M_next (by decide) (by decide)))) (bn_ok (bl_ok (ok_istore_n rfl d_M_keep_46 (by decide))) (bl_ok (ok_iinc d_M_keep_47 (by decide) (by decide))))) (bn_ok (bn_ok (bl_ok (ok_aload_n rfl d_M_keep_50)) (bl_ok (ok_getf d_M_keep_51 (cl_5 hG) (by decide) w_620))) (bn_ok (bl_ok (ok_iload_n rfl d_M_keep_54)) (bn_ok (bl_ok (ok_iload d_M_keep_55)) (bl_ok (ok_iadd d_M_keep_57)))))))) (bn_ok (bn_ok (bn_ok (bn_ok (bn_ok (bl_ok (ok_iload_n rfl d_M_keep_58)) (bl_ok (ok_sipush (by decide) d_M_keep_59))) (bn_ok (bl_ok (ok_idiv d_M_keep_62)) (bl_ok (ok_iast d_M_keep_63 (kt_0 hG))))) (bn_ok (bn_ok (bl_ok (ok_aload_n rfl d_M_keep_64)) (bl_ok (ok_getf d_M_keep_65 (cl_5 hG) (by decide) w_621))) (bn_ok (bl_ok (ok_iload_n rfl d_M_keep_68)) (bn_ok (bl_ok (ok_iload d_M_keep_69)) (bl_ok (ok_iadd d_M_keep_71)))))) (bn_ok (bn_ok (bn_ok (bl_ok (ok_iload_n rfl d_M_keep_72)) (bl_ok (ok_bipush (by decide) d_M_keep_73))) (bn_ok (bl_ok (ok_idiv d_M_keep_75)) (bl_ok (ok_bipush (by decide) d_M_keep_76)))) (bn_ok (bn_ok (bl_ok (ok_irem d_M_keep_78)) (bl_ok (ok_iast d_M_keep_79 (kt_0 hG)))) (bn_ok (bl_ok (ok_goto d_M_keep_80 (by decide))) (bn_ok (bl_ok (ok_aload_n rfl d_M_keep_83)) (bl_ok (ok_getf d_M_keep_84 (cl_5 hG) (by decide) w_619))))))) (bn_ok (bn_ok (bn_ok (bn_ok (bl_ok (ok_aload_n rfl d_M_keep_87)) (bl_ok (ok_getf d_M_keep_88 (cl_5 hG) (by decide) w_617))) (bn_ok (bl_ok (ok_iload d_M_keep_91)) (bl_ok (ok_iconst (by decide) d_M_keep_93)))) (bn_ok (bn_ok (bl_ok (ok_iadd d_M_keep_94)) (bl_ok (ok_iast d_M_keep_95 (kt_0 hG)))) (bn_ok (bl_ok (ok_aload_n rfl d_M_keep_96)) (bn_ok (bl_ok (ok_aload_n rfl d_M_keep_97)) (bl_ok (ok_getf d_M_keep_98 (cl_5 hG) (by decide) w_617)))))) (bn_ok (bn_ok (bn_ok (bl_ok (ok_putf d_M_keep_101 (cl_5 hG) (by decide) w_618 rfl (Or.inl rfl))) (bl_ok (ok_aload_n rfl d_M_keep_104))) (bn_ok (bl_ok (ok_dup d_M_keep_105)) (bl_ok (ok_getf d_M_keep_106 (cl_5 hG) (by decide) w_617)))) (bn_ok (bn_ok (bl_ok (ok_iconst (by decide) d_M_keep_109)) (bl_ok (ok_iadd d_M_keep_110))) (bn_ok (bl_ok (ok_putf d_M_keep_111 (cl_5 hG) (by decide) w_617 rfl (Or.inl rfl))) (bn_ok (bl_ok (ok_iload d_M_keep_114)) (bl_ok (ok_ireturn d_M_keep_116 rfl)))))))))
