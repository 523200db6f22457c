theorem d_X_isAim_0 : decode (qB q_X_isAim) 0 = .ok (.iload_n 0, 1) := by decide +kernel
theorem d_X_isAim_1 : decode (qB q_X_isAim) 1 = .ok (.i2l, 1) := by decide +kernel
theorem d_X_isAim_2 : decode (qB q_X_isAim) 2 = .ok (.lconst 0, 1) := by decide +kernel
theorem d_X_isAim_3 : decode (qB q_X_isAim) 3 = .ok (.ldc2_w 178, 3) := by decide +kernel
theorem d_X_isAim_6 : decode (qB q_X_isAim) 6 = .ok (.invokestatic 65, 3) := by decide +kernel
theorem d_X_isAim_9 : decode (qB q_X_isAim) 9 = .ok (.ireturn, 1) := by decide +kernel
set_option maxRecDepth 10000 in
theorem k_X_isAim {G : mxG} (hG : mx_GG G) : ∀ pc r, t_X_isAim pc = some r → mx_Ok G mx_W mx_MT q_X_isAim pc r := (bn_ok (bn_ok (bl_ok (ok_iload_n rfl d_X_isAim_0)) (bn_ok (bl_ok (ok_i2l d_X_isAim_1)) (bl_ok (ok_lconst (by decide) d_X_isAim_2)))) (bn_ok (bl_ok (ok_ldc2 d_X_isAim_3 w_255)) (bn_ok (bl_ok (ok_cs mx_W_good d_X_isAim_6 (mt_X_within) mk_X_within w_234 w_235 (by decide) (by decide))) (bl_ok (ok_zreturn d_X_isAim_9 rfl)))))
theorem d_X_isZone_0 : decode (qB q_X_isZone) 0 = .ok (.iload_n 0, 1) := by decide +kernel
theorem d_X_isZone_1 : decode (qB q_X_isZone) 1 = .ok (.i2l, 1) := by decide +kernel
theorem d_X_isZone_2 : decode (qB q_X_isZone) 2 = .ok (.lconst 0, 1) := by decide +kernel
theorem d_X_isZone_3 : decode (qB q_X_isZone) 3 = .ok (.ldc2_w 186, 3) := by decide +kernel
theorem d_X_isZone_6 : decode (qB q_X_isZone) 6 = .ok (.invokestatic 65, 3) := by decide +kernel
theorem d_X_isZone_9 : decode (qB q_X_isZone) 9 = .ok (.ireturn, 1) := by decide +kernel
set_option maxRecDepth 10000 in
theorem k_X_isZone {G : mxG} (hG : mx_GG G) : ∀ pc r, t_X_isZone pc = some r → mx_Ok G mx_W mx_MT q_X_isZone pc r := (bn_ok (bn_ok (bl_ok (ok_iload_n rfl d_X_isZone_0)) (bn_ok (bl_ok (ok_i2l d_X_isZone_1)) (bl_ok (ok_lconst (by decide) d_X_isZone_2)))) (bn_ok (bl_ok (ok_ldc2 d_X_isZone_3 w_556)) (bn_ok (bl_ok (ok_cs mx_W_good d_X_isZone_6 (mt_X_within) mk_X_within w_234 w_235 (by decide) (by decide))) (bl_ok (ok_zreturn d_X_isZone_9 rfl)))))
theorem d_X_within_0 : decode (qB q_X_within) 0 = .ok (.lload_n 0, 1) := by decide +kernel
theorem d_X_within_1 : decode (qB q_X_within) 1 = .ok (.lload_n 2, 1) := by decide +kernel
theorem d_X_within_2 : decode (qB q_X_within) 2 = .ok (.lcmp, 1) := by decide +kernel
theorem d_X_within_3 : decode (qB q_X_within) 3 = .ok (.ifCond .lt 14, 3) := by decide +kernel
theorem d_X_within_6 : decode (qB q_X_within) 6 = .ok (.lload_n 0, 1) := by decide +kernel
theorem d_X_within_7 : decode (qB q_X_within) 7 = .ok (.lload 4, 2) := by decide +kernel
theorem d_X_within_9 : decode (qB q_X_within) 9 = .ok (.lcmp, 1) := by decide +kernel
theorem d_X_within_10 : decode (qB q_X_within) 10 = .ok (.ifCond .gt 7, 3) := by decide +kernel
theorem d_X_within_13 : decode (qB q_X_within) 13 = .ok (.iconst 1, 1) := by decide +kernel
theorem d_X_within_14 : decode (qB q_X_within) 14 = .ok (.goto 4, 3) := by decide +kernel
theorem d_X_within_17 : decode (qB q_X_within) 17 = .ok (.iconst 0, 1) := by decide +kernel
theorem d_X_within_18 : decode (qB q_X_within) 18 = .ok (.ireturn, 1) := by decide +kernel
set_option maxRecDepth 10000 in
theorem k_X_within {G : mxG} (hG : mx_GG G) : ∀ pc r, t_X_within pc = some r → mx_Ok G mx_W mx_MT q_X_within pc r := (bn_ok (bn_ok (bn_ok (bl_ok (ok_lload_n rfl d_X_within_0)) (bn_ok (bl_ok (ok_lload_n rfl d_X_within_1)) (bl_ok (ok_lcmp d_X_within_2)))) (bn_ok (bl_ok (ok_iflt d_X_within_3 (by decide))) (bn_ok (bl_ok (ok_lload_n rfl d_X_within_6)) (bl_ok (ok_lload d_X_within_7))))) (bn_ok (bn_ok (bl_ok (ok_lcmp d_X_within_9)) (bn_ok (bl_ok (ok_ifgt d_X_within_10 (by decide))) (bl_ok (ok_iconst (by decide) d_X_within_13)))) (bn_ok (bl_ok (ok_goto d_X_within_14 (by decide))) (bn_ok (bl_ok (ok_iconst (by decide) d_X_within_17)) (bl_ok (ok_zreturn d_X_within_18 rfl))))))
theorem d_X_greatestDivisor_0 : decode (qB q_X_greatestDivisor) 0 = .ok (.lload_n 0, 1) := by decide +kernel
theorem d_X_greatestDivisor_1 : decode (qB q_X_greatestDivisor) 1 = .ok (.lstore 4, 2) := by decide +kernel
theorem d_X_greatestDivisor_3 : decode (qB q_X_greatestDivisor) 3 = .ok (.lload_n 2, 1) := by decide +kernel
theorem d_X_greatestDivisor_4 : decode (qB q_X_greatestDivisor) 4 = .ok (.lstore 6, 2) := by decide +kernel
theorem d_X_greatestDivisor_6 : decode (qB q_X_greatestDivisor) 6 = .ok (.iconst 0, 1) := by decide +kernel
theorem d_X_greatestDivisor_7 : decode (qB q_X_greatestDivisor) 7 = .ok (.istore 8, 2) := by decide +kernel
theorem d_X_greatestDivisor_9 : decode (qB q_X_greatestDivisor) 9 = .ok (.iload 8, 2) := by decide +kernel
theorem d_X_greatestDivisor_11 : decode (qB q_X_greatestDivisor) 11 = .ok (.sipush 200, 3) := by decide +kernel
theorem d_X_greatestDivisor_14 : decode (qB q_X_greatestDivisor) 14 = .ok (.if_icmp .ge 31, 3) := by decide +kernel
theorem d_X_greatestDivisor_17 : decode (qB q_X_greatestDivisor) 17 = .ok (.lload 6, 2) := by decide +kernel
theorem d_X_greatestDivisor_19 : decode (qB q_X_greatestDivisor) 19 = .ok (.lconst 0, 1) := by decide +kernel
theorem d_X_greatestDivisor_20 : decode (qB q_X_greatestDivisor) 20 = .ok (.lcmp, 1) := by decide +kernel
theorem d_X_greatestDivisor_21 : decode (qB q_X_greatestDivisor) 21 = .ok (.ifCond .eq 24, 3) := by decide +kernel
theorem d_X_greatestDivisor_24 : decode (qB q_X_greatestDivisor) 24 = .ok (.lload 4, 2) := by decide +kernel
theorem d_X_greatestDivisor_26 : decode (qB q_X_greatestDivisor) 26 = .ok (.lload 6, 2) := by decide +kernel
theorem d_X_greatestDivisor_28 : decode (qB q_X_greatestDivisor) 28 = .ok (.lrem, 1) := by decide +kernel
theorem d_X_greatestDivisor_29 : decode (qB q_X_greatestDivisor) 29 = .ok (.lstore 9, 2) := by decide +kernel
theorem d_X_greatestDivisor_31 : decode (qB q_X_greatestDivisor) 31 = .ok (.lload 6, 2) := by decide +kernel
theorem d_X_greatestDivisor_33 : decode (qB q_X_greatestDivisor) 33 = .ok (.lstore 4, 2) := by decide +kernel
theorem d_X_greatestDivisor_35 : decode (qB q_X_greatestDivisor) 35 = .ok (.lload 9, 2) := by decide +kernel
theorem d_X_greatestDivisor_37 : decode (qB q_X_greatestDivisor) 37 = .ok (.lstore 6, 2) := by decide +kernel
theorem d_X_greatestDivisor_39 : decode (qB q_X_greatestDivisor) 39 = .ok (.iinc 8 1, 3) := by decide +kernel
theorem d_X_greatestDivisor_42 : decode (qB q_X_greatestDivisor) 42 = .ok (.goto (-33), 3) := by decide +kernel
theorem d_X_greatestDivisor_45 : decode (qB q_X_greatestDivisor) 45 = .ok (.lload 4, 2) := by decide +kernel
theorem d_X_greatestDivisor_47 : decode (qB q_X_greatestDivisor) 47 = .ok (.lreturn, 1) := by decide +kernel
set_option maxRecDepth 10000 in
theorem k_X_greatestDivisor {G : mxG} (hG : mx_GG G) : ∀ pc r, t_X_greatestDivisor pc = some r → mx_Ok G mx_W mx_MT q_X_greatestDivisor pc r := (bn_ok (bn_ok (bn_ok (bn_ok (bl_ok (ok_lload_n rfl d_X_greatestDivisor_0)) (bn_ok (bl_ok (ok_lstore d_X_greatestDivisor_1 (by decide))) (bl_ok (ok_lload_n rfl d_X_greatestDivisor_3)))) (bn_ok (bl_ok (ok_lstore d_X_greatestDivisor_4 (by decide))) (bn_ok (bl_ok (ok_iconst (by decide) d_X_greatestDivisor_6)) (bl_ok (ok_istore d_X_greatestDivisor_7 (by decide)))))) (bn_ok (bn_ok (bl_ok (ok_iload d_X_greatestDivisor_9)) (bn_ok (bl_ok (ok_sipush (by decide) d_X_greatestDivisor_11)) (bl_ok (ok_icge d_X_greatestDivisor_14 (by decide))))) (bn_ok (bl_ok (ok_lload d_X_greatestDivisor_17)) (bn_ok (bl_ok (ok_lconst (by decide) d_X_greatestDivisor_19)) (bl_ok (ok_lcmp d_X_greatestDivisor_20)))))) (bn_ok (bn_ok (bn_ok (bl_ok (ok_ifeq d_X_greatestDivisor_21 (by decide))) (bn_ok (bl_ok (ok_lload d_X_greatestDivisor_24)) (bl_ok (ok_lload d_X_greatestDivisor_26)))) (bn_ok (bl_ok (ok_lrem d_X_greatestDivisor_28)) (bn_ok (bl_ok (ok_lstore d_X_greatestDivisor_29 (by decide))) (bl_ok (ok_lload d_X_greatestDivisor_31))))) (bn_ok (bn_ok (bl_ok (ok_lstore d_X_greatestDivisor_33 (by decide))) (bn_ok (bl_ok (ok_lload d_X_greatestDivisor_35)) (bl_ok (ok_lstore d_X_greatestDivisor_37 (by decide))))) (bn_ok (bn_ok (bl_ok (ok_iinc d_X_greatestDivisor_39 (by decide) (by decide))) (bl_ok (ok_goto d_X_greatestDivisor_42 (by decide)))) (bn_ok (bl_ok (ok_lload d_X_greatestDivisor_45)) (bl_ok (ok_lreturn d_X_greatestDivisor_47 rfl)))))))
theorem d_X_leastTerm_0 : decode (qB q_X_leastTerm) 0 = .ok (.lload_n 0, 1) := by decide +kernel
theorem d_X_leastTerm_1 : decode (qB q_X_leastTerm) 1 = .ok (.lload_n 2, 1) := by decide +kernel
theorem d_X_leastTerm_2 : decode (qB q_X_leastTerm) 2 = .ok (.invokestatic 219, 3) := by decide +kernel
theorem d_X_leastTerm_5 : decode (qB q_X_leastTerm) 5 = .ok (.lstore 5, 2) := by decide +kernel
theorem d_X_leastTerm_7 : decode (qB q_X_leastTerm) 7 = .ok (.iload 4, 2) := by decide +kernel
theorem d_X_leastTerm_9 : decode (qB q_X_leastTerm) 9 = .ok (.ifCond .ne 7, 3) := by decide +kernel
theorem d_X_leastTerm_12 : decode (qB q_X_leastTerm) 12 = .ok (.lload_n 0, 1) := by decide +kernel
theorem d_X_leastTerm_13 : decode (qB q_X_leastTerm) 13 = .ok (.goto 4, 3) := by decide +kernel
theorem d_X_leastTerm_16 : decode (qB q_X_leastTerm) 16 = .ok (.lload_n 2, 1) := by decide +kernel
theorem d_X_leastTerm_17 : decode (qB q_X_leastTerm) 17 = .ok (.lstore 7, 2) := by decide +kernel
theorem d_X_leastTerm_19 : decode (qB q_X_leastTerm) 19 = .ok (.lload 5, 2) := by decide +kernel
theorem d_X_leastTerm_21 : decode (qB q_X_leastTerm) 21 = .ok (.lconst 0, 1) := by decide +kernel
theorem d_X_leastTerm_22 : decode (qB q_X_leastTerm) 22 = .ok (.lcmp, 1) := by decide +kernel
theorem d_X_leastTerm_23 : decode (qB q_X_leastTerm) 23 = .ok (.ifCond .gt 8, 3) := by decide +kernel
theorem d_X_leastTerm_26 : decode (qB q_X_leastTerm) 26 = .ok (.lload 7, 2) := by decide +kernel
theorem d_X_leastTerm_28 : decode (qB q_X_leastTerm) 28 = .ok (.goto 8, 3) := by decide +kernel
theorem d_X_leastTerm_31 : decode (qB q_X_leastTerm) 31 = .ok (.lload 7, 2) := by decide +kernel
theorem d_X_leastTerm_33 : decode (qB q_X_leastTerm) 33 = .ok (.lload 5, 2) := by decide +kernel
theorem d_X_leastTerm_35 : decode (qB q_X_leastTerm) 35 = .ok (.ldiv, 1) := by decide +kernel
theorem d_X_leastTerm_36 : decode (qB q_X_leastTerm) 36 = .ok (.lreturn, 1) := by decide +kernel
set_option maxRecDepth 10000 in
theorem k_X_leastTerm {G : mxG} (hG : mx_GG G) : ∀ pc r, t_X_leastTerm pc = some r → mx_Ok G mx_W mx_MT q_X_leastTerm pc r := (bn_ok (bn_ok (bn_ok (bn_ok (bl_ok (ok_lload_n rfl d_X_leastTerm_0)) (bl_ok (ok_lload_n rfl d_X_leastTerm_1))) (bn_ok (bl_ok (ok_cs mx_W_good d_X_leastTerm_2 (mt_X_greatestDivisor) mk_X_greatestDivisor w_470 w_471 (by decide) (by decide))) (bn_ok (bl_ok (ok_lstore d_X_leastTerm_5 (by decide))) (bl_ok (ok_iload d_X_leastTerm_7))))) (bn_ok (bn_ok (bl_ok (ok_ifne d_X_leastTerm_9 (by decide))) (bl_ok (ok_lload_n rfl d_X_leastTerm_12))) (bn_ok (bl_ok (ok_goto d_X_leastTerm_13 (by decide))) (bn_ok (bl_ok (ok_lload_n rfl d_X_leastTerm_16)) (bl_ok (ok_lstore d_X_leastTerm_17 (by decide))))))) (bn_ok (bn_ok (bn_ok (bl_ok (ok_lload d_X_leastTerm_19)) (bl_ok (ok_lconst (by decide) d_X_leastTerm_21))) (bn_ok (bl_ok (ok_lcmp d_X_leastTerm_22)) (bn_ok (bl_ok (ok_ifgt d_X_leastTerm_23 (by decide))) (bl_ok (ok_lload d_X_leastTerm_26))))) (bn_ok (bn_ok (bl_ok (ok_goto d_X_leastTerm_28 (by decide))) (bl_ok (ok_lload d_X_leastTerm_31))) (bn_ok (bl_ok (ok_lload d_X_leastTerm_33)) (bn_ok (bl_ok (ok_ldiv d_X_leastTerm_35)) (bl_ok (ok_lreturn d_X_leastTerm_36 rfl)))))))
theorem d_X_compareFractions_0 : decode (qB q_X_compareFractions) 0 = .ok (.lload_n 0, 1) := by decide +kernel
theorem d_X_compareFractions_1 : decode (qB q_X_compareFractions) 1 = .ok (.lstore 8, 2) := by decide +kernel
theorem d_X_compareFractions_3 : decode (qB q_X_compareFractions) 3 = .ok (.lload_n 2, 1) := by decide +kernel
theorem d_X_compareFractions_4 : decode (qB q_X_compareFractions) 4 = .ok (.lstore 10, 2) := by decide +kernel
theorem d_X_compareFractions_6 : decode (qB q_X_compareFractions) 6 = .ok (.lload 4, 2) := by decide +kernel
theorem d_X_compareFractions_8 : decode (qB q_X_compareFractions) 8 = .ok (.lstore 12, 2) := by decide +kernel
theorem d_X_compareFractions_10 : decode (qB q_X_compareFractions) 10 = .ok (.lload 6, 2) := by decide +kernel
theorem d_X_compareFractions_12 : decode (qB q_X_compareFractions) 12 = .ok (.lstore 14, 2) := by decide +kernel
theorem d_X_compareFractions_14 : decode (qB q_X_compareFractions) 14 = .ok (.iconst 1, 1) := by decide +kernel
theorem d_X_compareFractions_15 : decode (qB q_X_compareFractions) 15 = .ok (.istore 16, 2) := by decide +kernel
theorem d_X_compareFractions_17 : decode (qB q_X_compareFractions) 17 = .ok (.iconst 0, 1) := by decide +kernel
theorem d_X_compareFractions_18 : decode (qB q_X_compareFractions) 18 = .ok (.istore 17, 2) := by decide +kernel
theorem d_X_compareFractions_20 : decode (qB q_X_compareFractions) 20 = .ok (.iload 17, 2) := by decide +kernel
theorem d_X_compareFractions_22 : decode (qB q_X_compareFractions) 22 = .ok (.sipush 200, 3) := by decide +kernel
theorem d_X_compareFractions_25 : decode (qB q_X_compareFractions) 25 = .ok (.if_icmp .ge 84, 3) := by decide +kernel
theorem d_X_compareFractions_28 : decode (qB q_X_compareFractions) 28 = .ok (.lload 10, 2) := by decide +kernel
theorem d_X_compareFractions_30 : decode (qB q_X_compareFractions) 30 = .ok (.lconst 0, 1) := by decide +kernel
theorem d_X_compareFractions_31 : decode (qB q_X_compareFractions) 31 = .ok (.lcmp, 1) := by decide +kernel
theorem d_X_compareFractions_32 : decode (qB q_X_compareFractions) 32 = .ok (.ifCond .le 77, 3) := by decide +kernel
theorem d_X_compareFractions_35 : decode (qB q_X_compareFractions) 35 = .ok (.lload 14, 2) := by decide +kernel
theorem d_X_compareFractions_37 : decode (qB q_X_compareFractions) 37 = .ok (.lconst 0, 1) := by decide +kernel
theorem d_X_compareFractions_38 : decode (qB q_X_compareFractions) 38 = .ok (.lcmp, 1) := by decide +kernel
theorem d_X_compareFractions_39 : decode (qB q_X_compareFractions) 39 = .ok (.ifCond .le 70, 3) := by decide +kernel
theorem d_X_compareFractions_42 : decode (qB q_X_compareFractions) 42 = .ok (.lload 8, 2) := by decide +kernel
theorem d_X_compareFractions_44 : decode (qB q_X_compareFractions) 44 = .ok (.lload 10, 2) := by decide +kernel
theorem d_X_compareFractions_46 : decode (qB q_X_compareFractions) 46 = .ok (.ldiv, 1) := by decide +kernel
theorem d_X_compareFractions_47 : decode (qB q_X_compareFractions) 47 = .ok (.lload 12, 2) := by decide +kernel
theorem d_X_compareFractions_49 : decode (qB q_X_compareFractions) 49 = .ok (.lload 14, 2) := by decide +kernel
theorem d_X_compareFractions_51 : decode (qB q_X_compareFractions) 51 = .ok (.ldiv, 1) := by decide +kernel
theorem d_X_compareFractions_52 : decode (qB q_X_compareFractions) 52 = .ok (.invokestatic 222, 3) := by decide +kernel
theorem d_X_compareFractions_55 : decode (qB q_X_compareFractions) 55 = .ok (.istore 18, 2) := by decide +kernel
theorem d_X_compareFractions_57 : decode (qB q_X_compareFractions) 57 = .ok (.iload 18, 2) := by decide +kernel
theorem d_X_compareFractions_59 : decode (qB q_X_compareFractions) 59 = .ok (.ifCond .eq 9, 3) := by decide +kernel
theorem d_X_compareFractions_62 : decode (qB q_X_compareFractions) 62 = .ok (.iload 16, 2) := by decide +kernel
theorem d_X_compareFractions_64 : decode (qB q_X_compareFractions) 64 = .ok (.iload 18, 2) := by decide +kernel
theorem d_X_compareFractions_66 : decode (qB q_X_compareFractions) 66 = .ok (.imul, 1) := by decide +kernel
theorem d_X_compareFractions_67 : decode (qB q_X_compareFractions) 67 = .ok (.ireturn, 1) := by decide +kernel
theorem d_X_compareFractions_68 : decode (qB q_X_compareFractions) 68 = .ok (.lload 8, 2) := by decide +kernel
theorem d_X_compareFractions_70 : decode (qB q_X_compareFractions) 70 = .ok (.lload 10, 2) := by decide +kernel
theorem d_X_compareFractions_72 : decode (qB q_X_compareFractions) 72 = .ok (.lrem, 1) := by decide +kernel
theorem d_X_compareFractions_73 : decode (qB q_X_compareFractions) 73 = .ok (.lstore 19, 2) := by decide +kernel
theorem d_X_compareFractions_75 : decode (qB q_X_compareFractions) 75 = .ok (.lload 12, 2) := by decide +kernel
theorem d_X_compareFractions_77 : decode (qB q_X_compareFractions) 77 = .ok (.lload 14, 2) := by decide +kernel
theorem d_X_compareFractions_79 : decode (qB q_X_compareFractions) 79 = .ok (.lrem, 1) := by decide +kernel
theorem d_X_compareFractions_80 : decode (qB q_X_compareFractions) 80 = .ok (.lstore 21, 2) := by decide +kernel
theorem d_X_compareFractions_82 : decode (qB q_X_compareFractions) 82 = .ok (.lload 10, 2) := by decide +kernel
theorem d_X_compareFractions_84 : decode (qB q_X_compareFractions) 84 = .ok (.lstore 8, 2) := by decide +kernel
theorem d_X_compareFractions_86 : decode (qB q_X_compareFractions) 86 = .ok (.lload 19, 2) := by decide +kernel
theorem d_X_compareFractions_88 : decode (qB q_X_compareFractions) 88 = .ok (.lstore 10, 2) := by decide +kernel
theorem d_X_compareFractions_90 : decode (qB q_X_compareFractions) 90 = .ok (.lload 14, 2) := by decide +kernel
theorem d_X_compareFractions_92 : decode (qB q_X_compareFractions) 92 = .ok (.lstore 12, 2) := by decide +kernel
theorem d_X_compareFractions_94 : decode (qB q_X_compareFractions) 94 = .ok (.lload 21, 2) := by decide +kernel
theorem d_X_compareFractions_96 : decode (qB q_X_compareFractions) 96 = .ok (.lstore 14, 2) := by decide +kernel
theorem d_X_compareFractions_98 : decode (qB q_X_compareFractions) 98 = .ok (.iload 16, 2) := by decide +kernel
theorem d_X_compareFractions_100 : decode (qB q_X_compareFractions) 100 = .ok (.ineg, 1) := by decide +kernel
theorem d_X_compareFractions_101 : decode (qB q_X_compareFractions) 101 = .ok (.istore 16, 2) := by decide +kernel
theorem d_X_compareFractions_103 : decode (qB q_X_compareFractions) 103 = .ok (.iinc 17 1, 3) := by decide +kernel
theorem d_X_compareFractions_106 : decode (qB q_X_compareFractions) 106 = .ok (.goto (-86), 3) := by decide +kernel
theorem d_X_compareFractions_109 : decode (qB q_X_compareFractions) 109 = .ok (.iload 16, 2) := by decide +kernel
theorem d_X_compareFractions_111 : decode (qB q_X_compareFractions) 111 = .ok (.lload 10, 2) := by decide +kernel
theorem d_X_compareFractions_113 : decode (qB q_X_compareFractions) 113 = .ok (.lconst 0, 1) := by decide +kernel
theorem d_X_compareFractions_114 : decode (qB q_X_compareFractions) 114 = .ok (.lcmp, 1) := by decide +kernel
theorem d_X_compareFractions_115 : decode (qB q_X_compareFractions) 115 = .ok (.ifCond .ne 7, 3) := by decide +kernel
theorem d_X_compareFractions_118 : decode (qB q_X_compareFractions) 118 = .ok (.iconst 1, 1) := by decide +kernel
theorem d_X_compareFractions_119 : decode (qB q_X_compareFractions) 119 = .ok (.goto 4, 3) := by decide +kernel
theorem d_X_compareFractions_122 : decode (qB q_X_compareFractions) 122 = .ok (.iconst 0, 1) := by decide +kernel
theorem d_X_compareFractions_123 : decode (qB q_X_compareFractions) 123 = .ok (.lload 14, 2) := by decide +kernel
theorem d_X_compareFractions_125 : decode (qB q_X_compareFractions) 125 = .ok (.lconst 0, 1) := by decide +kernel
theorem d_X_compareFractions_126 : decode (qB q_X_compareFractions) 126 = .ok (.lcmp, 1) := by decide +kernel
theorem d_X_compareFractions_127 : decode (qB q_X_compareFractions) 127 = .ok (.ifCond .ne 7, 3) := by decide +kernel
theorem d_X_compareFractions_130 : decode (qB q_X_compareFractions) 130 = .ok (.iconst 1, 1) := by decide +kernel
theorem d_X_compareFractions_131 : decode (qB q_X_compareFractions) 131 = .ok (.goto 4, 3) := by decide +kernel
theorem d_X_compareFractions_134 : decode (qB q_X_compareFractions) 134 = .ok (.iconst 0, 1) := by decide +kernel
theorem d_X_compareFractions_135 : decode (qB q_X_compareFractions) 135 = .ok (.isub, 1) := by decide +kernel
theorem d_X_compareFractions_136 : decode (qB q_X_compareFractions) 136 = .ok (.imul, 1) := by decide +kernel
theorem d_X_compareFractions_137 : decode (qB q_X_compareFractions) 137 = .ok (.ireturn, 1) := by decide +kernel
set_option maxRecDepth 10000 in
theorem k_X_compareFractions {G : mxG} (hG : mx_GG G) : ∀ pc r, t_X_compareFractions pc = some r → mx_Ok G mx_W mx_MT q_X_compareFractions pc r := (bn_ok (bn_ok (bn_ok (bn_ok (bn_ok (bn_ok (bl_ok (ok_lload_n rfl d_X_compareFractions_0)) (bl_ok (ok_lstore d_X_compareFractions_1 (by decide)))) (bn_ok (bl_ok (ok_lload_n rfl d_X_compareFractions_3)) (bl_ok (ok_lstore d_X_compareFractions_4 (by decide))))) (bn_ok (bn_ok (bl_ok (ok_lload d_X_compareFractions_6)) (bl_ok (ok_lstore d_X_compareFractions_8 (by decide)))) (bn_ok (bl_ok (ok_lload d_X_compareFractions_10)) (bn_ok (bl_ok (ok_lstore d_X_compareFractions_12 (by decide))) (bl_ok (ok_iconst (by decide) d_X_compareFractions_14)))))) (bn_ok (bn_ok (bn_ok (bl_ok (ok_istore d_X_compareFractions_15 (by decide))) (bl_ok (ok_iconst (by decide) d_X_compareFractions_17))) (bn_ok (bl_ok (ok_istore d_X_compareFractions_18 (by decide))) (bn_ok (bl_ok (ok_iload d_X_compareFractions_20)) (bl_ok (ok_sipush (by decide) d_X_compareFractions_22))))) (bn_ok (bn_ok (bl_ok (ok_icge d_X_compareFractions_25 (by decide))) (bl_ok (ok_lload d_X_compareFractions_28))) (bn_ok (bl_ok (ok_lconst (by decide) d_X_compareFractions_30)) (bn_ok (bl_ok (ok_lcmp d_X_compareFractions_31)) (bl_ok (ok_ifle d_X_compareFractions_32 (by decide)))))))) (bn_ok (bn_ok (bn_ok (bn_ok (bl_ok (ok_lload d_X_compareFractions_35)) (bl_ok (ok_lconst (by decide) d_X_compareFractions_37))) (bn_ok (bl_ok (ok_lcmp d_X_compareFractions_38)) (bl_ok (ok_ifle d_X_compareFractions_39 (by decide))))) (bn_ok (bn_ok (bl_ok (ok_lload d_X_compareFractions_42)) (bl_ok (ok_lload d_X_compareFractions_44))) (bn_ok (bl_ok (ok_ldiv d_X_compareFractions_46)) (bn_ok (bl_ok (ok_lload d_X_compareFractions_47)) (bl_ok (ok_lload d_X_compareFractions_49)))))) (bn_ok (bn_ok (bn_ok (bl_ok (ok_ldiv d_X_compareFractions_51)) (bl_ok (ok_cs mx_W_good d_X_compareFractions_52 (mt_JL_compare) mk_JL_compare w_534 w_535 (by decide) (by decide)))) (bn_ok (bl_ok (ok_istore d_X_compareFractions_55 (by decide))) (bn_ok (bl_ok (ok_iload d_X_compareFractions_57)) (bl_ok (ok_ifeq d_X_compareFractions_59 (by decide)))))) (bn_ok (bn_ok (bl_ok (ok_iload d_X_compareFractions_62)) (bl_ok (ok_iload d_X_compareFractions_64))) (bn_ok (bl_ok (ok_imul d_X_compareFractions_66)) (bn_ok (bl_ok (ok_ireturn d_X_compareFractions_67 rfl)) (bl_ok (ok_lload d_X_compareFractions_68)))))))) (bn_ok (bn_ok (bn_ok (bn_ok (bn_ok (bl_ok (ok_lload d_X_compareFractions_70)) (bl_ok (ok_lrem d_X_compareFractions_72))) (bn_ok (bl_ok (ok_lstore d_X_compareFractions_73 (by decide))) (bl_ok (ok_lload d_X_compareFractions_75)))) (bn_ok (bn_ok (bl_ok (ok_lload d_X_compareFractions_77)) (bl_ok (ok_lrem d_X_compareFractions_79))) (bn_ok (bl_ok (ok_lstore d_X_compareFractions_80 (by decide))) (bn_ok (bl_ok (ok_lload d_X_compareFractions_82)) (bl_ok (ok_lstore d_X_compareFractions_84 (by decide))))))) (bn_ok (bn_ok (bn_ok (bl_ok (ok_lload d_X_compareFractions_86)) (bl_ok (ok_lstore d_X_compareFractions_88 (by decide)))) (bn_ok (bl_ok (ok_lload d_X_compareFractions_90)) (bn_ok (bl_ok (ok_lstore d_X_compareFractions_92 (by decide))) (bl_ok (ok_lload d_X_compareFractions_94))))) (bn_ok (bn_ok (bl_ok (ok_lstore d_X_compareFractions_96 (by decide))) (bl_ok (ok_iload d_X_compareFractions_98))) (bn_ok (bl_ok (ok_ineg d_X_compareFractions_100)) (bn_ok (bl_ok (ok_istore d_X_compareFractions_101 (by decide))) (bl_ok (ok_iinc d_X_compareFractions_103 (by decide) (by decide)))))))) (bn_ok (bn_ok (bn_ok (bn_ok (bl_ok (ok_goto d_X_compareFractions_106 (by decide))) (bl_ok (ok_iload d_X_compareFractions_109))) (bn_ok (bl_ok (ok_lload d_X_compareFractions_111)) (bl_ok (ok_lconst (by decide) d_X_compareFractions_113)))) (bn_ok (bn_ok (bl_ok (ok_lcmp d_X_compareFractions_114)) (bl_ok (ok_ifne d_X_compareFractions_115 (by decide)))) (bn_ok (bl_ok (ok_iconst (by decide) d_X_compareFractions_118)) (bn_ok (bl_ok (ok_goto d_X_compareFractions_119 (by decide))) (bl_ok (ok_iconst (by decide) d_X_compareFractions_122)))))) (bn_ok (bn_ok (bn_ok (bl_ok (ok_lload d_X_compareFractions_123)) (bl_ok (ok_lconst (by decide) d_X_compareFractions_125))) (bn_ok (bl_ok (ok_lcmp d_X_compareFractions_126)) (bn_ok (bl_ok (ok_ifne d_X_compareFractions_127 (by decide))) (bl_ok (ok_iconst (by decide) d_X_compareFractions_130))))) (bn_ok (bn_ok (bl_ok (ok_goto d_X_compareFractions_131 (by decide))) (bl_ok (ok_iconst (by decide) d_X_compareFractions_134))) (bn_ok (bl_ok (ok_isub d_X_compareFractions_135)) (bn_ok (bl_ok (ok_imul d_X_compareFractions_136)) (bl_ok (ok_ireturn d_X_compareFractions_137 rfl)))))))))
