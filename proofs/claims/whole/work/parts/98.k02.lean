/-! MAKING THE OBJECTS: ground, queue, search, ways -/
section GIM
variable {K : Option Value → mxH → Prop}
theorem ar0_i (n : Nat) : mx_ar0 0 n = .inl (0, n, .inl (fun _ => nI 0)) := rfl
theorem ar0_l (n : Nat) : mx_ar0 1 n = .inl (1, n, .inr (.inl (fun _ => lN 0))) := rfl
theorem ar0_z (n : Nat) : mx_ar0 2 n = .inl (2, n, .inl (fun _ => nI 0)) := rfl
theorem ar0_a (n : Nat) : mx_ar0 3 n = .inl (3, n, .inr (.inr (.inr (.inr (fun _ => none))))) := rfl
theorem pk0 (c : Nat) : pkm gs0 c = 0 := by unfold pkm gs0; simp
set_option maxHeartbeats 4000000 in
theorem c_G_init {h : mxH} {w hh : Nat} (hw : 0 < w) (hw2 : w ≤ 12) (hh2 : hh ≤ 12) (hn : w * hh ≤ 144) (x17 : h.1 17 = .inr (1, [.int 0, .int 0, .int 0, .null, .null, .null, .null, .null, .null, .null, .null, .null, .null, .null, .null, .int 0, .int 0, .int 0])) (n18 : h.2.1 = 18) (x1 : h.1 1 = .inl (9, 16, .inl (fun j => ar_1.getD j 0))) (x2 : h.1 2 = .inl (9, 16, .inl (fun j => ar_2.getD j 0)))
    (kk : ∀ (h' : mxH), XG h' w hh gs0 → (∀ k, k < 17 → h'.1 k = h.1 k) → h'.2.1 = 30 → h'.2.2 ≤ h.2.2 + 5000 → K none h') :
    mcl mx_P 28 [.ref 17, .int (nI w), .int (nI hh)] h K := by
  rw [mcl]
  have l1 : ¬ 50000000 < w * hh := by omega
  have l2 : ¬ 50000000 < w * hh * 16 := by omega
  have l3 : ¬ 50000000 < 4 * (w * hh) := by omega
  have l4 : ¬ 50000000 < 4 := by omega
  have q1 : ¬ ((17 : Nat) = 18) := by omega
  have q2 : ¬ ((17 : Nat) = 19) := by omega
  have q3 : ¬ ((17 : Nat) = 20) := by omega
  simp (disch := omega) only [mx_li, mx_ll, mx_la, mx_get, mx_s1, mx_s2, mx_tl, mx_nl, mx_ic, mx_op, mx_oc, mx_fd, mx_lg, mx_ls, mx_pd, mx_len, mx_isc, mx_ps, mx_ent, mx_rv, ↓reduceIte, List.length_cons, List.length_nil, Nat.reduceAdd, Nat.reduceLT, Nat.reduceEqDiff, Nat.reduceBEq, true_and, and_true, or_false, or_true, false_or, true_or, and_self, not_false_eq_true, not_true_eq_false, mob_g0, mob_g1, mob_g2, mob_g3, mob_g4, mob_g5, mob_g6, mob_g7, mob_g8, mob_g9, mob_g10, mob_g11, mob_g12, mob_g13, mob_g14, mob_g15, mob_g16, mob_g17, mob_g18, mob_g19, mob_g20, mob_g21, mob_g22, mob_g23, mob_g24, mob_g25, mob_g26, mob_g27, mob_g28, mob_g29, mob_g30, mob_g31, mob_g32, mob_s0, mob_s1, mob_s11, mob_s12, mob_s13, mob_s14, mob_s15, mob_s19, mob_s20, mob_s21, mob_s22, mob_s23, mob_s24, mob_s31, mob_len, xob_g0, xob_g1, xob_g2, xob_g3, xob_g4, xob_g5, xob_g6, xob_s3, xob_s4, xob_s5, xob_s6, xob_len, gob_g0, gob_g1, gob_g2, gob_g3, gob_g4, gob_g5, gob_g6, gob_g7, gob_g8, gob_g9, gob_g10, gob_g11, gob_g12, gob_g13, gob_g14, gob_g15, gob_g16, gob_g17, gob_s0, gob_s1, gob_s2, gob_s15, gob_s16, gob_s17, gob_len, sob_g0, sob_g1, sob_g2, sob_g3, sob_g4, sob_g5, sob_g6, sob_g7, sob_g8, sob_g9, sob_s5, sob_s6, sob_s7, sob_s8, sob_s9, sob_len, qob_g0, qob_g1, qob_g2, qob_g3, qob_g4, qob_g5, qob_s0, qob_s1, qob_s2, qob_s3, qob_s4, qob_s5, qob_len, wob_g0, wob_g1, wob_g2, wob_s0, wob_s1, wob_s2, wob_len, pob_g0, pob_g1, pob_g2, pob_g3, pob_g4, pob_s0, pob_s1, pob_s2, pob_s3, pob_s4, pob_len, n_lt, n_eq, n_lt0, n_0lt, n_eq0, n_cl, n_add, n_mul, n_l, n_eqm, n_ltm, n_mlt, n_m1, l_lt, l_eq, l_lt0, l_0lt, l_eq0, l_add, l_mul, l_i, g_lt, g_eq, g_gt, n_div, n_rem, l_div, l_mod, n01_0, n01_1, n_1e, n_0e1, ald_i, ald_o, ald_l, ald_z, ald_a, ast_i, ast_l, ast_z, ast_a, zI_t, zI_f, zI_ok, zI_eq0, r_G_init_0, r_G_init_1, r_G_init_4, r_G_init_5, r_G_init_6, r_G_init_9, r_G_init_10, r_G_init_11, r_G_init_14, r_G_init_15, r_G_init_16, r_G_init_17, r_G_init_18, r_G_init_21, r_G_init_22, r_G_init_23, r_G_init_26, r_G_init_28, r_G_init_31, r_G_init_32, r_G_init_33, r_G_init_36, r_G_init_38, r_G_init_41, r_G_init_42, x17, n18, l1, or_self, up_1, up_2, mk_1, mk_21, q1, q2]
  have c1 : ∀ (hC : mxH), hC.1 17 = .inr (1, [.int (nI w), .int (nI hh), .int (nI (w * hh)), .ref 18, .ref 19, .ref 20, .null, .null, .null, .null, .null, .null, .null, .null, .null, .int 0, .int 0, .int 0]) → hC.1 18 = .inl (0, w * hh, .inl (fun c => if c < w * hh then nI (c % w) else 0)) → hC.1 19 = .inl (0, w * hh, .inl (fun c => if c < w * hh then nI (c / w) else 0)) → hC.1 20 = .inl (0, w * hh * 16, .inl (fun i => if i < w * hh * 16 then oI (nbr w hh (i / 16) (i % 16)) else 0)) → (∀ k, k < 17 → hC.1 k = h.1 k) → hC.2.1 = 21 → hC.2.2 ≤ h.2.2 + 18 * (w * hh) → ∀ T, mw mx_P 28 155 (some (.ref 17) :: some (.int (nI w)) :: some (.int (nI hh)) :: some (.int (nI (w * hh * 16))) :: T) [] hC K := by
    intro hC y17 y18 y19 y20 yk y21 y22 T
    have z1 : ¬ ((17 : Nat) = 21) := by omega
    have z2 : ¬ ((17 : Nat) = 22) := by omega
    have z3 : ¬ ((17 : Nat) = 23) := by omega
    have z4 : ¬ ((17 : Nat) = 24) := by omega
    have z5 : ¬ ((17 : Nat) = 25) := by omega
    have z6 : ¬ ((17 : Nat) = 26) := by omega
    have z7 : ¬ ((17 : Nat) = 27) := by omega
    have z8 : ¬ ((17 : Nat) = 28) := by omega
    have z9 : ¬ ((17 : Nat) = 29) := by omega
    rw [r_G_init_155]
    simp (disch := omega) only [mx_li, mx_ll, mx_la, mx_get, mx_s1, mx_s2, mx_tl, mx_nl, mx_ic, mx_op, mx_oc, mx_fd, mx_lg, mx_ls, mx_pd, mx_len, mx_isc, mx_ps, mx_ent, mx_rv, ↓reduceIte, List.length_cons, List.length_nil, Nat.reduceAdd, Nat.reduceLT, Nat.reduceEqDiff, Nat.reduceBEq, true_and, and_true, or_false, or_true, false_or, true_or, and_self, not_false_eq_true, not_true_eq_false, mob_g0, mob_g1, mob_g2, mob_g3, mob_g4, mob_g5, mob_g6, mob_g7, mob_g8, mob_g9, mob_g10, mob_g11, mob_g12, mob_g13, mob_g14, mob_g15, mob_g16, mob_g17, mob_g18, mob_g19, mob_g20, mob_g21, mob_g22, mob_g23, mob_g24, mob_g25, mob_g26, mob_g27, mob_g28, mob_g29, mob_g30, mob_g31, mob_g32, mob_s0, mob_s1, mob_s11, mob_s12, mob_s13, mob_s14, mob_s15, mob_s19, mob_s20, mob_s21, mob_s22, mob_s23, mob_s24, mob_s31, mob_len, xob_g0, xob_g1, xob_g2, xob_g3, xob_g4, xob_g5, xob_g6, xob_s3, xob_s4, xob_s5, xob_s6, xob_len, gob_g0, gob_g1, gob_g2, gob_g3, gob_g4, gob_g5, gob_g6, gob_g7, gob_g8, gob_g9, gob_g10, gob_g11, gob_g12, gob_g13, gob_g14, gob_g15, gob_g16, gob_g17, gob_s0, gob_s1, gob_s2, gob_s15, gob_s16, gob_s17, gob_len, sob_g0, sob_g1, sob_g2, sob_g3, sob_g4, sob_g5, sob_g6, sob_g7, sob_g8, sob_g9, sob_s5, sob_s6, sob_s7, sob_s8, sob_s9, sob_len, qob_g0, qob_g1, qob_g2, qob_g3, qob_g4, qob_g5, qob_s0, qob_s1, qob_s2, qob_s3, qob_s4, qob_s5, qob_len, wob_g0, wob_g1, wob_g2, wob_s0, wob_s1, wob_s2, wob_len, pob_g0, pob_g1, pob_g2, pob_g3, pob_g4, pob_s0, pob_s1, pob_s2, pob_s3, pob_s4, pob_len, n_lt, n_eq, n_lt0, n_0lt, n_eq0, n_cl, n_add, n_mul, n_l, n_eqm, n_ltm, n_mlt, n_m1, l_lt, l_eq, l_lt0, l_0lt, l_eq0, l_add, l_mul, l_i, g_lt, g_eq, g_gt, n_div, n_rem, l_div, l_mod, n01_0, n01_1, n_1e, n_0e1, ald_i, ald_o, ald_l, ald_z, ald_a, ast_i, ast_l, ast_z, ast_a, zI_t, zI_f, zI_ok, zI_eq0, r_G_init_156, r_G_init_157, r_G_init_160, r_G_init_162, r_G_init_165, r_G_init_166, r_G_init_167, r_G_init_170, r_G_init_172, r_G_init_175, r_G_init_176, r_G_init_177, r_G_init_180, r_G_init_182, r_G_init_185, r_G_init_186, r_G_init_187, r_G_init_190, r_G_init_192, r_G_init_195, r_G_init_196, r_G_init_197, r_G_init_200, r_G_init_202, r_G_init_205, r_G_init_206, r_G_init_207, r_G_init_210, r_G_init_212, r_G_init_215, r_G_init_216, r_G_init_217, r_G_init_220, r_G_init_222, r_G_init_225, r_G_init_226, r_G_init_227, r_G_init_228, r_G_init_231, r_G_init_232, r_G_init_234, r_G_init_237, r_G_init_238, r_G_init_239, r_G_init_241, r_G_init_244, r_G_init_245, r_G_init_246, r_G_init_249, r_G_init_250, r_G_init_253, r_G_init_256, r_G_init_257, r_G_init_259, r_G_init_262, y17, y21, l1, l3, l4, or_self, up_1, up_2, mk_1, mk_21, z1, z2, z3, z4, z5, z6, z7, z8, z9]
    refine kk _ ⟨?_, ?_, ?_, ?_, ?_, ?_, ?_, ?_, ?_, ?_, ?_, ?_, ?_⟩ (fun k k1 => ?_) ?_ ?_
    · simp (disch := (first | omega | (simp only [up_2, mk_21]; first | done | omega))) only [up_e, up_n, mk_e, mk_n]; rfl
    · simp (disch := (first | omega | (simp only [up_2, mk_21]; first | done | omega))) only [up_e, up_n, mk_e, mk_n]; exact y18
    · simp (disch := (first | omega | (simp only [up_2, mk_21]; first | done | omega))) only [up_e, up_n, mk_e, mk_n]; exact y19
    · simp (disch := (first | omega | (simp only [up_2, mk_21]; first | done | omega))) only [up_e, up_n, mk_e, mk_n]; exact y20
    · simp (disch := (first | omega | (simp only [up_2, mk_21]; first | done | omega))) only [up_e, up_n, mk_e, mk_n]; rfl
    · simp (disch := (first | omega | (simp only [up_2, mk_21]; first | done | omega))) only [up_e, up_n, mk_e, mk_n]; rfl
    · simp (disch := (first | omega | (simp only [up_2, mk_21]; first | done | omega))) only [up_e, up_n, mk_e, mk_n]; rfl
    · simp (disch := (first | omega | (simp only [up_2, mk_21]; first | done | omega))) only [up_e, up_n, mk_e, mk_n]; rfl
    · simp (disch := (first | omega | (simp only [up_2, mk_21]; first | done | omega))) only [up_e, up_n, mk_e, mk_n]; rfl
    · simp (disch := (first | omega | (simp only [up_2, mk_21]; first | done | omega))) only [up_e, up_n, mk_e, mk_n]; rfl
    · simp (disch := (first | omega | (simp only [up_2, mk_21]; first | done | omega))) only [up_e, up_n, mk_e, mk_n]
      rw [ar0_i]
      congr 4
      funext c
      by_cases q : c < 144
      · rw [if_pos q, pk0]
      · rw [if_neg q]; rfl
    · simp (disch := (first | omega | (simp only [up_2, mk_21]; first | done | omega))) only [up_e, up_n, mk_e, mk_n]; rfl
    · simp (disch := (first | omega | (simp only [up_2, mk_21]; first | done | omega))) only [up_e, up_n, mk_e, mk_n]; rfl
    · simp (disch := (first | omega | (simp only [up_2, mk_21]; first | done | omega))) only [up_e, up_n, mk_e, mk_n]; exact yk k k1
    · simp only [up_2, mk_21]; omega
    · simp only [up_2, mk_22]; omega
  have b1 : ∀ (hB : mxH), hB.1 17 = .inr (1, [.int (nI w), .int (nI hh), .int (nI (w * hh)), .ref 18, .ref 19, .null, .null, .null, .null, .null, .null, .null, .null, .null, .null, .int 0, .int 0, .int 0]) → hB.1 18 = .inl (0, w * hh, .inl (fun c => if c < w * hh then nI (c % w) else 0)) → hB.1 19 = .inl (0, w * hh, .inl (fun c => if c < w * hh then nI (c / w) else 0)) → (∀ k, k < 17 → hB.1 k = h.1 k) → hB.2.1 = 20 → hB.2.2 ≤ h.2.2 + 2 * (w * hh) → mw mx_P 28 75 [some (.ref 17), some (.int (nI w)), some (.int (nI hh)), some (.int (nI (w * hh)))] [] hB K := by
    intro hB y17 y18 y19 yk y21 y22
    rw [r_G_init_75]
    simp (disch := omega) only [mx_li, mx_ll, mx_la, mx_get, mx_s1, mx_s2, mx_tl, mx_nl, mx_ic, mx_op, mx_oc, mx_fd, mx_lg, mx_ls, mx_pd, mx_len, mx_isc, mx_ps, mx_ent, mx_rv, ↓reduceIte, List.length_cons, List.length_nil, Nat.reduceAdd, Nat.reduceLT, Nat.reduceEqDiff, Nat.reduceBEq, true_and, and_true, or_false, or_true, false_or, true_or, and_self, not_false_eq_true, not_true_eq_false, mob_g0, mob_g1, mob_g2, mob_g3, mob_g4, mob_g5, mob_g6, mob_g7, mob_g8, mob_g9, mob_g10, mob_g11, mob_g12, mob_g13, mob_g14, mob_g15, mob_g16, mob_g17, mob_g18, mob_g19, mob_g20, mob_g21, mob_g22, mob_g23, mob_g24, mob_g25, mob_g26, mob_g27, mob_g28, mob_g29, mob_g30, mob_g31, mob_g32, mob_s0, mob_s1, mob_s11, mob_s12, mob_s13, mob_s14, mob_s15, mob_s19, mob_s20, mob_s21, mob_s22, mob_s23, mob_s24, mob_s31, mob_len, xob_g0, xob_g1, xob_g2, xob_g3, xob_g4, xob_g5, xob_g6, xob_s3, xob_s4, xob_s5, xob_s6, xob_len, gob_g0, gob_g1, gob_g2, gob_g3, gob_g4, gob_g5, gob_g6, gob_g7, gob_g8, gob_g9, gob_g10, gob_g11, gob_g12, gob_g13, gob_g14, gob_g15, gob_g16, gob_g17, gob_s0, gob_s1, gob_s2, gob_s15, gob_s16, gob_s17, gob_len, sob_g0, sob_g1, sob_g2, sob_g3, sob_g4, sob_g5, sob_g6, sob_g7, sob_g8, sob_g9, sob_s5, sob_s6, sob_s7, sob_s8, sob_s9, sob_len, qob_g0, qob_g1, qob_g2, qob_g3, qob_g4, qob_g5, qob_s0, qob_s1, qob_s2, qob_s3, qob_s4, qob_s5, qob_len, wob_g0, wob_g1, wob_g2, wob_s0, wob_s1, wob_s2, wob_len, pob_g0, pob_g1, pob_g2, pob_g3, pob_g4, pob_s0, pob_s1, pob_s2, pob_s3, pob_s4, pob_len, n_lt, n_eq, n_lt0, n_0lt, n_eq0, n_cl, n_add, n_mul, n_l, n_eqm, n_ltm, n_mlt, n_m1, l_lt, l_eq, l_lt0, l_0lt, l_eq0, l_add, l_mul, l_i, g_lt, g_eq, g_gt, n_div, n_rem, l_div, l_mod, n01_0, n01_1, n_1e, n_0e1, ald_i, ald_o, ald_l, ald_z, ald_a, ast_i, ast_l, ast_z, ast_a, zI_t, zI_f, zI_ok, zI_eq0, r_G_init_76, r_G_init_77, r_G_init_80, r_G_init_82, r_G_init_83, r_G_init_85, r_G_init_88, r_G_init_89, y17, y21, l2, or_self, up_1, up_2, mk_1, mk_21, q3]
    have d1 : ∀ (hD : mxH), hD.1 17 = .inr (1, [.int (nI w), .int (nI hh), .int (nI (w * hh)), .ref 18, .ref 19, .ref 20, .null, .null, .null, .null, .null, .null, .null, .null, .null, .int 0, .int 0, .int 0]) → hD.1 18 = .inl (0, w * hh, .inl (fun c => if c < w * hh then nI (c % w) else 0)) → hD.1 19 = .inl (0, w * hh, .inl (fun c => if c < w * hh then nI (c / w) else 0)) → hD.1 20 = .inl (0, w * hh * 16, .inl (fun _ => nI 0)) → (∀ k, k < 17 → hD.1 k = h.1 k) → hD.2.1 = 21 → hD.2.2 ≤ h.2.2 + 18 * (w * hh) → mw mx_P 28 90 [some (.ref 17), some (.int (nI w)), some (.int (nI hh)), some (.int (nI 0))] [] hD K := by
      intro hD u17 u18 u19 u20 uk u21 u22
      refine l_G_init2 (h0 := hD) hw hw2 hh2 hn rfl rfl rfl u17 ((uk 1 (by omega)).trans x1) ((uk 2 (by omega)).trans x2) u18 u19 (fun h' T e1 e2 e3 => ?_) (w * hh * 16) 0 hD [] (by omega) ?_ (fun _ _ => rfl) rfl
      · exact c1 h' ((e2 17 (by omega)).trans u17) ((e2 18 (by omega)).trans u18) ((e2 19 (by omega)).trans u19) e1 (fun k hk => (e2 k (by omega)).trans (uk k hk)) (by rw [e3]; exact u21) (by rw [e3]; exact u22) T
      · rw [u20]
        congr 4
    refine d1 _ ?_ ?_ ?_ ?_ (fun k hk => ?_) ?_ ?_
    · simp (disch := (first | omega | (simp only [up_2, mk_21]; first | done | omega))) only [up_e, up_n, mk_e, mk_n]
    · simp (disch := (first | omega | (simp only [up_2, mk_21]; first | done | omega))) only [up_e, up_n, mk_e, mk_n]; exact y18
    · simp (disch := (first | omega | (simp only [up_2, mk_21]; first | done | omega))) only [up_e, up_n, mk_e, mk_n]; exact y19
    · simp (disch := (first | omega | (simp only [up_2, mk_21]; first | done | omega))) only [up_e, up_n, mk_e, mk_n]; exact ar0_i _
    · simp (disch := (first | omega | (simp only [up_2, mk_21]; first | done | omega))) only [up_e, up_n, mk_e, mk_n]; exact yk k hk
    · simp only [up_2, mk_21]; omega
    · simp only [up_2, mk_22]; omega
  have a1 : ∀ (hA : mxH), hA.1 17 = .inr (1, [.int (nI w), .int (nI hh), .int (nI (w * hh)), .ref 18, .ref 19, .null, .null, .null, .null, .null, .null, .null, .null, .null, .null, .int 0, .int 0, .int 0]) → hA.1 18 = .inl (0, w * hh, .inl (fun _ => nI 0)) → hA.1 19 = .inl (0, w * hh, .inl (fun _ => nI 0)) → (∀ k, k < 17 → hA.1 k = h.1 k) → hA.2.1 = 20 → hA.2.2 ≤ h.2.2 + 2 * (w * hh) → mw mx_P 28 43 [some (.ref 17), some (.int (nI w)), some (.int (nI hh)), some (.int (nI 0))] [] hA K := by
    intro hA y17 y18 y19 yk y21 y22
    refine l_G_init1 (h0 := hA) hw hn rfl rfl rfl y17 hw2 (fun h' e1 e2 e3 e4 => ?_) (w * hh) 0 hA (by omega) ?_ ?_ (fun _ _ _ => rfl) rfl
    · exact b1 h' ((e3 17 (by omega) (by omega)).trans y17) e1 e2 (fun k hk => (e3 k (by omega) (by omega)).trans (yk k hk)) (by rw [e4]; exact y21) (by rw [e4]; exact y22)
    · rw [y18]; congr 4
    · rw [y19]; congr 4
  refine a1 _ ?_ ?_ ?_ (fun k hk => ?_) ?_ ?_
  · simp (disch := (first | omega | (simp only [up_2, mk_21]; first | done | omega))) only [up_e, up_n, mk_e, mk_n]
  · simp (disch := (first | omega | (simp only [up_2, mk_21]; first | done | omega))) only [up_e, up_n, mk_e, mk_n]; exact ar0_i _
  · simp (disch := (first | omega | (simp only [up_2, mk_21]; first | done | omega))) only [up_e, up_n, mk_e, mk_n]; exact ar0_i _
  · simp (disch := (first | omega | (simp only [up_2, mk_21]; first | done | omega))) only [up_e, up_n, mk_e, mk_n]
  · simp only [up_2, mk_21]; omega
  · simp only [up_2, mk_22]; omega
end GIM
