/-! BOTH OBJECTS: calls that read -/
section OPR
variable {h : mxH} {w hh : Nat} {gs : mG} {sh : Nat → Nat} {m N : Nat} {bd : Int64} {pv : Int32} {fr en : Nat} {wl : Nat → Nat} {wc wd : Nat → Nat → Nat} {j : Nat}
theorem st_at (hs : OKp w hh gs sh m N pv fr en wl wc wd) (hX : XE h w hh gs sh m N bd pv wl wc wd j) (k ax : Int32) : ∃ r, STEP 8 113 [.int k, .int ax] h (w, hh, gs, sh, m, N, bd, pv, fr, en, wl, wc, wd) j (.int r) := by
  obtain ⟨⟨w0, w12⟩, ⟨h0, h12⟩, hn, hB, hm, hN, hpv, hv, -⟩ := id hs
  exact ⟨_, STEP.idle hs hX (fun K hk => (e_X_at hB hn hm hX (fun k hk => (hv k hk).1.2) (fun k i hk hi => (hv k hk).2.2.2.1 i hi) K).mpr hk) (fun h1 K hM hk => (e_M_at w0 w12 hm hM (fun k i hk hi => by have := (hv k hk).2.2.2.1 i hi; omega) K).mpr hk)⟩
theorem st_cost (hs : OKp w hh gs sh m N pv fr en wl wc wd) (hX : XE h w hh gs sh m N bd pv wl wc wd j) (p : Int32) : ∃ r, STEP 9 117 [.int p] h (w, hh, gs, sh, m, N, bd, pv, fr, en, wl, wc, wd) j (.long r) := by
  obtain ⟨⟨w0, w12⟩, ⟨h0, h12⟩, hn, hB, hm, hN, hpv, hv, -⟩ := id hs
  exact ⟨_, STEP.idle hs hX (fun K hk => (e_X_cost hB hn hm hX hv K).mpr hk) (fun h1 K hM hk => (e_M_cost hB hn hm hM hv K).mpr hk)⟩
theorem st_turns (hs : OKp w hh gs sh m N pv fr en wl wc wd) (hX : XE h w hh gs sh m N bd pv wl wc wd j) : ∃ r, STEP 18 121 [] h (w, hh, gs, sh, m, N, bd, pv, fr, en, wl, wc, wd) j (.int r) := by
  obtain ⟨⟨w0, w12⟩, ⟨h0, h12⟩, hn, hB, hm, hN, hpv, hv, -⟩ := id hs
  exact ⟨_, STEP.idle hs hX (fun K hk => (e_X_turns hm hX hv K).mpr hk) (fun h1 K hM hk => (e_M_turns hm hM hv K).mpr hk)⟩
theorem st_sum (hs : OKp w hh gs sh m N pv fr en wl wc wd) (hX : XE h w hh gs sh m N bd pv wl wc wd j) (z : Int32) : ∃ r, STEP 17 120 [.int z] h (w, hh, gs, sh, m, N, bd, pv, fr, en, wl, wc, wd) j (.long r) := by
  obtain ⟨⟨w0, w12⟩, ⟨h0, h12⟩, hn, hB, hm, hN, hpv, hv, -⟩ := id hs
  exact ⟨_, STEP.idle hs hX (fun K hk => (e_X_sum hB hn hm hX hv K).mpr hk) (fun h1 K hM hk => (e_M_sum hB hn hm hM hv K).mpr hk)⟩
theorem st_keeps (hs : OKp w hh gs sh m N pv fr en wl wc wd) (hX : XE h w hh gs sh m N bd pv wl wc wd j) : ∃ r, STEP 19 122 [] h (w, hh, gs, sh, m, N, bd, pv, fr, en, wl, wc, wd) j (.int r) := by
  obtain ⟨⟨w0, w12⟩, ⟨h0, h12⟩, hn, hB, hm, hN, hpv, hv, hg, -⟩ := id hs
  exact ⟨_, STEP.idle hs hX (fun K hk => (e_X_keeps hB hn hm hX hv hg K).mpr hk) (fun h1 K hM hk => (e_M_keeps hB hn hm hM hv K).mpr hk)⟩
theorem st_bound (hs : OKp w hh gs sh m N pv fr en wl wc wd) (hX : XE h w hh gs sh m N bd pv wl wc wd j) : ∃ r, STEP 10 111 [] h (w, hh, gs, sh, m, N, bd, pv, fr, en, wl, wc, wd) j (.long r) := by
  obtain ⟨xg, x16⟩ := hX.g
  refine ⟨bd, STEP.idle hs hX (fun K hk => ?_) (fun h1 K hM hk => ?_)⟩
  · rw [mcl]
    simp (disch := omega) only [mx_li, mx_ll, mx_la, mx_get, mx_s1, mx_s2, mx_tl, mx_nl, mx_ic, mx_op, mx_oc, mx_fd, mx_lg, mx_ls, mx_pd, mx_len, mx_isc, mx_ps, mx_ent, mx_rv, ↓reduceIte, List.length_cons, List.length_nil, Nat.reduceAdd, Nat.reduceLT, Nat.reduceEqDiff, Nat.reduceBEq, true_and, and_true, or_false, or_true, false_or, true_or, and_self, not_false_eq_true, not_true_eq_false, mob_g0, mob_g1, mob_g2, mob_g3, mob_g4, mob_g5, mob_g6, mob_g7, mob_g8, mob_g9, mob_g10, mob_g11, mob_g12, mob_g13, mob_g14, mob_g15, mob_g16, mob_g17, mob_g18, mob_g19, mob_g20, mob_g21, mob_g22, mob_g23, mob_g24, mob_g25, mob_g26, mob_g27, mob_g28, mob_g29, mob_g30, mob_g31, mob_g32, mob_s0, mob_s1, mob_s11, mob_s12, mob_s13, mob_s14, mob_s15, mob_s19, mob_s20, mob_s21, mob_s22, mob_s23, mob_s24, mob_s31, mob_len, xob_g0, xob_g1, xob_g2, xob_g3, xob_g4, xob_g5, xob_g6, xob_s3, xob_s4, xob_s5, xob_s6, xob_len, gob_g0, gob_g1, gob_g2, gob_g3, gob_g4, gob_g5, gob_g6, gob_g7, gob_g8, gob_g9, gob_g10, gob_g11, gob_g12, gob_g13, gob_g14, gob_g15, gob_g16, gob_g17, gob_s0, gob_s1, gob_s2, gob_s15, gob_s16, gob_s17, gob_len, sob_g0, sob_g1, sob_g2, sob_g3, sob_g4, sob_g5, sob_g6, sob_g7, sob_g8, sob_g9, sob_s5, sob_s6, sob_s7, sob_s8, sob_s9, sob_len, qob_g0, qob_g1, qob_g2, qob_g3, qob_g4, qob_g5, qob_s0, qob_s1, qob_s2, qob_s3, qob_s4, qob_s5, qob_len, wob_g0, wob_g1, wob_g2, wob_s0, wob_s1, wob_s2, wob_len, pob_g0, pob_g1, pob_g2, pob_g3, pob_g4, pob_s0, pob_s1, pob_s2, pob_s3, pob_s4, pob_len, n_lt, n_eq, n_lt0, n_0lt, n_eq0, n_cl, n_add, n_mul, n_l, n_eqm, n_ltm, n_mlt, n_m1, l_lt, l_eq, l_lt0, l_0lt, l_eq0, l_add, l_mul, l_i, g_lt, g_eq, g_gt, n_div, n_rem, l_div, l_mod, n01_0, n01_1, n_1e, n_0e1, ald_i, ald_o, ald_l, ald_z, ald_a, ast_i, ast_l, ast_z, ast_a, zI_t, zI_f, zI_ok, zI_eq0, r_X_bound_0, r_X_bound_1, r_X_bound_4, x16]
    exact hk
  · obtain ⟨a1, ⟨fr', en', sm, sz, a2, b2⟩, -⟩ := hM
    rw [mcl]
    simp (disch := omega) only [mx_li, mx_ll, mx_la, mx_get, mx_s1, mx_s2, mx_tl, mx_nl, mx_ic, mx_op, mx_oc, mx_fd, mx_lg, mx_ls, mx_pd, mx_len, mx_isc, mx_ps, mx_ent, mx_rv, ↓reduceIte, List.length_cons, List.length_nil, Nat.reduceAdd, Nat.reduceLT, Nat.reduceEqDiff, Nat.reduceBEq, true_and, and_true, or_false, or_true, false_or, true_or, and_self, not_false_eq_true, not_true_eq_false, mob_g0, mob_g1, mob_g2, mob_g3, mob_g4, mob_g5, mob_g6, mob_g7, mob_g8, mob_g9, mob_g10, mob_g11, mob_g12, mob_g13, mob_g14, mob_g15, mob_g16, mob_g17, mob_g18, mob_g19, mob_g20, mob_g21, mob_g22, mob_g23, mob_g24, mob_g25, mob_g26, mob_g27, mob_g28, mob_g29, mob_g30, mob_g31, mob_g32, mob_s0, mob_s1, mob_s11, mob_s12, mob_s13, mob_s14, mob_s15, mob_s19, mob_s20, mob_s21, mob_s22, mob_s23, mob_s24, mob_s31, mob_len, xob_g0, xob_g1, xob_g2, xob_g3, xob_g4, xob_g5, xob_g6, xob_s3, xob_s4, xob_s5, xob_s6, xob_len, gob_g0, gob_g1, gob_g2, gob_g3, gob_g4, gob_g5, gob_g6, gob_g7, gob_g8, gob_g9, gob_g10, gob_g11, gob_g12, gob_g13, gob_g14, gob_g15, gob_g16, gob_g17, gob_s0, gob_s1, gob_s2, gob_s15, gob_s16, gob_s17, gob_len, sob_g0, sob_g1, sob_g2, sob_g3, sob_g4, sob_g5, sob_g6, sob_g7, sob_g8, sob_g9, sob_s5, sob_s6, sob_s7, sob_s8, sob_s9, sob_len, qob_g0, qob_g1, qob_g2, qob_g3, qob_g4, qob_g5, qob_s0, qob_s1, qob_s2, qob_s3, qob_s4, qob_s5, qob_len, wob_g0, wob_g1, wob_g2, wob_s0, wob_s1, wob_s2, wob_len, pob_g0, pob_g1, pob_g2, pob_g3, pob_g4, pob_s0, pob_s1, pob_s2, pob_s3, pob_s4, pob_len, n_lt, n_eq, n_lt0, n_0lt, n_eq0, n_cl, n_add, n_mul, n_l, n_eqm, n_ltm, n_mlt, n_m1, l_lt, l_eq, l_lt0, l_0lt, l_eq0, l_add, l_mul, l_i, g_lt, g_eq, g_gt, n_div, n_rem, l_div, l_mod, n01_0, n01_1, n_1e, n_0e1, ald_i, ald_o, ald_l, ald_z, ald_a, ast_i, ast_l, ast_z, ast_a, zI_t, zI_f, zI_ok, zI_eq0, r_M_bound_0, r_M_bound_1, r_M_bound_4, a2]
    exact hk
theorem st_proved (hs : OKp w hh gs sh m N pv fr en wl wc wd) (hX : XE h w hh gs sh m N bd pv wl wc wd j) : ∃ r, STEP 11 112 [] h (w, hh, gs, sh, m, N, bd, pv, fr, en, wl, wc, wd) j (.int r) := by
  obtain ⟨xg, x16⟩ := hX.g
  have hpv := hs.2.2.2.2.2.2.1
  refine ⟨pv, STEP.idle hs hX (fun K hk => ?_) (fun h1 K hM hk => ?_)⟩
  · rw [mcl]
    rcases hpv with rfl | rfl
    · simp (disch := omega) only [mx_li, mx_ll, mx_la, mx_get, mx_s1, mx_s2, mx_tl, mx_nl, mx_ic, mx_op, mx_oc, mx_fd, mx_lg, mx_ls, mx_pd, mx_len, mx_isc, mx_ps, mx_ent, mx_rv, ↓reduceIte, List.length_cons, List.length_nil, Nat.reduceAdd, Nat.reduceLT, Nat.reduceEqDiff, Nat.reduceBEq, true_and, and_true, or_false, or_true, false_or, true_or, and_self, not_false_eq_true, not_true_eq_false, mob_g0, mob_g1, mob_g2, mob_g3, mob_g4, mob_g5, mob_g6, mob_g7, mob_g8, mob_g9, mob_g10, mob_g11, mob_g12, mob_g13, mob_g14, mob_g15, mob_g16, mob_g17, mob_g18, mob_g19, mob_g20, mob_g21, mob_g22, mob_g23, mob_g24, mob_g25, mob_g26, mob_g27, mob_g28, mob_g29, mob_g30, mob_g31, mob_g32, mob_s0, mob_s1, mob_s11, mob_s12, mob_s13, mob_s14, mob_s15, mob_s19, mob_s20, mob_s21, mob_s22, mob_s23, mob_s24, mob_s31, mob_len, xob_g0, xob_g1, xob_g2, xob_g3, xob_g4, xob_g5, xob_g6, xob_s3, xob_s4, xob_s5, xob_s6, xob_len, gob_g0, gob_g1, gob_g2, gob_g3, gob_g4, gob_g5, gob_g6, gob_g7, gob_g8, gob_g9, gob_g10, gob_g11, gob_g12, gob_g13, gob_g14, gob_g15, gob_g16, gob_g17, gob_s0, gob_s1, gob_s2, gob_s15, gob_s16, gob_s17, gob_len, sob_g0, sob_g1, sob_g2, sob_g3, sob_g4, sob_g5, sob_g6, sob_g7, sob_g8, sob_g9, sob_s5, sob_s6, sob_s7, sob_s8, sob_s9, sob_len, qob_g0, qob_g1, qob_g2, qob_g3, qob_g4, qob_g5, qob_s0, qob_s1, qob_s2, qob_s3, qob_s4, qob_s5, qob_len, wob_g0, wob_g1, wob_g2, wob_s0, wob_s1, wob_s2, wob_len, pob_g0, pob_g1, pob_g2, pob_g3, pob_g4, pob_s0, pob_s1, pob_s2, pob_s3, pob_s4, pob_len, n_lt, n_eq, n_lt0, n_0lt, n_eq0, n_cl, n_add, n_mul, n_l, n_eqm, n_ltm, n_mlt, n_m1, l_lt, l_eq, l_lt0, l_0lt, l_eq0, l_add, l_mul, l_i, g_lt, g_eq, g_gt, n_div, n_rem, l_div, l_mod, n01_0, n01_1, n_1e, n_0e1, ald_i, ald_o, ald_l, ald_z, ald_a, ast_i, ast_l, ast_z, ast_a, zI_t, zI_f, zI_ok, zI_eq0, r_X_proved_0, r_X_proved_1, r_X_proved_4, x16]
      exact hk
    · simp (disch := omega) only [mx_li, mx_ll, mx_la, mx_get, mx_s1, mx_s2, mx_tl, mx_nl, mx_ic, mx_op, mx_oc, mx_fd, mx_lg, mx_ls, mx_pd, mx_len, mx_isc, mx_ps, mx_ent, mx_rv, ↓reduceIte, List.length_cons, List.length_nil, Nat.reduceAdd, Nat.reduceLT, Nat.reduceEqDiff, Nat.reduceBEq, true_and, and_true, or_false, or_true, false_or, true_or, and_self, not_false_eq_true, not_true_eq_false, mob_g0, mob_g1, mob_g2, mob_g3, mob_g4, mob_g5, mob_g6, mob_g7, mob_g8, mob_g9, mob_g10, mob_g11, mob_g12, mob_g13, mob_g14, mob_g15, mob_g16, mob_g17, mob_g18, mob_g19, mob_g20, mob_g21, mob_g22, mob_g23, mob_g24, mob_g25, mob_g26, mob_g27, mob_g28, mob_g29, mob_g30, mob_g31, mob_g32, mob_s0, mob_s1, mob_s11, mob_s12, mob_s13, mob_s14, mob_s15, mob_s19, mob_s20, mob_s21, mob_s22, mob_s23, mob_s24, mob_s31, mob_len, xob_g0, xob_g1, xob_g2, xob_g3, xob_g4, xob_g5, xob_g6, xob_s3, xob_s4, xob_s5, xob_s6, xob_len, gob_g0, gob_g1, gob_g2, gob_g3, gob_g4, gob_g5, gob_g6, gob_g7, gob_g8, gob_g9, gob_g10, gob_g11, gob_g12, gob_g13, gob_g14, gob_g15, gob_g16, gob_g17, gob_s0, gob_s1, gob_s2, gob_s15, gob_s16, gob_s17, gob_len, sob_g0, sob_g1, sob_g2, sob_g3, sob_g4, sob_g5, sob_g6, sob_g7, sob_g8, sob_g9, sob_s5, sob_s6, sob_s7, sob_s8, sob_s9, sob_len, qob_g0, qob_g1, qob_g2, qob_g3, qob_g4, qob_g5, qob_s0, qob_s1, qob_s2, qob_s3, qob_s4, qob_s5, qob_len, wob_g0, wob_g1, wob_g2, wob_s0, wob_s1, wob_s2, wob_len, pob_g0, pob_g1, pob_g2, pob_g3, pob_g4, pob_s0, pob_s1, pob_s2, pob_s3, pob_s4, pob_len, n_lt, n_eq, n_lt0, n_0lt, n_eq0, n_cl, n_add, n_mul, n_l, n_eqm, n_ltm, n_mlt, n_m1, l_lt, l_eq, l_lt0, l_0lt, l_eq0, l_add, l_mul, l_i, g_lt, g_eq, g_gt, n_div, n_rem, l_div, l_mod, n01_0, n01_1, n_1e, n_0e1, ald_i, ald_o, ald_l, ald_z, ald_a, ast_i, ast_l, ast_z, ast_a, zI_t, zI_f, zI_ok, zI_eq0, r_X_proved_0, r_X_proved_1, r_X_proved_4, x16]
      exact hk
  · obtain ⟨a1, ⟨fr', en', sm, sz, a2, b2⟩, -⟩ := hM
    rw [mcl]
    rcases hpv with rfl | rfl
    · simp (disch := omega) only [mx_li, mx_ll, mx_la, mx_get, mx_s1, mx_s2, mx_tl, mx_nl, mx_ic, mx_op, mx_oc, mx_fd, mx_lg, mx_ls, mx_pd, mx_len, mx_isc, mx_ps, mx_ent, mx_rv, ↓reduceIte, List.length_cons, List.length_nil, Nat.reduceAdd, Nat.reduceLT, Nat.reduceEqDiff, Nat.reduceBEq, true_and, and_true, or_false, or_true, false_or, true_or, and_self, not_false_eq_true, not_true_eq_false, mob_g0, mob_g1, mob_g2, mob_g3, mob_g4, mob_g5, mob_g6, mob_g7, mob_g8, mob_g9, mob_g10, mob_g11, mob_g12, mob_g13, mob_g14, mob_g15, mob_g16, mob_g17, mob_g18, mob_g19, mob_g20, mob_g21, mob_g22, mob_g23, mob_g24, mob_g25, mob_g26, mob_g27, mob_g28, mob_g29, mob_g30, mob_g31, mob_g32, mob_s0, mob_s1, mob_s11, mob_s12, mob_s13, mob_s14, mob_s15, mob_s19, mob_s20, mob_s21, mob_s22, mob_s23, mob_s24, mob_s31, mob_len, xob_g0, xob_g1, xob_g2, xob_g3, xob_g4, xob_g5, xob_g6, xob_s3, xob_s4, xob_s5, xob_s6, xob_len, gob_g0, gob_g1, gob_g2, gob_g3, gob_g4, gob_g5, gob_g6, gob_g7, gob_g8, gob_g9, gob_g10, gob_g11, gob_g12, gob_g13, gob_g14, gob_g15, gob_g16, gob_g17, gob_s0, gob_s1, gob_s2, gob_s15, gob_s16, gob_s17, gob_len, sob_g0, sob_g1, sob_g2, sob_g3, sob_g4, sob_g5, sob_g6, sob_g7, sob_g8, sob_g9, sob_s5, sob_s6, sob_s7, sob_s8, sob_s9, sob_len, qob_g0, qob_g1, qob_g2, qob_g3, qob_g4, qob_g5, qob_s0, qob_s1, qob_s2, qob_s3, qob_s4, qob_s5, qob_len, wob_g0, wob_g1, wob_g2, wob_s0, wob_s1, wob_s2, wob_len, pob_g0, pob_g1, pob_g2, pob_g3, pob_g4, pob_s0, pob_s1, pob_s2, pob_s3, pob_s4, pob_len, n_lt, n_eq, n_lt0, n_0lt, n_eq0, n_cl, n_add, n_mul, n_l, n_eqm, n_ltm, n_mlt, n_m1, l_lt, l_eq, l_lt0, l_0lt, l_eq0, l_add, l_mul, l_i, g_lt, g_eq, g_gt, n_div, n_rem, l_div, l_mod, n01_0, n01_1, n_1e, n_0e1, ald_i, ald_o, ald_l, ald_z, ald_a, ast_i, ast_l, ast_z, ast_a, zI_t, zI_f, zI_ok, zI_eq0, r_M_proved_0, r_M_proved_1, r_M_proved_4, a2]
      exact hk
    · simp (disch := omega) only [mx_li, mx_ll, mx_la, mx_get, mx_s1, mx_s2, mx_tl, mx_nl, mx_ic, mx_op, mx_oc, mx_fd, mx_lg, mx_ls, mx_pd, mx_len, mx_isc, mx_ps, mx_ent, mx_rv, ↓reduceIte, List.length_cons, List.length_nil, Nat.reduceAdd, Nat.reduceLT, Nat.reduceEqDiff, Nat.reduceBEq, true_and, and_true, or_false, or_true, false_or, true_or, and_self, not_false_eq_true, not_true_eq_false, mob_g0, mob_g1, mob_g2, mob_g3, mob_g4, mob_g5, mob_g6, mob_g7, mob_g8, mob_g9, mob_g10, mob_g11, mob_g12, mob_g13, mob_g14, mob_g15, mob_g16, mob_g17, mob_g18, mob_g19, mob_g20, mob_g21, mob_g22, mob_g23, mob_g24, mob_g25, mob_g26, mob_g27, mob_g28, mob_g29, mob_g30, mob_g31, mob_g32, mob_s0, mob_s1, mob_s11, mob_s12, mob_s13, mob_s14, mob_s15, mob_s19, mob_s20, mob_s21, mob_s22, mob_s23, mob_s24, mob_s31, mob_len, xob_g0, xob_g1, xob_g2, xob_g3, xob_g4, xob_g5, xob_g6, xob_s3, xob_s4, xob_s5, xob_s6, xob_len, gob_g0, gob_g1, gob_g2, gob_g3, gob_g4, gob_g5, gob_g6, gob_g7, gob_g8, gob_g9, gob_g10, gob_g11, gob_g12, gob_g13, gob_g14, gob_g15, gob_g16, gob_g17, gob_s0, gob_s1, gob_s2, gob_s15, gob_s16, gob_s17, gob_len, sob_g0, sob_g1, sob_g2, sob_g3, sob_g4, sob_g5, sob_g6, sob_g7, sob_g8, sob_g9, sob_s5, sob_s6, sob_s7, sob_s8, sob_s9, sob_len, qob_g0, qob_g1, qob_g2, qob_g3, qob_g4, qob_g5, qob_s0, qob_s1, qob_s2, qob_s3, qob_s4, qob_s5, qob_len, wob_g0, wob_g1, wob_g2, wob_s0, wob_s1, wob_s2, wob_len, pob_g0, pob_g1, pob_g2, pob_g3, pob_g4, pob_s0, pob_s1, pob_s2, pob_s3, pob_s4, pob_len, n_lt, n_eq, n_lt0, n_0lt, n_eq0, n_cl, n_add, n_mul, n_l, n_eqm, n_ltm, n_mlt, n_m1, l_lt, l_eq, l_lt0, l_0lt, l_eq0, l_add, l_mul, l_i, g_lt, g_eq, g_gt, n_div, n_rem, l_div, l_mod, n01_0, n01_1, n_1e, n_0e1, ald_i, ald_o, ald_l, ald_z, ald_a, ast_i, ast_l, ast_z, ast_a, zI_t, zI_f, zI_ok, zI_eq0, r_M_proved_0, r_M_proved_1, r_M_proved_4, a2]
      exact hk
theorem st_span (hs : OKp w hh gs sh m N pv fr en wl wc wd) (hX : XE h w hh gs sh m N bd pv wl wc wd j) (a e p : Int32) : ∃ r, STEP 13 119 [.int a, .int e, .int p] h (w, hh, gs, sh, m, N, bd, pv, fr, en, wl, wc, wd) j (.long r) := by
  obtain ⟨⟨w0, w12⟩, ⟨h0, h12⟩, hn, hB, hm, hN, hpv, hv, hg, -⟩ := id hs
  exact ⟨_, (w, hh, gs, sh, m, N, bd, pv, fr, en, wl, wc, wd), hs, fun K kk => c_X_span hB hn hm hX hv kk, fun h1 K hM kk => c_M_span hB hn hm hM hv (kk h1 hM M2.rf)⟩
end OPR
/-! BOTH OBJECTS: a new way -/
theorem shl_1 {sh c : Nat → Nat} {fr en x : Nat} (hs : sh x = 1 → x ≠ fr ∧ x ≠ en) : ∀ k, (shl sh c fr en k x = 1 ↔ ((x ≠ fr ∧ x ≠ en ∧ ∃ i, i < k ∧ c i = x) ∨ sh x = 1))
  | 0 => by
    rw [shl]
    constructor
    · exact Or.inr
    · rintro (⟨-, -, i, q, -⟩ | q)
      · omega
      · exact q
  | k + 1 => by
    rw [shl]
    by_cases q : x = c k
    · rw [if_pos q]
      by_cases y : x ≠ fr ∧ x ≠ en
      · rw [if_pos y]
        exact ⟨fun _ => Or.inl ⟨y.1, y.2, k, by omega, q.symm⟩, fun _ => rfl⟩
      · rw [if_neg y]
        constructor
        · intro z; cases z
        · rintro (⟨z1, z2, -⟩ | z)
          · exact absurd ⟨z1, z2⟩ y
          · exact absurd (hs z) y
    · rw [if_neg q, shl_1 hs k]
      constructor
      · rintro (⟨z1, z2, i, z3, z4⟩ | z)
        · exact Or.inl ⟨z1, z2, i, by omega, z4⟩
        · exact Or.inr z
      · rintro (⟨z1, z2, i, z3, z4⟩ | z)
        · refine Or.inl ⟨z1, z2, i, ?_, z4⟩
          by_cases y : i = k
          · rw [y] at z4; exact absurd z4.symm q
          · omega
        · exact Or.inr z
section NEW
variable {w hh : Nat} {gs : mG} {sh st ky : Nat → Nat} {m mo g fr en : Nat} {wl : Nat → Nat} {wc wd : Nat → Nat → Nat}
theorem new_WV (hB : GB gs) (hw : 0 < w) (hn : w * hh ≤ 144) (hbf : brg gs fr = false) (hne : fr ≠ en) (hG : GI gs w hh fr en mo sh g st ky) (hv : WV w hh m fr en wl wc wd) : WV w hh (m + 1) fr en (va_up wl m (kM (ky g))) (va_up wc m (fun i => lC (wy gs w hh sh st ky g i))) (va_up wd m (fun i => lH (wy gs w hh sh st ky g i))) := by
  intro k hk
  by_cases q : k = m
  · subst q
    rw [va_up_self, va_up_self, va_up_self]
    have h16 := hG.2.2.2.2.2.2.2
    have vg := (hG.2.1 g (by rw [hG.2.2.2.2.2.2.1]; omega)).1
    have c0 : lC (wy gs w hh sh st ky g 0) = fr := vg.2.2.1 h16
    have cn := hG.end hB hw
    refine ⟨⟨?_, hG.short hB hw hn hbf⟩, c0, cn, fun i hi => (hG.2.1 _ (by rw [(hG.way hB hw i hi).1]; omega)).1.1, h16, fun i i0 hi => (hG.way hB hw i hi).2.2 i0⟩
    by_cases z : kM (ky g) = 0
    · rw [z, c0] at cn
      exact absurd cn hne
    · omega
  · rw [va_up_ne _ _ q, va_up_ne _ _ q, va_up_ne _ _ q]
    exact hv k (by omega)
theorem new_WG (hB : GB gs) (hw : 0 < w) (hG : GI gs w hh fr en mo sh g st ky) (hg : WG w hh m wl wc wd) : WG w hh (m + 1) (va_up wl m (kM (ky g))) (va_up wc m (fun i => lC (wy gs w hh sh st ky g i))) (va_up wd m (fun i => lH (wy gs w hh sh st ky g i))) := by
  intro k hk i hi
  by_cases q : k = m
  · subst q
    rw [va_up_self] at hi
    rw [va_up_self, va_up_self]
    obtain ⟨-, p1, -⟩ := hG.step hB hw hi
    have l16 := p1.2.2.2.2.2.2.2.2.2
    have vl := (hG.2.1 _ (show st (wy gs w hh sh st ky g (i + 1)) ≠ 0 by rw [(hG.way hB hw (i + 1) (by omega)).1]; omega)).1
    have := nbr_rev (d := (lH (wy gs w hh sh st ky g (i + 1)) + 8) % 16) (by omega) hw vl.1 p1.1
    rw [mod8 l16] at this
    exact this
  · rw [va_up_ne _ _ q] at hi
    rw [va_up_ne _ _ q, va_up_ne _ _ q]
    exact hg k (by omega) i hi
theorem new_SHP {n : Nat} {c : Nat → Nat} (hs : SHP m fr en wl wc sh) : SHP (m + 1) fr en (va_up wl m n) (va_up wc m c) (shl sh c fr en (n + 1)) := by
  intro x
  have h1 : sh x = 1 → x ≠ fr ∧ x ≠ en := fun q => ⟨((hs x).2.mp q).1, ((hs x).2.mp q).2.1⟩
  refine ⟨shl_le (fun y => (hs y).1) _ _, ?_⟩
  rw [shl_1 h1, (hs x).2]
  constructor
  · rintro (⟨z1, z2, i, z3, z4⟩ | ⟨z1, z2, k, i, z3, z4, z5⟩)
    · exact ⟨z1, z2, m, i, by omega, by rw [va_up_self]; omega, by rw [va_up_self]; exact z4⟩
    · have q : k ≠ m := by omega
      exact ⟨z1, z2, k, i, by omega, by rw [va_up_ne _ _ q]; exact z4, by rw [va_up_ne _ _ q]; exact z5⟩
  · rintro ⟨z1, z2, k, i, z3, z4, z5⟩
    by_cases q : k = m
    · subst q
      rw [va_up_self] at z4 z5
      exact Or.inl ⟨z1, z2, i, by omega, z5⟩
    · rw [va_up_ne _ _ q] at z4 z5
      exact Or.inr ⟨z1, z2, k, i, by omega, z4, z5⟩
end NEW
