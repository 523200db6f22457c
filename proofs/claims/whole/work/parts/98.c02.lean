/-! THE CLASS's SEARCH: its cells; small methods; the offers to the labels of one cell -/
def XS (h : mxH) (w hh : Nat) (gs : mG) (fr en mo : Nat) (sh : Nat → Nat) (lc : Int64) : Prop :=
  XG h w hh gs ∧ h.1 3 = .inl (9, 16, .inl (fun j => ar_3.getD j 0)) ∧ h.1 30 = .inr (2, sob (nI fr) (nI en) (nI mo) (nI (mo + 1)) lc) ∧
  (∃ f, h.1 36 = .inl (0, w * hh, .inl f) ∧ ∀ c, c < w * hh → f c = nI (bas gs mo c)) ∧ (∃ f, h.1 37 = .inl (1, w * hh, .inr (.inl f)) ∧ ∀ c, c < w * hh → f c = lN (unt gs c)) ∧ (∃ f, h.1 38 = .inl (2, w * hh, .inl f) ∧ ∀ c, c < w * hh → f c = nI (sh c))
def adq (q : Nat) : Prop := (32 ≤ q ∧ q ≤ 35) ∨ 78 ≤ q
def adqs (qc qr qs qh : Nat) : Prop := adq qc ∧ adq qr ∧ adq qs ∧ adq qh
theorem XS.kept {h h' : mxH} {w hh : Nat} {gs : mG} {fr en mo : Nat} {sh : Nat → Nat} {lc : Int64} (hS : XS h w hh gs fr en mo sh lc) (hk : ∀ k, (k = 3 ∨ 17 ≤ k ∧ k ≤ 30 ∨ 36 ≤ k ∧ k ≤ 38) → h'.1 k = h.1 k) : XS h' w hh gs fr en mo sh lc := by
  obtain ⟨a1, a2, a3, ⟨f4, a4, b4⟩, ⟨f5, a5, b5⟩, ⟨f6, a6, b6⟩⟩ := hS
  refine ⟨a1.kept (fun k k1 k2 => hk k (by omega)), ?_, ?_, ⟨f4, ?_, b4⟩, ⟨f5, ?_, b5⟩, ⟨f6, ?_, b6⟩⟩
  · rw [hk 3 (by omega)]; exact a2
  · rw [hk 30 (by omega)]; exact a3
  · rw [hk 36 (by omega)]; exact a4
  · rw [hk 37 (by omega)]; exact a5
  · rw [hk 38 (by omega)]; exact a6
theorem QG.fix {h h' : mxH} {qc qr qs qh k : Nat} (hG : QG h h' qc qr qs qh) (hA : adqs qc qr qs qh) (hk : (k < 31 ∨ 36 ≤ k ∧ k < 78)) : h'.1 k = h.1 k := by
  obtain ⟨a, b, c, d⟩ := hA
  unfold adq at a b c d
  exact hG.1 k (by omega) (by omega) (by omega) (by omega) (by omega)
theorem XS.q {h h' : mxH} {w hh : Nat} {gs : mG} {fr en mo : Nat} {sh : Nat → Nat} {lc : Int64} {qc qr qs qh : Nat} (hS : XS h w hh gs fr en mo sh lc) (hG : QG h h' qc qr qs qh) (hA : adqs qc qr qs qh) : XS h' w hh gs fr en mo sh lc :=
  hS.kept (fun k hk => hG.fix hA (by omega))
theorem ar3 {d : Nat} (hd : d < 16) : ar_3.getD d 0 = nI (len d) := by
  have : ∀ d : Fin 16, ar_3.getD d.val 0 = nI (len d.val) := by decide +kernel
  exact this ⟨d, hd⟩
section SSM
variable {h : mxH} {w hh : Nat} {gs : mG} {fr en mo : Nat} {sh : Nat → Nat} {lc : Int64}
theorem e_S_headingOf {p : Nat} (hp : p < 1000000) (K : Option Value → mxH → Prop) : mcl mx_P 54 [.int (nI p)] h K ↔ K (some (.int (nI (lH p)))) h := by
  rw [mcl]
  simp (disch := omega) only [mx_li, mx_ll, mx_la, mx_get, mx_s1, mx_s2, mx_tl, mx_nl, mx_ic, mx_op, mx_oc, mx_fd, mx_lg, mx_ls, mx_pd, mx_len, mx_isc, mx_ps, mx_ent, mx_rv, ↓reduceIte, List.length_cons, List.length_nil, Nat.reduceAdd, Nat.reduceLT, Nat.reduceEqDiff, Nat.reduceBEq, true_and, and_true, or_false, or_true, false_or, true_or, and_self, not_false_eq_true, not_true_eq_false, mob_g0, mob_g1, mob_g2, mob_g3, mob_g4, mob_g5, mob_g6, mob_g7, mob_g8, mob_g9, mob_g10, mob_g11, mob_g12, mob_g13, mob_g14, mob_g15, mob_g16, mob_g17, mob_g18, mob_g19, mob_g20, mob_g21, mob_g22, mob_g23, mob_g24, mob_g25, mob_g26, mob_g27, mob_g28, mob_g29, mob_g30, mob_g31, mob_g32, mob_s0, mob_s1, mob_s11, mob_s12, mob_s13, mob_s14, mob_s15, mob_s19, mob_s20, mob_s21, mob_s22, mob_s23, mob_s24, mob_s31, mob_len, xob_g0, xob_g1, xob_g2, xob_g3, xob_g4, xob_g5, xob_g6, xob_s3, xob_s4, xob_s5, xob_s6, xob_len, gob_g0, gob_g1, gob_g2, gob_g3, gob_g4, gob_g5, gob_g6, gob_g7, gob_g8, gob_g9, gob_g10, gob_g11, gob_g12, gob_g13, gob_g14, gob_g15, gob_g16, gob_g17, gob_s0, gob_s1, gob_s2, gob_s15, gob_s16, gob_s17, gob_len, sob_g0, sob_g1, sob_g2, sob_g3, sob_g4, sob_g5, sob_g6, sob_g7, sob_g8, sob_g9, sob_s5, sob_s6, sob_s7, sob_s8, sob_s9, sob_len, qob_g0, qob_g1, qob_g2, qob_g3, qob_g4, qob_g5, qob_s0, qob_s1, qob_s2, qob_s3, qob_s4, qob_s5, qob_len, wob_g0, wob_g1, wob_g2, wob_s0, wob_s1, wob_s2, wob_len, pob_g0, pob_g1, pob_g2, pob_g3, pob_g4, pob_s0, pob_s1, pob_s2, pob_s3, pob_s4, pob_len, n_lt, n_eq, n_lt0, n_0lt, n_eq0, n_cl, n_add, n_mul, n_l, n_eqm, n_ltm, n_mlt, n_m1, l_lt, l_eq, l_lt0, l_0lt, l_eq0, l_add, l_mul, l_i, g_lt, g_eq, g_gt, n_div, n_rem, l_div, l_mod, n01_0, n01_1, n_1e, n_0e1, ald_i, ald_o, ald_l, ald_z, ald_a, ast_i, ast_l, ast_z, ast_a, zI_t, zI_f, zI_ok, zI_eq0, r_S_headingOf_0, r_S_headingOf_1, r_S_headingOf_4, r_S_headingOf_5, r_S_headingOf_7, r_S_headingOf_8]
  have : p % 612 / 36 = lH p := by unfold lH; omega
  rw [this]
theorem e_S_bridgedOf {p : Nat} (hp : p < 1000000) (K : Option Value → mxH → Prop) : mcl mx_P 55 [.int (nI p)] h K ↔ K (some (.int (nI (lR p)))) h := by
  rw [mcl]
  simp (disch := omega) only [mx_li, mx_ll, mx_la, mx_get, mx_s1, mx_s2, mx_tl, mx_nl, mx_ic, mx_op, mx_oc, mx_fd, mx_lg, mx_ls, mx_pd, mx_len, mx_isc, mx_ps, mx_ent, mx_rv, ↓reduceIte, List.length_cons, List.length_nil, Nat.reduceAdd, Nat.reduceLT, Nat.reduceEqDiff, Nat.reduceBEq, true_and, and_true, or_false, or_true, false_or, true_or, and_self, not_false_eq_true, not_true_eq_false, mob_g0, mob_g1, mob_g2, mob_g3, mob_g4, mob_g5, mob_g6, mob_g7, mob_g8, mob_g9, mob_g10, mob_g11, mob_g12, mob_g13, mob_g14, mob_g15, mob_g16, mob_g17, mob_g18, mob_g19, mob_g20, mob_g21, mob_g22, mob_g23, mob_g24, mob_g25, mob_g26, mob_g27, mob_g28, mob_g29, mob_g30, mob_g31, mob_g32, mob_s0, mob_s1, mob_s11, mob_s12, mob_s13, mob_s14, mob_s15, mob_s19, mob_s20, mob_s21, mob_s22, mob_s23, mob_s24, mob_s31, mob_len, xob_g0, xob_g1, xob_g2, xob_g3, xob_g4, xob_g5, xob_g6, xob_s3, xob_s4, xob_s5, xob_s6, xob_len, gob_g0, gob_g1, gob_g2, gob_g3, gob_g4, gob_g5, gob_g6, gob_g7, gob_g8, gob_g9, gob_g10, gob_g11, gob_g12, gob_g13, gob_g14, gob_g15, gob_g16, gob_g17, gob_s0, gob_s1, gob_s2, gob_s15, gob_s16, gob_s17, gob_len, sob_g0, sob_g1, sob_g2, sob_g3, sob_g4, sob_g5, sob_g6, sob_g7, sob_g8, sob_g9, sob_s5, sob_s6, sob_s7, sob_s8, sob_s9, sob_len, qob_g0, qob_g1, qob_g2, qob_g3, qob_g4, qob_g5, qob_s0, qob_s1, qob_s2, qob_s3, qob_s4, qob_s5, qob_len, wob_g0, wob_g1, wob_g2, wob_s0, wob_s1, wob_s2, wob_len, pob_g0, pob_g1, pob_g2, pob_g3, pob_g4, pob_s0, pob_s1, pob_s2, pob_s3, pob_s4, pob_len, n_lt, n_eq, n_lt0, n_0lt, n_eq0, n_cl, n_add, n_mul, n_l, n_eqm, n_ltm, n_mlt, n_m1, l_lt, l_eq, l_lt0, l_0lt, l_eq0, l_add, l_mul, l_i, g_lt, g_eq, g_gt, n_div, n_rem, l_div, l_mod, n01_0, n01_1, n_1e, n_0e1, ald_i, ald_o, ald_l, ald_z, ald_a, ast_i, ast_l, ast_z, ast_a, zI_t, zI_f, zI_ok, zI_eq0, r_S_bridgedOf_0, r_S_bridgedOf_1, r_S_bridgedOf_3, r_S_bridgedOf_4, r_S_bridgedOf_6, r_S_bridgedOf_7]
  have : p % 36 / 9 = lR p := by unfold lR; omega
  rw [this]
theorem e_S_codeOf {c d r s : Nat} (K : Option Value → mxH → Prop) : mcl mx_P 53 [.int (nI c), .int (nI d), .int (nI r), .int (nI s)] h K ↔ K (some (.int (nI (lab c d r s)))) h := by
  rw [mcl]
  simp (disch := omega) only [mx_li, mx_ll, mx_la, mx_get, mx_s1, mx_s2, mx_tl, mx_nl, mx_ic, mx_op, mx_oc, mx_fd, mx_lg, mx_ls, mx_pd, mx_len, mx_isc, mx_ps, mx_ent, mx_rv, ↓reduceIte, List.length_cons, List.length_nil, Nat.reduceAdd, Nat.reduceLT, Nat.reduceEqDiff, Nat.reduceBEq, true_and, and_true, or_false, or_true, false_or, true_or, and_self, not_false_eq_true, not_true_eq_false, mob_g0, mob_g1, mob_g2, mob_g3, mob_g4, mob_g5, mob_g6, mob_g7, mob_g8, mob_g9, mob_g10, mob_g11, mob_g12, mob_g13, mob_g14, mob_g15, mob_g16, mob_g17, mob_g18, mob_g19, mob_g20, mob_g21, mob_g22, mob_g23, mob_g24, mob_g25, mob_g26, mob_g27, mob_g28, mob_g29, mob_g30, mob_g31, mob_g32, mob_s0, mob_s1, mob_s11, mob_s12, mob_s13, mob_s14, mob_s15, mob_s19, mob_s20, mob_s21, mob_s22, mob_s23, mob_s24, mob_s31, mob_len, xob_g0, xob_g1, xob_g2, xob_g3, xob_g4, xob_g5, xob_g6, xob_s3, xob_s4, xob_s5, xob_s6, xob_len, gob_g0, gob_g1, gob_g2, gob_g3, gob_g4, gob_g5, gob_g6, gob_g7, gob_g8, gob_g9, gob_g10, gob_g11, gob_g12, gob_g13, gob_g14, gob_g15, gob_g16, gob_g17, gob_s0, gob_s1, gob_s2, gob_s15, gob_s16, gob_s17, gob_len, sob_g0, sob_g1, sob_g2, sob_g3, sob_g4, sob_g5, sob_g6, sob_g7, sob_g8, sob_g9, sob_s5, sob_s6, sob_s7, sob_s8, sob_s9, sob_len, qob_g0, qob_g1, qob_g2, qob_g3, qob_g4, qob_g5, qob_s0, qob_s1, qob_s2, qob_s3, qob_s4, qob_s5, qob_len, wob_g0, wob_g1, wob_g2, wob_s0, wob_s1, wob_s2, wob_len, pob_g0, pob_g1, pob_g2, pob_g3, pob_g4, pob_s0, pob_s1, pob_s2, pob_s3, pob_s4, pob_len, n_lt, n_eq, n_lt0, n_0lt, n_eq0, n_cl, n_add, n_mul, n_l, n_eqm, n_ltm, n_mlt, n_m1, l_lt, l_eq, l_lt0, l_0lt, l_eq0, l_add, l_mul, l_i, g_lt, g_eq, g_gt, n_div, n_rem, l_div, l_mod, n01_0, n01_1, n_1e, n_0e1, ald_i, ald_o, ald_l, ald_z, ald_a, ast_i, ast_l, ast_z, ast_a, zI_t, zI_f, zI_ok, zI_eq0, r_S_codeOf_0, r_S_codeOf_1, r_S_codeOf_4, r_S_codeOf_5, r_S_codeOf_6, r_S_codeOf_8, r_S_codeOf_9, r_S_codeOf_10, r_S_codeOf_11, r_S_codeOf_13, r_S_codeOf_14, r_S_codeOf_15, r_S_codeOf_16, r_S_codeOf_17]
  have : c * 612 + d * 36 + r * 9 + s = lab c d r s := by unfold lab; omega
  rw [this]
theorem e_S_rowOf {c d r s : Nat} (hS : XS h w hh gs fr en mo sh lc) (hc : c < w * hh) (hn : w * hh ≤ 144) (hd : d ≤ 16) (hr : r ≤ 3) (hs : s ≤ 8) (K : Option Value → mxH → Prop) : mcl mx_P 52 [.ref 30, .int (nI c), .int (nI d), .int (nI r), .int (nI s)] h K ↔ K (some (.int (nI (row gs mo (lab c d r s))))) h := by
  obtain ⟨a1, a2, a3, ⟨f4, a4, b4⟩, ⟨f5, a5, b5⟩, ⟨f6, a6, b6⟩⟩ := hS
  have e : row gs mo (lab c d r s) = bas gs mo c + ((r - 1) * 17 + d) * (mo + 1) + s := by
    unfold row
    rw [lC_lab hd hr hs, lH_lab hd hr hs, lR_lab hd hr hs, lS_lab hd hr hs]
  rw [mcl, e]
  by_cases z : 0 < r
  · simp (disch := omega) only [mx_li, mx_ll, mx_la, mx_get, mx_s1, mx_s2, mx_tl, mx_nl, mx_ic, mx_op, mx_oc, mx_fd, mx_lg, mx_ls, mx_pd, mx_len, mx_isc, mx_ps, mx_ent, mx_rv, ↓reduceIte, List.length_cons, List.length_nil, Nat.reduceAdd, Nat.reduceLT, Nat.reduceEqDiff, Nat.reduceBEq, true_and, and_true, or_false, or_true, false_or, true_or, and_self, not_false_eq_true, not_true_eq_false, mob_g0, mob_g1, mob_g2, mob_g3, mob_g4, mob_g5, mob_g6, mob_g7, mob_g8, mob_g9, mob_g10, mob_g11, mob_g12, mob_g13, mob_g14, mob_g15, mob_g16, mob_g17, mob_g18, mob_g19, mob_g20, mob_g21, mob_g22, mob_g23, mob_g24, mob_g25, mob_g26, mob_g27, mob_g28, mob_g29, mob_g30, mob_g31, mob_g32, mob_s0, mob_s1, mob_s11, mob_s12, mob_s13, mob_s14, mob_s15, mob_s19, mob_s20, mob_s21, mob_s22, mob_s23, mob_s24, mob_s31, mob_len, xob_g0, xob_g1, xob_g2, xob_g3, xob_g4, xob_g5, xob_g6, xob_s3, xob_s4, xob_s5, xob_s6, xob_len, gob_g0, gob_g1, gob_g2, gob_g3, gob_g4, gob_g5, gob_g6, gob_g7, gob_g8, gob_g9, gob_g10, gob_g11, gob_g12, gob_g13, gob_g14, gob_g15, gob_g16, gob_g17, gob_s0, gob_s1, gob_s2, gob_s15, gob_s16, gob_s17, gob_len, sob_g0, sob_g1, sob_g2, sob_g3, sob_g4, sob_g5, sob_g6, sob_g7, sob_g8, sob_g9, sob_s5, sob_s6, sob_s7, sob_s8, sob_s9, sob_len, qob_g0, qob_g1, qob_g2, qob_g3, qob_g4, qob_g5, qob_s0, qob_s1, qob_s2, qob_s3, qob_s4, qob_s5, qob_len, wob_g0, wob_g1, wob_g2, wob_s0, wob_s1, wob_s2, wob_len, pob_g0, pob_g1, pob_g2, pob_g3, pob_g4, pob_s0, pob_s1, pob_s2, pob_s3, pob_s4, pob_len, n_lt, n_eq, n_lt0, n_0lt, n_eq0, n_cl, n_add, n_mul, n_l, n_eqm, n_ltm, n_mlt, n_m1, l_lt, l_eq, l_lt0, l_0lt, l_eq0, l_add, l_mul, l_i, g_lt, g_eq, g_gt, n_div, n_rem, l_div, l_mod, n01_0, n01_1, n_1e, n_0e1, ald_i, ald_o, ald_l, ald_z, ald_a, ast_i, ast_l, ast_z, ast_a, zI_t, zI_f, zI_ok, zI_eq0, r_S_rowOf_0, r_S_rowOf_1, r_S_rowOf_4, r_S_rowOf_5, r_S_rowOf_6, r_S_rowOf_7, r_S_rowOf_10, r_S_rowOf_11, r_S_rowOf_13, r_S_rowOf_14, r_S_rowOf_17, r_S_rowOf_18, r_S_rowOf_19, r_S_rowOf_21, r_S_rowOf_23, r_S_rowOf_24, r_S_rowOf_25, r_S_rowOf_26, r_S_rowOf_27, r_S_rowOf_30, r_S_rowOf_31, r_S_rowOf_32, r_S_rowOf_34, r_S_rowOf_35, a3, a4, b4 c hc, z, n_sub]
  · have z' : r = 0 := by omega
    subst z'
    simp (disch := omega) only [mx_li, mx_ll, mx_la, mx_get, mx_s1, mx_s2, mx_tl, mx_nl, mx_ic, mx_op, mx_oc, mx_fd, mx_lg, mx_ls, mx_pd, mx_len, mx_isc, mx_ps, mx_ent, mx_rv, ↓reduceIte, List.length_cons, List.length_nil, Nat.reduceAdd, Nat.reduceLT, Nat.reduceEqDiff, Nat.reduceBEq, true_and, and_true, or_false, or_true, false_or, true_or, and_self, not_false_eq_true, not_true_eq_false, mob_g0, mob_g1, mob_g2, mob_g3, mob_g4, mob_g5, mob_g6, mob_g7, mob_g8, mob_g9, mob_g10, mob_g11, mob_g12, mob_g13, mob_g14, mob_g15, mob_g16, mob_g17, mob_g18, mob_g19, mob_g20, mob_g21, mob_g22, mob_g23, mob_g24, mob_g25, mob_g26, mob_g27, mob_g28, mob_g29, mob_g30, mob_g31, mob_g32, mob_s0, mob_s1, mob_s11, mob_s12, mob_s13, mob_s14, mob_s15, mob_s19, mob_s20, mob_s21, mob_s22, mob_s23, mob_s24, mob_s31, mob_len, xob_g0, xob_g1, xob_g2, xob_g3, xob_g4, xob_g5, xob_g6, xob_s3, xob_s4, xob_s5, xob_s6, xob_len, gob_g0, gob_g1, gob_g2, gob_g3, gob_g4, gob_g5, gob_g6, gob_g7, gob_g8, gob_g9, gob_g10, gob_g11, gob_g12, gob_g13, gob_g14, gob_g15, gob_g16, gob_g17, gob_s0, gob_s1, gob_s2, gob_s15, gob_s16, gob_s17, gob_len, sob_g0, sob_g1, sob_g2, sob_g3, sob_g4, sob_g5, sob_g6, sob_g7, sob_g8, sob_g9, sob_s5, sob_s6, sob_s7, sob_s8, sob_s9, sob_len, qob_g0, qob_g1, qob_g2, qob_g3, qob_g4, qob_g5, qob_s0, qob_s1, qob_s2, qob_s3, qob_s4, qob_s5, qob_len, wob_g0, wob_g1, wob_g2, wob_s0, wob_s1, wob_s2, wob_len, pob_g0, pob_g1, pob_g2, pob_g3, pob_g4, pob_s0, pob_s1, pob_s2, pob_s3, pob_s4, pob_len, n_lt, n_eq, n_lt0, n_0lt, n_eq0, n_cl, n_add, n_mul, n_l, n_eqm, n_ltm, n_mlt, n_m1, l_lt, l_eq, l_lt0, l_0lt, l_eq0, l_add, l_mul, l_i, g_lt, g_eq, g_gt, n_div, n_rem, l_div, l_mod, n01_0, n01_1, n_1e, n_0e1, ald_i, ald_o, ald_l, ald_z, ald_a, ast_i, ast_l, ast_z, ast_a, zI_t, zI_f, zI_ok, zI_eq0, r_S_rowOf_0, r_S_rowOf_1, r_S_rowOf_4, r_S_rowOf_5, r_S_rowOf_6, r_S_rowOf_7, r_S_rowOf_10, r_S_rowOf_11, r_S_rowOf_13, r_S_rowOf_14, r_S_rowOf_17, r_S_rowOf_18, r_S_rowOf_19, r_S_rowOf_21, r_S_rowOf_23, r_S_rowOf_24, r_S_rowOf_25, r_S_rowOf_26, r_S_rowOf_27, r_S_rowOf_30, r_S_rowOf_31, r_S_rowOf_32, r_S_rowOf_34, r_S_rowOf_35, a3, a4, b4 c hc, z, Nat.lt_irrefl, Nat.zero_sub, Nat.zero_mul, Nat.zero_add]
end SSM
/-- what is fixed while the labels of one cell before l are offered -/
def HB (gs : mG) (w hh mo : Nat) (sh : Nat → Nat) (l c r s : Nat) : Prop :=
  nbr w hh (lC l) ((lH l + 8) % 16) = some c ∧ sht gs c = false ∧ stp gs c (lC l) = false ∧ s = lS l + sh (lC l) ∧ s ≤ mo ∧ (brg gs c = true → 1 ≤ r ∧ r ≤ gs 3 c) ∧ (brg gs c = false → r = 0) ∧ (brg gs (lC l) = true → r + 1 = lR l) ∧ lH l < 16
section HBS
variable {gs : mG} {w hh fr mo : Nat} {sh : Nat → Nat} {l c r s : Nat}
theorem HB.b (hB : GB gs) (hmo : mo ≤ 8) (hH : HB gs w hh mo sh l c r s) : r ≤ 3 ∧ s ≤ 8 ∧ c < w * hh := by
  obtain ⟨h1, h2, h3, h4, h5, h6, h7, h8, h9⟩ := hH
  have b3 := hB.2.2.2.1 c
  refine ⟨?_, by omega, nbr_lt h1⟩
  cases z : brg gs c with
  | true => have := h6 z; omega
  | false => have := h7 z; omega
theorem HB.pr {b : Nat} (hB : GB gs) (hmo : mo ≤ 8) (hH : HB gs w hh mo sh l c r s) (hb : (b < 16 ∧ hdg gs b = true ∧ fol gs b (lH l) c (lC l) = true) ∨ (b = 16 ∧ c = fr)) : pre gs w hh fr mo sh l (lab c b r s) := by
  obtain ⟨r3, s8, -⟩ := hH.b hB hmo
  have b16 : b ≤ 16 := by omega
  obtain ⟨h1, h2, h3, h4, h5, h6, h7, h8, h9⟩ := hH
  unfold pre
  rw [lC_lab b16 r3 s8, lH_lab b16 r3 s8, lR_lab b16 r3 s8, lS_lab b16 r3 s8]
  exact ⟨h1, h2, h3, h4, h5, h6, h7, h8, hb, h9⟩
theorem HB.of {p : Nat} (hH : HB gs w hh mo sh l c r s) (hp : pre gs w hh fr mo sh l p) (hr : lR p = r) : p = lab c (lH p) r s := by
  obtain ⟨h1, h2, h3, h4, h5, h6, h7, h8, h9⟩ := hH
  obtain ⟨p1, p2, p3, p4, p5, p6, p7, p8, p9, p10⟩ := hp
  have : lC p = c := by rw [h1] at p1; exact (Option.some.inj p1).symm
  have h := lab_eta p
  rw [this, hr, p4, ← h4] at h
  exact h.symm
end HBS
theorem one_key {gs : mG} {l p k L t : Nat} (h1 : kT k < 200000) (h2 : kM k < 200000) (hL : L = len (lH l) * unt gs (lC l)) (ht : t = tbit l p * 262144) : kC (k + stK gs l p) = kC k + L ∧ (k + stK gs l p) % 68719476736 = k % 68719476736 + 1 + t := by
  subst hL ht
  have b := tbit_le l p
  unfold stK
  generalize len (lH l) * unt gs (lC l) = L
  generalize tbit l p = t at *
  unfold kC
  unfold kT at h1
  unfold kM at h2
  omega
section HOFF
variable {h : mxH} {qc qr qs qh cap : Nat} {gs : mG} {w hh fr mo : Nat} {sh st ky : Nat → Nat} {K : Option Value → mxH → Prop} {l c r s : Nat}
/-- one offer to a label of the cell -/
theorem c_H_off {b t : Nat} {P P' : Nat → Prop} {h : mxH} {K : Option Value → mxH → Prop} (hB : GB gs) (hn : w * hh ≤ 144) (hmo : mo ≤ 8) (hst : ∀ p, st p ≤ 2) (hkT : kT (ky l) < 200000) (hkM : kM (ky l) < 200000) (hkC : kC (ky l) < 20000000000000) (hH : HB gs w hh mo sh l c r s)
    (hD : XD h qc qr qs qh cap gs w hh fr mo (aps (rsF P (ofs gs w hh fr mo sh ky l)) st) (apk (rsF P (ofs gs w hh fr mo sh ky l)) st ky))
    (hb : (b < 16 ∧ hdg gs b = true ∧ fol gs b (lH l) c (lC l) = true) ∨ (b = 16 ∧ c = fr)) (ht : t = tbit l (lab c b r s) * 262144) (h0 : ¬ P (lab c b r s)) (hP : ∀ p, pre gs w hh fr mo sh l p → (P' p ↔ P p ∨ p = lab c b r s))
    (kk : ∀ (h' : mxH), XD h' qc qr qs qh cap gs w hh fr mo (aps (rsF P' (ofs gs w hh fr mo sh ky l)) st) (apk (rsF P' (ofs gs w hh fr mo sh ky l)) st ky) → QG h h' qc qr qs qh → K none h') :
    mcl mx_P 63 [.ref 31, .int (nI (row gs mo (lab c 0 r s) + b * (mo + 1))), .long (lN (kC (ky l) + len (lH l) * unt gs (lC l))), .long (lN (ky l % 68719476736 + 1 + t)), .int (nI (lab c 0 r s + b * 36))] h K := by
  obtain ⟨r3, s8, -⟩ := hH.b hB hmo
  have b16 : b ≤ 16 := by omega
  have hp := hH.pr hB hmo hb
  have e1 : lab c 0 r s + b * 36 = lab c b r s := by unfold lab; omega
  have e2 : row gs mo (lab c 0 r s) + b * (mo + 1) = row gs mo (lab c b r s) := by
    unfold row
    rw [lC_lab b16 r3 s8, lH_lab b16 r3 s8, lR_lab b16 r3 s8, lS_lab b16 r3 s8, lC_lab (by omega) r3 s8, lH_lab (by omega) r3 s8, lR_lab (by omega) r3 s8, lS_lab (by omega) r3 s8, Nat.add_zero, Nat.add_mul]
    omega
  obtain ⟨k1, k2⟩ := one_key (gs := gs) (l := l) (p := lab c b r s) hkT hkM rfl ht
  have hL := stK_le hB l
  rw [e1, e2, ← k1, ← k2]
  have hF : ofs gs w hh fr mo sh ky l (lab c b r s) = some (ky l + stK gs l (lab c b r s)) := ofs_1 hp
  obtain ⟨m1, m2⟩ := rsF_more (P' := P') h0 hF (fun p j hj => hP p (Classical.byContradiction fun q => by rw [ofs_0 q] at hj; cases hj)) st ky hst
  refine c_X_off hB hn hmo hD hp.vld (by rw [k1]; omega) ?_ (fun h' a1 a2 => ?_)
  · rw [k2]
    have := tbit_le l (lab c b r s)
    unfold kT at hkT
    unfold kM at hkM
    omega
  · rw [← m1, ← m2] at a1
    exact kk h' a1 a2
end HOFF
