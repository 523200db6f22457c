/-! SMALL METHODS, as equations -/
theorem e_max (a b : Int32) (h : mxH) (K : Option Value → mxH → Prop) : mcl mx_P 130 [.int a, .int b] h K ↔ K (some (.int (if a < b then b else a))) h := by
  unfold mcl
  simp only [mx_li, mx_ll, mx_la, mx_get, mx_s1, mx_s2, mx_tl, mx_nl, mx_ic, mx_op, mx_oc, mx_fd, mx_lg, mx_ls, mx_pd, mx_len, mx_isc, mx_ps, mx_ent, mx_rv, reduceIte, List.length_cons, List.length_nil, Nat.reduceAdd, Nat.reduceLT, Nat.reduceEqDiff, Nat.reduceBEq, true_and, and_true, or_false, or_true, false_or, true_or, and_self, not_false_eq_true, not_true_eq_false, r_JM_max_0, r_JM_max_1, r_JM_max_2, r_JM_max_5, r_JM_max_6, r_JM_max_9, r_JM_max_10]
  by_cases e : a < b <;> simp only [e, reduceIte]
theorem e_min (a b : Int32) (h : mxH) (K : Option Value → mxH → Prop) : mcl mx_P 131 [.int a, .int b] h K ↔ K (some (.int (if b < a then b else a))) h := by
  unfold mcl
  simp only [mx_li, mx_ll, mx_la, mx_get, mx_s1, mx_s2, mx_tl, mx_nl, mx_ic, mx_op, mx_oc, mx_fd, mx_lg, mx_ls, mx_pd, mx_len, mx_isc, mx_ps, mx_ent, mx_rv, reduceIte, List.length_cons, List.length_nil, Nat.reduceAdd, Nat.reduceLT, Nat.reduceEqDiff, Nat.reduceBEq, true_and, and_true, or_false, or_true, false_or, true_or, and_self, not_false_eq_true, not_true_eq_false, r_JM_min_I_0, r_JM_min_I_1, r_JM_min_I_2, r_JM_min_I_5, r_JM_min_I_6, r_JM_min_I_9, r_JM_min_I_10]
  by_cases e : b < a <;> simp only [e, reduceIte]
theorem e_minJ (a b : Int64) (h : mxH) (K : Option Value → mxH → Prop) : mcl mx_P 132 [.long a, .long b] h K ↔ K (some (.long (if b < a then b else a))) h := by
  unfold mcl
  simp only [mx_li, mx_ll, mx_la, mx_get, mx_s1, mx_s2, mx_tl, mx_nl, mx_ic, mx_op, mx_oc, mx_fd, mx_lg, mx_ls, mx_pd, mx_len, mx_isc, mx_ps, mx_ent, mx_rv, reduceIte, List.length_cons, List.length_nil, Nat.reduceAdd, Nat.reduceLT, Nat.reduceEqDiff, Nat.reduceBEq, true_and, and_true, or_false, or_true, false_or, true_or, and_self, not_false_eq_true, not_true_eq_false, n_lt, n_eq, n_lt0, n_0lt, n_eq0, n_cl, n_add, n_mul, n_l, n_eqm, n_ltm, n_mlt, n_m1, l_lt, l_eq, l_lt0, l_0lt, l_eq0, l_add, l_mul, l_i, g_lt, g_eq, g_gt, n_div, n_rem, l_div, l_mod, n01_0, n01_1, n_1e, n_0e1, ald_i, ald_o, ald_l, ald_z, ald_a, ast_i, ast_l, ast_z, ast_a, zI_t, zI_f, zI_ok, zI_eq0, r_JM_min_J_0, r_JM_min_J_1, r_JM_min_J_2, r_JM_min_J_3, r_JM_min_J_6, r_JM_min_J_7, r_JM_min_J_10, r_JM_min_J_11]
  by_cases e : b < a <;> simp only [e, reduceIte]
theorem e_abs (a : Int32) (h : mxH) (K : Option Value → mxH → Prop) : mcl mx_P 129 [.int a] h K ↔ K (some (.int (if a < 0 then -a else a))) h := by
  unfold mcl
  simp only [mx_li, mx_ll, mx_la, mx_get, mx_s1, mx_s2, mx_tl, mx_nl, mx_ic, mx_op, mx_oc, mx_fd, mx_lg, mx_ls, mx_pd, mx_len, mx_isc, mx_ps, mx_ent, mx_rv, reduceIte, List.length_cons, List.length_nil, Nat.reduceAdd, Nat.reduceLT, Nat.reduceEqDiff, Nat.reduceBEq, true_and, and_true, or_false, or_true, false_or, true_or, and_self, not_false_eq_true, not_true_eq_false, r_JM_abs_0, r_JM_abs_1, r_JM_abs_4, r_JM_abs_5, r_JM_abs_6, r_JM_abs_9, r_JM_abs_10]
  by_cases e : a < 0 <;> simp only [e, reduceIte]
theorem e_cmp (a b : Int64) (h : mxH) (K : Option Value → mxH → Prop) : mcl mx_P 128 [.long a, .long b] h K ↔ K (some (.int (if a < b then -1 else if a = b then 0 else 1))) h := by
  unfold mcl
  simp only [mx_li, mx_ll, mx_la, mx_get, mx_s1, mx_s2, mx_tl, mx_nl, mx_ic, mx_op, mx_oc, mx_fd, mx_lg, mx_ls, mx_pd, mx_len, mx_isc, mx_ps, mx_ent, mx_rv, reduceIte, List.length_cons, List.length_nil, Nat.reduceAdd, Nat.reduceLT, Nat.reduceEqDiff, Nat.reduceBEq, true_and, and_true, or_false, or_true, false_or, true_or, and_self, not_false_eq_true, not_true_eq_false, n_lt, n_eq, n_lt0, n_0lt, n_eq0, n_cl, n_add, n_mul, n_l, n_eqm, n_ltm, n_mlt, n_m1, l_lt, l_eq, l_lt0, l_0lt, l_eq0, l_add, l_mul, l_i, g_lt, g_eq, g_gt, n_div, n_rem, l_div, l_mod, n01_0, n01_1, n_1e, n_0e1, ald_i, ald_o, ald_l, ald_z, ald_a, ast_i, ast_l, ast_z, ast_a, zI_t, zI_f, zI_ok, zI_eq0, r_JL_compare_0, r_JL_compare_1, r_JL_compare_2, r_JL_compare_3, r_JL_compare_6, r_JL_compare_7, r_JL_compare_10, r_JL_compare_11, r_JL_compare_12, r_JL_compare_13, r_JL_compare_16, r_JL_compare_17, r_JL_compare_20, r_JL_compare_21]
  by_cases e : a < b
  · simp only [e, reduceIte]
  · by_cases e2 : a = b
    · simp only [e, reduceIte]
      rw [if_pos e2, if_pos e2]
      exact Iff.rfl
    · simp only [e, e2, reduceIte]
      exact Iff.rfl
/-- within: v from a to b -/
def wi (v a b : Int64) : Bool := !(decide (v < a)) && !(decide (b < v))
theorem e_X_within (v a b : Int64) (h : mxH) (K : Option Value → mxH → Prop) : mcl mx_P 24 [.long v, .long a, .long b] h K ↔ K (some (.int (zI (wi v a b)))) h := by
  unfold mcl wi
  simp only [mx_li, mx_ll, mx_la, mx_get, mx_s1, mx_s2, mx_tl, mx_nl, mx_ic, mx_op, mx_oc, mx_fd, mx_lg, mx_ls, mx_pd, mx_len, mx_isc, mx_ps, mx_ent, mx_rv, reduceIte, List.length_cons, List.length_nil, Nat.reduceAdd, Nat.reduceLT, Nat.reduceEqDiff, Nat.reduceBEq, true_and, and_true, or_false, or_true, false_or, true_or, and_self, not_false_eq_true, not_true_eq_false, n_lt, n_eq, n_lt0, n_0lt, n_eq0, n_cl, n_add, n_mul, n_l, n_eqm, n_ltm, n_mlt, n_m1, l_lt, l_eq, l_lt0, l_0lt, l_eq0, l_add, l_mul, l_i, g_lt, g_eq, g_gt, n_div, n_rem, l_div, l_mod, n01_0, n01_1, n_1e, n_0e1, ald_i, ald_o, ald_l, ald_z, ald_a, ast_i, ast_l, ast_z, ast_a, zI_t, zI_f, zI_ok, zI_eq0, r_X_within_0, r_X_within_1, r_X_within_2, r_X_within_3, r_X_within_6, r_X_within_7, r_X_within_9, r_X_within_10, r_X_within_13, r_X_within_14, r_X_within_17, r_X_within_18]
  by_cases e : v < a <;> by_cases e2 : b < v <;> simp only [e, e2, reduceIte, decide_true, decide_false, Bool.not_true, Bool.not_false, Bool.and_true, Bool.and_false, Bool.and_self, zI_t, zI_f, n01_0, n01_1, n_1e, n_0e1]
theorem e_M_within (v a b : Int64) (h : mxH) (K : Option Value → mxH → Prop) : mcl mx_P 77 [.long v, .long a, .long b] h K ↔ K (some (.int (zI (wi v a b)))) h := by
  unfold mcl wi
  simp only [mx_li, mx_ll, mx_la, mx_get, mx_s1, mx_s2, mx_tl, mx_nl, mx_ic, mx_op, mx_oc, mx_fd, mx_lg, mx_ls, mx_pd, mx_len, mx_isc, mx_ps, mx_ent, mx_rv, reduceIte, List.length_cons, List.length_nil, Nat.reduceAdd, Nat.reduceLT, Nat.reduceEqDiff, Nat.reduceBEq, true_and, and_true, or_false, or_true, false_or, true_or, and_self, not_false_eq_true, not_true_eq_false, n_lt, n_eq, n_lt0, n_0lt, n_eq0, n_cl, n_add, n_mul, n_l, n_eqm, n_ltm, n_mlt, n_m1, l_lt, l_eq, l_lt0, l_0lt, l_eq0, l_add, l_mul, l_i, g_lt, g_eq, g_gt, n_div, n_rem, l_div, l_mod, n01_0, n01_1, n_1e, n_0e1, ald_i, ald_o, ald_l, ald_z, ald_a, ast_i, ast_l, ast_z, ast_a, zI_t, zI_f, zI_ok, zI_eq0, r_M_within_0, r_M_within_1, r_M_within_2, r_M_within_3, r_M_within_6, r_M_within_7, r_M_within_9, r_M_within_10, r_M_within_13, r_M_within_14, r_M_within_17, r_M_within_18]
  by_cases e : v < a <;> by_cases e2 : b < v <;> simp only [e, e2, reduceIte, decide_true, decide_false, Bool.not_true, Bool.not_false, Bool.and_true, Bool.and_false, Bool.and_self, zI_t, zI_f, n01_0, n01_1, n_1e, n_0e1]
theorem e_X_isAim (x : Int32) (h : mxH) (K : Option Value → mxH → Prop) : mcl mx_P 22 [.int x] h K ↔ K (some (.int (zI (wi x.toInt64 (lN 0) (lN 3))))) h := by
  rw [mcl]
  simp only [mx_li, mx_ll, mx_la, mx_get, mx_s1, mx_s2, mx_tl, mx_nl, mx_ic, mx_op, mx_oc, mx_fd, mx_lg, mx_ls, mx_pd, mx_len, mx_isc, mx_ps, mx_ent, mx_rv, reduceIte, List.length_cons, List.length_nil, Nat.reduceAdd, Nat.reduceLT, Nat.reduceEqDiff, Nat.reduceBEq, true_and, and_true, or_false, or_true, false_or, true_or, and_self, not_false_eq_true, not_true_eq_false, r_X_isAim_0, r_X_isAim_1, r_X_isAim_2, r_X_isAim_3, r_X_isAim_6, r_X_isAim_9, e_X_within, zI_ok]
theorem e_X_isZone (x : Int32) (h : mxH) (K : Option Value → mxH → Prop) : mcl mx_P 23 [.int x] h K ↔ K (some (.int (zI (wi x.toInt64 (lN 0) (lN 7))))) h := by
  rw [mcl]
  simp only [mx_li, mx_ll, mx_la, mx_get, mx_s1, mx_s2, mx_tl, mx_nl, mx_ic, mx_op, mx_oc, mx_fd, mx_lg, mx_ls, mx_pd, mx_len, mx_isc, mx_ps, mx_ent, mx_rv, reduceIte, List.length_cons, List.length_nil, Nat.reduceAdd, Nat.reduceLT, Nat.reduceEqDiff, Nat.reduceBEq, true_and, and_true, or_false, or_true, false_or, true_or, and_self, not_false_eq_true, not_true_eq_false, r_X_isZone_0, r_X_isZone_1, r_X_isZone_2, r_X_isZone_3, r_X_isZone_6, r_X_isZone_9, e_X_within, zI_ok]
