/-! THE CLASS's QUEUE: fill and reset -/
theorem up_e {h : mxH} {k : Nat} {c : mxC} {j : Nat} (e : j = k) : (mx_up h k c).1 j = c := by rw [up_1, if_pos e]
theorem up_n {h : mxH} {k : Nat} {c : mxC} {j : Nat} (e : j ≠ k) : (mx_up h k c).1 j = h.1 j := by rw [up_1, if_neg e]
theorem mk_e {h : mxH} {c : mxC} {w j : Nat} (e : j = h.2.1) : (mx_mk h c w).1 j = c := by rw [mk_1, if_pos e]
theorem mk_n {h : mxH} {c : mxC} {w j : Nat} (e : j ≠ h.2.1) : (mx_mk h c w).1 j = h.1 j := by rw [mk_1, if_neg e]
theorem e_rangeCheck {a b c : Nat} (h1 : b ≤ c) (h2 : c ≤ a) (ha : a < 2147483648) (h : mxH) (K : Option Value → mxH → Prop) : mcl mx_P 133 [.int (nI a), .int (nI b), .int (nI c)] h K ↔ K none h := by
  have e1 : ¬ c < b := by omega
  have e2 : ¬ a < c := by omega
  rw [mcl]
  simp (disch := omega) only [mx_li, mx_ll, mx_la, mx_get, mx_s1, mx_s2, mx_tl, mx_nl, mx_ic, mx_op, mx_oc, mx_fd, mx_lg, mx_ls, mx_pd, mx_len, mx_isc, mx_ps, mx_ent, mx_rv, ↓reduceIte, List.length_cons, List.length_nil, Nat.reduceAdd, Nat.reduceLT, Nat.reduceEqDiff, Nat.reduceBEq, true_and, and_true, or_false, or_true, false_or, true_or, and_self, not_false_eq_true, not_true_eq_false, mob_g0, mob_g1, mob_g2, mob_g3, mob_g4, mob_g5, mob_g6, mob_g7, mob_g8, mob_g9, mob_g10, mob_g11, mob_g12, mob_g13, mob_g14, mob_g15, mob_g16, mob_g17, mob_g18, mob_g19, mob_g20, mob_g21, mob_g22, mob_g23, mob_g24, mob_g25, mob_g26, mob_g27, mob_g28, mob_g29, mob_g30, mob_g31, mob_g32, mob_s0, mob_s1, mob_s11, mob_s12, mob_s13, mob_s14, mob_s15, mob_s19, mob_s20, mob_s21, mob_s22, mob_s23, mob_s24, mob_s31, mob_len, xob_g0, xob_g1, xob_g2, xob_g3, xob_g4, xob_g5, xob_g6, xob_s3, xob_s4, xob_s5, xob_s6, xob_len, gob_g0, gob_g1, gob_g2, gob_g3, gob_g4, gob_g5, gob_g6, gob_g7, gob_g8, gob_g9, gob_g10, gob_g11, gob_g12, gob_g13, gob_g14, gob_g15, gob_g16, gob_g17, gob_s0, gob_s1, gob_s2, gob_s15, gob_s16, gob_s17, gob_len, sob_g0, sob_g1, sob_g2, sob_g3, sob_g4, sob_g5, sob_g6, sob_g7, sob_g8, sob_g9, sob_s5, sob_s6, sob_s7, sob_s8, sob_s9, sob_len, qob_g0, qob_g1, qob_g2, qob_g3, qob_g4, qob_g5, qob_s0, qob_s1, qob_s2, qob_s3, qob_s4, qob_s5, qob_len, wob_g0, wob_g1, wob_g2, wob_s0, wob_s1, wob_s2, wob_len, pob_g0, pob_g1, pob_g2, pob_g3, pob_g4, pob_s0, pob_s1, pob_s2, pob_s3, pob_s4, pob_len, n_lt, n_eq, n_lt0, n_0lt, n_eq0, n_cl, n_add, n_mul, n_l, n_eqm, n_ltm, n_mlt, n_m1, l_lt, l_eq, l_lt0, l_0lt, l_eq0, l_add, l_mul, l_i, g_lt, g_eq, g_gt, n_div, n_rem, l_div, l_mod, n01_0, n01_1, n_1e, n_0e1, ald_i, ald_o, ald_l, ald_z, ald_a, ast_i, ast_l, ast_z, ast_a, zI_t, zI_f, zI_ok, zI_eq0, r_JA_rangeCheck_0, r_JA_rangeCheck_1, r_JA_rangeCheck_2, r_JA_rangeCheck_46, r_JA_rangeCheck_47, r_JA_rangeCheck_59, r_JA_rangeCheck_60, r_JA_rangeCheck_61, r_JA_rangeCheck_73, e1, e2]
theorem l_fill {a cap n : Nat} {x : Int32} (hn : n ≤ cap) (hcap : cap < 2147483648) : ∀ (d i : Nat) (f : Nat → Int32) (h : mxH) (K : Option Value → mxH → Prop), i + d = n → h.1 a = .inl (0, cap, .inl f) →
    (mw mx_P 134 10 [some (.ref a), some (.int (nI 0)), some (.int (nI n)), some (.int x), some (.int (nI i))] [] h K ↔ K none (mx_up h a (.inl (0, cap, .inl (fun j => if i ≤ j ∧ j < n then x else f j))))) := by
  intro d
  induction d with
  | zero =>
    intro i f h K hi ha
    have e : ¬ i < n := by omega
    rw [r_JA_fill_10]
    simp (disch := omega) only [mx_li, mx_ll, mx_la, mx_get, mx_s1, mx_s2, mx_tl, mx_nl, mx_ic, mx_op, mx_oc, mx_fd, mx_lg, mx_ls, mx_pd, mx_len, mx_isc, mx_ps, mx_ent, mx_rv, ↓reduceIte, List.length_cons, List.length_nil, Nat.reduceAdd, Nat.reduceLT, Nat.reduceEqDiff, Nat.reduceBEq, true_and, and_true, or_false, or_true, false_or, true_or, and_self, not_false_eq_true, not_true_eq_false, mob_g0, mob_g1, mob_g2, mob_g3, mob_g4, mob_g5, mob_g6, mob_g7, mob_g8, mob_g9, mob_g10, mob_g11, mob_g12, mob_g13, mob_g14, mob_g15, mob_g16, mob_g17, mob_g18, mob_g19, mob_g20, mob_g21, mob_g22, mob_g23, mob_g24, mob_g25, mob_g26, mob_g27, mob_g28, mob_g29, mob_g30, mob_g31, mob_g32, mob_s0, mob_s1, mob_s11, mob_s12, mob_s13, mob_s14, mob_s15, mob_s19, mob_s20, mob_s21, mob_s22, mob_s23, mob_s24, mob_s31, mob_len, xob_g0, xob_g1, xob_g2, xob_g3, xob_g4, xob_g5, xob_g6, xob_s3, xob_s4, xob_s5, xob_s6, xob_len, gob_g0, gob_g1, gob_g2, gob_g3, gob_g4, gob_g5, gob_g6, gob_g7, gob_g8, gob_g9, gob_g10, gob_g11, gob_g12, gob_g13, gob_g14, gob_g15, gob_g16, gob_g17, gob_s0, gob_s1, gob_s2, gob_s15, gob_s16, gob_s17, gob_len, sob_g0, sob_g1, sob_g2, sob_g3, sob_g4, sob_g5, sob_g6, sob_g7, sob_g8, sob_g9, sob_s5, sob_s6, sob_s7, sob_s8, sob_s9, sob_len, qob_g0, qob_g1, qob_g2, qob_g3, qob_g4, qob_g5, qob_s0, qob_s1, qob_s2, qob_s3, qob_s4, qob_s5, qob_len, wob_g0, wob_g1, wob_g2, wob_s0, wob_s1, wob_s2, wob_len, pob_g0, pob_g1, pob_g2, pob_g3, pob_g4, pob_s0, pob_s1, pob_s2, pob_s3, pob_s4, pob_len, n_lt, n_eq, n_lt0, n_0lt, n_eq0, n_cl, n_add, n_mul, n_l, n_eqm, n_ltm, n_mlt, n_m1, l_lt, l_eq, l_lt0, l_0lt, l_eq0, l_add, l_mul, l_i, g_lt, g_eq, g_gt, n_div, n_rem, l_div, l_mod, n01_0, n01_1, n_1e, n_0e1, ald_i, ald_o, ald_l, ald_z, ald_a, ast_i, ast_l, ast_z, ast_a, zI_t, zI_f, zI_ok, zI_eq0, r_JA_fill_0, r_JA_fill_1, r_JA_fill_2, r_JA_fill_3, r_JA_fill_4, r_JA_fill_7, r_JA_fill_8, r_JA_fill_12, r_JA_fill_13, r_JA_fill_16, r_JA_fill_17, r_JA_fill_19, r_JA_fill_20, r_JA_fill_21, r_JA_fill_24, r_JA_fill_27, e]
    rw [up_self]
    rw [ha]
    congr 4
    funext j
    rw [if_neg (by omega)]
  | succ d ih =>
    intro i f h K hi ha
    have e : i < n := by omega
    rw [r_JA_fill_10]
    simp (disch := omega) only [mx_li, mx_ll, mx_la, mx_get, mx_s1, mx_s2, mx_tl, mx_nl, mx_ic, mx_op, mx_oc, mx_fd, mx_lg, mx_ls, mx_pd, mx_len, mx_isc, mx_ps, mx_ent, mx_rv, ↓reduceIte, List.length_cons, List.length_nil, Nat.reduceAdd, Nat.reduceLT, Nat.reduceEqDiff, Nat.reduceBEq, true_and, and_true, or_false, or_true, false_or, true_or, and_self, not_false_eq_true, not_true_eq_false, mob_g0, mob_g1, mob_g2, mob_g3, mob_g4, mob_g5, mob_g6, mob_g7, mob_g8, mob_g9, mob_g10, mob_g11, mob_g12, mob_g13, mob_g14, mob_g15, mob_g16, mob_g17, mob_g18, mob_g19, mob_g20, mob_g21, mob_g22, mob_g23, mob_g24, mob_g25, mob_g26, mob_g27, mob_g28, mob_g29, mob_g30, mob_g31, mob_g32, mob_s0, mob_s1, mob_s11, mob_s12, mob_s13, mob_s14, mob_s15, mob_s19, mob_s20, mob_s21, mob_s22, mob_s23, mob_s24, mob_s31, mob_len, xob_g0, xob_g1, xob_g2, xob_g3, xob_g4, xob_g5, xob_g6, xob_s3, xob_s4, xob_s5, xob_s6, xob_len, gob_g0, gob_g1, gob_g2, gob_g3, gob_g4, gob_g5, gob_g6, gob_g7, gob_g8, gob_g9, gob_g10, gob_g11, gob_g12, gob_g13, gob_g14, gob_g15, gob_g16, gob_g17, gob_s0, gob_s1, gob_s2, gob_s15, gob_s16, gob_s17, gob_len, sob_g0, sob_g1, sob_g2, sob_g3, sob_g4, sob_g5, sob_g6, sob_g7, sob_g8, sob_g9, sob_s5, sob_s6, sob_s7, sob_s8, sob_s9, sob_len, qob_g0, qob_g1, qob_g2, qob_g3, qob_g4, qob_g5, qob_s0, qob_s1, qob_s2, qob_s3, qob_s4, qob_s5, qob_len, wob_g0, wob_g1, wob_g2, wob_s0, wob_s1, wob_s2, wob_len, pob_g0, pob_g1, pob_g2, pob_g3, pob_g4, pob_s0, pob_s1, pob_s2, pob_s3, pob_s4, pob_len, n_lt, n_eq, n_lt0, n_0lt, n_eq0, n_cl, n_add, n_mul, n_l, n_eqm, n_ltm, n_mlt, n_m1, l_lt, l_eq, l_lt0, l_0lt, l_eq0, l_add, l_mul, l_i, g_lt, g_eq, g_gt, n_div, n_rem, l_div, l_mod, n01_0, n01_1, n_1e, n_0e1, ald_i, ald_o, ald_l, ald_z, ald_a, ast_i, ast_l, ast_z, ast_a, zI_t, zI_f, zI_ok, zI_eq0, r_JA_fill_0, r_JA_fill_1, r_JA_fill_2, r_JA_fill_3, r_JA_fill_4, r_JA_fill_7, r_JA_fill_8, r_JA_fill_12, r_JA_fill_13, r_JA_fill_16, r_JA_fill_17, r_JA_fill_19, r_JA_fill_20, r_JA_fill_21, r_JA_fill_24, r_JA_fill_27, e, ha]
    rw [ih (i + 1) (va_up f i x) _ K (by omega) (by rw [up_1, if_pos rfl]), up_up]
    have e2 : (fun j => if i + 1 ≤ j ∧ j < n then x else va_up f i x j) = (fun j => if i ≤ j ∧ j < n then x else f j) := by
      funext j
      by_cases q : j = i
      · subst q; rw [va_up_self, if_neg (by omega), if_pos (by omega)]
      · rw [va_up_ne _ _ q]
        by_cases q2 : i ≤ j ∧ j < n
        · rw [if_pos q2, if_pos (by omega)]
        · rw [if_neg q2, if_neg (by omega)]
    rw [e2]
theorem e_fill {a cap n : Nat} {x : Int32} {f : Nat → Int32} {h : mxH} (hn : n ≤ cap) (hcap : cap < 2147483648) (ha : h.1 a = .inl (0, cap, .inl f)) (K : Option Value → mxH → Prop) : mcl mx_P 134 [.ref a, .int (nI 0), .int (nI n), .int x] h K ↔ K none (mx_up h a (.inl (0, cap, .inl (fun j => if j < n then x else f j)))) := by
  rw [mcl]
  have e : (fun j => if 0 ≤ j ∧ j < n then x else f j) = (fun j => if j < n then x else f j) := by
    funext j
    by_cases q : j < n
    · rw [if_pos q, if_pos ⟨by omega, q⟩]
    · rw [if_neg q, if_neg (by omega)]
  simp (disch := omega) only [mx_li, mx_ll, mx_la, mx_get, mx_s1, mx_s2, mx_tl, mx_nl, mx_ic, mx_op, mx_oc, mx_fd, mx_lg, mx_ls, mx_pd, mx_len, mx_isc, mx_ps, mx_ent, mx_rv, ↓reduceIte, List.length_cons, List.length_nil, Nat.reduceAdd, Nat.reduceLT, Nat.reduceEqDiff, Nat.reduceBEq, true_and, and_true, or_false, or_true, false_or, true_or, and_self, not_false_eq_true, not_true_eq_false, mob_g0, mob_g1, mob_g2, mob_g3, mob_g4, mob_g5, mob_g6, mob_g7, mob_g8, mob_g9, mob_g10, mob_g11, mob_g12, mob_g13, mob_g14, mob_g15, mob_g16, mob_g17, mob_g18, mob_g19, mob_g20, mob_g21, mob_g22, mob_g23, mob_g24, mob_g25, mob_g26, mob_g27, mob_g28, mob_g29, mob_g30, mob_g31, mob_g32, mob_s0, mob_s1, mob_s11, mob_s12, mob_s13, mob_s14, mob_s15, mob_s19, mob_s20, mob_s21, mob_s22, mob_s23, mob_s24, mob_s31, mob_len, xob_g0, xob_g1, xob_g2, xob_g3, xob_g4, xob_g5, xob_g6, xob_s3, xob_s4, xob_s5, xob_s6, xob_len, gob_g0, gob_g1, gob_g2, gob_g3, gob_g4, gob_g5, gob_g6, gob_g7, gob_g8, gob_g9, gob_g10, gob_g11, gob_g12, gob_g13, gob_g14, gob_g15, gob_g16, gob_g17, gob_s0, gob_s1, gob_s2, gob_s15, gob_s16, gob_s17, gob_len, sob_g0, sob_g1, sob_g2, sob_g3, sob_g4, sob_g5, sob_g6, sob_g7, sob_g8, sob_g9, sob_s5, sob_s6, sob_s7, sob_s8, sob_s9, sob_len, qob_g0, qob_g1, qob_g2, qob_g3, qob_g4, qob_g5, qob_s0, qob_s1, qob_s2, qob_s3, qob_s4, qob_s5, qob_len, wob_g0, wob_g1, wob_g2, wob_s0, wob_s1, wob_s2, wob_len, pob_g0, pob_g1, pob_g2, pob_g3, pob_g4, pob_s0, pob_s1, pob_s2, pob_s3, pob_s4, pob_len, n_lt, n_eq, n_lt0, n_0lt, n_eq0, n_cl, n_add, n_mul, n_l, n_eqm, n_ltm, n_mlt, n_m1, l_lt, l_eq, l_lt0, l_0lt, l_eq0, l_add, l_mul, l_i, g_lt, g_eq, g_gt, n_div, n_rem, l_div, l_mod, n01_0, n01_1, n_1e, n_0e1, ald_i, ald_o, ald_l, ald_z, ald_a, ast_i, ast_l, ast_z, ast_a, zI_t, zI_f, zI_ok, zI_eq0, r_JA_fill_0, r_JA_fill_1, r_JA_fill_2, r_JA_fill_3, r_JA_fill_4, r_JA_fill_7, r_JA_fill_8, ha, e_rangeCheck]
  rw [l_fill hn hcap n 0 f h K (by omega) ha, e]
theorem QI.S_lt {C R S H : Nat → Nat} {cap rc ct r : Nat} (hI : QI C R S H cap rc ct) (hr : r < rc) (hc : cap < 900000) : S r < 1000000 := by
  obtain ⟨i1, i2, i3, i4, i5, i6⟩ := id hI
  have hle := hHP_le i6 (N := rc) (fun e he => he.1)
  by_cases o : 2 ≤ S r
  · obtain ⟨j, h1, h2⟩ := i6.2.1 r ⟨hr, o⟩
    have := (i6.1 j h1).2
    rw [h2] at this
    dsimp only at this
    omega
  · omega
set_option maxHeartbeats 2000000 in
theorem c_Q_reset {h : mxH} {qc qr qs qh cap : Nat} {C R S H : Nat → Nat} {rc ct n : Nat} {K : Option Value → mxH → Prop} (hQ : QQ h qc qr qs qh cap C R S H rc ct) (hcap : cap < 1000000) (hC : ∀ r, r < cap → C r < 9223372036854775808) (hR : ∀ r, r < cap → R r < 9223372036854775808) (hn : n < 400000) (hnx : 31 < h.2.1)
    (kk : ∀ (h' : mxH) (qc' qr' qs' qh' cap' : Nat) (C' R' S' H' : Nat → Nat), QQ h' qc' qr' qs' qh' cap' C' R' S' H' n 0 → QI C' R' S' H' cap' n 0 → (∀ r, r < n → S' r = 0) →
      ((n ≤ cap ∧ cap' = cap ∧ qc' = qc ∧ qr' = qr ∧ qs' = qs ∧ qh' = qh ∧ h'.2 = h.2) ∨ (cap < n ∧ cap' = 2 * n ∧ qc' = h.2.1 ∧ qr' = h.2.1 + 1 ∧ qs' = h.2.1 + 2 ∧ qh' = h.2.1 + 3 ∧ h'.2.1 = h.2.1 + 4 ∧ h'.2.2 = h.2.2 + 8 * n)) →
      (∀ k, k < h.2.1 → k ≠ 31 → k ≠ qs → h'.1 k = h.1 k) → K none h') :
    mcl mx_P 57 [.ref 31, .int (nI n)] h K := by
  obtain ⟨q1, q2, q3, q4, q5, ⟨n1, n2, n3, n4⟩, ⟨n5, n6, n7⟩, ⟨n8, n9⟩, n10⟩ := id hQ
  rw [mcl]
  by_cases e : cap < n
  · have en : ¬ (50000000 < 2 * n) := by omega
    have e1 : ¬ ((31 : Nat) = h.2.1) := by omega
    have e2 : ¬ ((31 : Nat) = h.2.1 + 1) := by omega
    have e3 : ¬ ((31 : Nat) = h.2.1 + 1 + 1) := by omega
    have e4 : ¬ ((31 : Nat) = h.2.1 + 1 + 1 + 1) := by omega
    have a1 : mx_ar0 1 (2 * n) = .inl (1, 2 * n, .inr (.inl (fun _ => lN 0))) := rfl
    have a0 : mx_ar0 0 (2 * n) = .inl (0, 2 * n, .inl (fun _ => sI 2)) := rfl
    simp (disch := omega) only [mx_li, mx_ll, mx_la, mx_get, mx_s1, mx_s2, mx_tl, mx_nl, mx_ic, mx_op, mx_oc, mx_fd, mx_lg, mx_ls, mx_pd, mx_len, mx_isc, mx_ps, mx_ent, mx_rv, ↓reduceIte, List.length_cons, List.length_nil, Nat.reduceAdd, Nat.reduceLT, Nat.reduceEqDiff, Nat.reduceBEq, true_and, and_true, or_false, or_true, false_or, true_or, and_self, not_false_eq_true, not_true_eq_false, mob_g0, mob_g1, mob_g2, mob_g3, mob_g4, mob_g5, mob_g6, mob_g7, mob_g8, mob_g9, mob_g10, mob_g11, mob_g12, mob_g13, mob_g14, mob_g15, mob_g16, mob_g17, mob_g18, mob_g19, mob_g20, mob_g21, mob_g22, mob_g23, mob_g24, mob_g25, mob_g26, mob_g27, mob_g28, mob_g29, mob_g30, mob_g31, mob_g32, mob_s0, mob_s1, mob_s11, mob_s12, mob_s13, mob_s14, mob_s15, mob_s19, mob_s20, mob_s21, mob_s22, mob_s23, mob_s24, mob_s31, mob_len, xob_g0, xob_g1, xob_g2, xob_g3, xob_g4, xob_g5, xob_g6, xob_s3, xob_s4, xob_s5, xob_s6, xob_len, gob_g0, gob_g1, gob_g2, gob_g3, gob_g4, gob_g5, gob_g6, gob_g7, gob_g8, gob_g9, gob_g10, gob_g11, gob_g12, gob_g13, gob_g14, gob_g15, gob_g16, gob_g17, gob_s0, gob_s1, gob_s2, gob_s15, gob_s16, gob_s17, gob_len, sob_g0, sob_g1, sob_g2, sob_g3, sob_g4, sob_g5, sob_g6, sob_g7, sob_g8, sob_g9, sob_s5, sob_s6, sob_s7, sob_s8, sob_s9, sob_len, qob_g0, qob_g1, qob_g2, qob_g3, qob_g4, qob_g5, qob_s0, qob_s1, qob_s2, qob_s3, qob_s4, qob_s5, qob_len, wob_g0, wob_g1, wob_g2, wob_s0, wob_s1, wob_s2, wob_len, pob_g0, pob_g1, pob_g2, pob_g3, pob_g4, pob_s0, pob_s1, pob_s2, pob_s3, pob_s4, pob_len, n_lt, n_eq, n_lt0, n_0lt, n_eq0, n_cl, n_add, n_mul, n_l, n_eqm, n_ltm, n_mlt, n_m1, l_lt, l_eq, l_lt0, l_0lt, l_eq0, l_add, l_mul, l_i, g_lt, g_eq, g_gt, n_div, n_rem, l_div, l_mod, n01_0, n01_1, n_1e, n_0e1, ald_i, ald_o, ald_l, ald_z, ald_a, ast_i, ast_l, ast_z, ast_a, zI_t, zI_f, zI_ok, zI_eq0, r_Q_reset_0, r_Q_reset_1, r_Q_reset_2, r_Q_reset_5, r_Q_reset_6, r_Q_reset_9, r_Q_reset_10, r_Q_reset_11, r_Q_reset_12, r_Q_reset_13, r_Q_reset_14, r_Q_reset_15, r_Q_reset_17, r_Q_reset_20, r_Q_reset_21, r_Q_reset_22, r_Q_reset_24, r_Q_reset_27, r_Q_reset_28, r_Q_reset_29, r_Q_reset_31, r_Q_reset_34, r_Q_reset_35, r_Q_reset_36, r_Q_reset_38, r_Q_reset_41, r_Q_reset_42, r_Q_reset_43, r_Q_reset_46, r_Q_reset_47, r_Q_reset_48, r_Q_reset_51, r_Q_reset_52, r_Q_reset_55, r_Q_reset_56, r_Q_reset_57, r_Q_reset_58, r_Q_reset_61, q1, q4, e, en, or_self, up_1, up_2, mk_1, mk_21, mk_22, e1, e2, e3, e4, a1, a0]
    rw [e_fill (cap := 2 * n) (f := fun _ => sI 2) (by omega) (by omega) (by simp (disch := (first | omega | (simp only [up_2, mk_21]; first | done | omega))) only [up_e, up_n, mk_e, mk_n]; exact mk_e rfl)]
    simp (disch := omega) only [mx_li, mx_ll, mx_la, mx_get, mx_s1, mx_s2, mx_tl, mx_nl, mx_ic, mx_op, mx_oc, mx_fd, mx_lg, mx_ls, mx_pd, mx_len, mx_isc, mx_ps, mx_ent, mx_rv, ↓reduceIte, List.length_cons, List.length_nil, Nat.reduceAdd, Nat.reduceLT, Nat.reduceEqDiff, Nat.reduceBEq, true_and, and_true, or_false, or_true, false_or, true_or, and_self, not_false_eq_true, not_true_eq_false, mob_g0, mob_g1, mob_g2, mob_g3, mob_g4, mob_g5, mob_g6, mob_g7, mob_g8, mob_g9, mob_g10, mob_g11, mob_g12, mob_g13, mob_g14, mob_g15, mob_g16, mob_g17, mob_g18, mob_g19, mob_g20, mob_g21, mob_g22, mob_g23, mob_g24, mob_g25, mob_g26, mob_g27, mob_g28, mob_g29, mob_g30, mob_g31, mob_g32, mob_s0, mob_s1, mob_s11, mob_s12, mob_s13, mob_s14, mob_s15, mob_s19, mob_s20, mob_s21, mob_s22, mob_s23, mob_s24, mob_s31, mob_len, xob_g0, xob_g1, xob_g2, xob_g3, xob_g4, xob_g5, xob_g6, xob_s3, xob_s4, xob_s5, xob_s6, xob_len, gob_g0, gob_g1, gob_g2, gob_g3, gob_g4, gob_g5, gob_g6, gob_g7, gob_g8, gob_g9, gob_g10, gob_g11, gob_g12, gob_g13, gob_g14, gob_g15, gob_g16, gob_g17, gob_s0, gob_s1, gob_s2, gob_s15, gob_s16, gob_s17, gob_len, sob_g0, sob_g1, sob_g2, sob_g3, sob_g4, sob_g5, sob_g6, sob_g7, sob_g8, sob_g9, sob_s5, sob_s6, sob_s7, sob_s8, sob_s9, sob_len, qob_g0, qob_g1, qob_g2, qob_g3, qob_g4, qob_g5, qob_s0, qob_s1, qob_s2, qob_s3, qob_s4, qob_s5, qob_len, wob_g0, wob_g1, wob_g2, wob_s0, wob_s1, wob_s2, wob_len, pob_g0, pob_g1, pob_g2, pob_g3, pob_g4, pob_s0, pob_s1, pob_s2, pob_s3, pob_s4, pob_len, r_Q_reset_0, r_Q_reset_1, r_Q_reset_2, r_Q_reset_5, r_Q_reset_6, r_Q_reset_9, r_Q_reset_10, r_Q_reset_11, r_Q_reset_12, r_Q_reset_13, r_Q_reset_14, r_Q_reset_15, r_Q_reset_17, r_Q_reset_20, r_Q_reset_21, r_Q_reset_22, r_Q_reset_24, r_Q_reset_27, r_Q_reset_28, r_Q_reset_29, r_Q_reset_31, r_Q_reset_34, r_Q_reset_35, r_Q_reset_36, r_Q_reset_38, r_Q_reset_41, r_Q_reset_42, r_Q_reset_43, r_Q_reset_46, r_Q_reset_47, r_Q_reset_48, r_Q_reset_51, r_Q_reset_52, r_Q_reset_55, r_Q_reset_56, r_Q_reset_57, r_Q_reset_58, r_Q_reset_61]
    refine kk _ h.2.1 (h.2.1 + 1) (h.2.1 + 1 + 1) (h.2.1 + 1 + 1 + 1) (2 * n) (fun _ => 0) (fun _ => 0) (fun j => if j < n then 0 else 2) (fun _ => 0) ⟨?_, ?_, ?_, ?_, ?_, by omega, by omega, by omega, by omega⟩ ⟨by omega, by omega, fun _ _ => Nat.zero_lt_succ _, fun _ _ => Nat.zero_lt_succ _, ?_, hHP.nil ?_⟩ (fun r hr => if_pos hr) (Or.inr ⟨e, rfl, rfl, rfl, rfl, rfl, rfl, ?_⟩) ?_
    · simp (disch := (first | omega | (simp only [up_2, mk_21]; first | done | omega))) only [up_e, up_n, mk_e, mk_n]
    · simp (disch := (first | omega | (simp only [up_2, mk_21]; first | done | omega))) only [up_e, up_n, mk_e, mk_n]
    · simp (disch := (first | omega | (simp only [up_2, mk_21]; first | done | omega))) only [up_e, up_n, mk_e, mk_n]; exact mk_e rfl
    · simp (disch := (first | omega | (simp only [up_2, mk_21]; first | done | omega))) only [up_e, up_n, mk_e, mk_n]
      congr 4
      funext j
      by_cases q : j < n
      · rw [if_pos q, if_pos q]; rfl
      · rw [if_neg q, if_neg q]
    · simp (disch := (first | omega | (simp only [up_2, mk_21]; first | done | omega))) only [up_e, up_n, mk_e, mk_n]; exact mk_e rfl
    · intro a b ha hb
      obtain ⟨a1, a2⟩ := ha
      dsimp only at a2
      rw [if_pos a1] at a2
      omega
    · intro a ha
      obtain ⟨a1, a2⟩ := ha
      dsimp only at a2
      rw [if_pos a1] at a2
      omega
    · simp only [up_2, mk_22]; omega
    · intro k k1 k2 k3
      simp (disch := (first | omega | (simp only [up_2, mk_21]; first | done | omega))) only [up_e, up_n, mk_e, mk_n]
  · simp (disch := omega) only [mx_li, mx_ll, mx_la, mx_get, mx_s1, mx_s2, mx_tl, mx_nl, mx_ic, mx_op, mx_oc, mx_fd, mx_lg, mx_ls, mx_pd, mx_len, mx_isc, mx_ps, mx_ent, mx_rv, ↓reduceIte, List.length_cons, List.length_nil, Nat.reduceAdd, Nat.reduceLT, Nat.reduceEqDiff, Nat.reduceBEq, true_and, and_true, or_false, or_true, false_or, true_or, and_self, not_false_eq_true, not_true_eq_false, mob_g0, mob_g1, mob_g2, mob_g3, mob_g4, mob_g5, mob_g6, mob_g7, mob_g8, mob_g9, mob_g10, mob_g11, mob_g12, mob_g13, mob_g14, mob_g15, mob_g16, mob_g17, mob_g18, mob_g19, mob_g20, mob_g21, mob_g22, mob_g23, mob_g24, mob_g25, mob_g26, mob_g27, mob_g28, mob_g29, mob_g30, mob_g31, mob_g32, mob_s0, mob_s1, mob_s11, mob_s12, mob_s13, mob_s14, mob_s15, mob_s19, mob_s20, mob_s21, mob_s22, mob_s23, mob_s24, mob_s31, mob_len, xob_g0, xob_g1, xob_g2, xob_g3, xob_g4, xob_g5, xob_g6, xob_s3, xob_s4, xob_s5, xob_s6, xob_len, gob_g0, gob_g1, gob_g2, gob_g3, gob_g4, gob_g5, gob_g6, gob_g7, gob_g8, gob_g9, gob_g10, gob_g11, gob_g12, gob_g13, gob_g14, gob_g15, gob_g16, gob_g17, gob_s0, gob_s1, gob_s2, gob_s15, gob_s16, gob_s17, gob_len, sob_g0, sob_g1, sob_g2, sob_g3, sob_g4, sob_g5, sob_g6, sob_g7, sob_g8, sob_g9, sob_s5, sob_s6, sob_s7, sob_s8, sob_s9, sob_len, qob_g0, qob_g1, qob_g2, qob_g3, qob_g4, qob_g5, qob_s0, qob_s1, qob_s2, qob_s3, qob_s4, qob_s5, qob_len, wob_g0, wob_g1, wob_g2, wob_s0, wob_s1, wob_s2, wob_len, pob_g0, pob_g1, pob_g2, pob_g3, pob_g4, pob_s0, pob_s1, pob_s2, pob_s3, pob_s4, pob_len, n_lt, n_eq, n_lt0, n_0lt, n_eq0, n_cl, n_add, n_mul, n_l, n_eqm, n_ltm, n_mlt, n_m1, l_lt, l_eq, l_lt0, l_0lt, l_eq0, l_add, l_mul, l_i, g_lt, g_eq, g_gt, n_div, n_rem, l_div, l_mod, n01_0, n01_1, n_1e, n_0e1, ald_i, ald_o, ald_l, ald_z, ald_a, ast_i, ast_l, ast_z, ast_a, zI_t, zI_f, zI_ok, zI_eq0, r_Q_reset_0, r_Q_reset_1, r_Q_reset_2, r_Q_reset_5, r_Q_reset_6, r_Q_reset_9, r_Q_reset_10, r_Q_reset_11, r_Q_reset_12, r_Q_reset_13, r_Q_reset_14, r_Q_reset_15, r_Q_reset_17, r_Q_reset_20, r_Q_reset_21, r_Q_reset_22, r_Q_reset_24, r_Q_reset_27, r_Q_reset_28, r_Q_reset_29, r_Q_reset_31, r_Q_reset_34, r_Q_reset_35, r_Q_reset_36, r_Q_reset_38, r_Q_reset_41, r_Q_reset_42, r_Q_reset_43, r_Q_reset_46, r_Q_reset_47, r_Q_reset_48, r_Q_reset_51, r_Q_reset_52, r_Q_reset_55, r_Q_reset_56, r_Q_reset_57, r_Q_reset_58, r_Q_reset_61, q1, q4, e, up_1, n3, Ne.symm n3]
    rw [e_fill (cap := cap) (f := fun r => sI (S r)) (by omega) (by omega) (by simp (disch := omega) only [up_1, ↓reduceIte, n3]; exact q4)]
    simp (disch := omega) only [mx_li, mx_ll, mx_la, mx_get, mx_s1, mx_s2, mx_tl, mx_nl, mx_ic, mx_op, mx_oc, mx_fd, mx_lg, mx_ls, mx_pd, mx_len, mx_isc, mx_ps, mx_ent, mx_rv, ↓reduceIte, List.length_cons, List.length_nil, Nat.reduceAdd, Nat.reduceLT, Nat.reduceEqDiff, Nat.reduceBEq, true_and, and_true, or_false, or_true, false_or, true_or, and_self, not_false_eq_true, not_true_eq_false, mob_g0, mob_g1, mob_g2, mob_g3, mob_g4, mob_g5, mob_g6, mob_g7, mob_g8, mob_g9, mob_g10, mob_g11, mob_g12, mob_g13, mob_g14, mob_g15, mob_g16, mob_g17, mob_g18, mob_g19, mob_g20, mob_g21, mob_g22, mob_g23, mob_g24, mob_g25, mob_g26, mob_g27, mob_g28, mob_g29, mob_g30, mob_g31, mob_g32, mob_s0, mob_s1, mob_s11, mob_s12, mob_s13, mob_s14, mob_s15, mob_s19, mob_s20, mob_s21, mob_s22, mob_s23, mob_s24, mob_s31, mob_len, xob_g0, xob_g1, xob_g2, xob_g3, xob_g4, xob_g5, xob_g6, xob_s3, xob_s4, xob_s5, xob_s6, xob_len, gob_g0, gob_g1, gob_g2, gob_g3, gob_g4, gob_g5, gob_g6, gob_g7, gob_g8, gob_g9, gob_g10, gob_g11, gob_g12, gob_g13, gob_g14, gob_g15, gob_g16, gob_g17, gob_s0, gob_s1, gob_s2, gob_s15, gob_s16, gob_s17, gob_len, sob_g0, sob_g1, sob_g2, sob_g3, sob_g4, sob_g5, sob_g6, sob_g7, sob_g8, sob_g9, sob_s5, sob_s6, sob_s7, sob_s8, sob_s9, sob_len, qob_g0, qob_g1, qob_g2, qob_g3, qob_g4, qob_g5, qob_s0, qob_s1, qob_s2, qob_s3, qob_s4, qob_s5, qob_len, wob_g0, wob_g1, wob_g2, wob_s0, wob_s1, wob_s2, wob_len, pob_g0, pob_g1, pob_g2, pob_g3, pob_g4, pob_s0, pob_s1, pob_s2, pob_s3, pob_s4, pob_len, r_Q_reset_0, r_Q_reset_1, r_Q_reset_2, r_Q_reset_5, r_Q_reset_6, r_Q_reset_9, r_Q_reset_10, r_Q_reset_11, r_Q_reset_12, r_Q_reset_13, r_Q_reset_14, r_Q_reset_15, r_Q_reset_17, r_Q_reset_20, r_Q_reset_21, r_Q_reset_22, r_Q_reset_24, r_Q_reset_27, r_Q_reset_28, r_Q_reset_29, r_Q_reset_31, r_Q_reset_34, r_Q_reset_35, r_Q_reset_36, r_Q_reset_38, r_Q_reset_41, r_Q_reset_42, r_Q_reset_43, r_Q_reset_46, r_Q_reset_47, r_Q_reset_48, r_Q_reset_51, r_Q_reset_52, r_Q_reset_55, r_Q_reset_56, r_Q_reset_57, r_Q_reset_58, r_Q_reset_61]
    refine kk _ qc qr qs qh cap C R (fun j => if j < n then 0 else S j) H ⟨?_, ?_, ?_, ?_, ?_, ⟨n1, n2, n3, n4⟩, ⟨n5, n6, n7⟩, ⟨n8, n9⟩, n10⟩ ⟨by omega, by omega, hC, hR, ?_, hHP.nil ?_⟩ (fun r hr => if_pos hr) (Or.inl ⟨by omega, rfl, rfl, rfl, rfl, rfl, rfl⟩) ?_
    · simp (disch := (first | omega | (simp only [up_2, mk_21]; first | done | omega))) only [up_e, up_n, mk_e, mk_n]
    · simp (disch := (first | omega | (simp only [up_2, mk_21]; first | done | omega))) only [up_e, up_n, mk_e, mk_n]; exact q2
    · simp (disch := (first | omega | (simp only [up_2, mk_21]; first | done | omega))) only [up_e, up_n, mk_e, mk_n]; exact q3
    · simp (disch := (first | omega | (simp only [up_2, mk_21]; first | done | omega))) only [up_e, up_n, mk_e, mk_n]
      congr 4
      funext j
      by_cases q : j < n
      · rw [if_pos q, if_pos q]; rfl
      · rw [if_neg q, if_neg q]
    · simp (disch := (first | omega | (simp only [up_2, mk_21]; first | done | omega))) only [up_e, up_n, mk_e, mk_n]; exact q5
    · intro a b ha hb
      obtain ⟨a1, a2⟩ := ha
      dsimp only at a2
      rw [if_pos a1] at a2
      omega
    · intro a ha
      obtain ⟨a1, a2⟩ := ha
      dsimp only at a2
      rw [if_pos a1] at a2
      omega
    · intro k k1 k2 k3
      simp (disch := (first | omega | (simp only [up_2, mk_21]; first | done | omega))) only [up_e, up_n, mk_e, mk_n]
