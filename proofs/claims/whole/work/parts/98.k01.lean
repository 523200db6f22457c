/-! MAKING THE OBJECTS: the ground -/
def gs0 : mG := fun f i => if f = 9 then (if i = 0 then 1 else if i = 1 then 9999 else if i = 2 then 8 else 0) else 0
theorem GB_0 : GB gs0 := by
  refine ⟨fun i => ?_, fun i => ?_, fun i => ?_, fun i => ?_, fun i => ?_, fun i => ?_, fun i => ?_, fun i => ?_, fun i => ?_, Or.inl rfl, ?_, ?_⟩ <;> simp [gs0]
theorem ar1Z {d : Nat} (hd : d < 16) : ar_1.getD d 0 = iZ (dxl.getD d 0) := by
  have : ∀ d : Fin 16, ar_1.getD d.val 0 = iZ (dxl.getD d.val 0) := by decide +kernel
  exact this ⟨d, hd⟩
theorem ar2Z {d : Nat} (hd : d < 16) : ar_2.getD d 0 = iZ (dyl.getD d 0) := by
  have : ∀ d : Fin 16, ar_2.getD d.val 0 = iZ (dyl.getD d.val 0) := by decide +kernel
  exact this ⟨d, hd⟩
theorem cel_nbr2 {w hh c d : Nat} (hw : 0 < w) (hw2 : w ≤ 12) (hh2 : hh ≤ 12) (hc : c < 144) (hd : d < 16) : cel w hh (nI (c % w) + ar_1.getD d 0) (nI (c / w) + ar_2.getD d 0) = nbr w hh c d := by
  rw [ar1Z hd, ar2Z hd]
  exact cel_nbr hw hw2 hh2 (by omega)
section GIN
variable {K : Option Value → mxH → Prop}
theorem l_G_init1 {h0 : mxH} {w hh n : Nat} {x : List Value} (hw : 0 < w) (hn : n ≤ 144) (hx2 : mx_lg x 2 = some (.int (nI n))) (hx3 : mx_lg x 3 = some (.ref 18)) (hx4 : mx_lg x 4 = some (.ref 19)) (x0 : h0.1 17 = .inr (1, x))
    (hw2 : w ≤ 12)
    (kk : ∀ (h' : mxH), h'.1 18 = .inl (0, n, .inl (fun c => if c < n then nI (c % w) else 0)) → h'.1 19 = .inl (0, n, .inl (fun c => if c < n then nI (c / w) else 0)) → (∀ k, k ≠ 18 → k ≠ 19 → h'.1 k = h0.1 k) → h'.2 = h0.2 → mw mx_P 28 75 [some (.ref 17), some (.int (nI w)), some (.int (nI hh)), some (.int (nI n))] [] h' K) :
    ∀ (d p : Nat) (h : mxH), p + d = n → h.1 18 = .inl (0, n, .inl (fun c => if c < p then nI (c % w) else 0)) → h.1 19 = .inl (0, n, .inl (fun c => if c < p then nI (c / w) else 0)) → (∀ k, k ≠ 18 → k ≠ 19 → h.1 k = h0.1 k) → h.2 = h0.2 →
      mw mx_P 28 43 [some (.ref 17), some (.int (nI w)), some (.int (nI hh)), some (.int (nI p))] [] h K := by
  intro d
  induction d with
  | zero =>
    intro p h hp h1 h2 hF hE
    have x17 := (hF 17 (by omega) (by omega)).trans x0
    have e : p = n := by omega
    subst e
    rw [r_G_init_43]
    simp (disch := omega) only [mx_li, mx_ll, mx_la, mx_get, mx_s1, mx_s2, mx_tl, mx_nl, mx_ic, mx_op, mx_oc, mx_fd, mx_lg, mx_ls, mx_pd, mx_len, mx_isc, mx_ps, mx_ent, mx_rv, ↓reduceIte, List.length_cons, List.length_nil, Nat.reduceAdd, Nat.reduceLT, Nat.reduceEqDiff, Nat.reduceBEq, true_and, and_true, or_false, or_true, false_or, true_or, and_self, not_false_eq_true, not_true_eq_false, mob_g0, mob_g1, mob_g2, mob_g3, mob_g4, mob_g5, mob_g6, mob_g7, mob_g8, mob_g9, mob_g10, mob_g11, mob_g12, mob_g13, mob_g14, mob_g15, mob_g16, mob_g17, mob_g18, mob_g19, mob_g20, mob_g21, mob_g22, mob_g23, mob_g24, mob_g25, mob_g26, mob_g27, mob_g28, mob_g29, mob_g30, mob_g31, mob_g32, mob_s0, mob_s1, mob_s11, mob_s12, mob_s13, mob_s14, mob_s15, mob_s19, mob_s20, mob_s21, mob_s22, mob_s23, mob_s24, mob_s31, mob_len, xob_g0, xob_g1, xob_g2, xob_g3, xob_g4, xob_g5, xob_g6, xob_s3, xob_s4, xob_s5, xob_s6, xob_len, gob_g0, gob_g1, gob_g2, gob_g3, gob_g4, gob_g5, gob_g6, gob_g7, gob_g8, gob_g9, gob_g10, gob_g11, gob_g12, gob_g13, gob_g14, gob_g15, gob_g16, gob_g17, gob_s0, gob_s1, gob_s2, gob_s15, gob_s16, gob_s17, gob_len, sob_g0, sob_g1, sob_g2, sob_g3, sob_g4, sob_g5, sob_g6, sob_g7, sob_g8, sob_g9, sob_s5, sob_s6, sob_s7, sob_s8, sob_s9, sob_len, qob_g0, qob_g1, qob_g2, qob_g3, qob_g4, qob_g5, qob_s0, qob_s1, qob_s2, qob_s3, qob_s4, qob_s5, qob_len, wob_g0, wob_g1, wob_g2, wob_s0, wob_s1, wob_s2, wob_len, pob_g0, pob_g1, pob_g2, pob_g3, pob_g4, pob_s0, pob_s1, pob_s2, pob_s3, pob_s4, pob_len, n_lt, n_eq, n_lt0, n_0lt, n_eq0, n_cl, n_add, n_mul, n_l, n_eqm, n_ltm, n_mlt, n_m1, l_lt, l_eq, l_lt0, l_0lt, l_eq0, l_add, l_mul, l_i, g_lt, g_eq, g_gt, n_div, n_rem, l_div, l_mod, n01_0, n01_1, n_1e, n_0e1, ald_i, ald_o, ald_l, ald_z, ald_a, ast_i, ast_l, ast_z, ast_a, zI_t, zI_f, zI_ok, zI_eq0, r_G_init_44, r_G_init_45, r_G_init_48, x17, hx2, Nat.lt_irrefl]
    exact kk h h1 h2 hF hE
  | succ d ih =>
    intro p h hp h1 h2 hF hE
    have x17 := (hF 17 (by omega) (by omega)).trans x0
    have e : p < n := by omega
    have w0 : ¬ w = 0 := by omega
    have z17 : ¬ (17 = 18) := by omega
    have z19 : ¬ (19 = 18) := by omega
    rw [r_G_init_43]
    simp (disch := omega) only [mx_li, mx_ll, mx_la, mx_get, mx_s1, mx_s2, mx_tl, mx_nl, mx_ic, mx_op, mx_oc, mx_fd, mx_lg, mx_ls, mx_pd, mx_len, mx_isc, mx_ps, mx_ent, mx_rv, ↓reduceIte, List.length_cons, List.length_nil, Nat.reduceAdd, Nat.reduceLT, Nat.reduceEqDiff, Nat.reduceBEq, true_and, and_true, or_false, or_true, false_or, true_or, and_self, not_false_eq_true, not_true_eq_false, mob_g0, mob_g1, mob_g2, mob_g3, mob_g4, mob_g5, mob_g6, mob_g7, mob_g8, mob_g9, mob_g10, mob_g11, mob_g12, mob_g13, mob_g14, mob_g15, mob_g16, mob_g17, mob_g18, mob_g19, mob_g20, mob_g21, mob_g22, mob_g23, mob_g24, mob_g25, mob_g26, mob_g27, mob_g28, mob_g29, mob_g30, mob_g31, mob_g32, mob_s0, mob_s1, mob_s11, mob_s12, mob_s13, mob_s14, mob_s15, mob_s19, mob_s20, mob_s21, mob_s22, mob_s23, mob_s24, mob_s31, mob_len, xob_g0, xob_g1, xob_g2, xob_g3, xob_g4, xob_g5, xob_g6, xob_s3, xob_s4, xob_s5, xob_s6, xob_len, gob_g0, gob_g1, gob_g2, gob_g3, gob_g4, gob_g5, gob_g6, gob_g7, gob_g8, gob_g9, gob_g10, gob_g11, gob_g12, gob_g13, gob_g14, gob_g15, gob_g16, gob_g17, gob_s0, gob_s1, gob_s2, gob_s15, gob_s16, gob_s17, gob_len, sob_g0, sob_g1, sob_g2, sob_g3, sob_g4, sob_g5, sob_g6, sob_g7, sob_g8, sob_g9, sob_s5, sob_s6, sob_s7, sob_s8, sob_s9, sob_len, qob_g0, qob_g1, qob_g2, qob_g3, qob_g4, qob_g5, qob_s0, qob_s1, qob_s2, qob_s3, qob_s4, qob_s5, qob_len, wob_g0, wob_g1, wob_g2, wob_s0, wob_s1, wob_s2, wob_len, pob_g0, pob_g1, pob_g2, pob_g3, pob_g4, pob_s0, pob_s1, pob_s2, pob_s3, pob_s4, pob_len, n_lt, n_eq, n_lt0, n_0lt, n_eq0, n_cl, n_add, n_mul, n_l, n_eqm, n_ltm, n_mlt, n_m1, l_lt, l_eq, l_lt0, l_0lt, l_eq0, l_add, l_mul, l_i, g_lt, g_eq, g_gt, n_div, n_rem, l_div, l_mod, n01_0, n01_1, n_1e, n_0e1, ald_i, ald_o, ald_l, ald_z, ald_a, ast_i, ast_l, ast_z, ast_a, zI_t, zI_f, zI_ok, zI_eq0, r_G_init_44, r_G_init_45, r_G_init_48, r_G_init_51, r_G_init_52, r_G_init_55, r_G_init_56, r_G_init_57, r_G_init_58, r_G_init_59, r_G_init_60, r_G_init_61, r_G_init_64, r_G_init_65, r_G_init_66, r_G_init_67, r_G_init_68, r_G_init_69, r_G_init_72, x17, hx2, hx3, hx4, h1, h2, e, w0, up_1, z17, z19]
    have up1 : ∀ g : Nat → Nat, va_up (fun c => if c < p then nI (g c) else 0) p (nI (g p)) = fun c => if c < p + 1 then nI (g c) else 0 := by
      intro g
      funext c
      by_cases q : c = p
      · rw [q, va_up_self, if_pos (by omega)]
      · rw [va_up_ne _ _ q]
        by_cases y : c < p
        · rw [if_pos y, if_pos (by omega)]
        · rw [if_neg y, if_neg (by omega)]
    rw [up1 (fun c => c % w), up1 (fun c => c / w)]
    refine ih (p + 1) _ (by omega) ?_ ?_ (fun k k1 k2 => ?_) hE
    · simp (disch := (first | omega | (simp only [up_2, mk_21]; first | done | omega))) only [up_e, up_n, mk_e, mk_n]
    · simp (disch := (first | omega | (simp only [up_2, mk_21]; first | done | omega))) only [up_e, up_n, mk_e, mk_n]
    · simp (disch := (first | omega | (simp only [up_2, mk_21]; first | done | omega))) only [up_e, up_n, mk_e, mk_n]; exact hF k k1 k2
set_option maxHeartbeats 1000000 in
theorem l_G_init2 {h0 : mxH} {w hh : Nat} {x : List Value} (hw : 0 < w) (hw2 : w ≤ 12) (hh2 : hh ≤ 12) (hn : w * hh ≤ 144) (hx3 : mx_lg x 1 = some (.ref 18)) (hx4 : mx_lg x 2 = some (.ref 19)) (hx5 : mx_lg x 3 = some (.ref 20)) (x0 : h0.1 17 = .inr (1, .int (nI w) :: .int (nI hh) :: x)) (x1 : h0.1 1 = .inl (9, 16, .inl (fun j => ar_1.getD j 0))) (x2 : h0.1 2 = .inl (9, 16, .inl (fun j => ar_2.getD j 0)))
    (x18 : h0.1 18 = .inl (0, w * hh, .inl (fun c => if c < w * hh then nI (c % w) else 0))) (x19 : h0.1 19 = .inl (0, w * hh, .inl (fun c => if c < w * hh then nI (c / w) else 0)))
    (kk : ∀ (h' : mxH) (T : mxL), h'.1 20 = .inl (0, w * hh * 16, .inl (fun i => if i < w * hh * 16 then oI (nbr w hh (i / 16) (i % 16)) else 0)) → (∀ k, k ≠ 20 → h'.1 k = h0.1 k) → h'.2 = h0.2 → mw mx_P 28 155 (some (.ref 17) :: some (.int (nI w)) :: some (.int (nI hh)) :: some (.int (nI (w * hh * 16))) :: T) [] h' K) :
    ∀ (d p : Nat) (h : mxH) (T : mxL), p + d = w * hh * 16 → h.1 20 = .inl (0, w * hh * 16, .inl (fun i => if i < p then oI (nbr w hh (i / 16) (i % 16)) else 0)) → (∀ k, k ≠ 20 → h.1 k = h0.1 k) → h.2 = h0.2 →
      mw mx_P 28 90 (some (.ref 17) :: some (.int (nI w)) :: some (.int (nI hh)) :: some (.int (nI p)) :: T) [] h K := by
  intro d
  induction d with
  | zero =>
    intro p h T hp h1 hF hE
    have x17 := (hF 17 (by omega)).trans x0
    have e : p = w * hh * 16 := by omega
    subst e
    have g5 : mx_lg (.int (nI w) :: .int (nI hh) :: x) 5 = some (.ref 20) := hx5
    rw [r_G_init_90]
    simp (disch := omega) only [mx_li, mx_ll, mx_la, mx_get, mx_s1, mx_s2, mx_tl, mx_nl, mx_ic, mx_op, mx_oc, mx_fd, mx_lg, mx_ls, mx_pd, mx_len, mx_isc, mx_ps, mx_ent, mx_rv, ↓reduceIte, List.length_cons, List.length_nil, Nat.reduceAdd, Nat.reduceLT, Nat.reduceEqDiff, Nat.reduceBEq, true_and, and_true, or_false, or_true, false_or, true_or, and_self, not_false_eq_true, not_true_eq_false, mob_g0, mob_g1, mob_g2, mob_g3, mob_g4, mob_g5, mob_g6, mob_g7, mob_g8, mob_g9, mob_g10, mob_g11, mob_g12, mob_g13, mob_g14, mob_g15, mob_g16, mob_g17, mob_g18, mob_g19, mob_g20, mob_g21, mob_g22, mob_g23, mob_g24, mob_g25, mob_g26, mob_g27, mob_g28, mob_g29, mob_g30, mob_g31, mob_g32, mob_s0, mob_s1, mob_s11, mob_s12, mob_s13, mob_s14, mob_s15, mob_s19, mob_s20, mob_s21, mob_s22, mob_s23, mob_s24, mob_s31, mob_len, xob_g0, xob_g1, xob_g2, xob_g3, xob_g4, xob_g5, xob_g6, xob_s3, xob_s4, xob_s5, xob_s6, xob_len, gob_g0, gob_g1, gob_g2, gob_g3, gob_g4, gob_g5, gob_g6, gob_g7, gob_g8, gob_g9, gob_g10, gob_g11, gob_g12, gob_g13, gob_g14, gob_g15, gob_g16, gob_g17, gob_s0, gob_s1, gob_s2, gob_s15, gob_s16, gob_s17, gob_len, sob_g0, sob_g1, sob_g2, sob_g3, sob_g4, sob_g5, sob_g6, sob_g7, sob_g8, sob_g9, sob_s5, sob_s6, sob_s7, sob_s8, sob_s9, sob_len, qob_g0, qob_g1, qob_g2, qob_g3, qob_g4, qob_g5, qob_s0, qob_s1, qob_s2, qob_s3, qob_s4, qob_s5, qob_len, wob_g0, wob_g1, wob_g2, wob_s0, wob_s1, wob_s2, wob_len, pob_g0, pob_g1, pob_g2, pob_g3, pob_g4, pob_s0, pob_s1, pob_s2, pob_s3, pob_s4, pob_len, n_lt, n_eq, n_lt0, n_0lt, n_eq0, n_cl, n_add, n_mul, n_l, n_eqm, n_ltm, n_mlt, n_m1, l_lt, l_eq, l_lt0, l_0lt, l_eq0, l_add, l_mul, l_i, g_lt, g_eq, g_gt, n_div, n_rem, l_div, l_mod, n01_0, n01_1, n_1e, n_0e1, ald_i, ald_o, ald_l, ald_z, ald_a, ast_i, ast_l, ast_z, ast_a, zI_t, zI_f, zI_ok, zI_eq0, r_G_init_91, r_G_init_92, r_G_init_95, r_G_init_96, x17, hx5, h1, Nat.lt_irrefl]
    exact kk h T h1 hF hE
  | succ d ih =>
    intro p h T hp h1 hF hE
    have x17 := (hF 17 (by omega)).trans x0
    have y1 := (hF 1 (by omega)).trans x1
    have y2 := (hF 2 (by omega)).trans x2
    have y18 := (hF 18 (by omega)).trans x18
    have y19 := (hF 19 (by omega)).trans x19
    have e : p < w * hh * 16 := by omega
    have c1 : p / 16 < w * hh := by omega
    have d1 : p % 16 < 16 := by omega
    have en := cel_nbr2 (hh := hh) hw hw2 hh2 (show p / 16 < 144 by omega) d1
    rw [r_G_init_90]
    simp (disch := omega) only [mx_li, mx_ll, mx_la, mx_get, mx_s1, mx_s2, mx_tl, mx_nl, mx_ic, mx_op, mx_oc, mx_fd, mx_lg, mx_ls, mx_pd, mx_len, mx_isc, mx_ps, mx_ent, mx_rv, ↓reduceIte, List.length_cons, List.length_nil, Nat.reduceAdd, Nat.reduceLT, Nat.reduceEqDiff, Nat.reduceBEq, true_and, and_true, or_false, or_true, false_or, true_or, and_self, not_false_eq_true, not_true_eq_false, mob_g0, mob_g1, mob_g2, mob_g3, mob_g4, mob_g5, mob_g6, mob_g7, mob_g8, mob_g9, mob_g10, mob_g11, mob_g12, mob_g13, mob_g14, mob_g15, mob_g16, mob_g17, mob_g18, mob_g19, mob_g20, mob_g21, mob_g22, mob_g23, mob_g24, mob_g25, mob_g26, mob_g27, mob_g28, mob_g29, mob_g30, mob_g31, mob_g32, mob_s0, mob_s1, mob_s11, mob_s12, mob_s13, mob_s14, mob_s15, mob_s19, mob_s20, mob_s21, mob_s22, mob_s23, mob_s24, mob_s31, mob_len, xob_g0, xob_g1, xob_g2, xob_g3, xob_g4, xob_g5, xob_g6, xob_s3, xob_s4, xob_s5, xob_s6, xob_len, gob_g0, gob_g1, gob_g2, gob_g3, gob_g4, gob_g5, gob_g6, gob_g7, gob_g8, gob_g9, gob_g10, gob_g11, gob_g12, gob_g13, gob_g14, gob_g15, gob_g16, gob_g17, gob_s0, gob_s1, gob_s2, gob_s15, gob_s16, gob_s17, gob_len, sob_g0, sob_g1, sob_g2, sob_g3, sob_g4, sob_g5, sob_g6, sob_g7, sob_g8, sob_g9, sob_s5, sob_s6, sob_s7, sob_s8, sob_s9, sob_len, qob_g0, qob_g1, qob_g2, qob_g3, qob_g4, qob_g5, qob_s0, qob_s1, qob_s2, qob_s3, qob_s4, qob_s5, qob_len, wob_g0, wob_g1, wob_g2, wob_s0, wob_s1, wob_s2, wob_len, pob_g0, pob_g1, pob_g2, pob_g3, pob_g4, pob_s0, pob_s1, pob_s2, pob_s3, pob_s4, pob_len, n_lt, n_eq, n_lt0, n_0lt, n_eq0, n_cl, n_add, n_mul, n_l, n_eqm, n_ltm, n_mlt, n_m1, l_lt, l_eq, l_lt0, l_0lt, l_eq0, l_add, l_mul, l_i, g_lt, g_eq, g_gt, n_div, n_rem, l_div, l_mod, n01_0, n01_1, n_1e, n_0e1, ald_i, ald_o, ald_l, ald_z, ald_a, ast_i, ast_l, ast_z, ast_a, zI_t, zI_f, zI_ok, zI_eq0, r_G_init_91, r_G_init_92, r_G_init_95, r_G_init_96, r_G_init_99, r_G_init_100, r_G_init_102, r_G_init_103, r_G_init_105, r_G_init_106, r_G_init_108, r_G_init_109, r_G_init_111, r_G_init_112, r_G_init_115, r_G_init_116, r_G_init_117, r_G_init_118, r_G_init_121, r_G_init_123, r_G_init_124, r_G_init_127, r_G_init_129, r_G_init_130, r_G_init_131, r_G_init_132, r_G_init_135, r_G_init_137, r_G_init_138, r_G_init_141, r_G_init_143, r_G_init_144, r_G_init_145, r_G_init_148, r_G_init_149, r_G_init_152, x17, hx3, hx4, hx5, h1, y1, y2, y18, y19, e, c1, e_G_numberOf x17, en, mx_s1_0]
    have up1 : va_up (fun i => if i < p then oI (nbr w hh (i / 16) (i % 16)) else 0) p (oI (nbr w hh (p / 16) (p % 16))) = fun i => if i < p + 1 then oI (nbr w hh (i / 16) (i % 16)) else 0 := by
      funext c
      by_cases q : c = p
      · rw [q, va_up_self, if_pos (by omega)]
      · rw [va_up_ne _ _ q]
        by_cases y : c < p
        · rw [if_pos y, if_pos (by omega)]
        · rw [if_neg y, if_neg (by omega)]
    rw [up1]
    refine ih (p + 1) _ _ (by omega) ?_ (fun k k1 => ?_) hE
    · simp (disch := (first | omega | (simp only [up_2, mk_21]; first | done | omega))) only [up_e, up_n, mk_e, mk_n]
    · simp (disch := (first | omega | (simp only [up_2, mk_21]; first | done | omega))) only [up_e, up_n, mk_e, mk_n]; exact hF k k1
end GIN
