/-! MAKING THE OBJECTS: the class -/
section XIM
variable {K : Option Value → mxH → Prop}
/-- a side between 1 and 12 -/
def sd (x : Int32) : Nat := if x < nI 1 then 1 else if nI 12 < x then 12 else x.toNatClampNeg
theorem sd_b (x : Int32) : 0 < sd x ∧ sd x ≤ 12 := by
  unfold sd
  by_cases q1 : x < nI 1
  · rw [if_pos q1]; omega
  · rw [if_neg q1]
    by_cases q2 : nI 12 < x
    · rw [if_pos q2]; omega
    · rw [if_neg q2]
      have q0 : ¬ x < 0 := fun q => q1 (Int32.lt_trans q (by decide))
      obtain ⟨e, b⟩ := ofnn q0
      rw [e, n_lt b (by omega)] at q1
      rw [e, n_lt (by omega) b] at q2
      omega
theorem sd_i (x : Int32) : (if nI 1 < (if x < nI 12 then x else nI 12) then (if x < nI 12 then x else nI 12) else nI 1) = nI (sd x) := by
  unfold sd
  by_cases q1 : x < nI 1
  · have q2 : x < nI 12 := Int32.lt_trans q1 (by decide)
    rw [if_pos q2, if_neg (fun q => Int32.lt_irrefl (Int32.lt_trans q q1)), if_pos q1]
  · have q0 : ¬ x < 0 := fun q => q1 (Int32.lt_trans q (by decide))
    obtain ⟨e, b⟩ := ofnn q0
    generalize x.toNatClampNeg = a at e b
    subst e
    have p1 := q1
    rw [n_lt b (by omega)] at q1
    by_cases q2 : a < 12
    · have p2 : nI a < nI 12 := by rw [n_lt b (by omega)]; exact q2
      have p3 : ¬ nI 12 < nI a := by rw [n_lt (by omega) b]; omega
      rw [if_pos p2, if_neg p1, if_neg p3]
      by_cases q3 : 1 < a
      · have p4 : nI 1 < nI a := by rw [n_lt (by omega) b]; exact q3
        rw [if_pos p4]
      · have p4 : ¬ nI 1 < nI a := by rw [n_lt (by omega) b]; exact q3
        rw [if_neg p4, show a = 1 by omega]
    · have p2 : ¬ nI a < nI 12 := by rw [n_lt b (by omega)]; exact q2
      have p5 : nI 1 < nI 12 := by decide
      rw [if_neg p2, if_neg p1, if_pos p5]
      by_cases q3 : 12 < a
      · have p4 : nI 12 < nI a := by rw [n_lt (by omega) b]; exact q3
        rw [if_pos p4]
      · have p4 : ¬ nI 12 < nI a := by rw [n_lt (by omega) b]; exact q3
        rw [if_neg p4, show a = 12 by omega]
theorem AW0 : AW (fun k => 41 + 3 * k) (fun k => 42 + 3 * k) 32 33 34 35 78 := by
  refine ⟨by unfold adqs adq; omega, by omega, by omega, fun k hk => ?_, fun k j hk hj => ?_⟩
  · dsimp only
    exact ⟨Or.inl rfl, Or.inl rfl, by omega, by omega, ⟨by omega, by omega, by omega, by omega⟩, ⟨by omega, by omega, by omega, by omega⟩⟩
  · dsimp only
    exact ⟨by omega, fun q => ⟨by omega, by omega⟩⟩
set_option maxHeartbeats 2000000 in
theorem l_X_init {h0 : mxH} {x : List Value} {A1 : Option Value} {A2 : Int32} (hx : mx_lg x 2 = some (.ref 39)) (x0 : h0.1 16 = .inr (0, x)) (n0 : h0.2.1 = 40)
    (kk : ∀ (h' : mxH), (∃ f, h'.1 39 = .inl (3, 6, .inr (.inr (.inr (.inr f)))) ∧ ∀ k, k < 6 → f k = some (40 + 3 * k)) → (∀ k, k < 6 → WC h' (40 + 3 * k) (41 + 3 * k) (42 + 3 * k) 12 0 (fun _ => 0) (fun _ => 0)) → (∀ k, k < 39 → h'.1 k = h0.1 k) → h'.2.1 = 58 → h'.2.2 ≤ h0.2.2 + 200 → mw mx_P 1 86 [some (.ref 16), A1, some (.int A2), some (.int (nI 6))] [] h' K) :
    ∀ (d i : Nat) (h : mxH) (f : Nat → Option Nat), i + d = 6 → h.1 39 = .inl (3, 6, .inr (.inr (.inr (.inr f)))) → (∀ k, k < i → f k = some (40 + 3 * k)) → (∀ k, k < i → WC h (40 + 3 * k) (41 + 3 * k) (42 + 3 * k) 12 0 (fun _ => 0) (fun _ => 0)) → (∀ k, k < 39 → h.1 k = h0.1 k) → h.2.1 = 40 + 3 * i → h.2.2 ≤ h0.2.2 + 27 * i →
      mw mx_P 1 61 [some (.ref 16), A1, some (.int A2), some (.int (nI i))] [] h K := by
  intro d
  induction d with
  | zero =>
    intro i h f hi h39 hf hW hF h1 h2
    have e : i = 6 := by omega
    subst e
    rw [r_X_init_61]
    simp (disch := omega) only [mx_li, mx_ll, mx_la, mx_get, mx_s1, mx_s2, mx_tl, mx_nl, mx_ic, mx_op, mx_oc, mx_fd, mx_lg, mx_ls, mx_pd, mx_len, mx_isc, mx_ps, mx_ent, mx_rv, ↓reduceIte, List.length_cons, List.length_nil, Nat.reduceAdd, Nat.reduceLT, Nat.reduceEqDiff, Nat.reduceBEq, true_and, and_true, or_false, or_true, false_or, true_or, and_self, not_false_eq_true, not_true_eq_false, mob_g0, mob_g1, mob_g2, mob_g3, mob_g4, mob_g5, mob_g6, mob_g7, mob_g8, mob_g9, mob_g10, mob_g11, mob_g12, mob_g13, mob_g14, mob_g15, mob_g16, mob_g17, mob_g18, mob_g19, mob_g20, mob_g21, mob_g22, mob_g23, mob_g24, mob_g25, mob_g26, mob_g27, mob_g28, mob_g29, mob_g30, mob_g31, mob_g32, mob_s0, mob_s1, mob_s11, mob_s12, mob_s13, mob_s14, mob_s15, mob_s19, mob_s20, mob_s21, mob_s22, mob_s23, mob_s24, mob_s31, mob_len, xob_g0, xob_g1, xob_g2, xob_g3, xob_g4, xob_g5, xob_g6, xob_s3, xob_s4, xob_s5, xob_s6, xob_len, gob_g0, gob_g1, gob_g2, gob_g3, gob_g4, gob_g5, gob_g6, gob_g7, gob_g8, gob_g9, gob_g10, gob_g11, gob_g12, gob_g13, gob_g14, gob_g15, gob_g16, gob_g17, gob_s0, gob_s1, gob_s2, gob_s15, gob_s16, gob_s17, gob_len, sob_g0, sob_g1, sob_g2, sob_g3, sob_g4, sob_g5, sob_g6, sob_g7, sob_g8, sob_g9, sob_s5, sob_s6, sob_s7, sob_s8, sob_s9, sob_len, qob_g0, qob_g1, qob_g2, qob_g3, qob_g4, qob_g5, qob_s0, qob_s1, qob_s2, qob_s3, qob_s4, qob_s5, qob_len, wob_g0, wob_g1, wob_g2, wob_s0, wob_s1, wob_s2, wob_len, pob_g0, pob_g1, pob_g2, pob_g3, pob_g4, pob_s0, pob_s1, pob_s2, pob_s3, pob_s4, pob_len, n_lt, n_eq, n_lt0, n_0lt, n_eq0, n_cl, n_add, n_mul, n_l, n_eqm, n_ltm, n_mlt, n_m1, l_lt, l_eq, l_lt0, l_0lt, l_eq0, l_add, l_mul, l_i, g_lt, g_eq, g_gt, n_div, n_rem, l_div, l_mod, n01_0, n01_1, n_1e, n_0e1, ald_i, ald_o, ald_l, ald_z, ald_a, ast_i, ast_l, ast_z, ast_a, zI_t, zI_f, zI_ok, zI_eq0, r_X_init_62, r_X_init_64, Nat.lt_irrefl]
    exact kk h ⟨f, h39, hf⟩ hW hF h1 (by omega)
  | succ d ih =>
    intro i h f hi h39 hf hW hF h1 h2
    have x16 := (hF 16 (by omega)).trans x0
    have e : i < 6 := by omega
    rw [r_X_init_61]
    simp (disch := omega) only [mx_li, mx_ll, mx_la, mx_get, mx_s1, mx_s2, mx_tl, mx_nl, mx_ic, mx_op, mx_oc, mx_fd, mx_lg, mx_ls, mx_pd, mx_len, mx_isc, mx_ps, mx_ent, mx_rv, ↓reduceIte, List.length_cons, List.length_nil, Nat.reduceAdd, Nat.reduceLT, Nat.reduceEqDiff, Nat.reduceBEq, true_and, and_true, or_false, or_true, false_or, true_or, and_self, not_false_eq_true, not_true_eq_false, mob_g0, mob_g1, mob_g2, mob_g3, mob_g4, mob_g5, mob_g6, mob_g7, mob_g8, mob_g9, mob_g10, mob_g11, mob_g12, mob_g13, mob_g14, mob_g15, mob_g16, mob_g17, mob_g18, mob_g19, mob_g20, mob_g21, mob_g22, mob_g23, mob_g24, mob_g25, mob_g26, mob_g27, mob_g28, mob_g29, mob_g30, mob_g31, mob_g32, mob_s0, mob_s1, mob_s11, mob_s12, mob_s13, mob_s14, mob_s15, mob_s19, mob_s20, mob_s21, mob_s22, mob_s23, mob_s24, mob_s31, mob_len, xob_g0, xob_g1, xob_g2, xob_g3, xob_g4, xob_g5, xob_g6, xob_s3, xob_s4, xob_s5, xob_s6, xob_len, gob_g0, gob_g1, gob_g2, gob_g3, gob_g4, gob_g5, gob_g6, gob_g7, gob_g8, gob_g9, gob_g10, gob_g11, gob_g12, gob_g13, gob_g14, gob_g15, gob_g16, gob_g17, gob_s0, gob_s1, gob_s2, gob_s15, gob_s16, gob_s17, gob_len, sob_g0, sob_g1, sob_g2, sob_g3, sob_g4, sob_g5, sob_g6, sob_g7, sob_g8, sob_g9, sob_s5, sob_s6, sob_s7, sob_s8, sob_s9, sob_len, qob_g0, qob_g1, qob_g2, qob_g3, qob_g4, qob_g5, qob_s0, qob_s1, qob_s2, qob_s3, qob_s4, qob_s5, qob_len, wob_g0, wob_g1, wob_g2, wob_s0, wob_s1, wob_s2, wob_len, pob_g0, pob_g1, pob_g2, pob_g3, pob_g4, pob_s0, pob_s1, pob_s2, pob_s3, pob_s4, pob_len, n_lt, n_eq, n_lt0, n_0lt, n_eq0, n_cl, n_add, n_mul, n_l, n_eqm, n_ltm, n_mlt, n_m1, l_lt, l_eq, l_lt0, l_0lt, l_eq0, l_add, l_mul, l_i, g_lt, g_eq, g_gt, n_div, n_rem, l_div, l_mod, n01_0, n01_1, n_1e, n_0e1, ald_i, ald_o, ald_l, ald_z, ald_a, ast_i, ast_l, ast_z, ast_a, zI_t, zI_f, zI_ok, zI_eq0, r_X_init_62, r_X_init_64, r_X_init_67, r_X_init_68, r_X_init_71, r_X_init_72, r_X_init_75, e, x16, hx, h1]
    have go : ∀ (hA : mxH), hA.1 (40 + 3 * i) = .inr (4, [.null, .null, .int 0]) → (∀ k, k < 40 + 3 * i → hA.1 k = h.1 k) → hA.2.1 = 40 + 3 * i + 1 → hA.2.2 ≤ h0.2.2 + 27 * i + 3 → mw mx_P 1 76 [some (.ref 16), A1, some (.int A2), some (.int (nI i))] [.ref (40 + 3 * i), .ref (40 + 3 * i), .int (nI i), .ref 39] hA K := by
      intro hA ya yk y1 y2
      rw [r_X_init_76]
      simp (disch := omega) only [mx_li, mx_ll, mx_la, mx_get, mx_s1, mx_s2, mx_tl, mx_nl, mx_ic, mx_op, mx_oc, mx_fd, mx_lg, mx_ls, mx_pd, mx_len, mx_isc, mx_ps, mx_ent, mx_rv, ↓reduceIte, List.length_cons, List.length_nil, Nat.reduceAdd, Nat.reduceLT, Nat.reduceEqDiff, Nat.reduceBEq, true_and, and_true, or_false, or_true, false_or, true_or, and_self, not_false_eq_true, not_true_eq_false, mob_g0, mob_g1, mob_g2, mob_g3, mob_g4, mob_g5, mob_g6, mob_g7, mob_g8, mob_g9, mob_g10, mob_g11, mob_g12, mob_g13, mob_g14, mob_g15, mob_g16, mob_g17, mob_g18, mob_g19, mob_g20, mob_g21, mob_g22, mob_g23, mob_g24, mob_g25, mob_g26, mob_g27, mob_g28, mob_g29, mob_g30, mob_g31, mob_g32, mob_s0, mob_s1, mob_s11, mob_s12, mob_s13, mob_s14, mob_s15, mob_s19, mob_s20, mob_s21, mob_s22, mob_s23, mob_s24, mob_s31, mob_len, xob_g0, xob_g1, xob_g2, xob_g3, xob_g4, xob_g5, xob_g6, xob_s3, xob_s4, xob_s5, xob_s6, xob_len, gob_g0, gob_g1, gob_g2, gob_g3, gob_g4, gob_g5, gob_g6, gob_g7, gob_g8, gob_g9, gob_g10, gob_g11, gob_g12, gob_g13, gob_g14, gob_g15, gob_g16, gob_g17, gob_s0, gob_s1, gob_s2, gob_s15, gob_s16, gob_s17, gob_len, sob_g0, sob_g1, sob_g2, sob_g3, sob_g4, sob_g5, sob_g6, sob_g7, sob_g8, sob_g9, sob_s5, sob_s6, sob_s7, sob_s8, sob_s9, sob_len, qob_g0, qob_g1, qob_g2, qob_g3, qob_g4, qob_g5, qob_s0, qob_s1, qob_s2, qob_s3, qob_s4, qob_s5, qob_len, wob_g0, wob_g1, wob_g2, wob_s0, wob_s1, wob_s2, wob_len, pob_g0, pob_g1, pob_g2, pob_g3, pob_g4, pob_s0, pob_s1, pob_s2, pob_s3, pob_s4, pob_len, n_lt, n_eq, n_lt0, n_0lt, n_eq0, n_cl, n_add, n_mul, n_l, n_eqm, n_ltm, n_mlt, n_m1, l_lt, l_eq, l_lt0, l_0lt, l_eq0, l_add, l_mul, l_i, g_lt, g_eq, g_gt, n_div, n_rem, l_div, l_mod, n01_0, n01_1, n_1e, n_0e1, ald_i, ald_o, ald_l, ald_z, ald_a, ast_i, ast_l, ast_z, ast_a, zI_t, zI_f, zI_ok, zI_eq0, ya]
      refine c_W_init (a := 40 + 3 * i) ⟨by omega, by omega⟩ ya y1 (fun h3 b1 b2 b3 b4 => ?_)
      have u39 := (b2 39 (by omega)).trans ((yk 39 (by omega)).trans h39)
      simp (disch := omega) only [mx_li, mx_ll, mx_la, mx_get, mx_s1, mx_s2, mx_tl, mx_nl, mx_ic, mx_op, mx_oc, mx_fd, mx_lg, mx_ls, mx_pd, mx_len, mx_isc, mx_ps, mx_ent, mx_rv, ↓reduceIte, List.length_cons, List.length_nil, Nat.reduceAdd, Nat.reduceLT, Nat.reduceEqDiff, Nat.reduceBEq, true_and, and_true, or_false, or_true, false_or, true_or, and_self, not_false_eq_true, not_true_eq_false, mob_g0, mob_g1, mob_g2, mob_g3, mob_g4, mob_g5, mob_g6, mob_g7, mob_g8, mob_g9, mob_g10, mob_g11, mob_g12, mob_g13, mob_g14, mob_g15, mob_g16, mob_g17, mob_g18, mob_g19, mob_g20, mob_g21, mob_g22, mob_g23, mob_g24, mob_g25, mob_g26, mob_g27, mob_g28, mob_g29, mob_g30, mob_g31, mob_g32, mob_s0, mob_s1, mob_s11, mob_s12, mob_s13, mob_s14, mob_s15, mob_s19, mob_s20, mob_s21, mob_s22, mob_s23, mob_s24, mob_s31, mob_len, xob_g0, xob_g1, xob_g2, xob_g3, xob_g4, xob_g5, xob_g6, xob_s3, xob_s4, xob_s5, xob_s6, xob_len, gob_g0, gob_g1, gob_g2, gob_g3, gob_g4, gob_g5, gob_g6, gob_g7, gob_g8, gob_g9, gob_g10, gob_g11, gob_g12, gob_g13, gob_g14, gob_g15, gob_g16, gob_g17, gob_s0, gob_s1, gob_s2, gob_s15, gob_s16, gob_s17, gob_len, sob_g0, sob_g1, sob_g2, sob_g3, sob_g4, sob_g5, sob_g6, sob_g7, sob_g8, sob_g9, sob_s5, sob_s6, sob_s7, sob_s8, sob_s9, sob_len, qob_g0, qob_g1, qob_g2, qob_g3, qob_g4, qob_g5, qob_s0, qob_s1, qob_s2, qob_s3, qob_s4, qob_s5, qob_len, wob_g0, wob_g1, wob_g2, wob_s0, wob_s1, wob_s2, wob_len, pob_g0, pob_g1, pob_g2, pob_g3, pob_g4, pob_s0, pob_s1, pob_s2, pob_s3, pob_s4, pob_len, n_lt, n_eq, n_lt0, n_0lt, n_eq0, n_cl, n_add, n_mul, n_l, n_eqm, n_ltm, n_mlt, n_m1, l_lt, l_eq, l_lt0, l_0lt, l_eq0, l_add, l_mul, l_i, g_lt, g_eq, g_gt, n_div, n_rem, l_div, l_mod, n01_0, n01_1, n_1e, n_0e1, ald_i, ald_o, ald_l, ald_z, ald_a, ast_i, ast_l, ast_z, ast_a, zI_t, zI_f, zI_ok, zI_eq0, r_X_init_79, r_X_init_80, r_X_init_83, u39, b1.1]
      refine ih (i + 1) _ (va_up f i (some (40 + 3 * i))) (by omega) (up_e rfl) (fun k hk => ?_) (fun k hk => ?_) (fun k hk => ?_) ?_ ?_
      · by_cases q : k = i
        · rw [q, va_up_self]
        · rw [va_up_ne _ _ q]; exact hf k (by omega)
      · by_cases q : k = i
        · subst q
          refine WC.kept ?_ (fun x hx => up_n (by omega))
          have e1 : 41 + 3 * k = 40 + 3 * k + 1 := by omega
          have e2 : 42 + 3 * k = 40 + 3 * k + 2 := by omega
          rw [e1, e2]
          exact b1
        · refine (hW k (by omega)).kept (fun x hx => ?_)
          have xl : x < 40 + 3 * i := by omega
          rw [up_n (by omega), b2 x xl, yk x xl]
      · rw [up_n (by omega), b2 k (by omega), yk k (by omega)]; exact hF k hk
      · rw [up_2, b3]; omega
      · rw [up_2, b4]; omega
    refine go _ (mk_e h1.symm) (fun k hk => mk_n (by omega)) ?_ ?_
    · rw [mk_21, h1]
    · rw [mk_22]; omega
set_option maxHeartbeats 4000000 in
theorem c_X_init {h : mxH} {a b : Int32} (x16 : h.1 16 = .inr (0, [.null, .null, .null, .int 0, .long 0, .long 0, .int 0])) (n17 : h.2.1 = 17) (x1 : h.1 1 = .inl (9, 16, .inl (fun j => ar_1.getD j 0))) (x2 : h.1 2 = .inl (9, 16, .inl (fun j => ar_2.getD j 0))) (x3 : h.1 3 = .inl (9, 16, .inl (fun j => ar_3.getD j 0))) (s0 : h.2.2 ≤ 100)
    (kk : ∀ (h' : mxH), (∀ h2 : mxH, (∀ k, k < 58 → h2.1 k = h'.1 k) → 78 ≤ h2.2.1 → XI h2 (sd a) (sd b) gs0 (fun _ => 0) 0 0 (-1) (nI 0) (fun _ => 0) (fun _ _ => 0) (fun _ _ => 0) 32 33 34 35 (sd a * sd b * 17) (fun k => 41 + 3 * k) (fun k => 42 + 3 * k) (fun _ => 12)) → (∀ k, k < 16 → h'.1 k = h.1 k) → h'.2.1 = 58 → h'.2.2 ≤ 100000 → K none h') :
    mcl mx_P 1 [.ref 16, .int a, .int b] h K := by
  obtain ⟨w0, w12⟩ := sd_b a
  obtain ⟨h0, h12⟩ := sd_b b
  have hn : sd a * sd b ≤ 144 := Nat.mul_le_mul w12 h12
  have z1 : ¬ ((16 : Nat) = 17) := by omega
  rw [mcl]
  simp (disch := omega) only [mx_li, mx_ll, mx_la, mx_get, mx_s1, mx_s2, mx_tl, mx_nl, mx_ic, mx_op, mx_oc, mx_fd, mx_lg, mx_ls, mx_pd, mx_len, mx_isc, mx_ps, mx_ent, mx_rv, ↓reduceIte, List.length_cons, List.length_nil, Nat.reduceAdd, Nat.reduceLT, Nat.reduceEqDiff, Nat.reduceBEq, true_and, and_true, or_false, or_true, false_or, true_or, and_self, not_false_eq_true, not_true_eq_false, mob_g0, mob_g1, mob_g2, mob_g3, mob_g4, mob_g5, mob_g6, mob_g7, mob_g8, mob_g9, mob_g10, mob_g11, mob_g12, mob_g13, mob_g14, mob_g15, mob_g16, mob_g17, mob_g18, mob_g19, mob_g20, mob_g21, mob_g22, mob_g23, mob_g24, mob_g25, mob_g26, mob_g27, mob_g28, mob_g29, mob_g30, mob_g31, mob_g32, mob_s0, mob_s1, mob_s11, mob_s12, mob_s13, mob_s14, mob_s15, mob_s19, mob_s20, mob_s21, mob_s22, mob_s23, mob_s24, mob_s31, mob_len, xob_g0, xob_g1, xob_g2, xob_g3, xob_g4, xob_g5, xob_g6, xob_s3, xob_s4, xob_s5, xob_s6, xob_len, gob_g0, gob_g1, gob_g2, gob_g3, gob_g4, gob_g5, gob_g6, gob_g7, gob_g8, gob_g9, gob_g10, gob_g11, gob_g12, gob_g13, gob_g14, gob_g15, gob_g16, gob_g17, gob_s0, gob_s1, gob_s2, gob_s15, gob_s16, gob_s17, gob_len, sob_g0, sob_g1, sob_g2, sob_g3, sob_g4, sob_g5, sob_g6, sob_g7, sob_g8, sob_g9, sob_s5, sob_s6, sob_s7, sob_s8, sob_s9, sob_len, qob_g0, qob_g1, qob_g2, qob_g3, qob_g4, qob_g5, qob_s0, qob_s1, qob_s2, qob_s3, qob_s4, qob_s5, qob_len, wob_g0, wob_g1, wob_g2, wob_s0, wob_s1, wob_s2, wob_len, pob_g0, pob_g1, pob_g2, pob_g3, pob_g4, pob_s0, pob_s1, pob_s2, pob_s3, pob_s4, pob_len, r_X_init_0, r_X_init_1, r_X_init_4, r_X_init_5, r_X_init_8, r_X_init_9, r_X_init_10, r_X_init_12, r_X_init_13, r_X_init_16, r_X_init_19, r_X_init_20, r_X_init_22, r_X_init_23, r_X_init_26, n17, e_max, e_min, sd_i]
  have g1 : ∀ (hA : mxH), hA.1 16 = .inr (0, [.null, .null, .null, .int 0, .long 0, .long 0, .int 0]) → hA.1 17 = .inr (1, [.int 0, .int 0, .int 0, .null, .null, .null, .null, .null, .null, .null, .null, .null, .null, .null, .null, .int 0, .int 0, .int 0]) → (∀ k, k < 16 → hA.1 k = h.1 k) → hA.2.1 = 18 → hA.2.2 ≤ 118 → mw mx_P 1 29 [some (.ref 16), some (.int a), some (.int b)] [.int (nI (sd b)), .int (nI (sd a)), .ref 17, .ref 17, .ref 16] hA K := by
    intro hA y16 y17 yk y1 y2
    rw [r_X_init_29]
    simp (disch := omega) only [mx_li, mx_ll, mx_la, mx_get, mx_s1, mx_s2, mx_tl, mx_nl, mx_ic, mx_op, mx_oc, mx_fd, mx_lg, mx_ls, mx_pd, mx_len, mx_isc, mx_ps, mx_ent, mx_rv, ↓reduceIte, List.length_cons, List.length_nil, Nat.reduceAdd, Nat.reduceLT, Nat.reduceEqDiff, Nat.reduceBEq, true_and, and_true, or_false, or_true, false_or, true_or, and_self, not_false_eq_true, not_true_eq_false, mob_g0, mob_g1, mob_g2, mob_g3, mob_g4, mob_g5, mob_g6, mob_g7, mob_g8, mob_g9, mob_g10, mob_g11, mob_g12, mob_g13, mob_g14, mob_g15, mob_g16, mob_g17, mob_g18, mob_g19, mob_g20, mob_g21, mob_g22, mob_g23, mob_g24, mob_g25, mob_g26, mob_g27, mob_g28, mob_g29, mob_g30, mob_g31, mob_g32, mob_s0, mob_s1, mob_s11, mob_s12, mob_s13, mob_s14, mob_s15, mob_s19, mob_s20, mob_s21, mob_s22, mob_s23, mob_s24, mob_s31, mob_len, xob_g0, xob_g1, xob_g2, xob_g3, xob_g4, xob_g5, xob_g6, xob_s3, xob_s4, xob_s5, xob_s6, xob_len, gob_g0, gob_g1, gob_g2, gob_g3, gob_g4, gob_g5, gob_g6, gob_g7, gob_g8, gob_g9, gob_g10, gob_g11, gob_g12, gob_g13, gob_g14, gob_g15, gob_g16, gob_g17, gob_s0, gob_s1, gob_s2, gob_s15, gob_s16, gob_s17, gob_len, sob_g0, sob_g1, sob_g2, sob_g3, sob_g4, sob_g5, sob_g6, sob_g7, sob_g8, sob_g9, sob_s5, sob_s6, sob_s7, sob_s8, sob_s9, sob_len, qob_g0, qob_g1, qob_g2, qob_g3, qob_g4, qob_g5, qob_s0, qob_s1, qob_s2, qob_s3, qob_s4, qob_s5, qob_len, wob_g0, wob_g1, wob_g2, wob_s0, wob_s1, wob_s2, wob_len, pob_g0, pob_g1, pob_g2, pob_g3, pob_g4, pob_s0, pob_s1, pob_s2, pob_s3, pob_s4, pob_len, y17]
    refine c_G_init w0 w12 h12 hn y17 y1 ((yk 1 (by omega)).trans x1) ((yk 2 (by omega)).trans x2) (fun hB b1 b2 b3 b4 => ?_)
    have u16 := (b2 16 (by omega)).trans y16
    have z2 : ¬ ((16 : Nat) = 30) := by omega
    simp (disch := omega) only [mx_li, mx_ll, mx_la, mx_get, mx_s1, mx_s2, mx_tl, mx_nl, mx_ic, mx_op, mx_oc, mx_fd, mx_lg, mx_ls, mx_pd, mx_len, mx_isc, mx_ps, mx_ent, mx_rv, ↓reduceIte, List.length_cons, List.length_nil, Nat.reduceAdd, Nat.reduceLT, Nat.reduceEqDiff, Nat.reduceBEq, true_and, and_true, or_false, or_true, false_or, true_or, and_self, not_false_eq_true, not_true_eq_false, mob_g0, mob_g1, mob_g2, mob_g3, mob_g4, mob_g5, mob_g6, mob_g7, mob_g8, mob_g9, mob_g10, mob_g11, mob_g12, mob_g13, mob_g14, mob_g15, mob_g16, mob_g17, mob_g18, mob_g19, mob_g20, mob_g21, mob_g22, mob_g23, mob_g24, mob_g25, mob_g26, mob_g27, mob_g28, mob_g29, mob_g30, mob_g31, mob_g32, mob_s0, mob_s1, mob_s11, mob_s12, mob_s13, mob_s14, mob_s15, mob_s19, mob_s20, mob_s21, mob_s22, mob_s23, mob_s24, mob_s31, mob_len, xob_g0, xob_g1, xob_g2, xob_g3, xob_g4, xob_g5, xob_g6, xob_s3, xob_s4, xob_s5, xob_s6, xob_len, gob_g0, gob_g1, gob_g2, gob_g3, gob_g4, gob_g5, gob_g6, gob_g7, gob_g8, gob_g9, gob_g10, gob_g11, gob_g12, gob_g13, gob_g14, gob_g15, gob_g16, gob_g17, gob_s0, gob_s1, gob_s2, gob_s15, gob_s16, gob_s17, gob_len, sob_g0, sob_g1, sob_g2, sob_g3, sob_g4, sob_g5, sob_g6, sob_g7, sob_g8, sob_g9, sob_s5, sob_s6, sob_s7, sob_s8, sob_s9, sob_len, qob_g0, qob_g1, qob_g2, qob_g3, qob_g4, qob_g5, qob_s0, qob_s1, qob_s2, qob_s3, qob_s4, qob_s5, qob_len, wob_g0, wob_g1, wob_g2, wob_s0, wob_s1, wob_s2, wob_len, pob_g0, pob_g1, pob_g2, pob_g3, pob_g4, pob_s0, pob_s1, pob_s2, pob_s3, pob_s4, pob_len, n_lt, n_eq, n_lt0, n_0lt, n_eq0, n_cl, n_add, n_mul, n_l, n_eqm, n_ltm, n_mlt, n_m1, l_lt, l_eq, l_lt0, l_0lt, l_eq0, l_add, l_mul, l_i, g_lt, g_eq, g_gt, n_div, n_rem, l_div, l_mod, n01_0, n01_1, n_1e, n_0e1, ald_i, ald_o, ald_l, ald_z, ald_a, ast_i, ast_l, ast_z, ast_a, zI_t, zI_f, zI_ok, zI_eq0, r_X_init_32, r_X_init_35, r_X_init_36, r_X_init_39, r_X_init_40, r_X_init_41, u16, b3, up_1, up_2, mk_1, mk_21, z2]
    have g2 : ∀ (hC : mxH), hC.1 16 = .inr (0, [.ref 17, .null, .null, .int 0, .long 0, .long 0, .int 0]) → hC.1 30 = .inr (2, [.null, .null, .null, .null, .null, .int 0, .int 0, .int 0, .int 0, .long 0]) → XG hC (sd a) (sd b) gs0 → (∀ k, k < 16 → hC.1 k = h.1 k) → hC.2.1 = 31 → hC.2.2 ≤ 6000 → mw mx_P 1 44 [some (.ref 16), some (.int a), some (.int b)] [.ref 17, .ref 30, .ref 30, .ref 16] hC K := by
      intro hC v16 v30 vX vk v1 v2
      rw [r_X_init_44]
      simp (disch := omega) only [mx_li, mx_ll, mx_la, mx_get, mx_s1, mx_s2, mx_tl, mx_nl, mx_ic, mx_op, mx_oc, mx_fd, mx_lg, mx_ls, mx_pd, mx_len, mx_isc, mx_ps, mx_ent, mx_rv, ↓reduceIte, List.length_cons, List.length_nil, Nat.reduceAdd, Nat.reduceLT, Nat.reduceEqDiff, Nat.reduceBEq, true_and, and_true, or_false, or_true, false_or, true_or, and_self, not_false_eq_true, not_true_eq_false, mob_g0, mob_g1, mob_g2, mob_g3, mob_g4, mob_g5, mob_g6, mob_g7, mob_g8, mob_g9, mob_g10, mob_g11, mob_g12, mob_g13, mob_g14, mob_g15, mob_g16, mob_g17, mob_g18, mob_g19, mob_g20, mob_g21, mob_g22, mob_g23, mob_g24, mob_g25, mob_g26, mob_g27, mob_g28, mob_g29, mob_g30, mob_g31, mob_g32, mob_s0, mob_s1, mob_s11, mob_s12, mob_s13, mob_s14, mob_s15, mob_s19, mob_s20, mob_s21, mob_s22, mob_s23, mob_s24, mob_s31, mob_len, xob_g0, xob_g1, xob_g2, xob_g3, xob_g4, xob_g5, xob_g6, xob_s3, xob_s4, xob_s5, xob_s6, xob_len, gob_g0, gob_g1, gob_g2, gob_g3, gob_g4, gob_g5, gob_g6, gob_g7, gob_g8, gob_g9, gob_g10, gob_g11, gob_g12, gob_g13, gob_g14, gob_g15, gob_g16, gob_g17, gob_s0, gob_s1, gob_s2, gob_s15, gob_s16, gob_s17, gob_len, sob_g0, sob_g1, sob_g2, sob_g3, sob_g4, sob_g5, sob_g6, sob_g7, sob_g8, sob_g9, sob_s5, sob_s6, sob_s7, sob_s8, sob_s9, sob_len, qob_g0, qob_g1, qob_g2, qob_g3, qob_g4, qob_g5, qob_s0, qob_s1, qob_s2, qob_s3, qob_s4, qob_s5, qob_len, wob_g0, wob_g1, wob_g2, wob_s0, wob_s1, wob_s2, wob_len, pob_g0, pob_g1, pob_g2, pob_g3, pob_g4, pob_s0, pob_s1, pob_s2, pob_s3, pob_s4, pob_len, n_lt, n_eq, n_lt0, n_0lt, n_eq0, n_cl, n_add, n_mul, n_l, n_eqm, n_ltm, n_mlt, n_m1, l_lt, l_eq, l_lt0, l_0lt, l_eq0, l_add, l_mul, l_i, g_lt, g_eq, g_gt, n_div, n_rem, l_div, l_mod, n01_0, n01_1, n_1e, n_0e1, ald_i, ald_o, ald_l, ald_z, ald_a, ast_i, ast_l, ast_z, ast_a, zI_t, zI_f, zI_ok, zI_eq0, v30]
      refine c_S_init hn vX ((vk 3 (by omega)).trans x3) v30 v1 (fun hD e1 e2 e3 e4 e5 e6 => ?_)
      have t16 := (e4 16 (by omega)).trans v16
      have l6 : ¬ 50000000 < 6 := by omega
      have z3 : ¬ ((16 : Nat) = 39) := by omega
      simp (disch := omega) only [mx_li, mx_ll, mx_la, mx_get, mx_s1, mx_s2, mx_tl, mx_nl, mx_ic, mx_op, mx_oc, mx_fd, mx_lg, mx_ls, mx_pd, mx_len, mx_isc, mx_ps, mx_ent, mx_rv, ↓reduceIte, List.length_cons, List.length_nil, Nat.reduceAdd, Nat.reduceLT, Nat.reduceEqDiff, Nat.reduceBEq, true_and, and_true, or_false, or_true, false_or, true_or, and_self, not_false_eq_true, not_true_eq_false, mob_g0, mob_g1, mob_g2, mob_g3, mob_g4, mob_g5, mob_g6, mob_g7, mob_g8, mob_g9, mob_g10, mob_g11, mob_g12, mob_g13, mob_g14, mob_g15, mob_g16, mob_g17, mob_g18, mob_g19, mob_g20, mob_g21, mob_g22, mob_g23, mob_g24, mob_g25, mob_g26, mob_g27, mob_g28, mob_g29, mob_g30, mob_g31, mob_g32, mob_s0, mob_s1, mob_s11, mob_s12, mob_s13, mob_s14, mob_s15, mob_s19, mob_s20, mob_s21, mob_s22, mob_s23, mob_s24, mob_s31, mob_len, xob_g0, xob_g1, xob_g2, xob_g3, xob_g4, xob_g5, xob_g6, xob_s3, xob_s4, xob_s5, xob_s6, xob_len, gob_g0, gob_g1, gob_g2, gob_g3, gob_g4, gob_g5, gob_g6, gob_g7, gob_g8, gob_g9, gob_g10, gob_g11, gob_g12, gob_g13, gob_g14, gob_g15, gob_g16, gob_g17, gob_s0, gob_s1, gob_s2, gob_s15, gob_s16, gob_s17, gob_len, sob_g0, sob_g1, sob_g2, sob_g3, sob_g4, sob_g5, sob_g6, sob_g7, sob_g8, sob_g9, sob_s5, sob_s6, sob_s7, sob_s8, sob_s9, sob_len, qob_g0, qob_g1, qob_g2, qob_g3, qob_g4, qob_g5, qob_s0, qob_s1, qob_s2, qob_s3, qob_s4, qob_s5, qob_len, wob_g0, wob_g1, wob_g2, wob_s0, wob_s1, wob_s2, wob_len, pob_g0, pob_g1, pob_g2, pob_g3, pob_g4, pob_s0, pob_s1, pob_s2, pob_s3, pob_s4, pob_len, n_lt, n_eq, n_lt0, n_0lt, n_eq0, n_cl, n_add, n_mul, n_l, n_eqm, n_ltm, n_mlt, n_m1, l_lt, l_eq, l_lt0, l_0lt, l_eq0, l_add, l_mul, l_i, g_lt, g_eq, g_gt, n_div, n_rem, l_div, l_mod, n01_0, n01_1, n_1e, n_0e1, ald_i, ald_o, ald_l, ald_z, ald_a, ast_i, ast_l, ast_z, ast_a, zI_t, zI_f, zI_ok, zI_eq0, r_X_init_47, r_X_init_50, r_X_init_51, r_X_init_53, r_X_init_56, r_X_init_59, r_X_init_60, t16, e5, l6, or_self, up_1, up_2, mk_1, mk_21, z3]
      have g3 : ∀ (hE : mxH), hE.1 16 = .inr (0, [.ref 17, .ref 30, .ref 39, .int 0, .long 0, .long 0, .int 0]) → hE.1 39 = .inl (3, 6, .inr (.inr (.inr (.inr (fun _ => none))))) → (∀ k, k < 39 → k ≠ 16 → hE.1 k = hD.1 k) → hE.2.1 = 40 → hE.2.2 ≤ 27000 → mw mx_P 1 61 [some (.ref 16), some (.int a), some (.int b), some (.int (nI 0))] [] hE K := by
        intro hE w16 w39 wk w1 w2
        refine l_X_init (h0 := hE) rfl w16 w1 (fun hF f1 f2 f3 f4 f5 => ?_) 6 0 hE _ (by omega) w39 (fun k hk => by omega) (fun k hk => by omega) (fun _ _ => rfl) w1 (by omega)
        have s16 := (f3 16 (by omega)).trans w16
        rw [r_X_init_86]
        simp (disch := omega) only [mx_li, mx_ll, mx_la, mx_get, mx_s1, mx_s2, mx_tl, mx_nl, mx_ic, mx_op, mx_oc, mx_fd, mx_lg, mx_ls, mx_pd, mx_len, mx_isc, mx_ps, mx_ent, mx_rv, ↓reduceIte, List.length_cons, List.length_nil, Nat.reduceAdd, Nat.reduceLT, Nat.reduceEqDiff, Nat.reduceBEq, true_and, and_true, or_false, or_true, false_or, true_or, and_self, not_false_eq_true, not_true_eq_false, mob_g0, mob_g1, mob_g2, mob_g3, mob_g4, mob_g5, mob_g6, mob_g7, mob_g8, mob_g9, mob_g10, mob_g11, mob_g12, mob_g13, mob_g14, mob_g15, mob_g16, mob_g17, mob_g18, mob_g19, mob_g20, mob_g21, mob_g22, mob_g23, mob_g24, mob_g25, mob_g26, mob_g27, mob_g28, mob_g29, mob_g30, mob_g31, mob_g32, mob_s0, mob_s1, mob_s11, mob_s12, mob_s13, mob_s14, mob_s15, mob_s19, mob_s20, mob_s21, mob_s22, mob_s23, mob_s24, mob_s31, mob_len, xob_g0, xob_g1, xob_g2, xob_g3, xob_g4, xob_g5, xob_g6, xob_s3, xob_s4, xob_s5, xob_s6, xob_len, gob_g0, gob_g1, gob_g2, gob_g3, gob_g4, gob_g5, gob_g6, gob_g7, gob_g8, gob_g9, gob_g10, gob_g11, gob_g12, gob_g13, gob_g14, gob_g15, gob_g16, gob_g17, gob_s0, gob_s1, gob_s2, gob_s15, gob_s16, gob_s17, gob_len, sob_g0, sob_g1, sob_g2, sob_g3, sob_g4, sob_g5, sob_g6, sob_g7, sob_g8, sob_g9, sob_s5, sob_s6, sob_s7, sob_s8, sob_s9, sob_len, qob_g0, qob_g1, qob_g2, qob_g3, qob_g4, qob_g5, qob_s0, qob_s1, qob_s2, qob_s3, qob_s4, qob_s5, qob_len, wob_g0, wob_g1, wob_g2, wob_s0, wob_s1, wob_s2, wob_len, pob_g0, pob_g1, pob_g2, pob_g3, pob_g4, pob_s0, pob_s1, pob_s2, pob_s3, pob_s4, pob_len, n_lt, n_eq, n_lt0, n_0lt, n_eq0, n_cl, n_add, n_mul, n_l, n_eqm, n_ltm, n_mlt, n_m1, l_lt, l_eq, l_lt0, l_0lt, l_eq0, l_add, l_mul, l_i, g_lt, g_eq, g_gt, n_div, n_rem, l_div, l_mod, n01_0, n01_1, n_1e, n_0e1, ald_i, ald_o, ald_l, ald_z, ald_a, ast_i, ast_l, ast_z, ast_a, zI_t, zI_f, zI_ok, zI_eq0, r_X_init_87, r_X_init_88, r_X_init_91, r_X_init_92, r_X_init_93, r_X_init_96, r_X_init_97, r_X_init_100, r_X_init_103, r_X_init_104, r_X_init_105, r_X_init_108, s16, up_1, up_up]
        have ku : ∀ k, k ≠ 16 → (mx_up hF 16 (.inr (0, [.ref 17, .ref 30, .ref 39, .int (nI 0), .long (lN 0), .long (-1), .int (nI 0)]))).1 k = hF.1 k := fun k hk => up_n hk
        have kD : ∀ k, k < 39 → k ≠ 16 → (mx_up hF 16 (.inr (0, [.ref 17, .ref 30, .ref 39, .int (nI 0), .long (lN 0), .long (-1), .int (nI 0)]))).1 k = hD.1 k := fun k k1 k2 => (ku k k2).trans ((f3 k k1).trans (wk k k1 k2))
        have k16 : (mx_up hF 16 (.inr (0, [.ref 17, .ref 30, .ref 39, .int (nI 0), .long (lN 0), .long (-1), .int (nI 0)]))).1 16 = .inr (0, xob (nI 0) (lN 0) (-1) (nI 0)) := up_e rfl
        obtain ⟨fi, la, sm, hr, lc, e2'⟩ := e2
        obtain ⟨f, f39, ff⟩ := f1
        refine kk _ (fun h2 p1 p2 => ⟨e1.kept (fun k hk => (p1 k (by omega)).trans (kD k (by omega) (by omega))), ⟨fi, la, sm, hr, lc, (p1 30 (by omega)).trans ((kD 30 (by omega) (by omega)).trans e2')⟩, e3.kept (fun k hk => (p1 k (by omega)).trans (kD k (by omega) (by omega))), AW0.mono p2, (p1 16 (by omega)).trans k16, ⟨f, (p1 39 (by omega)).trans ((ku 39 (by omega)).trans f39), ff⟩, fun k hk => (f2 k hk).kept (fun x hx => (p1 x (by omega)).trans (ku x (by omega)))⟩) (fun k hk => ?_) f4 ?_
        · rw [kD k (by omega) (by omega), e4 k (by omega)]; exact vk k hk
        · rw [up_2]; omega
      refine g3 _ ?_ ?_ (fun k k1 k2 => ?_) ?_ ?_
      · simp (disch := (first | omega | (simp only [up_2, mk_21]; first | done | omega))) only [up_e, up_n, mk_e, mk_n]
      · simp (disch := (first | omega | (simp only [up_2, mk_21]; first | done | omega))) only [up_e, up_n, mk_e, mk_n]; exact ar0_a _
      · simp (disch := (first | omega | (simp only [up_2, mk_21]; first | done | omega))) only [up_e, up_n, mk_e, mk_n]
      · simp only [up_2, mk_21]; omega
      · simp only [up_2, mk_22]; omega
    refine g2 _ ?_ ?_ ?_ (fun k hk => ?_) ?_ ?_
    · simp (disch := (first | omega | (simp only [up_2, mk_21]; first | done | omega))) only [up_e, up_n, mk_e, mk_n]
    · simp (disch := (first | omega | (simp only [up_2, mk_21]; first | done | omega))) only [up_e, up_n, mk_e, mk_n]
    · refine b1.kept (fun k k1 k2 => ?_)
      simp (disch := (first | omega | (simp only [up_2, mk_21]; first | done | omega))) only [up_e, up_n, mk_e, mk_n]
    · simp (disch := (first | omega | (simp only [up_2, mk_21]; first | done | omega))) only [up_e, up_n, mk_e, mk_n]; exact (b2 k (by omega)).trans (yk k hk)
    · simp only [up_2, mk_21]; omega
    · simp only [up_2, mk_22]; omega
  refine g1 _ ?_ ?_ (fun k hk => ?_) ?_ ?_
  · simp (disch := (first | omega | (simp only [up_2, mk_21]; first | done | omega))) only [up_e, up_n, mk_e, mk_n]; exact x16
  · simp (disch := (first | omega | (simp only [up_2, mk_21]; first | done | omega))) only [up_e, up_n, mk_e, mk_n]
  · simp (disch := (first | omega | (simp only [up_2, mk_21]; first | done | omega))) only [up_e, up_n, mk_e, mk_n]
  · simp only [up_2, mk_21]; omega
  · simp only [up_2, mk_22]; omega
end XIM
