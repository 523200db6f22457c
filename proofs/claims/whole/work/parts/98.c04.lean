/-! THE CLASS's SEARCH: openHeadings, openBefore -/
section OPB
variable {qc qr qs qh cap : Nat} {gs : mG} {w hh fr en mo : Nat} {sh st ky : Nat → Nat} {lc : Int64} {l c r s : Nat}
theorem apk_cl {P : Nat → Prop} {F : Nat → Option Nat} {p : Nat} (hp : st p = 2) : aps (rsF P F) st p = 2 ∧ apk (rsF P F) st ky p = ky p := by
  cases hf : rsF P F p with
  | none => exact ⟨(aps_0 hf).trans hp, apk_0 hf⟩
  | some k =>
    refine ⟨by rw [aps_1 hf, if_pos hp], by rw [apk_1 hf, if_neg (by omega)]⟩
set_option maxHeartbeats 4000000 in
theorem c_S_openH {h : mxH} {K : Option Value → mxH → Prop} (hB : GB gs) (hn : w * hh ≤ 144) (hmo : mo ≤ 8) (hfr : fr < 1000) (hst : ∀ p, st p ≤ 2) (hkT : kT (ky l) < 200000) (hkM : kM (ky l) < 200000) (hkC : kC (ky l) < 20000000000000) (hA : adqs qc qr qs qh) (hl : st l = 2) (vl : vld gs w hh fr mo l) (hH : HB gs w hh mo sh l c r s) (hS : XS h w hh gs fr en mo sh lc)
    (hD : XD h qc qr qs qh cap gs w hh fr mo (aps (rsF (fun p => lR p < r) (ofs gs w hh fr mo sh ky l)) st) (apk (rsF (fun p => lR p < r) (ofs gs w hh fr mo sh ky l)) st ky))
    (kk : ∀ (h' : mxH), XD h' qc qr qs qh cap gs w hh fr mo (aps (rsF (fun p => lR p < r + 1) (ofs gs w hh fr mo sh ky l)) st) (apk (rsF (fun p => lR p < r + 1) (ofs gs w hh fr mo sh ky l)) st ky) → QG h h' qc qr qs qh → K none h') :
    mcl mx_P 48 [.ref 30, .int (nI (row gs mo l)), .int (nI c), .int (nI r), .int (nI s)] h K := by
  have b92 := hB.2.2.2.2.2.2.2.2.2.2.2
  have b9 := hB.2.2.2.2.2.2.2.2.2.1
  have hd16 := hH.2.2.2.2.2.2.2.2
  obtain ⟨r3, s8, hc⟩ := hH.b hB hmo
  have hdl := vl.2.2.2.1 (by omega)
  have hcl := vl.1
  have hl18 : l < 88128 := lC_lt vl.1 hn
  obtain ⟨g1, g2⟩ := apk_cl (st := st) (ky := ky) (P := fun p => lR p < r) (F := ofs gs w hh fr mo sh ky l) hl
  obtain ⟨C, R, S, H, ct, hQ, hI, hcap, hv, hs2, hR, hO⟩ := id hD
  obtain ⟨-, -, -, f3⟩ := hR l vl
  obtain ⟨fC, fR⟩ := f3 (by rw [g1]; omega)
  rw [g2] at fC fR
  obtain ⟨q1, q2, q3, q4, q5, -⟩ := id hQ
  obtain ⟨a1, a2, a3, ⟨f4, a4, b4⟩, ⟨f5, a5, b5⟩, ⟨f6, a6, b6⟩⟩ := id hS
  have hrow := row_rc hB vl
  have hrc := hI.2.1
  have hRl := hI.2.2.2.1 (row gs mo l) (by omega)
  have x1 : R (row gs mo l) % 262144 = l := by rw [fR]; omega
  have x2 : R (row gs mo l) / 262144 = ky l % 68719476736 := by rw [fR]; omega
  have e612 : l / 612 = lC l := rfl
  have hlen := len_lt (lH l)
  -- from the second offer on
  have go2 : ∀ (h1 : mxH), XS h1 w hh gs fr en mo sh lc → QG h h1 qc qr qs qh → XD h1 qc qr qs qh cap gs w hh fr mo (aps (rsF (fun p => lR p < r ∨ lR p = r ∧ lH p = 16) (ofs gs w hh fr mo sh ky l)) st) (apk (rsF (fun p => lR p < r ∨ lR p = r ∧ lH p = 16) (ofs gs w hh fr mo sh ky l)) st ky) →
      mw mx_P 48 120 [some (.ref 30), some (.int (nI (row gs mo l))), some (.int (nI c)), some (.int (nI r)), some (.int (nI s)), some (.int (nI l)), some (.int (nI (lC l))), some (.int (nI (lH l))), some (.long (lN (kC (ky l) + len (lH l) * unt gs (lC l)))), none, some (.long (lN (ky l % 68719476736 + 1))), none, some (.int (nI (row gs mo (lab c 0 r s)))), some (.int (nI (lab c 0 r s)))] [] h1 K := by
    intro h1 hS1 hG1 hD1
    obtain ⟨C1, R1, S1, H1, ct1, hQ1, -⟩ := id hD1
    have q31 := hQ1.1
    have a31 := hS1.2.2.1
    simp (disch := omega) only [mx_li, mx_ll, mx_la, mx_get, mx_s1, mx_s2, mx_tl, mx_nl, mx_ic, mx_op, mx_oc, mx_fd, mx_lg, mx_ls, mx_pd, mx_len, mx_isc, mx_ps, mx_ent, mx_rv, ↓reduceIte, List.length_cons, List.length_nil, Nat.reduceAdd, Nat.reduceLT, Nat.reduceEqDiff, Nat.reduceBEq, true_and, and_true, or_false, or_true, false_or, true_or, and_self, not_false_eq_true, not_true_eq_false, mob_g0, mob_g1, mob_g2, mob_g3, mob_g4, mob_g5, mob_g6, mob_g7, mob_g8, mob_g9, mob_g10, mob_g11, mob_g12, mob_g13, mob_g14, mob_g15, mob_g16, mob_g17, mob_g18, mob_g19, mob_g20, mob_g21, mob_g22, mob_g23, mob_g24, mob_g25, mob_g26, mob_g27, mob_g28, mob_g29, mob_g30, mob_g31, mob_g32, mob_s0, mob_s1, mob_s11, mob_s12, mob_s13, mob_s14, mob_s15, mob_s19, mob_s20, mob_s21, mob_s22, mob_s23, mob_s24, mob_s31, mob_len, xob_g0, xob_g1, xob_g2, xob_g3, xob_g4, xob_g5, xob_g6, xob_s3, xob_s4, xob_s5, xob_s6, xob_len, gob_g0, gob_g1, gob_g2, gob_g3, gob_g4, gob_g5, gob_g6, gob_g7, gob_g8, gob_g9, gob_g10, gob_g11, gob_g12, gob_g13, gob_g14, gob_g15, gob_g16, gob_g17, gob_s0, gob_s1, gob_s2, gob_s15, gob_s16, gob_s17, gob_len, sob_g0, sob_g1, sob_g2, sob_g3, sob_g4, sob_g5, sob_g6, sob_g7, sob_g8, sob_g9, sob_s5, sob_s6, sob_s7, sob_s8, sob_s9, sob_len, qob_g0, qob_g1, qob_g2, qob_g3, qob_g4, qob_g5, qob_s0, qob_s1, qob_s2, qob_s3, qob_s4, qob_s5, qob_len, wob_g0, wob_g1, wob_g2, wob_s0, wob_s1, wob_s2, wob_len, pob_g0, pob_g1, pob_g2, pob_g3, pob_g4, pob_s0, pob_s1, pob_s2, pob_s3, pob_s4, pob_len, n_lt, n_eq, n_lt0, n_0lt, n_eq0, n_cl, n_add, n_mul, n_l, n_eqm, n_ltm, n_mlt, n_m1, l_lt, l_eq, l_lt0, l_0lt, l_eq0, l_add, l_mul, l_i, g_lt, g_eq, g_gt, n_div, n_rem, l_div, l_mod, n01_0, n01_1, n_1e, n_0e1, ald_i, ald_o, ald_l, ald_z, ald_a, ast_i, ast_l, ast_z, ast_a, zI_t, zI_f, zI_ok, zI_eq0, r_S_openHeadings_120, r_S_openHeadings_121, r_S_openHeadings_124, r_S_openHeadings_126, r_S_openHeadings_128, r_S_openHeadings_129, r_S_openHeadings_132, r_S_openHeadings_133, r_S_openHeadings_134, r_S_openHeadings_136, r_S_openHeadings_138, r_S_openHeadings_140, r_S_openHeadings_142, r_S_openHeadings_144, r_S_openHeadings_145, r_S_openHeadings_146, a31, q31]
    have hf : fol gs (lH l) (lH l) c (lC l) = true := by unfold fol; simp
    have kR := lR_lab (c := c) (d := lH l) (r := r) (s := s) (by omega) r3 s8
    have kH := lH_lab (c := c) (d := lH l) (r := r) (s := s) (by omega) r3 s8
    have htb : (0 : Nat) = tbit l (lab c (lH l) r s) * 262144 := by
      unfold tbit
      rw [kH, if_neg (by omega)]
    refine c_H_off (P' := PA r (lH l) 0) hB hn hmo hst hkT hkM hkC hH hD1 (Or.inl ⟨hd16, hdl, hf⟩) htb ?_ ?_ (fun h2 y1 y2 => ?_)
    · rw [kR, kH]; omega
    · intro p hp
      unfold PA
      constructor
      · rintro (q | ⟨q1, q | q | q⟩)
        · exact Or.inl (Or.inl q)
        · exact Or.inl (Or.inr ⟨q1, q⟩)
        · right
          have := hH.of hp q1
          rw [q] at this
          exact this
        · omega
      · rintro ((q | q) | q)
        · exact Or.inl q
        · exact Or.inr ⟨q.1, Or.inl q.2⟩
        · rw [q, kR, kH]
          exact Or.inr ⟨rfl, Or.inr (Or.inl rfl)⟩
    · have hS2 := hS1.q y2 hA
      have hG2 := hG1.tr y2
      obtain ⟨a1', a2', a3', -⟩ := id hS2
      have x17 := a1'.1
      -- all are done if there is a bridge
      have fin : (brg gs (lC l) = true ∨ brg gs c = true) → K none h2 := by
        intro hbr
        have e : rsF (PA r (lH l) 0) (ofs gs w hh fr mo sh ky l) = rsF (fun p => lR p < r + 1) (ofs gs w hh fr mo sh ky l) := by
          refine rsF_cong (fun p k hk => ?_)
          have hp : pre gs w hh fr mo sh l p := Classical.byContradiction fun q => by rw [ofs_0 q] at hk; cases hk
          unfold PA
          constructor
          · rintro (q | q)
            · omega
            · omega
          · intro q
            by_cases z : lR p = r
            · right
              refine ⟨z, ?_⟩
              rcases hp.2.2.2.2.2.2.2.2.1 with y | y
              · have y3 := y.2.2
                have hcp : lC p = c := by
                  have := hp.1
                  rw [hH.1] at this
                  exact (Option.some.inj this).symm
                rw [hcp] at y3
                unfold fol at y3
                rcases hbr with hb | hb
                · rw [hb] at y3; simp at y3; omega
                · rw [hb] at y3; simp at y3; omega
              · exact Or.inl y.1
            · left; omega
        rw [e] at y1
        exact kk h2 y1 hG2
      simp (disch := omega) only [mx_li, mx_ll, mx_la, mx_get, mx_s1, mx_s2, mx_tl, mx_nl, mx_ic, mx_op, mx_oc, mx_fd, mx_lg, mx_ls, mx_pd, mx_len, mx_isc, mx_ps, mx_ent, mx_rv, ↓reduceIte, List.length_cons, List.length_nil, Nat.reduceAdd, Nat.reduceLT, Nat.reduceEqDiff, Nat.reduceBEq, true_and, and_true, or_false, or_true, false_or, true_or, and_self, not_false_eq_true, not_true_eq_false, mob_g0, mob_g1, mob_g2, mob_g3, mob_g4, mob_g5, mob_g6, mob_g7, mob_g8, mob_g9, mob_g10, mob_g11, mob_g12, mob_g13, mob_g14, mob_g15, mob_g16, mob_g17, mob_g18, mob_g19, mob_g20, mob_g21, mob_g22, mob_g23, mob_g24, mob_g25, mob_g26, mob_g27, mob_g28, mob_g29, mob_g30, mob_g31, mob_g32, mob_s0, mob_s1, mob_s11, mob_s12, mob_s13, mob_s14, mob_s15, mob_s19, mob_s20, mob_s21, mob_s22, mob_s23, mob_s24, mob_s31, mob_len, xob_g0, xob_g1, xob_g2, xob_g3, xob_g4, xob_g5, xob_g6, xob_s3, xob_s4, xob_s5, xob_s6, xob_len, gob_g0, gob_g1, gob_g2, gob_g3, gob_g4, gob_g5, gob_g6, gob_g7, gob_g8, gob_g9, gob_g10, gob_g11, gob_g12, gob_g13, gob_g14, gob_g15, gob_g16, gob_g17, gob_s0, gob_s1, gob_s2, gob_s15, gob_s16, gob_s17, gob_len, sob_g0, sob_g1, sob_g2, sob_g3, sob_g4, sob_g5, sob_g6, sob_g7, sob_g8, sob_g9, sob_s5, sob_s6, sob_s7, sob_s8, sob_s9, sob_len, qob_g0, qob_g1, qob_g2, qob_g3, qob_g4, qob_g5, qob_s0, qob_s1, qob_s2, qob_s3, qob_s4, qob_s5, qob_len, wob_g0, wob_g1, wob_g2, wob_s0, wob_s1, wob_s2, wob_len, pob_g0, pob_g1, pob_g2, pob_g3, pob_g4, pob_s0, pob_s1, pob_s2, pob_s3, pob_s4, pob_len, n_lt, n_eq, n_lt0, n_0lt, n_eq0, n_cl, n_add, n_mul, n_l, n_eqm, n_ltm, n_mlt, n_m1, l_lt, l_eq, l_lt0, l_0lt, l_eq0, l_add, l_mul, l_i, g_lt, g_eq, g_gt, n_div, n_rem, l_div, l_mod, n01_0, n01_1, n_1e, n_0e1, ald_i, ald_o, ald_l, ald_z, ald_a, ast_i, ast_l, ast_z, ast_a, zI_t, zI_f, zI_ok, zI_eq0, r_S_openHeadings_149, r_S_openHeadings_150, r_S_openHeadings_153, r_S_openHeadings_155, r_S_openHeadings_158, r_S_openHeadings_161, r_S_openHeadings_162, r_S_openHeadings_165, r_S_openHeadings_166, r_S_openHeadings_169, a3', x17, e_G_isBridged a1' hB hn hcl, e_G_isBridged a1' hB hn hc]
      cases hb1 : brg gs (lC l) with
      | true =>
        simp (disch := omega) only [mx_li, mx_ll, mx_la, mx_get, mx_s1, mx_s2, mx_tl, mx_nl, mx_ic, mx_op, mx_oc, mx_fd, mx_lg, mx_ls, mx_pd, mx_len, mx_isc, mx_ps, mx_ent, mx_rv, ↓reduceIte, List.length_cons, List.length_nil, Nat.reduceAdd, Nat.reduceLT, Nat.reduceEqDiff, Nat.reduceBEq, true_and, and_true, or_false, or_true, false_or, true_or, and_self, not_false_eq_true, not_true_eq_false, mob_g0, mob_g1, mob_g2, mob_g3, mob_g4, mob_g5, mob_g6, mob_g7, mob_g8, mob_g9, mob_g10, mob_g11, mob_g12, mob_g13, mob_g14, mob_g15, mob_g16, mob_g17, mob_g18, mob_g19, mob_g20, mob_g21, mob_g22, mob_g23, mob_g24, mob_g25, mob_g26, mob_g27, mob_g28, mob_g29, mob_g30, mob_g31, mob_g32, mob_s0, mob_s1, mob_s11, mob_s12, mob_s13, mob_s14, mob_s15, mob_s19, mob_s20, mob_s21, mob_s22, mob_s23, mob_s24, mob_s31, mob_len, xob_g0, xob_g1, xob_g2, xob_g3, xob_g4, xob_g5, xob_g6, xob_s3, xob_s4, xob_s5, xob_s6, xob_len, gob_g0, gob_g1, gob_g2, gob_g3, gob_g4, gob_g5, gob_g6, gob_g7, gob_g8, gob_g9, gob_g10, gob_g11, gob_g12, gob_g13, gob_g14, gob_g15, gob_g16, gob_g17, gob_s0, gob_s1, gob_s2, gob_s15, gob_s16, gob_s17, gob_len, sob_g0, sob_g1, sob_g2, sob_g3, sob_g4, sob_g5, sob_g6, sob_g7, sob_g8, sob_g9, sob_s5, sob_s6, sob_s7, sob_s8, sob_s9, sob_len, qob_g0, qob_g1, qob_g2, qob_g3, qob_g4, qob_g5, qob_s0, qob_s1, qob_s2, qob_s3, qob_s4, qob_s5, qob_len, wob_g0, wob_g1, wob_g2, wob_s0, wob_s1, wob_s2, wob_len, pob_g0, pob_g1, pob_g2, pob_g3, pob_g4, pob_s0, pob_s1, pob_s2, pob_s3, pob_s4, pob_len, n_lt, n_eq, n_lt0, n_0lt, n_eq0, n_cl, n_add, n_mul, n_l, n_eqm, n_ltm, n_mlt, n_m1, l_lt, l_eq, l_lt0, l_0lt, l_eq0, l_add, l_mul, l_i, g_lt, g_eq, g_gt, n_div, n_rem, l_div, l_mod, n01_0, n01_1, n_1e, n_0e1, ald_i, ald_o, ald_l, ald_z, ald_a, ast_i, ast_l, ast_z, ast_a, zI_t, zI_f, zI_ok, zI_eq0, r_S_openHeadings_172, Bool.true_eq_false]
        exact fin (Or.inl hb1)
      | false =>
        cases hb2 : brg gs c with
        | true =>
          simp (disch := omega) only [mx_li, mx_ll, mx_la, mx_get, mx_s1, mx_s2, mx_tl, mx_nl, mx_ic, mx_op, mx_oc, mx_fd, mx_lg, mx_ls, mx_pd, mx_len, mx_isc, mx_ps, mx_ent, mx_rv, ↓reduceIte, List.length_cons, List.length_nil, Nat.reduceAdd, Nat.reduceLT, Nat.reduceEqDiff, Nat.reduceBEq, true_and, and_true, or_false, or_true, false_or, true_or, and_self, not_false_eq_true, not_true_eq_false, mob_g0, mob_g1, mob_g2, mob_g3, mob_g4, mob_g5, mob_g6, mob_g7, mob_g8, mob_g9, mob_g10, mob_g11, mob_g12, mob_g13, mob_g14, mob_g15, mob_g16, mob_g17, mob_g18, mob_g19, mob_g20, mob_g21, mob_g22, mob_g23, mob_g24, mob_g25, mob_g26, mob_g27, mob_g28, mob_g29, mob_g30, mob_g31, mob_g32, mob_s0, mob_s1, mob_s11, mob_s12, mob_s13, mob_s14, mob_s15, mob_s19, mob_s20, mob_s21, mob_s22, mob_s23, mob_s24, mob_s31, mob_len, xob_g0, xob_g1, xob_g2, xob_g3, xob_g4, xob_g5, xob_g6, xob_s3, xob_s4, xob_s5, xob_s6, xob_len, gob_g0, gob_g1, gob_g2, gob_g3, gob_g4, gob_g5, gob_g6, gob_g7, gob_g8, gob_g9, gob_g10, gob_g11, gob_g12, gob_g13, gob_g14, gob_g15, gob_g16, gob_g17, gob_s0, gob_s1, gob_s2, gob_s15, gob_s16, gob_s17, gob_len, sob_g0, sob_g1, sob_g2, sob_g3, sob_g4, sob_g5, sob_g6, sob_g7, sob_g8, sob_g9, sob_s5, sob_s6, sob_s7, sob_s8, sob_s9, sob_len, qob_g0, qob_g1, qob_g2, qob_g3, qob_g4, qob_g5, qob_s0, qob_s1, qob_s2, qob_s3, qob_s4, qob_s5, qob_len, wob_g0, wob_g1, wob_g2, wob_s0, wob_s1, wob_s2, wob_len, pob_g0, pob_g1, pob_g2, pob_g3, pob_g4, pob_s0, pob_s1, pob_s2, pob_s3, pob_s4, pob_len, n_lt, n_eq, n_lt0, n_0lt, n_eq0, n_cl, n_add, n_mul, n_l, n_eqm, n_ltm, n_mlt, n_m1, l_lt, l_eq, l_lt0, l_0lt, l_eq0, l_add, l_mul, l_i, g_lt, g_eq, g_gt, n_div, n_rem, l_div, l_mod, n01_0, n01_1, n_1e, n_0e1, ald_i, ald_o, ald_l, ald_z, ald_a, ast_i, ast_l, ast_z, ast_a, zI_t, zI_f, zI_ok, zI_eq0, r_S_openHeadings_172, Bool.true_eq_false]
          exact fin (Or.inr hb2)
        | false =>
          simp (disch := omega) only [mx_li, mx_ll, mx_la, mx_get, mx_s1, mx_s2, mx_tl, mx_nl, mx_ic, mx_op, mx_oc, mx_fd, mx_lg, mx_ls, mx_pd, mx_len, mx_isc, mx_ps, mx_ent, mx_rv, ↓reduceIte, List.length_cons, List.length_nil, Nat.reduceAdd, Nat.reduceLT, Nat.reduceEqDiff, Nat.reduceBEq, true_and, and_true, or_false, or_true, false_or, true_or, and_self, not_false_eq_true, not_true_eq_false, mob_g0, mob_g1, mob_g2, mob_g3, mob_g4, mob_g5, mob_g6, mob_g7, mob_g8, mob_g9, mob_g10, mob_g11, mob_g12, mob_g13, mob_g14, mob_g15, mob_g16, mob_g17, mob_g18, mob_g19, mob_g20, mob_g21, mob_g22, mob_g23, mob_g24, mob_g25, mob_g26, mob_g27, mob_g28, mob_g29, mob_g30, mob_g31, mob_g32, mob_s0, mob_s1, mob_s11, mob_s12, mob_s13, mob_s14, mob_s15, mob_s19, mob_s20, mob_s21, mob_s22, mob_s23, mob_s24, mob_s31, mob_len, xob_g0, xob_g1, xob_g2, xob_g3, xob_g4, xob_g5, xob_g6, xob_s3, xob_s4, xob_s5, xob_s6, xob_len, gob_g0, gob_g1, gob_g2, gob_g3, gob_g4, gob_g5, gob_g6, gob_g7, gob_g8, gob_g9, gob_g10, gob_g11, gob_g12, gob_g13, gob_g14, gob_g15, gob_g16, gob_g17, gob_s0, gob_s1, gob_s2, gob_s15, gob_s16, gob_s17, gob_len, sob_g0, sob_g1, sob_g2, sob_g3, sob_g4, sob_g5, sob_g6, sob_g7, sob_g8, sob_g9, sob_s5, sob_s6, sob_s7, sob_s8, sob_s9, sob_len, qob_g0, qob_g1, qob_g2, qob_g3, qob_g4, qob_g5, qob_s0, qob_s1, qob_s2, qob_s3, qob_s4, qob_s5, qob_len, wob_g0, wob_g1, wob_g2, wob_s0, wob_s1, wob_s2, wob_len, pob_g0, pob_g1, pob_g2, pob_g3, pob_g4, pob_s0, pob_s1, pob_s2, pob_s3, pob_s4, pob_len, n_lt, n_eq, n_lt0, n_0lt, n_eq0, n_cl, n_add, n_mul, n_l, n_eqm, n_ltm, n_mlt, n_m1, l_lt, l_eq, l_lt0, l_0lt, l_eq0, l_add, l_mul, l_i, g_lt, g_eq, g_gt, n_div, n_rem, l_div, l_mod, n01_0, n01_1, n_1e, n_0e1, ald_i, ald_o, ald_l, ald_z, ald_a, ast_i, ast_l, ast_z, ast_a, zI_t, zI_f, zI_ok, zI_eq0, r_S_openHeadings_173, r_S_openHeadings_175, r_S_openHeadings_178, r_S_openHeadings_179, r_S_openHeadings_181, r_S_openHeadings_182, r_S_openHeadings_185, r_S_openHeadings_188, r_S_openHeadings_190, r_S_openHeadings_191, r_S_openHeadings_194, r_S_openHeadings_197, a3', x17, e_G_headingStep a1' hB]
          have hQ2 : (gs 9 0 = 1 ∧ (if gs 9 0 = 1 then 2 else 1) = 2) ∨ (gs 9 0 = 2 ∧ (if gs 9 0 = 1 then 2 else 1) = 1) := by
            rcases b9 with q | q
            · left; rw [if_pos q]; exact ⟨q, rfl⟩
            · right; rw [if_neg (by omega)]; exact ⟨q, rfl⟩
          generalize hQ' : (if gs 9 0 = 1 then 2 else 1) = Q at *
          -- at the loop's start
          have go3 : ∀ A low, A < 18 → 8 - gs 9 2 ≤ A → (gs 9 0 = 1 → A % 2 = 0) → (∀ p, pre gs w hh fr mo sh l p → lR p = r → lH p < 16 → lH p ≠ lH l → A ≤ (lH p + 24 - lH l) % 16) →
              mw mx_P 48 246 (some (.ref 30) :: some (.int (nI (row gs mo l))) :: some (.int (nI c)) :: some (.int (nI r)) :: some (.int (nI s)) :: some (.int (nI l)) :: some (.int (nI (lC l))) :: some (.int (nI (lH l))) :: some (.long (lN (kC (ky l) + len (lH l) * unt gs (lC l)))) :: none :: some (.long (lN (ky l % 68719476736 + 1))) :: none :: some (.int (nI (row gs mo (lab c 0 r s)))) :: some (.int (nI (lab c 0 r s))) :: some (.long (lN (ky l % 68719476736 + 1 + 262144))) :: none :: some (.int (nI Q)) :: some (.int low) :: some (.int (nI (if gs 9 2 = 8 then 7 else gs 9 2))) :: some (.int (iZ ((A : Int) - 8))) :: []) [] h2 K := by
            intro A low A1 A2 A3 A4
            have e : rsF (PA r (lH l) 0) (ofs gs w hh fr mo sh ky l) = rsF (PA r (lH l) A) (ofs gs w hh fr mo sh ky l) := by
              refine rsF_cong (fun p k hk => ?_)
              have hp : pre gs w hh fr mo sh l p := Classical.byContradiction fun q => by rw [ofs_0 q] at hk; cases hk
              unfold PA
              constructor
              · rintro (q | ⟨q1, q | q | q⟩)
                · exact Or.inl q
                · exact Or.inr ⟨q1, Or.inl q⟩
                · exact Or.inr ⟨q1, Or.inr (Or.inl q)⟩
                · omega
              · rintro (q | ⟨q1, q | q | q⟩)
                · exact Or.inl q
                · exact Or.inr ⟨q1, Or.inl q⟩
                · exact Or.inr ⟨q1, Or.inr (Or.inl q)⟩
                · by_cases z : lH p = lH l
                  · exact Or.inr ⟨q1, Or.inr (Or.inl z)⟩
                  · have := A4 p hp q1 q.1 z
                    omega
            rw [e] at y1
            exact l_S_openH hB hn hmo hst hkT hkM hkC hA vl hH hb1 hb2 hQ'.symm kk 18 A h2 [] (by omega) A1 A2 A3 hS2 hG2 y1
          by_cases e8 : gs 9 2 = 8
          · have e7 : (if gs 9 2 = 8 then 7 else gs 9 2) = 7 := if_pos e8
            rw [e7] at go3
            have e78 : (7 : Nat) < 8 := by decide
            simp (disch := omega) only [mx_li, mx_ll, mx_la, mx_get, mx_s1, mx_s2, mx_tl, mx_nl, mx_ic, mx_op, mx_oc, mx_fd, mx_lg, mx_ls, mx_pd, mx_len, mx_isc, mx_ps, mx_ent, mx_rv, ↓reduceIte, List.length_cons, List.length_nil, Nat.reduceAdd, Nat.reduceLT, Nat.reduceEqDiff, Nat.reduceBEq, true_and, and_true, or_false, or_true, false_or, true_or, and_self, not_false_eq_true, not_true_eq_false, mob_g0, mob_g1, mob_g2, mob_g3, mob_g4, mob_g5, mob_g6, mob_g7, mob_g8, mob_g9, mob_g10, mob_g11, mob_g12, mob_g13, mob_g14, mob_g15, mob_g16, mob_g17, mob_g18, mob_g19, mob_g20, mob_g21, mob_g22, mob_g23, mob_g24, mob_g25, mob_g26, mob_g27, mob_g28, mob_g29, mob_g30, mob_g31, mob_g32, mob_s0, mob_s1, mob_s11, mob_s12, mob_s13, mob_s14, mob_s15, mob_s19, mob_s20, mob_s21, mob_s22, mob_s23, mob_s24, mob_s31, mob_len, xob_g0, xob_g1, xob_g2, xob_g3, xob_g4, xob_g5, xob_g6, xob_s3, xob_s4, xob_s5, xob_s6, xob_len, gob_g0, gob_g1, gob_g2, gob_g3, gob_g4, gob_g5, gob_g6, gob_g7, gob_g8, gob_g9, gob_g10, gob_g11, gob_g12, gob_g13, gob_g14, gob_g15, gob_g16, gob_g17, gob_s0, gob_s1, gob_s2, gob_s15, gob_s16, gob_s17, gob_len, sob_g0, sob_g1, sob_g2, sob_g3, sob_g4, sob_g5, sob_g6, sob_g7, sob_g8, sob_g9, sob_s5, sob_s6, sob_s7, sob_s8, sob_s9, sob_len, qob_g0, qob_g1, qob_g2, qob_g3, qob_g4, qob_g5, qob_s0, qob_s1, qob_s2, qob_s3, qob_s4, qob_s5, qob_len, wob_g0, wob_g1, wob_g2, wob_s0, wob_s1, wob_s2, wob_len, pob_g0, pob_g1, pob_g2, pob_g3, pob_g4, pob_s0, pob_s1, pob_s2, pob_s3, pob_s4, pob_len, n_lt, n_eq, n_lt0, n_0lt, n_eq0, n_cl, n_add, n_mul, n_l, n_eqm, n_ltm, n_mlt, n_m1, l_lt, l_eq, l_lt0, l_0lt, l_eq0, l_add, l_mul, l_i, g_lt, g_eq, g_gt, n_div, n_rem, l_div, l_mod, n01_0, n01_1, n_1e, n_0e1, ald_i, ald_o, ald_l, ald_z, ald_a, ast_i, ast_l, ast_z, ast_a, zI_t, zI_f, zI_ok, zI_eq0, r_S_openHeadings_199, r_S_openHeadings_202, r_S_openHeadings_204, r_S_openHeadings_207, r_S_openHeadings_208, r_S_openHeadings_211, r_S_openHeadings_214, r_S_openHeadings_215, r_S_openHeadings_218, r_S_openHeadings_221, r_S_openHeadings_223, r_S_openHeadings_224, r_S_openHeadings_225, r_S_openHeadings_226, r_S_openHeadings_228, r_S_openHeadings_229, r_S_openHeadings_232, r_S_openHeadings_235, r_S_openHeadings_237, r_S_openHeadings_240, r_S_openHeadings_242, r_S_openHeadings_244, a3', x17, e8, e_min, hz_m8, e78]
            exact go3 0 _ (by omega) (by omega) (by omega) (fun p _ _ _ _ => by omega)
          · have e7 : (if gs 9 2 = 8 then 7 else gs 9 2) = gs 9 2 := if_neg e8
            rw [e7] at go3
            have e79 : ¬ 7 < gs 9 2 := by omega
            have hQ3 : Q = 1 ∨ Q = 2 := by omega
            have hr1 : i_rem (nI (gs 9 2)) (nI Q) = nI (gs 9 2 % Q) := n_rem (by omega) (by omega) (by omega)
            have hQ0 : ¬ Q = 0 := by omega
            simp (disch := omega) only [mx_li, mx_ll, mx_la, mx_get, mx_s1, mx_s2, mx_tl, mx_nl, mx_ic, mx_op, mx_oc, mx_fd, mx_lg, mx_ls, mx_pd, mx_len, mx_isc, mx_ps, mx_ent, mx_rv, ↓reduceIte, List.length_cons, List.length_nil, Nat.reduceAdd, Nat.reduceLT, Nat.reduceEqDiff, Nat.reduceBEq, true_and, and_true, or_false, or_true, false_or, true_or, and_self, not_false_eq_true, not_true_eq_false, mob_g0, mob_g1, mob_g2, mob_g3, mob_g4, mob_g5, mob_g6, mob_g7, mob_g8, mob_g9, mob_g10, mob_g11, mob_g12, mob_g13, mob_g14, mob_g15, mob_g16, mob_g17, mob_g18, mob_g19, mob_g20, mob_g21, mob_g22, mob_g23, mob_g24, mob_g25, mob_g26, mob_g27, mob_g28, mob_g29, mob_g30, mob_g31, mob_g32, mob_s0, mob_s1, mob_s11, mob_s12, mob_s13, mob_s14, mob_s15, mob_s19, mob_s20, mob_s21, mob_s22, mob_s23, mob_s24, mob_s31, mob_len, xob_g0, xob_g1, xob_g2, xob_g3, xob_g4, xob_g5, xob_g6, xob_s3, xob_s4, xob_s5, xob_s6, xob_len, gob_g0, gob_g1, gob_g2, gob_g3, gob_g4, gob_g5, gob_g6, gob_g7, gob_g8, gob_g9, gob_g10, gob_g11, gob_g12, gob_g13, gob_g14, gob_g15, gob_g16, gob_g17, gob_s0, gob_s1, gob_s2, gob_s15, gob_s16, gob_s17, gob_len, sob_g0, sob_g1, sob_g2, sob_g3, sob_g4, sob_g5, sob_g6, sob_g7, sob_g8, sob_g9, sob_s5, sob_s6, sob_s7, sob_s8, sob_s9, sob_len, qob_g0, qob_g1, qob_g2, qob_g3, qob_g4, qob_g5, qob_s0, qob_s1, qob_s2, qob_s3, qob_s4, qob_s5, qob_len, wob_g0, wob_g1, wob_g2, wob_s0, wob_s1, wob_s2, wob_len, pob_g0, pob_g1, pob_g2, pob_g3, pob_g4, pob_s0, pob_s1, pob_s2, pob_s3, pob_s4, pob_len, n_lt, n_eq, n_lt0, n_0lt, n_eq0, n_cl, n_add, n_mul, n_l, n_eqm, n_ltm, n_mlt, n_m1, l_lt, l_eq, l_lt0, l_0lt, l_eq0, l_add, l_mul, l_i, g_lt, g_eq, g_gt, n_div, n_rem, l_div, l_mod, n01_0, n01_1, n_1e, n_0e1, ald_i, ald_o, ald_l, ald_z, ald_a, ast_i, ast_l, ast_z, ast_a, zI_t, zI_f, zI_ok, zI_eq0, r_S_openHeadings_199, r_S_openHeadings_202, r_S_openHeadings_204, r_S_openHeadings_207, r_S_openHeadings_208, r_S_openHeadings_211, r_S_openHeadings_214, r_S_openHeadings_215, r_S_openHeadings_218, r_S_openHeadings_221, r_S_openHeadings_223, r_S_openHeadings_224, r_S_openHeadings_225, r_S_openHeadings_226, r_S_openHeadings_228, r_S_openHeadings_229, r_S_openHeadings_232, r_S_openHeadings_235, r_S_openHeadings_237, r_S_openHeadings_240, r_S_openHeadings_242, r_S_openHeadings_244, a3', x17, e8, e_min, e79, hr1, hQ0, hz_low (show gs 9 2 < 8 by omega) hQ3]
            refine go3 _ _ (by omega) (by omega) (fun q => ?_) (fun p hp _ z1 z2 => ?_)
            · rcases hQ2 with z | z
              · rw [z.2]; omega
              · omega
            · rcases hp.2.2.2.2.2.2.2.2.1 with y | y
              · obtain ⟨y1', y2', y3'⟩ := y
                unfold fol at y3'
                rw [Bool.or_eq_true, Bool.or_eq_true, decide_eq_true_eq, decide_eq_true_eq, Bool.and_eq_true, decide_eq_true_eq] at y3'
                rcases y3' with (y3' | y3') | y3'
                · omega
                · omega
                · have q := y3'.2
                  rw [dif_A y1' hd16] at q
                  unfold hdg at y2' hdl
                  rw [Bool.or_eq_true, decide_eq_true_eq, decide_eq_true_eq] at y2' hdl
                  rcases hQ2 with z | z
                  · rw [z.2]
                    split at q <;> omega
                  · rw [z.2]
                    split at q <;> omega
              · omega
  rw [mcl]
  simp (disch := omega) only [mx_li, mx_ll, mx_la, mx_get, mx_s1, mx_s2, mx_tl, mx_nl, mx_ic, mx_op, mx_oc, mx_fd, mx_lg, mx_ls, mx_pd, mx_len, mx_isc, mx_ps, mx_ent, mx_rv, ↓reduceIte, List.length_cons, List.length_nil, Nat.reduceAdd, Nat.reduceLT, Nat.reduceEqDiff, Nat.reduceBEq, true_and, and_true, or_false, or_true, false_or, true_or, and_self, not_false_eq_true, not_true_eq_false, mob_g0, mob_g1, mob_g2, mob_g3, mob_g4, mob_g5, mob_g6, mob_g7, mob_g8, mob_g9, mob_g10, mob_g11, mob_g12, mob_g13, mob_g14, mob_g15, mob_g16, mob_g17, mob_g18, mob_g19, mob_g20, mob_g21, mob_g22, mob_g23, mob_g24, mob_g25, mob_g26, mob_g27, mob_g28, mob_g29, mob_g30, mob_g31, mob_g32, mob_s0, mob_s1, mob_s11, mob_s12, mob_s13, mob_s14, mob_s15, mob_s19, mob_s20, mob_s21, mob_s22, mob_s23, mob_s24, mob_s31, mob_len, xob_g0, xob_g1, xob_g2, xob_g3, xob_g4, xob_g5, xob_g6, xob_s3, xob_s4, xob_s5, xob_s6, xob_len, gob_g0, gob_g1, gob_g2, gob_g3, gob_g4, gob_g5, gob_g6, gob_g7, gob_g8, gob_g9, gob_g10, gob_g11, gob_g12, gob_g13, gob_g14, gob_g15, gob_g16, gob_g17, gob_s0, gob_s1, gob_s2, gob_s15, gob_s16, gob_s17, gob_len, sob_g0, sob_g1, sob_g2, sob_g3, sob_g4, sob_g5, sob_g6, sob_g7, sob_g8, sob_g9, sob_s5, sob_s6, sob_s7, sob_s8, sob_s9, sob_len, qob_g0, qob_g1, qob_g2, qob_g3, qob_g4, qob_g5, qob_s0, qob_s1, qob_s2, qob_s3, qob_s4, qob_s5, qob_len, wob_g0, wob_g1, wob_g2, wob_s0, wob_s1, wob_s2, wob_len, pob_g0, pob_g1, pob_g2, pob_g3, pob_g4, pob_s0, pob_s1, pob_s2, pob_s3, pob_s4, pob_len, n_lt, n_eq, n_lt0, n_0lt, n_eq0, n_cl, n_add, n_mul, n_l, n_eqm, n_ltm, n_mlt, n_m1, l_lt, l_eq, l_lt0, l_0lt, l_eq0, l_add, l_mul, l_i, g_lt, g_eq, g_gt, n_div, n_rem, l_div, l_mod, n01_0, n01_1, n_1e, n_0e1, ald_i, ald_o, ald_l, ald_z, ald_a, ast_i, ast_l, ast_z, ast_a, zI_t, zI_f, zI_ok, zI_eq0, r_S_openHeadings_0, r_S_openHeadings_1, r_S_openHeadings_4, r_S_openHeadings_5, r_S_openHeadings_8, r_S_openHeadings_10, r_S_openHeadings_12, r_S_openHeadings_15, r_S_openHeadings_16, r_S_openHeadings_18, r_S_openHeadings_20, r_S_openHeadings_23, r_S_openHeadings_25, r_S_openHeadings_26, r_S_openHeadings_29, r_S_openHeadings_32, r_S_openHeadings_33, r_S_openHeadings_34, r_S_openHeadings_37, r_S_openHeadings_39, r_S_openHeadings_40, r_S_openHeadings_41, r_S_openHeadings_42, r_S_openHeadings_45, r_S_openHeadings_47, r_S_openHeadings_48, r_S_openHeadings_49, r_S_openHeadings_50, r_S_openHeadings_52, r_S_openHeadings_53, r_S_openHeadings_56, r_S_openHeadings_57, r_S_openHeadings_60, r_S_openHeadings_61, r_S_openHeadings_62, r_S_openHeadings_64, r_S_openHeadings_65, r_S_openHeadings_66, r_S_openHeadings_67, r_S_openHeadings_68, r_S_openHeadings_70, r_S_openHeadings_73, r_S_openHeadings_75, r_S_openHeadings_76, r_S_openHeadings_77, r_S_openHeadings_78, r_S_openHeadings_80, r_S_openHeadings_83, r_S_openHeadings_85, r_S_openHeadings_86, r_S_openHeadings_87, a2, a3, a5, b5 (lC l) hcl, q1, q2, e_Q_codeOf hQ (show row gs mo l < cap by omega) hI.1, x1, e612, e_S_headingOf, fC, ar3 hd16, e_Q_stepsOf hQ (show row gs mo l < cap by omega) hI.1 hRl, x2, e_S_rowOf hS hc hn (Nat.zero_le 16) r3 s8, e_S_codeOf]
  by_cases ef : c = fr
  · have ef2 : (c = fr) = True := eq_true ef
    simp (disch := omega) only [mx_li, mx_ll, mx_la, mx_get, mx_s1, mx_s2, mx_tl, mx_nl, mx_ic, mx_op, mx_oc, mx_fd, mx_lg, mx_ls, mx_pd, mx_len, mx_isc, mx_ps, mx_ent, mx_rv, ↓reduceIte, List.length_cons, List.length_nil, Nat.reduceAdd, Nat.reduceLT, Nat.reduceEqDiff, Nat.reduceBEq, true_and, and_true, or_false, or_true, false_or, true_or, and_self, not_false_eq_true, not_true_eq_false, mob_g0, mob_g1, mob_g2, mob_g3, mob_g4, mob_g5, mob_g6, mob_g7, mob_g8, mob_g9, mob_g10, mob_g11, mob_g12, mob_g13, mob_g14, mob_g15, mob_g16, mob_g17, mob_g18, mob_g19, mob_g20, mob_g21, mob_g22, mob_g23, mob_g24, mob_g25, mob_g26, mob_g27, mob_g28, mob_g29, mob_g30, mob_g31, mob_g32, mob_s0, mob_s1, mob_s11, mob_s12, mob_s13, mob_s14, mob_s15, mob_s19, mob_s20, mob_s21, mob_s22, mob_s23, mob_s24, mob_s31, mob_len, xob_g0, xob_g1, xob_g2, xob_g3, xob_g4, xob_g5, xob_g6, xob_s3, xob_s4, xob_s5, xob_s6, xob_len, gob_g0, gob_g1, gob_g2, gob_g3, gob_g4, gob_g5, gob_g6, gob_g7, gob_g8, gob_g9, gob_g10, gob_g11, gob_g12, gob_g13, gob_g14, gob_g15, gob_g16, gob_g17, gob_s0, gob_s1, gob_s2, gob_s15, gob_s16, gob_s17, gob_len, sob_g0, sob_g1, sob_g2, sob_g3, sob_g4, sob_g5, sob_g6, sob_g7, sob_g8, sob_g9, sob_s5, sob_s6, sob_s7, sob_s8, sob_s9, sob_len, qob_g0, qob_g1, qob_g2, qob_g3, qob_g4, qob_g5, qob_s0, qob_s1, qob_s2, qob_s3, qob_s4, qob_s5, qob_len, wob_g0, wob_g1, wob_g2, wob_s0, wob_s1, wob_s2, wob_len, pob_g0, pob_g1, pob_g2, pob_g3, pob_g4, pob_s0, pob_s1, pob_s2, pob_s3, pob_s4, pob_len, n_lt, n_eq, n_lt0, n_0lt, n_eq0, n_cl, n_add, n_mul, n_l, n_eqm, n_ltm, n_mlt, n_m1, l_lt, l_eq, l_lt0, l_0lt, l_eq0, l_add, l_mul, l_i, g_lt, g_eq, g_gt, n_div, n_rem, l_div, l_mod, n01_0, n01_1, n_1e, n_0e1, ald_i, ald_o, ald_l, ald_z, ald_a, ast_i, ast_l, ast_z, ast_a, zI_t, zI_f, zI_ok, zI_eq0, r_S_openHeadings_90, r_S_openHeadings_93, r_S_openHeadings_94, r_S_openHeadings_97, r_S_openHeadings_99, r_S_openHeadings_101, r_S_openHeadings_102, r_S_openHeadings_105, r_S_openHeadings_106, r_S_openHeadings_107, r_S_openHeadings_109, r_S_openHeadings_111, r_S_openHeadings_113, r_S_openHeadings_116, r_S_openHeadings_117, ef2, a3, q1]
    have kR := lR_lab (c := c) (d := 16) (r := r) (s := s) (by omega) r3 s8
    have kH := lH_lab (c := c) (d := 16) (r := r) (s := s) (by omega) r3 s8
    have htb : (0 : Nat) = tbit l (lab c 16 r s) * 262144 := by
      unfold tbit
      rw [kH, if_neg (by omega)]
    refine c_H_off (b := 16) (P' := fun p => lR p < r ∨ lR p = r ∧ lH p = 16) hB hn hmo hst hkT hkM hkC hH hD (Or.inr ⟨rfl, ef⟩) htb ?_ ?_ (fun h2 y1 y2 => ?_)
    · rw [kR]; omega
    · intro p hp
      constructor
      · rintro (q | q)
        · exact Or.inl q
        · right
          have := hH.of hp q.1
          rw [q.2] at this
          exact this
      · rintro (q | q)
        · exact Or.inl q
        · rw [q, kR, kH]
          exact Or.inr ⟨rfl, rfl⟩
    · exact go2 h2 (hS.q y2 hA) y2 y1
  · simp (disch := omega) only [mx_li, mx_ll, mx_la, mx_get, mx_s1, mx_s2, mx_tl, mx_nl, mx_ic, mx_op, mx_oc, mx_fd, mx_lg, mx_ls, mx_pd, mx_len, mx_isc, mx_ps, mx_ent, mx_rv, ↓reduceIte, List.length_cons, List.length_nil, Nat.reduceAdd, Nat.reduceLT, Nat.reduceEqDiff, Nat.reduceBEq, true_and, and_true, or_false, or_true, false_or, true_or, and_self, not_false_eq_true, not_true_eq_false, mob_g0, mob_g1, mob_g2, mob_g3, mob_g4, mob_g5, mob_g6, mob_g7, mob_g8, mob_g9, mob_g10, mob_g11, mob_g12, mob_g13, mob_g14, mob_g15, mob_g16, mob_g17, mob_g18, mob_g19, mob_g20, mob_g21, mob_g22, mob_g23, mob_g24, mob_g25, mob_g26, mob_g27, mob_g28, mob_g29, mob_g30, mob_g31, mob_g32, mob_s0, mob_s1, mob_s11, mob_s12, mob_s13, mob_s14, mob_s15, mob_s19, mob_s20, mob_s21, mob_s22, mob_s23, mob_s24, mob_s31, mob_len, xob_g0, xob_g1, xob_g2, xob_g3, xob_g4, xob_g5, xob_g6, xob_s3, xob_s4, xob_s5, xob_s6, xob_len, gob_g0, gob_g1, gob_g2, gob_g3, gob_g4, gob_g5, gob_g6, gob_g7, gob_g8, gob_g9, gob_g10, gob_g11, gob_g12, gob_g13, gob_g14, gob_g15, gob_g16, gob_g17, gob_s0, gob_s1, gob_s2, gob_s15, gob_s16, gob_s17, gob_len, sob_g0, sob_g1, sob_g2, sob_g3, sob_g4, sob_g5, sob_g6, sob_g7, sob_g8, sob_g9, sob_s5, sob_s6, sob_s7, sob_s8, sob_s9, sob_len, qob_g0, qob_g1, qob_g2, qob_g3, qob_g4, qob_g5, qob_s0, qob_s1, qob_s2, qob_s3, qob_s4, qob_s5, qob_len, wob_g0, wob_g1, wob_g2, wob_s0, wob_s1, wob_s2, wob_len, pob_g0, pob_g1, pob_g2, pob_g3, pob_g4, pob_s0, pob_s1, pob_s2, pob_s3, pob_s4, pob_len, n_lt, n_eq, n_lt0, n_0lt, n_eq0, n_cl, n_add, n_mul, n_l, n_eqm, n_ltm, n_mlt, n_m1, l_lt, l_eq, l_lt0, l_0lt, l_eq0, l_add, l_mul, l_i, g_lt, g_eq, g_gt, n_div, n_rem, l_div, l_mod, n01_0, n01_1, n_1e, n_0e1, ald_i, ald_o, ald_l, ald_z, ald_a, ast_i, ast_l, ast_z, ast_a, zI_t, zI_f, zI_ok, zI_eq0, r_S_openHeadings_90, ef]
    refine go2 h hS QG.rf ?_
    have e : rsF (fun p => lR p < r) (ofs gs w hh fr mo sh ky l) = rsF (fun p => lR p < r ∨ lR p = r ∧ lH p = 16) (ofs gs w hh fr mo sh ky l) := by
      refine rsF_cong (fun p k hk => ?_)
      have hp : pre gs w hh fr mo sh l p := Classical.byContradiction fun q => by rw [ofs_0 q] at hk; cases hk
      have hcp : lC p = c := by
        have := hp.1
        rw [hH.1] at this
        exact (Option.some.inj this).symm
      constructor
      · exact Or.inl
      · rintro (q | q)
        · exact q
        · rcases hp.2.2.2.2.2.2.2.2.1 with y | y
          · omega
          · exact absurd (hcp.symm.trans y.2) ef
    rw [← e]
    exact hD
end OPB
