/-! THE REFERENCE's LABELS: spread -/
def MO (h : mxH) (w hh : Nat) (gs : mG) (fd hd nd : Int32) (bd : Int64) (pv : Int32) (fr en mo sz : Nat) : Prop := h.1 58 = .inr (5, mob (nI w) (nI hh) (nI (gs 9 0)) (nI (gs 9 1)) (nI (gs 9 2)) fd hd nd bd pv (nI fr) (nI en) (nI mo) (nI sz))
def MT (h : mxH) (sh : Nat → Nat) : Prop := ∃ f, h.1 71 = .inl (2, 144, .inl f) ∧ ∀ c, c < 144 → f c = nI (sh c)
theorem MG.mf {h h' : mxH} {w hh : Nat} {gs : mG} {fd hd nd : Int32} {bd : Int64} {pv : Int32} {fr en mo sz : Nat} (hM : MG h w hh gs) (hF : MF h h') (x : MO h' w hh gs fd hd nd bd pv fr en mo sz) : MG h' w hh gs := by
  obtain ⟨-, a1, a2, a3, a4, a5, a6, a7, a8, a9⟩ := hM
  have e : ∀ k, 59 ≤ k → k ≤ 67 → h'.1 k = h.1 k := fun k k1 k2 => hF.1 k (by omega) (by omega)
  refine ⟨⟨_, _, _, _, _, _, _, _, _, x⟩, ?_, ?_, ?_, ?_, ?_, ?_, ?_, ?_, ?_⟩
  · rw [e 59 (by omega) (by omega)]; exact a1
  · rw [e 60 (by omega) (by omega)]; exact a2
  · rw [e 61 (by omega) (by omega)]; exact a3
  · rw [e 62 (by omega) (by omega)]; exact a4
  · rw [e 63 (by omega) (by omega)]; exact a5
  · rw [e 64 (by omega) (by omega)]; exact a6
  · rw [e 65 (by omega) (by omega)]; exact a7
  · rw [e 66 (by omega) (by omega)]; exact a8
  · rw [e 67 (by omega) (by omega)]; exact a9
theorem MT.mf {h h' : mxH} {sh : Nat → Nat} (hT : MT h sh) (hF : MF h h') : MT h' sh := by
  obtain ⟨f, a, b⟩ := hT
  exact ⟨f, (hF.1 71 (by omega) (by omega)).trans a, b⟩
def PB (q b p : Nat) : Prop := lR p < q ∨ lR p = q ∧ lH p < b
section MSP
variable {gs : mG} {w hh fr en mo : Nat} {sh st ky : Nat → Nat} {fd hd nd pv : Int32} {bd : Int64} {l c q s : Nat}
theorem c_M_off {b t n : Nat} {P P' : Nat → Prop} {h : mxH} {Q : Option Value → mxH → Prop} (hB : GB gs) (hn : w * hh ≤ 144) (hmo : mo ≤ 8) (hst : ∀ p, st p ≤ 2) (hkT : kT (ky l) < 200000) (hkM : kM (ky l) < 200000) (hkC : kC (ky l) < 20000000000000) (hH : HB gs w hh mo sh l c q s)
    (x58 : MO h w hh gs fd hd nd bd pv fr en mo n) (hD : MD h (aps (rsF P (ofs gs w hh fr mo sh ky l)) st) (apk (rsF P (ofs gs w hh fr mo sh ky l)) st ky) n)
    (hb : (b < 16 ∧ hdg gs b = true ∧ fol gs b (lH l) c (lC l) = true) ∨ (b = 16 ∧ c = fr)) (ht : t = tbit l (lab c b q s)) (h0 : ¬ P (lab c b q s)) (hP : ∀ p, pre gs w hh fr mo sh l p → (P' p ↔ P p ∨ p = lab c b q s))
    (kk : ∀ (h' : mxH) (n' : Nat), MD h' (aps (rsF P' (ofs gs w hh fr mo sh ky l)) st) (apk (rsF P' (ofs gs w hh fr mo sh ky l)) st ky) n' → MO h' w hh gs fd hd nd bd pv fr en mo n' → MF h h' → Q none h') :
    mcl mx_P 104 [.ref 58, .int (nI (lab c b q s)), .long (lN (kC (ky l) + len (lH l) * unt gs (lC l))), .int (nI (kT (ky l) + t)), .int (nI (kM (ky l) + 1))] h Q := by
  obtain ⟨r3, s8, hcw⟩ := hH.b hB hmo
  have b16 : b ≤ 16 := by omega
  have hp := hH.pr hB hmo hb
  obtain ⟨k1, k2, k3⟩ := k_step (k := ky l) (L := len (lH l) * unt gs (lC l)) (t := tbit l (lab c b q s)) hkT hkM (tbit_le _ _)
  have hL := stK_le hB l
  have hF : ofs gs w hh fr mo sh ky l (lab c b q s) = some (ky l + stK gs l (lab c b q s)) := ofs_1 hp
  obtain ⟨m1, m2⟩ := rsF_more (P' := P') h0 hF (fun p j hj => hP p (Classical.byContradiction fun q => by rw [ofs_0 q] at hj; cases hj)) st ky hst
  have e : stK gs l (lab c b q s) = len (lH l) * unt gs (lC l) * 68719476736 + tbit l (lab c b q s) * 262144 + 1 := rfl
  rw [← e] at k1 k2 k3
  rw [ht, ← k1, ← k2, ← k3]
  refine c_M_offer x58 hD ?_ (by rw [k1]; omega) (fun h' n' a1 a2 a3 => ?_)
  · unfold lab; omega
  · rw [← m1, ← m2] at a1
    exact kk h' n' a1 a2 a3
set_option maxHeartbeats 2000000 in
theorem l_M_spB {h0 : mxH} {Q : Option Value → mxH → Prop} {A9 A10 : Option Value} (hB : GB gs) (hn : w * hh ≤ 144) (hmo : mo ≤ 8) (hst : ∀ p, st p ≤ 2) (hkT : kT (ky l) < 200000) (hkM : kM (ky l) < 200000) (hkC : kC (ky l) < 20000000000000) (hH : HB gs w hh mo sh l c q s) (hl : st l = 2) (hl8 : l < 88128) (hM : MG h0 w hh gs)
    (kk : ∀ (h' : mxH) (n' : Nat) (T : mxL), MD h' (aps (rsF (PB q 16) (ofs gs w hh fr mo sh ky l)) st) (apk (rsF (PB q 16) (ofs gs w hh fr mo sh ky l)) st ky) n' → MO h' w hh gs fd hd nd bd pv fr en mo n' → MF h0 h' →
      mw mx_P 105 278 (some (.ref 58) :: some (.int (nI l)) :: some (.int (nI (lC l))) :: some (.int (nI (lH l))) :: some (.int (nI (lR l))) :: some (.int (nI s)) :: some (.int (nI c)) :: some (.long (lN (kC (ky l) + len (lH l) * unt gs (lC l)))) :: none :: A9 :: A10 :: some (.int (nI q)) :: T) [] h' Q) :
    ∀ (d b n : Nat) (h : mxH) (T : mxL), b + d = 16 → MD h (aps (rsF (PB q b) (ofs gs w hh fr mo sh ky l)) st) (apk (rsF (PB q b) (ofs gs w hh fr mo sh ky l)) st ky) n → MO h w hh gs fd hd nd bd pv fr en mo n → MF h0 h →
      mw mx_P 105 200 (some (.ref 58) :: some (.int (nI l)) :: some (.int (nI (lC l))) :: some (.int (nI (lH l))) :: some (.int (nI (lR l))) :: some (.int (nI s)) :: some (.int (nI c)) :: some (.long (lN (kC (ky l) + len (lH l) * unt gs (lC l)))) :: none :: A9 :: A10 :: some (.int (nI q)) :: some (.int (nI b)) :: T) [] h Q := by
  obtain ⟨r3, s8, hcw⟩ := hH.b hB hmo
  have hlH := hH.2.2.2.2.2.2.2.2
  have hlc : lC l < 144 := by unfold lC; omega
  intro d
  induction d with
  | zero =>
    intro b n h T hb hD x58 hF
    have b16 : b = 16 := by omega
    subst b16
    rw [r_M_spread_200]
    simp (disch := omega) only [mx_li, mx_ll, mx_la, mx_get, mx_s1, mx_s2, mx_tl, mx_nl, mx_ic, mx_op, mx_oc, mx_fd, mx_lg, mx_ls, mx_pd, mx_len, mx_isc, mx_ps, mx_ent, mx_rv, ↓reduceIte, List.length_cons, List.length_nil, Nat.reduceAdd, Nat.reduceLT, Nat.reduceEqDiff, Nat.reduceBEq, true_and, and_true, or_false, or_true, false_or, true_or, and_self, not_false_eq_true, not_true_eq_false, mob_g0, mob_g1, mob_g2, mob_g3, mob_g4, mob_g5, mob_g6, mob_g7, mob_g8, mob_g9, mob_g10, mob_g11, mob_g12, mob_g13, mob_g14, mob_g15, mob_g16, mob_g17, mob_g18, mob_g19, mob_g20, mob_g21, mob_g22, mob_g23, mob_g24, mob_g25, mob_g26, mob_g27, mob_g28, mob_g29, mob_g30, mob_g31, mob_g32, mob_s0, mob_s1, mob_s11, mob_s12, mob_s13, mob_s14, mob_s15, mob_s19, mob_s20, mob_s21, mob_s22, mob_s23, mob_s24, mob_s31, mob_len, xob_g0, xob_g1, xob_g2, xob_g3, xob_g4, xob_g5, xob_g6, xob_s3, xob_s4, xob_s5, xob_s6, xob_len, gob_g0, gob_g1, gob_g2, gob_g3, gob_g4, gob_g5, gob_g6, gob_g7, gob_g8, gob_g9, gob_g10, gob_g11, gob_g12, gob_g13, gob_g14, gob_g15, gob_g16, gob_g17, gob_s0, gob_s1, gob_s2, gob_s15, gob_s16, gob_s17, gob_len, sob_g0, sob_g1, sob_g2, sob_g3, sob_g4, sob_g5, sob_g6, sob_g7, sob_g8, sob_g9, sob_s5, sob_s6, sob_s7, sob_s8, sob_s9, sob_len, qob_g0, qob_g1, qob_g2, qob_g3, qob_g4, qob_g5, qob_s0, qob_s1, qob_s2, qob_s3, qob_s4, qob_s5, qob_len, wob_g0, wob_g1, wob_g2, wob_s0, wob_s1, wob_s2, wob_len, pob_g0, pob_g1, pob_g2, pob_g3, pob_g4, pob_s0, pob_s1, pob_s2, pob_s3, pob_s4, pob_len, n_lt, n_eq, n_lt0, n_0lt, n_eq0, n_cl, n_add, n_mul, n_l, n_eqm, n_ltm, n_mlt, n_m1, l_lt, l_eq, l_lt0, l_0lt, l_eq0, l_add, l_mul, l_i, g_lt, g_eq, g_gt, n_div, n_rem, l_div, l_mod, n01_0, n01_1, n_1e, n_0e1, ald_i, ald_o, ald_l, ald_z, ald_a, ast_i, ast_l, ast_z, ast_a, zI_t, zI_f, zI_ok, zI_eq0, r_M_spread_202, r_M_spread_204, Nat.lt_irrefl]
    exact kk h n _ hD x58 hF
  | succ d ih =>
    intro b n h T hb hD x58 hF
    have hM1 := hM.mf hF x58
    have blt : b < 16 := by omega
    obtain ⟨K, sp, hp, hA, hK, hs2, hKy, hHp⟩ := id hD
    obtain ⟨a1, a2, a3, a4, a5, a6⟩ := id hA
    obtain ⟨z1, z2⟩ := apk_cl (st := st) (ky := ky) (P := PB q b) (F := ofs gs w hh fr mo sh ky l) hl
    have kl : K l = ky l := by
      have := (hKy l (by omega)).2
      rw [this, z2]
    have x58' : h.1 58 = _ := x58
    have c1 := lC_lab (c := c) (d := b) (r := q) (s := s) (by omega) (by omega) (by omega)
    have c2 := lH_lab (c := c) (d := b) (r := q) (s := s) (by omega) (by omega) (by omega)
    have c3 := lR_lab (c := c) (d := b) (r := q) (s := s) (by omega) (by omega) (by omega)
    -- no label
    have skip : ¬ (hdg gs b = true ∧ fol gs b (lH l) c (lC l) = true) → ∀ T', mw mx_P 105 200 (some (.ref 58) :: some (.int (nI l)) :: some (.int (nI (lC l))) :: some (.int (nI (lH l))) :: some (.int (nI (lR l))) :: some (.int (nI s)) :: some (.int (nI c)) :: some (.long (lN (kC (ky l) + len (lH l) * unt gs (lC l)))) :: none :: A9 :: A10 :: some (.int (nI q)) :: some (.int (nI (b + 1))) :: T') [] h Q := by
      intro hno T'
      have e : rsF (PB q b) (ofs gs w hh fr mo sh ky l) = rsF (PB q (b + 1)) (ofs gs w hh fr mo sh ky l) := rsF_cong (fun p k hk => by
        have hp : pre gs w hh fr mo sh l p := Classical.byContradiction fun q => by rw [ofs_0 q] at hk; cases hk
        unfold PB
        constructor
        · intro y; omega
        · rintro (y | ⟨y1, y2⟩)
          · exact Or.inl y
          · by_cases y3 : lH p = b
            · have ep := hH.of hp y1
              rw [y3] at ep
              obtain ⟨p1, p2, p3, p4, p5, p6, p7, p8, p9, p10⟩ := hp
              rcases p9 with ⟨g1, g2, g3⟩ | ⟨g1, g2⟩
              · rw [y3] at g2 g3
                rw [ep, c1] at g3
                exact absurd ⟨g2, g3⟩ hno
              · omega
            · exact Or.inr ⟨y1, by omega⟩)
      rw [e] at hD
      exact ih (b + 1) n h T' (by omega) hD x58 hF
    rw [r_M_spread_200]
    simp (disch := omega) only [mx_li, mx_ll, mx_la, mx_get, mx_s1, mx_s2, mx_tl, mx_nl, mx_ic, mx_op, mx_oc, mx_fd, mx_lg, mx_ls, mx_pd, mx_len, mx_isc, mx_ps, mx_ent, mx_rv, ↓reduceIte, List.length_cons, List.length_nil, Nat.reduceAdd, Nat.reduceLT, Nat.reduceEqDiff, Nat.reduceBEq, true_and, and_true, or_false, or_true, false_or, true_or, and_self, not_false_eq_true, not_true_eq_false, mob_g0, mob_g1, mob_g2, mob_g3, mob_g4, mob_g5, mob_g6, mob_g7, mob_g8, mob_g9, mob_g10, mob_g11, mob_g12, mob_g13, mob_g14, mob_g15, mob_g16, mob_g17, mob_g18, mob_g19, mob_g20, mob_g21, mob_g22, mob_g23, mob_g24, mob_g25, mob_g26, mob_g27, mob_g28, mob_g29, mob_g30, mob_g31, mob_g32, mob_s0, mob_s1, mob_s11, mob_s12, mob_s13, mob_s14, mob_s15, mob_s19, mob_s20, mob_s21, mob_s22, mob_s23, mob_s24, mob_s31, mob_len, xob_g0, xob_g1, xob_g2, xob_g3, xob_g4, xob_g5, xob_g6, xob_s3, xob_s4, xob_s5, xob_s6, xob_len, gob_g0, gob_g1, gob_g2, gob_g3, gob_g4, gob_g5, gob_g6, gob_g7, gob_g8, gob_g9, gob_g10, gob_g11, gob_g12, gob_g13, gob_g14, gob_g15, gob_g16, gob_g17, gob_s0, gob_s1, gob_s2, gob_s15, gob_s16, gob_s17, gob_len, sob_g0, sob_g1, sob_g2, sob_g3, sob_g4, sob_g5, sob_g6, sob_g7, sob_g8, sob_g9, sob_s5, sob_s6, sob_s7, sob_s8, sob_s9, sob_len, qob_g0, qob_g1, qob_g2, qob_g3, qob_g4, qob_g5, qob_s0, qob_s1, qob_s2, qob_s3, qob_s4, qob_s5, qob_len, wob_g0, wob_g1, wob_g2, wob_s0, wob_s1, wob_s2, wob_len, pob_g0, pob_g1, pob_g2, pob_g3, pob_g4, pob_s0, pob_s1, pob_s2, pob_s3, pob_s4, pob_len, n_lt, n_eq, n_lt0, n_0lt, n_eq0, n_cl, n_add, n_mul, n_l, n_eqm, n_ltm, n_mlt, n_m1, l_lt, l_eq, l_lt0, l_0lt, l_eq0, l_add, l_mul, l_i, g_lt, g_eq, g_gt, n_div, n_rem, l_div, l_mod, n01_0, n01_1, n_1e, n_0e1, ald_i, ald_o, ald_l, ald_z, ald_a, ast_i, ast_l, ast_z, ast_a, zI_t, zI_f, zI_ok, zI_eq0, r_M_spread_202, r_M_spread_204, r_M_spread_207, r_M_spread_208, r_M_spread_210, blt, x58', e_M_isHeading hM1 hB (show b < 17 by omega)]
    have ehd : (decide (gs 9 0 = 2) || decide (b % 2 = 0)) = hdg gs b := rfl
    rw [ehd]
    cases g1 : hdg gs b with
    | false =>
      simp (disch := omega) only [mx_li, mx_ll, mx_la, mx_get, mx_s1, mx_s2, mx_tl, mx_nl, mx_ic, mx_op, mx_oc, mx_fd, mx_lg, mx_ls, mx_pd, mx_len, mx_isc, mx_ps, mx_ent, mx_rv, ↓reduceIte, List.length_cons, List.length_nil, Nat.reduceAdd, Nat.reduceLT, Nat.reduceEqDiff, Nat.reduceBEq, true_and, and_true, or_false, or_true, false_or, true_or, and_self, not_false_eq_true, not_true_eq_false, mob_g0, mob_g1, mob_g2, mob_g3, mob_g4, mob_g5, mob_g6, mob_g7, mob_g8, mob_g9, mob_g10, mob_g11, mob_g12, mob_g13, mob_g14, mob_g15, mob_g16, mob_g17, mob_g18, mob_g19, mob_g20, mob_g21, mob_g22, mob_g23, mob_g24, mob_g25, mob_g26, mob_g27, mob_g28, mob_g29, mob_g30, mob_g31, mob_g32, mob_s0, mob_s1, mob_s11, mob_s12, mob_s13, mob_s14, mob_s15, mob_s19, mob_s20, mob_s21, mob_s22, mob_s23, mob_s24, mob_s31, mob_len, xob_g0, xob_g1, xob_g2, xob_g3, xob_g4, xob_g5, xob_g6, xob_s3, xob_s4, xob_s5, xob_s6, xob_len, gob_g0, gob_g1, gob_g2, gob_g3, gob_g4, gob_g5, gob_g6, gob_g7, gob_g8, gob_g9, gob_g10, gob_g11, gob_g12, gob_g13, gob_g14, gob_g15, gob_g16, gob_g17, gob_s0, gob_s1, gob_s2, gob_s15, gob_s16, gob_s17, gob_len, sob_g0, sob_g1, sob_g2, sob_g3, sob_g4, sob_g5, sob_g6, sob_g7, sob_g8, sob_g9, sob_s5, sob_s6, sob_s7, sob_s8, sob_s9, sob_len, qob_g0, qob_g1, qob_g2, qob_g3, qob_g4, qob_g5, qob_s0, qob_s1, qob_s2, qob_s3, qob_s4, qob_s5, qob_len, wob_g0, wob_g1, wob_g2, wob_s0, wob_s1, wob_s2, wob_len, pob_g0, pob_g1, pob_g2, pob_g3, pob_g4, pob_s0, pob_s1, pob_s2, pob_s3, pob_s4, pob_len, n_lt, n_eq, n_lt0, n_0lt, n_eq0, n_cl, n_add, n_mul, n_l, n_eqm, n_ltm, n_mlt, n_m1, l_lt, l_eq, l_lt0, l_0lt, l_eq0, l_add, l_mul, l_i, g_lt, g_eq, g_gt, n_div, n_rem, l_div, l_mod, n01_0, n01_1, n_1e, n_0e1, ald_i, ald_o, ald_l, ald_z, ald_a, ast_i, ast_l, ast_z, ast_a, zI_t, zI_f, zI_ok, zI_eq0, r_M_spread_213, r_M_spread_272, r_M_spread_275]
      exact skip (fun q => by rw [g1] at q; cases q.1) _
    | true =>
      simp (disch := omega) only [mx_li, mx_ll, mx_la, mx_get, mx_s1, mx_s2, mx_tl, mx_nl, mx_ic, mx_op, mx_oc, mx_fd, mx_lg, mx_ls, mx_pd, mx_len, mx_isc, mx_ps, mx_ent, mx_rv, ↓reduceIte, List.length_cons, List.length_nil, Nat.reduceAdd, Nat.reduceLT, Nat.reduceEqDiff, Nat.reduceBEq, true_and, and_true, or_false, or_true, false_or, true_or, and_self, not_false_eq_true, not_true_eq_false, mob_g0, mob_g1, mob_g2, mob_g3, mob_g4, mob_g5, mob_g6, mob_g7, mob_g8, mob_g9, mob_g10, mob_g11, mob_g12, mob_g13, mob_g14, mob_g15, mob_g16, mob_g17, mob_g18, mob_g19, mob_g20, mob_g21, mob_g22, mob_g23, mob_g24, mob_g25, mob_g26, mob_g27, mob_g28, mob_g29, mob_g30, mob_g31, mob_g32, mob_s0, mob_s1, mob_s11, mob_s12, mob_s13, mob_s14, mob_s15, mob_s19, mob_s20, mob_s21, mob_s22, mob_s23, mob_s24, mob_s31, mob_len, xob_g0, xob_g1, xob_g2, xob_g3, xob_g4, xob_g5, xob_g6, xob_s3, xob_s4, xob_s5, xob_s6, xob_len, gob_g0, gob_g1, gob_g2, gob_g3, gob_g4, gob_g5, gob_g6, gob_g7, gob_g8, gob_g9, gob_g10, gob_g11, gob_g12, gob_g13, gob_g14, gob_g15, gob_g16, gob_g17, gob_s0, gob_s1, gob_s2, gob_s15, gob_s16, gob_s17, gob_len, sob_g0, sob_g1, sob_g2, sob_g3, sob_g4, sob_g5, sob_g6, sob_g7, sob_g8, sob_g9, sob_s5, sob_s6, sob_s7, sob_s8, sob_s9, sob_len, qob_g0, qob_g1, qob_g2, qob_g3, qob_g4, qob_g5, qob_s0, qob_s1, qob_s2, qob_s3, qob_s4, qob_s5, qob_len, wob_g0, wob_g1, wob_g2, wob_s0, wob_s1, wob_s2, wob_len, pob_g0, pob_g1, pob_g2, pob_g3, pob_g4, pob_s0, pob_s1, pob_s2, pob_s3, pob_s4, pob_len, n_lt, n_eq, n_lt0, n_0lt, n_eq0, n_cl, n_add, n_mul, n_l, n_eqm, n_ltm, n_mlt, n_m1, l_lt, l_eq, l_lt0, l_0lt, l_eq0, l_add, l_mul, l_i, g_lt, g_eq, g_gt, n_div, n_rem, l_div, l_mod, n01_0, n01_1, n_1e, n_0e1, ald_i, ald_o, ald_l, ald_z, ald_a, ast_i, ast_l, ast_z, ast_a, zI_t, zI_f, zI_ok, zI_eq0, r_M_spread_213, r_M_spread_216, r_M_spread_217, r_M_spread_219, r_M_spread_220, r_M_spread_222, r_M_spread_223, x58', e_M_follows hM1 hB (show b ≤ 16 by omega) (show lH l ≤ 16 by omega) (show c < 144 by omega) hlc, Bool.true_eq_false]
      cases g2 : fol gs b (lH l) c (lC l) with
      | false =>
        simp (disch := omega) only [mx_li, mx_ll, mx_la, mx_get, mx_s1, mx_s2, mx_tl, mx_nl, mx_ic, mx_op, mx_oc, mx_fd, mx_lg, mx_ls, mx_pd, mx_len, mx_isc, mx_ps, mx_ent, mx_rv, ↓reduceIte, List.length_cons, List.length_nil, Nat.reduceAdd, Nat.reduceLT, Nat.reduceEqDiff, Nat.reduceBEq, true_and, and_true, or_false, or_true, false_or, true_or, and_self, not_false_eq_true, not_true_eq_false, mob_g0, mob_g1, mob_g2, mob_g3, mob_g4, mob_g5, mob_g6, mob_g7, mob_g8, mob_g9, mob_g10, mob_g11, mob_g12, mob_g13, mob_g14, mob_g15, mob_g16, mob_g17, mob_g18, mob_g19, mob_g20, mob_g21, mob_g22, mob_g23, mob_g24, mob_g25, mob_g26, mob_g27, mob_g28, mob_g29, mob_g30, mob_g31, mob_g32, mob_s0, mob_s1, mob_s11, mob_s12, mob_s13, mob_s14, mob_s15, mob_s19, mob_s20, mob_s21, mob_s22, mob_s23, mob_s24, mob_s31, mob_len, xob_g0, xob_g1, xob_g2, xob_g3, xob_g4, xob_g5, xob_g6, xob_s3, xob_s4, xob_s5, xob_s6, xob_len, gob_g0, gob_g1, gob_g2, gob_g3, gob_g4, gob_g5, gob_g6, gob_g7, gob_g8, gob_g9, gob_g10, gob_g11, gob_g12, gob_g13, gob_g14, gob_g15, gob_g16, gob_g17, gob_s0, gob_s1, gob_s2, gob_s15, gob_s16, gob_s17, gob_len, sob_g0, sob_g1, sob_g2, sob_g3, sob_g4, sob_g5, sob_g6, sob_g7, sob_g8, sob_g9, sob_s5, sob_s6, sob_s7, sob_s8, sob_s9, sob_len, qob_g0, qob_g1, qob_g2, qob_g3, qob_g4, qob_g5, qob_s0, qob_s1, qob_s2, qob_s3, qob_s4, qob_s5, qob_len, wob_g0, wob_g1, wob_g2, wob_s0, wob_s1, wob_s2, wob_len, pob_g0, pob_g1, pob_g2, pob_g3, pob_g4, pob_s0, pob_s1, pob_s2, pob_s3, pob_s4, pob_len, n_lt, n_eq, n_lt0, n_0lt, n_eq0, n_cl, n_add, n_mul, n_l, n_eqm, n_ltm, n_mlt, n_m1, l_lt, l_eq, l_lt0, l_0lt, l_eq0, l_add, l_mul, l_i, g_lt, g_eq, g_gt, n_div, n_rem, l_div, l_mod, n01_0, n01_1, n_1e, n_0e1, ald_i, ald_o, ald_l, ald_z, ald_a, ast_i, ast_l, ast_z, ast_a, zI_t, zI_f, zI_ok, zI_eq0, r_M_spread_226, r_M_spread_272, r_M_spread_275]
        exact skip (fun q => by rw [g2] at q; cases q.2) _
      | true =>
        have eLb : 612 * c + 36 * b + 9 * q + s = lab c b q s := rfl
        have hPB : ∀ p, pre gs w hh fr mo sh l p → (PB q (b + 1) p ↔ PB q b p ∨ p = lab c b q s) := by
          intro p hp
          unfold PB
          constructor
          · rintro (y | ⟨y1, y2⟩)
            · exact Or.inl (Or.inl y)
            · by_cases y3 : lH p = b
              · have ep := hH.of hp y1
                rw [y3] at ep
                exact Or.inr ep
              · exact Or.inl (Or.inr ⟨y1, by omega⟩)
          · rintro (y | y)
            · omega
            · rw [y, c2, c3]; omega
        have hnP : ¬ PB q b (lab c b q s) := by unfold PB; rw [c2, c3]; omega
        have tb : tbit l (lab c b q s) = if b ≠ 16 ∧ b ≠ lH l then 1 else 0 := by unfold tbit; rw [c2]
        by_cases e1 : b = lH l
        · rw [if_neg (fun y => y.2 e1)] at tb
          simp (disch := omega) only [mx_li, mx_ll, mx_la, mx_get, mx_s1, mx_s2, mx_tl, mx_nl, mx_ic, mx_op, mx_oc, mx_fd, mx_lg, mx_ls, mx_pd, mx_len, mx_isc, mx_ps, mx_ent, mx_rv, ↓reduceIte, List.length_cons, List.length_nil, Nat.reduceAdd, Nat.reduceLT, Nat.reduceEqDiff, Nat.reduceBEq, true_and, and_true, or_false, or_true, false_or, true_or, and_self, not_false_eq_true, not_true_eq_false, mob_g0, mob_g1, mob_g2, mob_g3, mob_g4, mob_g5, mob_g6, mob_g7, mob_g8, mob_g9, mob_g10, mob_g11, mob_g12, mob_g13, mob_g14, mob_g15, mob_g16, mob_g17, mob_g18, mob_g19, mob_g20, mob_g21, mob_g22, mob_g23, mob_g24, mob_g25, mob_g26, mob_g27, mob_g28, mob_g29, mob_g30, mob_g31, mob_g32, mob_s0, mob_s1, mob_s11, mob_s12, mob_s13, mob_s14, mob_s15, mob_s19, mob_s20, mob_s21, mob_s22, mob_s23, mob_s24, mob_s31, mob_len, xob_g0, xob_g1, xob_g2, xob_g3, xob_g4, xob_g5, xob_g6, xob_s3, xob_s4, xob_s5, xob_s6, xob_len, gob_g0, gob_g1, gob_g2, gob_g3, gob_g4, gob_g5, gob_g6, gob_g7, gob_g8, gob_g9, gob_g10, gob_g11, gob_g12, gob_g13, gob_g14, gob_g15, gob_g16, gob_g17, gob_s0, gob_s1, gob_s2, gob_s15, gob_s16, gob_s17, gob_len, sob_g0, sob_g1, sob_g2, sob_g3, sob_g4, sob_g5, sob_g6, sob_g7, sob_g8, sob_g9, sob_s5, sob_s6, sob_s7, sob_s8, sob_s9, sob_len, qob_g0, qob_g1, qob_g2, qob_g3, qob_g4, qob_g5, qob_s0, qob_s1, qob_s2, qob_s3, qob_s4, qob_s5, qob_len, wob_g0, wob_g1, wob_g2, wob_s0, wob_s1, wob_s2, wob_len, pob_g0, pob_g1, pob_g2, pob_g3, pob_g4, pob_s0, pob_s1, pob_s2, pob_s3, pob_s4, pob_len, n_lt, n_eq, n_lt0, n_0lt, n_eq0, n_cl, n_add, n_mul, n_l, n_eqm, n_ltm, n_mlt, n_m1, l_lt, l_eq, l_lt0, l_0lt, l_eq0, l_add, l_mul, l_i, g_lt, g_eq, g_gt, n_div, n_rem, l_div, l_mod, n01_0, n01_1, n_1e, n_0e1, ald_i, ald_o, ald_l, ald_z, ald_a, ast_i, ast_l, ast_z, ast_a, zI_t, zI_f, zI_ok, zI_eq0, r_M_spread_226, r_M_spread_229, r_M_spread_230, r_M_spread_232, r_M_spread_234, r_M_spread_236, r_M_spread_238, r_M_spread_241, r_M_spread_243, r_M_spread_244, r_M_spread_247, r_M_spread_248, r_M_spread_249, r_M_spread_251, r_M_spread_252, r_M_spread_255, r_M_spread_256, r_M_spread_259, r_M_spread_260, r_M_spread_261, r_M_spread_262, r_M_spread_265, r_M_spread_266, r_M_spread_267, r_M_spread_268, r_M_spread_269, x58', e_M_labelOf, eLb, a2, a3, kl, e1, Bool.true_eq_false]
          rw [← e1]
          rw [e1] at tb hD hnP hPB g1 g2
          rw [e1]
          refine c_M_off hB hn hmo hst hkT hkM hkC hH x58 hD (Or.inl ⟨hlH, g1, g2⟩) tb.symm hnP hPB (fun h' n' y1 y2 y3 => ?_)
          simp (disch := omega) only [mx_li, mx_ll, mx_la, mx_get, mx_s1, mx_s2, mx_tl, mx_nl, mx_ic, mx_op, mx_oc, mx_fd, mx_lg, mx_ls, mx_pd, mx_len, mx_isc, mx_ps, mx_ent, mx_rv, ↓reduceIte, List.length_cons, List.length_nil, Nat.reduceAdd, Nat.reduceLT, Nat.reduceEqDiff, Nat.reduceBEq, true_and, and_true, or_false, or_true, false_or, true_or, and_self, not_false_eq_true, not_true_eq_false, mob_g0, mob_g1, mob_g2, mob_g3, mob_g4, mob_g5, mob_g6, mob_g7, mob_g8, mob_g9, mob_g10, mob_g11, mob_g12, mob_g13, mob_g14, mob_g15, mob_g16, mob_g17, mob_g18, mob_g19, mob_g20, mob_g21, mob_g22, mob_g23, mob_g24, mob_g25, mob_g26, mob_g27, mob_g28, mob_g29, mob_g30, mob_g31, mob_g32, mob_s0, mob_s1, mob_s11, mob_s12, mob_s13, mob_s14, mob_s15, mob_s19, mob_s20, mob_s21, mob_s22, mob_s23, mob_s24, mob_s31, mob_len, xob_g0, xob_g1, xob_g2, xob_g3, xob_g4, xob_g5, xob_g6, xob_s3, xob_s4, xob_s5, xob_s6, xob_len, gob_g0, gob_g1, gob_g2, gob_g3, gob_g4, gob_g5, gob_g6, gob_g7, gob_g8, gob_g9, gob_g10, gob_g11, gob_g12, gob_g13, gob_g14, gob_g15, gob_g16, gob_g17, gob_s0, gob_s1, gob_s2, gob_s15, gob_s16, gob_s17, gob_len, sob_g0, sob_g1, sob_g2, sob_g3, sob_g4, sob_g5, sob_g6, sob_g7, sob_g8, sob_g9, sob_s5, sob_s6, sob_s7, sob_s8, sob_s9, sob_len, qob_g0, qob_g1, qob_g2, qob_g3, qob_g4, qob_g5, qob_s0, qob_s1, qob_s2, qob_s3, qob_s4, qob_s5, qob_len, wob_g0, wob_g1, wob_g2, wob_s0, wob_s1, wob_s2, wob_len, pob_g0, pob_g1, pob_g2, pob_g3, pob_g4, pob_s0, pob_s1, pob_s2, pob_s3, pob_s4, pob_len, n_lt, n_eq, n_lt0, n_0lt, n_eq0, n_cl, n_add, n_mul, n_l, n_eqm, n_ltm, n_mlt, n_m1, l_lt, l_eq, l_lt0, l_0lt, l_eq0, l_add, l_mul, l_i, g_lt, g_eq, g_gt, n_div, n_rem, l_div, l_mod, n01_0, n01_1, n_1e, n_0e1, ald_i, ald_o, ald_l, ald_z, ald_a, ast_i, ast_l, ast_z, ast_a, zI_t, zI_f, zI_ok, zI_eq0, r_M_spread_272, r_M_spread_275]
          rw [← e1] at y1
          rw [show nI (lH l + 1) = nI (b + 1) by rw [e1]]
          exact ih (b + 1) n' h' _ (by omega) y1 y2 (hF.tr y3)
        · rw [if_pos ⟨by omega, e1⟩] at tb
          simp (disch := omega) only [mx_li, mx_ll, mx_la, mx_get, mx_s1, mx_s2, mx_tl, mx_nl, mx_ic, mx_op, mx_oc, mx_fd, mx_lg, mx_ls, mx_pd, mx_len, mx_isc, mx_ps, mx_ent, mx_rv, ↓reduceIte, List.length_cons, List.length_nil, Nat.reduceAdd, Nat.reduceLT, Nat.reduceEqDiff, Nat.reduceBEq, true_and, and_true, or_false, or_true, false_or, true_or, and_self, not_false_eq_true, not_true_eq_false, mob_g0, mob_g1, mob_g2, mob_g3, mob_g4, mob_g5, mob_g6, mob_g7, mob_g8, mob_g9, mob_g10, mob_g11, mob_g12, mob_g13, mob_g14, mob_g15, mob_g16, mob_g17, mob_g18, mob_g19, mob_g20, mob_g21, mob_g22, mob_g23, mob_g24, mob_g25, mob_g26, mob_g27, mob_g28, mob_g29, mob_g30, mob_g31, mob_g32, mob_s0, mob_s1, mob_s11, mob_s12, mob_s13, mob_s14, mob_s15, mob_s19, mob_s20, mob_s21, mob_s22, mob_s23, mob_s24, mob_s31, mob_len, xob_g0, xob_g1, xob_g2, xob_g3, xob_g4, xob_g5, xob_g6, xob_s3, xob_s4, xob_s5, xob_s6, xob_len, gob_g0, gob_g1, gob_g2, gob_g3, gob_g4, gob_g5, gob_g6, gob_g7, gob_g8, gob_g9, gob_g10, gob_g11, gob_g12, gob_g13, gob_g14, gob_g15, gob_g16, gob_g17, gob_s0, gob_s1, gob_s2, gob_s15, gob_s16, gob_s17, gob_len, sob_g0, sob_g1, sob_g2, sob_g3, sob_g4, sob_g5, sob_g6, sob_g7, sob_g8, sob_g9, sob_s5, sob_s6, sob_s7, sob_s8, sob_s9, sob_len, qob_g0, qob_g1, qob_g2, qob_g3, qob_g4, qob_g5, qob_s0, qob_s1, qob_s2, qob_s3, qob_s4, qob_s5, qob_len, wob_g0, wob_g1, wob_g2, wob_s0, wob_s1, wob_s2, wob_len, pob_g0, pob_g1, pob_g2, pob_g3, pob_g4, pob_s0, pob_s1, pob_s2, pob_s3, pob_s4, pob_len, n_lt, n_eq, n_lt0, n_0lt, n_eq0, n_cl, n_add, n_mul, n_l, n_eqm, n_ltm, n_mlt, n_m1, l_lt, l_eq, l_lt0, l_0lt, l_eq0, l_add, l_mul, l_i, g_lt, g_eq, g_gt, n_div, n_rem, l_div, l_mod, n01_0, n01_1, n_1e, n_0e1, ald_i, ald_o, ald_l, ald_z, ald_a, ast_i, ast_l, ast_z, ast_a, zI_t, zI_f, zI_ok, zI_eq0, r_M_spread_226, r_M_spread_229, r_M_spread_230, r_M_spread_232, r_M_spread_234, r_M_spread_236, r_M_spread_238, r_M_spread_241, r_M_spread_243, r_M_spread_244, r_M_spread_247, r_M_spread_248, r_M_spread_249, r_M_spread_251, r_M_spread_252, r_M_spread_255, r_M_spread_256, r_M_spread_259, r_M_spread_260, r_M_spread_261, r_M_spread_262, r_M_spread_265, r_M_spread_266, r_M_spread_267, r_M_spread_268, r_M_spread_269, x58', e_M_labelOf, eLb, a2, a3, kl, e1, Bool.true_eq_false]
          refine c_M_off hB hn hmo hst hkT hkM hkC hH x58 hD (Or.inl ⟨blt, g1, g2⟩) tb.symm hnP hPB (fun h' n' y1 y2 y3 => ?_)
          simp (disch := omega) only [mx_li, mx_ll, mx_la, mx_get, mx_s1, mx_s2, mx_tl, mx_nl, mx_ic, mx_op, mx_oc, mx_fd, mx_lg, mx_ls, mx_pd, mx_len, mx_isc, mx_ps, mx_ent, mx_rv, ↓reduceIte, List.length_cons, List.length_nil, Nat.reduceAdd, Nat.reduceLT, Nat.reduceEqDiff, Nat.reduceBEq, true_and, and_true, or_false, or_true, false_or, true_or, and_self, not_false_eq_true, not_true_eq_false, mob_g0, mob_g1, mob_g2, mob_g3, mob_g4, mob_g5, mob_g6, mob_g7, mob_g8, mob_g9, mob_g10, mob_g11, mob_g12, mob_g13, mob_g14, mob_g15, mob_g16, mob_g17, mob_g18, mob_g19, mob_g20, mob_g21, mob_g22, mob_g23, mob_g24, mob_g25, mob_g26, mob_g27, mob_g28, mob_g29, mob_g30, mob_g31, mob_g32, mob_s0, mob_s1, mob_s11, mob_s12, mob_s13, mob_s14, mob_s15, mob_s19, mob_s20, mob_s21, mob_s22, mob_s23, mob_s24, mob_s31, mob_len, xob_g0, xob_g1, xob_g2, xob_g3, xob_g4, xob_g5, xob_g6, xob_s3, xob_s4, xob_s5, xob_s6, xob_len, gob_g0, gob_g1, gob_g2, gob_g3, gob_g4, gob_g5, gob_g6, gob_g7, gob_g8, gob_g9, gob_g10, gob_g11, gob_g12, gob_g13, gob_g14, gob_g15, gob_g16, gob_g17, gob_s0, gob_s1, gob_s2, gob_s15, gob_s16, gob_s17, gob_len, sob_g0, sob_g1, sob_g2, sob_g3, sob_g4, sob_g5, sob_g6, sob_g7, sob_g8, sob_g9, sob_s5, sob_s6, sob_s7, sob_s8, sob_s9, sob_len, qob_g0, qob_g1, qob_g2, qob_g3, qob_g4, qob_g5, qob_s0, qob_s1, qob_s2, qob_s3, qob_s4, qob_s5, qob_len, wob_g0, wob_g1, wob_g2, wob_s0, wob_s1, wob_s2, wob_len, pob_g0, pob_g1, pob_g2, pob_g3, pob_g4, pob_s0, pob_s1, pob_s2, pob_s3, pob_s4, pob_len, n_lt, n_eq, n_lt0, n_0lt, n_eq0, n_cl, n_add, n_mul, n_l, n_eqm, n_ltm, n_mlt, n_m1, l_lt, l_eq, l_lt0, l_0lt, l_eq0, l_add, l_mul, l_i, g_lt, g_eq, g_gt, n_div, n_rem, l_div, l_mod, n01_0, n01_1, n_1e, n_0e1, ald_i, ald_o, ald_l, ald_z, ald_a, ast_i, ast_l, ast_z, ast_a, zI_t, zI_f, zI_ok, zI_eq0, r_M_spread_272, r_M_spread_275]
          exact ih (b + 1) n' h' _ (by omega) y1 y2 (hF.tr y3)
end MSP
