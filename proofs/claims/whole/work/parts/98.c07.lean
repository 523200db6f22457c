/-! THE CLASS's SEARCH: layRows, openEnd, close -/
/-- how the queue's cells may have changed -/
def QN (h h' : mxH) (n qc qr qs qh cap qc' qr' qs' qh' cap' : Nat) : Prop :=
  (n ≤ cap ∧ cap' = cap ∧ qc' = qc ∧ qr' = qr ∧ qs' = qs ∧ qh' = qh ∧ h'.2 = h.2) ∨ (cap < n ∧ cap' = 2 * n ∧ qc' = h.2.1 ∧ qr' = h.2.1 + 1 ∧ qs' = h.2.1 + 2 ∧ qh' = h.2.1 + 3 ∧ h'.2.1 = h.2.1 + 4 ∧ h'.2.2 = h.2.2 + 8 * n)
theorem QN.ad {h h' : mxH} {n qc qr qs qh cap qc' qr' qs' qh' cap' : Nat} (hN : QN h h' n qc qr qs qh cap qc' qr' qs' qh' cap') (hA : adqs qc qr qs qh) (h78 : 78 ≤ h.2.1) : adqs qc' qr' qs' qh' := by
  rcases hN with ⟨-, -, rfl, rfl, rfl, rfl, -⟩ | ⟨-, -, rfl, rfl, rfl, rfl, -⟩
  · exact hA
  · refine ⟨?_, ?_, ?_, ?_⟩ <;> (unfold adq; omega)
section CLO
variable {gs : mG} {w hh fr en mo : Nat} {sh : Nat → Nat} {lc : Int64}
theorem c_S_lay {h : mxH} {qc qr qs qh cap : Nat} {K : Option Value → mxH → Prop} (hB : GB gs) (hn : w * hh ≤ 144) (hmo : mo ≤ 8) (hS : SB h w hh gs sh) (x30 : h.1 30 = .inr (2, sob (nI fr) (nI en) (nI mo) (nI (mo + 1)) lc)) (hQ : XQ h qc qr qs qh cap) (hA : adqs qc qr qs qh) (h78 : 78 ≤ h.2.1)
    (kk : ∀ (h' : mxH) (qc' qr' qs' qh' cap' : Nat), XS h' w hh gs fr en mo sh lc → XD h' qc' qr' qs' qh' cap' gs w hh fr mo (fun _ => 0) (fun _ => 0) → QN h h' (bas gs mo (w * hh)) qc qr qs qh cap qc' qr' qs' qh' cap' → (∀ k, k < h.2.1 → k ≠ 31 → k ≠ 36 → k ≠ 37 → k ≠ qs → h'.1 k = h.1 k) → K none h') :
    mcl mx_P 45 [.ref 30] h K := by
  obtain ⟨a1, a2, ⟨f4, a4⟩, ⟨f5, a5⟩, ⟨f6, a6, b6⟩⟩ := hS
  have hbl := bas_le hB hmo (w * hh)
  rw [mcl]
  simp (disch := omega) only [mx_li, mx_ll, mx_la, mx_get, mx_s1, mx_s2, mx_tl, mx_nl, mx_ic, mx_op, mx_oc, mx_fd, mx_lg, mx_ls, mx_pd, mx_len, mx_isc, mx_ps, mx_ent, mx_rv, ↓reduceIte, List.length_cons, List.length_nil, Nat.reduceAdd, Nat.reduceLT, Nat.reduceEqDiff, Nat.reduceBEq, true_and, and_true, or_false, or_true, false_or, true_or, and_self, not_false_eq_true, not_true_eq_false, mob_g0, mob_g1, mob_g2, mob_g3, mob_g4, mob_g5, mob_g6, mob_g7, mob_g8, mob_g9, mob_g10, mob_g11, mob_g12, mob_g13, mob_g14, mob_g15, mob_g16, mob_g17, mob_g18, mob_g19, mob_g20, mob_g21, mob_g22, mob_g23, mob_g24, mob_g25, mob_g26, mob_g27, mob_g28, mob_g29, mob_g30, mob_g31, mob_g32, mob_s0, mob_s1, mob_s11, mob_s12, mob_s13, mob_s14, mob_s15, mob_s19, mob_s20, mob_s21, mob_s22, mob_s23, mob_s24, mob_s31, mob_len, xob_g0, xob_g1, xob_g2, xob_g3, xob_g4, xob_g5, xob_g6, xob_s3, xob_s4, xob_s5, xob_s6, xob_len, gob_g0, gob_g1, gob_g2, gob_g3, gob_g4, gob_g5, gob_g6, gob_g7, gob_g8, gob_g9, gob_g10, gob_g11, gob_g12, gob_g13, gob_g14, gob_g15, gob_g16, gob_g17, gob_s0, gob_s1, gob_s2, gob_s15, gob_s16, gob_s17, gob_len, sob_g0, sob_g1, sob_g2, sob_g3, sob_g4, sob_g5, sob_g6, sob_g7, sob_g8, sob_g9, sob_s5, sob_s6, sob_s7, sob_s8, sob_s9, sob_len, qob_g0, qob_g1, qob_g2, qob_g3, qob_g4, qob_g5, qob_s0, qob_s1, qob_s2, qob_s3, qob_s4, qob_s5, qob_len, wob_g0, wob_g1, wob_g2, wob_s0, wob_s1, wob_s2, wob_len, pob_g0, pob_g1, pob_g2, pob_g3, pob_g4, pob_s0, pob_s1, pob_s2, pob_s3, pob_s4, pob_len, n_lt, n_eq, n_lt0, n_0lt, n_eq0, n_cl, n_add, n_mul, n_l, n_eqm, n_ltm, n_mlt, n_m1, l_lt, l_eq, l_lt0, l_0lt, l_eq0, l_add, l_mul, l_i, g_lt, g_eq, g_gt, n_div, n_rem, l_div, l_mod, n01_0, n01_1, n_1e, n_0e1, ald_i, ald_o, ald_l, ald_z, ald_a, ast_i, ast_l, ast_z, ast_a, zI_t, zI_f, zI_ok, zI_eq0, r_S_layRows_0, r_S_layRows_1, r_S_layRows_2, r_S_layRows_3]
  refine l_S_lay (h0 := h) hB hn hmo a1 x30 (fun h1 T g4 g5 gk g2 => ?_) (w * hh) 0 h f4 f5 [] (by omega) a4 (fun i hi => by omega) a5 (fun i hi => by omega) (fun _ _ _ => rfl) rfl
  have y30 : h1.1 30 = _ := (gk 30 (by omega) (by omega)).trans x30
  obtain ⟨A1, A2, A3, A4⟩ := id hA
  unfold adq at A1 A2 A3 A4
  obtain ⟨C, R, S, H, rc, ct, hQ1, hcap, hC, hR⟩ := hQ.kept (h' := h1) (fun k hk => gk k (by omega) (by omega))
  simp (disch := omega) only [mx_li, mx_ll, mx_la, mx_get, mx_s1, mx_s2, mx_tl, mx_nl, mx_ic, mx_op, mx_oc, mx_fd, mx_lg, mx_ls, mx_pd, mx_len, mx_isc, mx_ps, mx_ent, mx_rv, ↓reduceIte, List.length_cons, List.length_nil, Nat.reduceAdd, Nat.reduceLT, Nat.reduceEqDiff, Nat.reduceBEq, true_and, and_true, or_false, or_true, false_or, true_or, and_self, not_false_eq_true, not_true_eq_false, mob_g0, mob_g1, mob_g2, mob_g3, mob_g4, mob_g5, mob_g6, mob_g7, mob_g8, mob_g9, mob_g10, mob_g11, mob_g12, mob_g13, mob_g14, mob_g15, mob_g16, mob_g17, mob_g18, mob_g19, mob_g20, mob_g21, mob_g22, mob_g23, mob_g24, mob_g25, mob_g26, mob_g27, mob_g28, mob_g29, mob_g30, mob_g31, mob_g32, mob_s0, mob_s1, mob_s11, mob_s12, mob_s13, mob_s14, mob_s15, mob_s19, mob_s20, mob_s21, mob_s22, mob_s23, mob_s24, mob_s31, mob_len, xob_g0, xob_g1, xob_g2, xob_g3, xob_g4, xob_g5, xob_g6, xob_s3, xob_s4, xob_s5, xob_s6, xob_len, gob_g0, gob_g1, gob_g2, gob_g3, gob_g4, gob_g5, gob_g6, gob_g7, gob_g8, gob_g9, gob_g10, gob_g11, gob_g12, gob_g13, gob_g14, gob_g15, gob_g16, gob_g17, gob_s0, gob_s1, gob_s2, gob_s15, gob_s16, gob_s17, gob_len, sob_g0, sob_g1, sob_g2, sob_g3, sob_g4, sob_g5, sob_g6, sob_g7, sob_g8, sob_g9, sob_s5, sob_s6, sob_s7, sob_s8, sob_s9, sob_len, qob_g0, qob_g1, qob_g2, qob_g3, qob_g4, qob_g5, qob_s0, qob_s1, qob_s2, qob_s3, qob_s4, qob_s5, qob_len, wob_g0, wob_g1, wob_g2, wob_s0, wob_s1, wob_s2, wob_len, pob_g0, pob_g1, pob_g2, pob_g3, pob_g4, pob_s0, pob_s1, pob_s2, pob_s3, pob_s4, pob_len, n_lt, n_eq, n_lt0, n_0lt, n_eq0, n_cl, n_add, n_mul, n_l, n_eqm, n_ltm, n_mlt, n_m1, l_lt, l_eq, l_lt0, l_0lt, l_eq0, l_add, l_mul, l_i, g_lt, g_eq, g_gt, n_div, n_rem, l_div, l_mod, n01_0, n01_1, n_1e, n_0e1, ald_i, ald_o, ald_l, ald_z, ald_a, ast_i, ast_l, ast_z, ast_a, zI_t, zI_f, zI_ok, zI_eq0, r_S_layRows_95, r_S_layRows_96, r_S_layRows_99, r_S_layRows_100, y30, hQ1.1]
  refine c_Q_reset hQ1 (by omega) hC hR (by omega) (by rw [g2]; omega) (fun h' qc' qr' qs' qh' cap' C' R' S' H' b1 b2 b3 b4 b5 => ?_)
  rw [g2] at b4 b5
  simp (disch := omega) only [mx_li, mx_ll, mx_la, mx_get, mx_s1, mx_s2, mx_tl, mx_nl, mx_ic, mx_op, mx_oc, mx_fd, mx_lg, mx_ls, mx_pd, mx_len, mx_isc, mx_ps, mx_ent, mx_rv, ↓reduceIte, List.length_cons, List.length_nil, Nat.reduceAdd, Nat.reduceLT, Nat.reduceEqDiff, Nat.reduceBEq, true_and, and_true, or_false, or_true, false_or, true_or, and_self, not_false_eq_true, not_true_eq_false, mob_g0, mob_g1, mob_g2, mob_g3, mob_g4, mob_g5, mob_g6, mob_g7, mob_g8, mob_g9, mob_g10, mob_g11, mob_g12, mob_g13, mob_g14, mob_g15, mob_g16, mob_g17, mob_g18, mob_g19, mob_g20, mob_g21, mob_g22, mob_g23, mob_g24, mob_g25, mob_g26, mob_g27, mob_g28, mob_g29, mob_g30, mob_g31, mob_g32, mob_s0, mob_s1, mob_s11, mob_s12, mob_s13, mob_s14, mob_s15, mob_s19, mob_s20, mob_s21, mob_s22, mob_s23, mob_s24, mob_s31, mob_len, xob_g0, xob_g1, xob_g2, xob_g3, xob_g4, xob_g5, xob_g6, xob_s3, xob_s4, xob_s5, xob_s6, xob_len, gob_g0, gob_g1, gob_g2, gob_g3, gob_g4, gob_g5, gob_g6, gob_g7, gob_g8, gob_g9, gob_g10, gob_g11, gob_g12, gob_g13, gob_g14, gob_g15, gob_g16, gob_g17, gob_s0, gob_s1, gob_s2, gob_s15, gob_s16, gob_s17, gob_len, sob_g0, sob_g1, sob_g2, sob_g3, sob_g4, sob_g5, sob_g6, sob_g7, sob_g8, sob_g9, sob_s5, sob_s6, sob_s7, sob_s8, sob_s9, sob_len, qob_g0, qob_g1, qob_g2, qob_g3, qob_g4, qob_g5, qob_s0, qob_s1, qob_s2, qob_s3, qob_s4, qob_s5, qob_len, wob_g0, wob_g1, wob_g2, wob_s0, wob_s1, wob_s2, wob_len, pob_g0, pob_g1, pob_g2, pob_g3, pob_g4, pob_s0, pob_s1, pob_s2, pob_s3, pob_s4, pob_len, n_lt, n_eq, n_lt0, n_0lt, n_eq0, n_cl, n_add, n_mul, n_l, n_eqm, n_ltm, n_mlt, n_m1, l_lt, l_eq, l_lt0, l_0lt, l_eq0, l_add, l_mul, l_i, g_lt, g_eq, g_gt, n_div, n_rem, l_div, l_mod, n01_0, n01_1, n_1e, n_0e1, ald_i, ald_o, ald_l, ald_z, ald_a, ast_i, ast_l, ast_z, ast_a, zI_t, zI_f, zI_ok, zI_eq0, r_S_layRows_103]
  obtain ⟨f4', u4, v4⟩ := g4
  obtain ⟨f5', u5, v5⟩ := g5
  have hfx : ∀ k, (k = 3 ∨ 17 ≤ k ∧ k ≤ 30 ∨ 36 ≤ k ∧ k ≤ 38) → h'.1 k = h1.1 k := fun k hk => b5 k (by omega) (by omega) (by omega)
  refine kk h' qc' qr' qs' qh' cap' ⟨a1.kept (fun k k1 k2 => (hfx k (by omega)).trans (gk k (by omega) (by omega))), ?_, ?_, ⟨f4', ?_, v4⟩, ⟨f5', ?_, v5⟩, ⟨f6, ?_, b6⟩⟩ ⟨C', R', S', H', 0, b1, b2, ?_, fun p hp => absurd rfl hp, fun _ => Nat.zero_le _, fun p hp => ⟨fun _ => b3 _ (row_rc hB hp), fun q => absurd (show (0 : Nat) = 1 from q) (by decide), fun q => absurd (show (0 : Nat) = 2 from q) (by decide), fun q => absurd rfl q⟩, fun r hr => ?_⟩ b4 (fun k k1 k2 k3 k4 k5 => (b5 k k1 k2 k5).trans (gk k k3 k4))
  · rw [hfx 3 (by omega), gk 3 (by omega) (by omega)]; exact a2
  · rw [hfx 30 (by omega)]; exact y30
  · rw [hfx 36 (by omega)]; exact u4
  · rw [hfx 37 (by omega)]; exact u5
  · rw [hfx 38 (by omega), gk 38 (by omega) (by omega)]; exact a6
  · rcases b4 with b | b <;> omega
  · have := b3 r hr.1
    have := hr.2
    omega
theorem l_S_openE {h0 : mxH} {qc qr qs qh cap : Nat} {K : Option Value → mxH → Prop} {Q : Nat} (hB : GB gs) (hn : w * hh ≤ 144) (hmo : mo ≤ 8) (hen : en < w * hh) (hbr : gs 2 en = 0) (hA : adqs qc qr qs qh) (hQ : Q = if gs 9 0 = 1 then 2 else 1)
    (kk : ∀ (h' : mxH), XD h' qc qr qs qh cap gs w hh fr mo (st0 gs en) (ky0 gs en) → QG h0 h' qc qr qs qh → K none h') :
    ∀ (d i : Nat) (h : mxH), 17 - i ≤ d → i ≤ 16 → (gs 9 0 = 1 → i % 2 = 0) → XS h w hh gs fr en mo sh lc → QG h0 h qc qr qs qh → XD h qc qr qs qh cap gs w hh fr mo (aps (rsF (fun p => lH p < i) (of0 gs en)) (fun _ => 0)) (apk (rsF (fun p => lH p < i) (of0 gs en)) (fun _ => 0) (fun _ => 0)) →
      mw mx_P 46 10 [some (.ref 30), some (.int (nI Q)), some (.int (nI i))] [] h K := by
  have b9 := hB.2.2.2.2.2.2.2.2.2.1
  have hs : sht gs en = false := by unfold sht; simp [hbr]
  have hr : brg gs en = false := by unfold brg; simp [hbr]
  have hQ2 : (gs 9 0 = 1 ∧ Q = 2) ∨ (gs 9 0 = 2 ∧ Q = 1) := by
    rcases b9 with q | q
    · left; rw [hQ, if_pos q]; exact ⟨q, rfl⟩
    · right; rw [hQ, if_neg (by omega)]; exact ⟨q, rfl⟩
  have of : ∀ p k, of0 gs en p = some k → isE gs en p := by
    intro p k hk
    refine Classical.byContradiction fun q => ?_
    unfold of0 at hk
    rw [if_neg q] at hk
    cases hk
  intro d
  induction d with
  | zero => intro i h h1 h2; omega
  | succ d ih =>
    intro i h h1 h2 h3 hS hG hD
    obtain ⟨C, R, S, H, ct, hQ0, -⟩ := id hD
    have q31 := hQ0.1
    have a3 := hS.2.2.1
    rw [r_S_openEnd_10]
    by_cases e : i < 16
    · simp (disch := omega) only [mx_li, mx_ll, mx_la, mx_get, mx_s1, mx_s2, mx_tl, mx_nl, mx_ic, mx_op, mx_oc, mx_fd, mx_lg, mx_ls, mx_pd, mx_len, mx_isc, mx_ps, mx_ent, mx_rv, ↓reduceIte, List.length_cons, List.length_nil, Nat.reduceAdd, Nat.reduceLT, Nat.reduceEqDiff, Nat.reduceBEq, true_and, and_true, or_false, or_true, false_or, true_or, and_self, not_false_eq_true, not_true_eq_false, mob_g0, mob_g1, mob_g2, mob_g3, mob_g4, mob_g5, mob_g6, mob_g7, mob_g8, mob_g9, mob_g10, mob_g11, mob_g12, mob_g13, mob_g14, mob_g15, mob_g16, mob_g17, mob_g18, mob_g19, mob_g20, mob_g21, mob_g22, mob_g23, mob_g24, mob_g25, mob_g26, mob_g27, mob_g28, mob_g29, mob_g30, mob_g31, mob_g32, mob_s0, mob_s1, mob_s11, mob_s12, mob_s13, mob_s14, mob_s15, mob_s19, mob_s20, mob_s21, mob_s22, mob_s23, mob_s24, mob_s31, mob_len, xob_g0, xob_g1, xob_g2, xob_g3, xob_g4, xob_g5, xob_g6, xob_s3, xob_s4, xob_s5, xob_s6, xob_len, gob_g0, gob_g1, gob_g2, gob_g3, gob_g4, gob_g5, gob_g6, gob_g7, gob_g8, gob_g9, gob_g10, gob_g11, gob_g12, gob_g13, gob_g14, gob_g15, gob_g16, gob_g17, gob_s0, gob_s1, gob_s2, gob_s15, gob_s16, gob_s17, gob_len, sob_g0, sob_g1, sob_g2, sob_g3, sob_g4, sob_g5, sob_g6, sob_g7, sob_g8, sob_g9, sob_s5, sob_s6, sob_s7, sob_s8, sob_s9, sob_len, qob_g0, qob_g1, qob_g2, qob_g3, qob_g4, qob_g5, qob_s0, qob_s1, qob_s2, qob_s3, qob_s4, qob_s5, qob_len, wob_g0, wob_g1, wob_g2, wob_s0, wob_s1, wob_s2, wob_len, pob_g0, pob_g1, pob_g2, pob_g3, pob_g4, pob_s0, pob_s1, pob_s2, pob_s3, pob_s4, pob_len, n_lt, n_eq, n_lt0, n_0lt, n_eq0, n_cl, n_add, n_mul, n_l, n_eqm, n_ltm, n_mlt, n_m1, l_lt, l_eq, l_lt0, l_0lt, l_eq0, l_add, l_mul, l_i, g_lt, g_eq, g_gt, n_div, n_rem, l_div, l_mod, n01_0, n01_1, n_1e, n_0e1, ald_i, ald_o, ald_l, ald_z, ald_a, ast_i, ast_l, ast_z, ast_a, zI_t, zI_f, zI_ok, zI_eq0, r_S_openEnd_0, r_S_openEnd_1, r_S_openEnd_4, r_S_openEnd_7, r_S_openEnd_8, r_S_openEnd_9, r_S_openEnd_11, r_S_openEnd_13, r_S_openEnd_16, r_S_openEnd_17, r_S_openEnd_20, r_S_openEnd_21, r_S_openEnd_22, r_S_openEnd_25, r_S_openEnd_26, r_S_openEnd_27, r_S_openEnd_28, r_S_openEnd_31, r_S_openEnd_32, r_S_openEnd_33, r_S_openEnd_34, r_S_openEnd_37, r_S_openEnd_38, r_S_openEnd_39, r_S_openEnd_40, r_S_openEnd_43, r_S_openEnd_46, r_S_openEnd_47, r_S_openEnd_48, r_S_openEnd_49, r_S_openEnd_50, r_S_openEnd_53, e, a3, q31, e_S_rowOf hS hen hn (show i ≤ 16 by omega) (Nat.zero_le 3) (Nat.zero_le 8), e_S_codeOf]
      have kC' := lC_lab (c := en) (d := i) (r := 0) (s := 0) (by omega) (by omega) (by omega)
      have kH' := lH_lab (c := en) (d := i) (r := 0) (s := 0) (by omega) (by omega) (by omega)
      have kR' := lR_lab (c := en) (d := i) (r := 0) (s := 0) (by omega) (by omega) (by omega)
      have kS' := lS_lab (c := en) (d := i) (r := 0) (s := 0) (by omega) (by omega) (by omega)
      have hdd : hdg gs i = true := by
        unfold hdg
        rw [Bool.or_eq_true, decide_eq_true_eq, decide_eq_true_eq]
        rcases b9 with q | q
        · exact Or.inr (h3 q)
        · exact Or.inl q
      have hE : isE gs en (lab en i 0 0) := ⟨kC', by omega, kR', kS', by rw [kH']; exact hdd⟩
      have hv : vld gs w hh fr mo (lab en i 0 0) := by
        unfold vld
        rw [kC', kH', kR', kS', hr]
        exact ⟨hen, hs, by omega, fun _ => hdd, fun q => (by cases q), fun _ => rfl, by omega⟩
      have hF : of0 gs en (lab en i 0 0) = some 0 := by unfold of0; rw [if_pos hE]
      obtain ⟨m1, m2⟩ := rsF_more (P := fun p => lH p < i) (P' := fun p => lH p < i + Q) (by omega) hF (fun p j hj => by
        obtain ⟨e1, e2, e3, e4, e5⟩ := of p j hj
        unfold hdg at e5
        rw [Bool.or_eq_true, decide_eq_true_eq, decide_eq_true_eq] at e5
        constructor
        · intro q
          by_cases z : lH p < i
          · exact Or.inl z
          · right
            have : lH p = i := by
              rcases b9 with y | y
              · have := h3 y
                omega
              · omega
            exact lab_ext (by rw [kC', e1]) (by rw [kH', this]) (by rw [kR', e3]) (by rw [kS', e4])
        · rintro (q | q)
          · omega
          · rw [q, kH']; omega) (fun _ => 0) (fun _ => 0) (fun _ => Nat.zero_le _)
      refine c_X_off (p0 := lab en i 0 0) (k := 0) hB hn hmo hD hv (by decide) (by decide) (fun h' y1 y2 => ?_)
      rw [← m1, ← m2] at y1
      exact ih (i + Q) h' (by omega) (by omega) (fun q => by have := h3 q; omega) (hS.q y2 hA) (hG.tr y2) y1
    · simp (disch := omega) only [mx_li, mx_ll, mx_la, mx_get, mx_s1, mx_s2, mx_tl, mx_nl, mx_ic, mx_op, mx_oc, mx_fd, mx_lg, mx_ls, mx_pd, mx_len, mx_isc, mx_ps, mx_ent, mx_rv, ↓reduceIte, List.length_cons, List.length_nil, Nat.reduceAdd, Nat.reduceLT, Nat.reduceEqDiff, Nat.reduceBEq, true_and, and_true, or_false, or_true, false_or, true_or, and_self, not_false_eq_true, not_true_eq_false, mob_g0, mob_g1, mob_g2, mob_g3, mob_g4, mob_g5, mob_g6, mob_g7, mob_g8, mob_g9, mob_g10, mob_g11, mob_g12, mob_g13, mob_g14, mob_g15, mob_g16, mob_g17, mob_g18, mob_g19, mob_g20, mob_g21, mob_g22, mob_g23, mob_g24, mob_g25, mob_g26, mob_g27, mob_g28, mob_g29, mob_g30, mob_g31, mob_g32, mob_s0, mob_s1, mob_s11, mob_s12, mob_s13, mob_s14, mob_s15, mob_s19, mob_s20, mob_s21, mob_s22, mob_s23, mob_s24, mob_s31, mob_len, xob_g0, xob_g1, xob_g2, xob_g3, xob_g4, xob_g5, xob_g6, xob_s3, xob_s4, xob_s5, xob_s6, xob_len, gob_g0, gob_g1, gob_g2, gob_g3, gob_g4, gob_g5, gob_g6, gob_g7, gob_g8, gob_g9, gob_g10, gob_g11, gob_g12, gob_g13, gob_g14, gob_g15, gob_g16, gob_g17, gob_s0, gob_s1, gob_s2, gob_s15, gob_s16, gob_s17, gob_len, sob_g0, sob_g1, sob_g2, sob_g3, sob_g4, sob_g5, sob_g6, sob_g7, sob_g8, sob_g9, sob_s5, sob_s6, sob_s7, sob_s8, sob_s9, sob_len, qob_g0, qob_g1, qob_g2, qob_g3, qob_g4, qob_g5, qob_s0, qob_s1, qob_s2, qob_s3, qob_s4, qob_s5, qob_len, wob_g0, wob_g1, wob_g2, wob_s0, wob_s1, wob_s2, wob_len, pob_g0, pob_g1, pob_g2, pob_g3, pob_g4, pob_s0, pob_s1, pob_s2, pob_s3, pob_s4, pob_len, n_lt, n_eq, n_lt0, n_0lt, n_eq0, n_cl, n_add, n_mul, n_l, n_eqm, n_ltm, n_mlt, n_m1, l_lt, l_eq, l_lt0, l_0lt, l_eq0, l_add, l_mul, l_i, g_lt, g_eq, g_gt, n_div, n_rem, l_div, l_mod, n01_0, n01_1, n_1e, n_0e1, ald_i, ald_o, ald_l, ald_z, ald_a, ast_i, ast_l, ast_z, ast_a, zI_t, zI_f, zI_ok, zI_eq0, r_S_openEnd_0, r_S_openEnd_1, r_S_openEnd_4, r_S_openEnd_7, r_S_openEnd_8, r_S_openEnd_9, r_S_openEnd_11, r_S_openEnd_13, r_S_openEnd_16, r_S_openEnd_17, r_S_openEnd_20, r_S_openEnd_21, r_S_openEnd_22, r_S_openEnd_25, r_S_openEnd_26, r_S_openEnd_27, r_S_openEnd_28, r_S_openEnd_31, r_S_openEnd_32, r_S_openEnd_33, r_S_openEnd_34, r_S_openEnd_37, r_S_openEnd_38, r_S_openEnd_39, r_S_openEnd_40, r_S_openEnd_43, r_S_openEnd_46, r_S_openEnd_47, r_S_openEnd_48, r_S_openEnd_49, r_S_openEnd_50, r_S_openEnd_53, e]
      have e2 : rsF (fun p => lH p < i) (of0 gs en) = of0 gs en := rsF_all (fun p k hk => by have := (of p k hk).2.1; omega)
      rw [e2] at hD
      exact kk h hD hG
theorem c_S_openE {h : mxH} {qc qr qs qh cap : Nat} {K : Option Value → mxH → Prop} (hB : GB gs) (hn : w * hh ≤ 144) (hmo : mo ≤ 8) (hen : en < w * hh) (hbr : gs 2 en = 0) (hA : adqs qc qr qs qh) (hS : XS h w hh gs fr en mo sh lc) (hD : XD h qc qr qs qh cap gs w hh fr mo (fun _ => 0) (fun _ => 0))
    (kk : ∀ (h' : mxH), XD h' qc qr qs qh cap gs w hh fr mo (st0 gs en) (ky0 gs en) → QG h h' qc qr qs qh → K none h') :
    mcl mx_P 46 [.ref 30] h K := by
  have a3 := hS.2.2.1
  have x17 := hS.1.1
  rw [mcl]
  simp (disch := omega) only [mx_li, mx_ll, mx_la, mx_get, mx_s1, mx_s2, mx_tl, mx_nl, mx_ic, mx_op, mx_oc, mx_fd, mx_lg, mx_ls, mx_pd, mx_len, mx_isc, mx_ps, mx_ent, mx_rv, ↓reduceIte, List.length_cons, List.length_nil, Nat.reduceAdd, Nat.reduceLT, Nat.reduceEqDiff, Nat.reduceBEq, true_and, and_true, or_false, or_true, false_or, true_or, and_self, not_false_eq_true, not_true_eq_false, mob_g0, mob_g1, mob_g2, mob_g3, mob_g4, mob_g5, mob_g6, mob_g7, mob_g8, mob_g9, mob_g10, mob_g11, mob_g12, mob_g13, mob_g14, mob_g15, mob_g16, mob_g17, mob_g18, mob_g19, mob_g20, mob_g21, mob_g22, mob_g23, mob_g24, mob_g25, mob_g26, mob_g27, mob_g28, mob_g29, mob_g30, mob_g31, mob_g32, mob_s0, mob_s1, mob_s11, mob_s12, mob_s13, mob_s14, mob_s15, mob_s19, mob_s20, mob_s21, mob_s22, mob_s23, mob_s24, mob_s31, mob_len, xob_g0, xob_g1, xob_g2, xob_g3, xob_g4, xob_g5, xob_g6, xob_s3, xob_s4, xob_s5, xob_s6, xob_len, gob_g0, gob_g1, gob_g2, gob_g3, gob_g4, gob_g5, gob_g6, gob_g7, gob_g8, gob_g9, gob_g10, gob_g11, gob_g12, gob_g13, gob_g14, gob_g15, gob_g16, gob_g17, gob_s0, gob_s1, gob_s2, gob_s15, gob_s16, gob_s17, gob_len, sob_g0, sob_g1, sob_g2, sob_g3, sob_g4, sob_g5, sob_g6, sob_g7, sob_g8, sob_g9, sob_s5, sob_s6, sob_s7, sob_s8, sob_s9, sob_len, qob_g0, qob_g1, qob_g2, qob_g3, qob_g4, qob_g5, qob_s0, qob_s1, qob_s2, qob_s3, qob_s4, qob_s5, qob_len, wob_g0, wob_g1, wob_g2, wob_s0, wob_s1, wob_s2, wob_len, pob_g0, pob_g1, pob_g2, pob_g3, pob_g4, pob_s0, pob_s1, pob_s2, pob_s3, pob_s4, pob_len, n_lt, n_eq, n_lt0, n_0lt, n_eq0, n_cl, n_add, n_mul, n_l, n_eqm, n_ltm, n_mlt, n_m1, l_lt, l_eq, l_lt0, l_0lt, l_eq0, l_add, l_mul, l_i, g_lt, g_eq, g_gt, n_div, n_rem, l_div, l_mod, n01_0, n01_1, n_1e, n_0e1, ald_i, ald_o, ald_l, ald_z, ald_a, ast_i, ast_l, ast_z, ast_a, zI_t, zI_f, zI_ok, zI_eq0, r_S_openEnd_0, r_S_openEnd_1, r_S_openEnd_4, r_S_openEnd_7, r_S_openEnd_8, r_S_openEnd_9, a3, x17, e_G_headingStep hS.1 hB]
  refine l_S_openE hB hn hmo hen hbr hA rfl kk 17 0 h (by omega) (by omega) (by omega) hS QG.rf ?_
  obtain ⟨y1, y2⟩ := rsF_none (P := fun p => lH p < 0) (F := of0 gs en) (fun p k hk => by omega) (fun _ => 0) (fun _ => 0)
  rw [y1, y2]
  exact hD
end CLO
