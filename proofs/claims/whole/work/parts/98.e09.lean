/-! THE REFERENCE's WAYS: keep -/
def MW (h : mxH) (m : Nat) (wl : Nat → Nat) (wc wd : Nat → Nat → Nat) : Prop :=
  (∃ f, h.1 68 = .inl (0, 6, .inl f) ∧ ∀ k, k < m → f k = nI (wl k + 1)) ∧ (∃ f, h.1 69 = .inl (0, 30000, .inl f) ∧ ∀ k i, k < m → i ≤ wl k → f (5000 * k + i) = nI (wc k i)) ∧ (∃ f, h.1 70 = .inl (0, 30000, .inl f) ∧ ∀ k i, k < m → i ≤ wl k → f (5000 * k + i) = nI (wd k i)) ∧ (∀ k, k < m → wl k ≤ 2304)
theorem MW.kept {h h' : mxH} {m : Nat} {wl : Nat → Nat} {wc wd : Nat → Nat → Nat} (hW : MW h m wl wc wd) (hk : ∀ k, 68 ≤ k → k ≤ 70 → h'.1 k = h.1 k) : MW h' m wl wc wd := by
  obtain ⟨⟨f1, a1, b1⟩, ⟨f2, a2, b2⟩, ⟨f3, a3, b3⟩, c⟩ := hW
  refine ⟨⟨f1, ?_, b1⟩, ⟨f2, ?_, b2⟩, ⟨f3, ?_, b3⟩, c⟩
  · rw [hk 68 (by omega) (by omega)]; exact a1
  · rw [hk 69 (by omega) (by omega)]; exact a2
  · rw [hk 70 (by omega) (by omega)]; exact a3
theorem MT.kept {h h' : mxH} {sh : Nat → Nat} (hT : MT h sh) (e : h'.1 71 = h.1 71) : MT h' sh := by
  obtain ⟨f, a, b⟩ := hT
  exact ⟨f, e.trans a, b⟩
section MKP
variable {gs : mG} {w hh fr en mo : Nat} {sh st ky : Nat → Nat} {hd nd pv : Int32} {bd : Int64}
set_option maxHeartbeats 1000000 in
theorem l_M_keep {h0 : mxH} {g m n : Nat} {F2 F3 : Nat → Int32} {Q : Option Value → mxH → Prop} (hB : GB gs) (hw : 0 < w) (hw2 : w ≤ 12) (hh0 : 0 < hh) (hh2 : hh ≤ 12) (hn : w * hh ≤ 144) (hen : en < 1000) (hsh : ∀ c, sh c ≤ 1) (hse : sh en = 0) (hG : GI gs w hh fr en mo sh g st ky) (hbf : brg gs fr = false) (hm : m ≤ 5) (hM : MG h0 w hh gs) (hT : MT h0 sh) (x58 : MO h0 w hh gs (nI m) hd nd bd pv fr en mo n) (hD : MD h0 st ky n)
    (kk : ∀ (h' : mxH) (f2 f3 : Nat → Int32), h'.1 69 = .inl (0, 30000, .inl f2) → (∀ i, i ≤ kM (ky g) → f2 (5000 * m + i) = nI (lC (wy gs w hh sh st ky g i))) → (∀ j, j < 5000 * m → f2 j = F2 j) → h'.1 70 = .inl (0, 30000, .inl f3) → (∀ i, i ≤ kM (ky g) → f3 (5000 * m + i) = nI (lH (wy gs w hh sh st ky g i))) → (∀ j, j < 5000 * m → f3 j = F3 j) → (∀ k, k ≠ 69 → k ≠ 70 → h'.1 k = h0.1 k) → h'.2 = h0.2 →
      mw mx_P 107 83 [some (.ref 58), some (.int (nI g)), some (.int (nI (5000 * m))), some (.int (nI (wy gs w hh sh st ky g (kM (ky g))))), some (.int (nI (kM (ky g))))] [] h' Q) :
    ∀ (d k : Nat) (h : mxH) (f2 f3 : Nat → Int32), k + d = kM (ky g) → h.1 69 = .inl (0, 30000, .inl f2) → (∀ i, i ≤ k → f2 (5000 * m + i) = nI (lC (wy gs w hh sh st ky g i))) → (∀ j, j < 5000 * m → f2 j = F2 j) → h.1 70 = .inl (0, 30000, .inl f3) → (∀ i, i ≤ k → f3 (5000 * m + i) = nI (lH (wy gs w hh sh st ky g i))) → (∀ j, j < 5000 * m → f3 j = F3 j) → (∀ k, k ≠ 69 → k ≠ 70 → h.1 k = h0.1 k) → h.2 = h0.2 →
      mw mx_P 107 32 [some (.ref 58), some (.int (nI g)), some (.int (nI (5000 * m))), some (.int (nI (wy gs w hh sh st ky g k))), some (.int (nI k))] [] h Q := by
  have hlen := hG.short hB hw hn hbf
  have hD0 := hD
  obtain ⟨K, sp, hp, hA, hK, hs2, hKy, hHp⟩ := id hD
  obtain ⟨a1, a2, a3, a4, a5, a6⟩ := id hA
  intro d
  induction d with
  | zero =>
    intro k h f2 f3 hk h2 g2 e2 h3 g3 e3 hF hE
    obtain ⟨w1, w2, -⟩ := hG.way hB hw k (by omega)
    obtain ⟨w8, wK⟩ := hKy _ (show st (wy gs w hh sh st ky g k) ≠ 0 by omega)
    have x58' := (hF 58 (by omega) (by omega)).trans x58
    have y3 := (hF 74 (by omega) (by omega)).trans a3
    have z0 : kM (ky (wy gs w hh sh st ky g k)) = 0 := by omega
    have ek : k = kM (ky g) := by omega
    rw [r_M_keep_32]
    simp (disch := omega) only [mx_li, mx_ll, mx_la, mx_get, mx_s1, mx_s2, mx_tl, mx_nl, mx_ic, mx_op, mx_oc, mx_fd, mx_lg, mx_ls, mx_pd, mx_len, mx_isc, mx_ps, mx_ent, mx_rv, ↓reduceIte, List.length_cons, List.length_nil, Nat.reduceAdd, Nat.reduceLT, Nat.reduceEqDiff, Nat.reduceBEq, true_and, and_true, or_false, or_true, false_or, true_or, and_self, not_false_eq_true, not_true_eq_false, mob_g0, mob_g1, mob_g2, mob_g3, mob_g4, mob_g5, mob_g6, mob_g7, mob_g8, mob_g9, mob_g10, mob_g11, mob_g12, mob_g13, mob_g14, mob_g15, mob_g16, mob_g17, mob_g18, mob_g19, mob_g20, mob_g21, mob_g22, mob_g23, mob_g24, mob_g25, mob_g26, mob_g27, mob_g28, mob_g29, mob_g30, mob_g31, mob_g32, mob_s0, mob_s1, mob_s11, mob_s12, mob_s13, mob_s14, mob_s15, mob_s19, mob_s20, mob_s21, mob_s22, mob_s23, mob_s24, mob_s31, mob_len, xob_g0, xob_g1, xob_g2, xob_g3, xob_g4, xob_g5, xob_g6, xob_s3, xob_s4, xob_s5, xob_s6, xob_len, gob_g0, gob_g1, gob_g2, gob_g3, gob_g4, gob_g5, gob_g6, gob_g7, gob_g8, gob_g9, gob_g10, gob_g11, gob_g12, gob_g13, gob_g14, gob_g15, gob_g16, gob_g17, gob_s0, gob_s1, gob_s2, gob_s15, gob_s16, gob_s17, gob_len, sob_g0, sob_g1, sob_g2, sob_g3, sob_g4, sob_g5, sob_g6, sob_g7, sob_g8, sob_g9, sob_s5, sob_s6, sob_s7, sob_s8, sob_s9, sob_len, qob_g0, qob_g1, qob_g2, qob_g3, qob_g4, qob_g5, qob_s0, qob_s1, qob_s2, qob_s3, qob_s4, qob_s5, qob_len, wob_g0, wob_g1, wob_g2, wob_s0, wob_s1, wob_s2, wob_len, pob_g0, pob_g1, pob_g2, pob_g3, pob_g4, pob_s0, pob_s1, pob_s2, pob_s3, pob_s4, pob_len, n_lt, n_eq, n_lt0, n_0lt, n_eq0, n_cl, n_add, n_mul, n_l, n_eqm, n_ltm, n_mlt, n_m1, l_lt, l_eq, l_lt0, l_0lt, l_eq0, l_add, l_mul, l_i, g_lt, g_eq, g_gt, n_div, n_rem, l_div, l_mod, n01_0, n01_1, n_1e, n_0e1, ald_i, ald_o, ald_l, ald_z, ald_a, ast_i, ast_l, ast_z, ast_a, zI_t, zI_f, zI_ok, zI_eq0, r_M_keep_33, r_M_keep_36, r_M_keep_37, r_M_keep_38, x58', y3, wK, z0, Nat.lt_irrefl]
    subst ek
    exact kk h f2 f3 h2 g2 e2 h3 g3 e3 hF hE
  | succ d ih =>
    intro k h f2 f3 hk h2 g2 e2 h3 g3 e3 hF hE
    obtain ⟨w1, w2, -⟩ := hG.way hB hw k (by omega)
    obtain ⟨w8, wK⟩ := hKy _ (show st (wy gs w hh sh st ky g k) ≠ 0 by omega)
    obtain ⟨b1, b2, b3⟩ := hG.step hB hw (k := k) (by omega)
    obtain ⟨v1, v2, v3⟩ := hG.way hB hw (k + 1) (by omega)
    obtain ⟨v8, -⟩ := hKy _ (show st (wy gs w hh sh st ky g (k + 1)) ≠ 0 by omega)
    have x58m : MO h w hh gs (nI m) hd nd bd pv fr en mo n := (hF 58 (by omega) (by omega)).trans x58
    have x58' : h.1 58 = _ := x58m
    have y3 := (hF 74 (by omega) (by omega)).trans a3
    have hM1 := hM.kept (h' := h) (fun j j1 j2 => hF j (by omega) (by omega))
    have hT1 := hT.kept (h' := h) (hF 71 (by omega) (by omega))
    have hD1 := hD0.kept (h' := h) (fun j j1 j2 => hF j (by omega) (by omega))
    have kmb := kM_lt (ky (wy gs w hh sh st ky g k))
    have z0 : 0 < kM (ky (wy gs w hh sh st ky g k)) := by omega
    have oS : oI (some (wy gs w hh sh st ky g (k + 1))) = nI (wy gs w hh sh st ky g (k + 1)) := rfl
    have xC : wy gs w hh sh st ky g (k + 1) / 612 = lC (wy gs w hh sh st ky g (k + 1)) := rfl
    have xH : wy gs w hh sh st ky g (k + 1) / 36 % 17 = lH (wy gs w hh sh st ky g (k + 1)) := rfl
    rw [r_M_keep_32]
    simp (disch := omega) only [mx_li, mx_ll, mx_la, mx_get, mx_s1, mx_s2, mx_tl, mx_nl, mx_ic, mx_op, mx_oc, mx_fd, mx_lg, mx_ls, mx_pd, mx_len, mx_isc, mx_ps, mx_ent, mx_rv, ↓reduceIte, List.length_cons, List.length_nil, Nat.reduceAdd, Nat.reduceLT, Nat.reduceEqDiff, Nat.reduceBEq, true_and, and_true, or_false, or_true, false_or, true_or, and_self, not_false_eq_true, not_true_eq_false, mob_g0, mob_g1, mob_g2, mob_g3, mob_g4, mob_g5, mob_g6, mob_g7, mob_g8, mob_g9, mob_g10, mob_g11, mob_g12, mob_g13, mob_g14, mob_g15, mob_g16, mob_g17, mob_g18, mob_g19, mob_g20, mob_g21, mob_g22, mob_g23, mob_g24, mob_g25, mob_g26, mob_g27, mob_g28, mob_g29, mob_g30, mob_g31, mob_g32, mob_s0, mob_s1, mob_s11, mob_s12, mob_s13, mob_s14, mob_s15, mob_s19, mob_s20, mob_s21, mob_s22, mob_s23, mob_s24, mob_s31, mob_len, xob_g0, xob_g1, xob_g2, xob_g3, xob_g4, xob_g5, xob_g6, xob_s3, xob_s4, xob_s5, xob_s6, xob_len, gob_g0, gob_g1, gob_g2, gob_g3, gob_g4, gob_g5, gob_g6, gob_g7, gob_g8, gob_g9, gob_g10, gob_g11, gob_g12, gob_g13, gob_g14, gob_g15, gob_g16, gob_g17, gob_s0, gob_s1, gob_s2, gob_s15, gob_s16, gob_s17, gob_len, sob_g0, sob_g1, sob_g2, sob_g3, sob_g4, sob_g5, sob_g6, sob_g7, sob_g8, sob_g9, sob_s5, sob_s6, sob_s7, sob_s8, sob_s9, sob_len, qob_g0, qob_g1, qob_g2, qob_g3, qob_g4, qob_g5, qob_s0, qob_s1, qob_s2, qob_s3, qob_s4, qob_s5, qob_len, wob_g0, wob_g1, wob_g2, wob_s0, wob_s1, wob_s2, wob_len, pob_g0, pob_g1, pob_g2, pob_g3, pob_g4, pob_s0, pob_s1, pob_s2, pob_s3, pob_s4, pob_len, n_lt, n_eq, n_lt0, n_0lt, n_eq0, n_cl, n_add, n_mul, n_l, n_eqm, n_ltm, n_mlt, n_m1, l_lt, l_eq, l_lt0, l_0lt, l_eq0, l_add, l_mul, l_i, g_lt, g_eq, g_gt, n_div, n_rem, l_div, l_mod, n01_0, n01_1, n_1e, n_0e1, ald_i, ald_o, ald_l, ald_z, ald_a, ast_i, ast_l, ast_z, ast_a, zI_t, zI_f, zI_ok, zI_eq0, r_M_keep_33, r_M_keep_36, r_M_keep_37, r_M_keep_38, r_M_keep_41, r_M_keep_42, r_M_keep_43, x58', y3, wK, z0, e_M_next hB hw hw2 hh0 hh2 hn hen hsh hse hM1 hT1 x58m hD1 hG.2.1 (show st (wy gs w hh sh st ky g k) ≠ 0 by omega), b1, oS]
    have z58 : ¬ (58 = 69) := by omega
    have z70 : ¬ (70 = 69) := by omega
    simp (disch := omega) only [mx_li, mx_ll, mx_la, mx_get, mx_s1, mx_s2, mx_tl, mx_nl, mx_ic, mx_op, mx_oc, mx_fd, mx_lg, mx_ls, mx_pd, mx_len, mx_isc, mx_ps, mx_ent, mx_rv, ↓reduceIte, List.length_cons, List.length_nil, Nat.reduceAdd, Nat.reduceLT, Nat.reduceEqDiff, Nat.reduceBEq, true_and, and_true, or_false, or_true, false_or, true_or, and_self, not_false_eq_true, not_true_eq_false, mob_g0, mob_g1, mob_g2, mob_g3, mob_g4, mob_g5, mob_g6, mob_g7, mob_g8, mob_g9, mob_g10, mob_g11, mob_g12, mob_g13, mob_g14, mob_g15, mob_g16, mob_g17, mob_g18, mob_g19, mob_g20, mob_g21, mob_g22, mob_g23, mob_g24, mob_g25, mob_g26, mob_g27, mob_g28, mob_g29, mob_g30, mob_g31, mob_g32, mob_s0, mob_s1, mob_s11, mob_s12, mob_s13, mob_s14, mob_s15, mob_s19, mob_s20, mob_s21, mob_s22, mob_s23, mob_s24, mob_s31, mob_len, xob_g0, xob_g1, xob_g2, xob_g3, xob_g4, xob_g5, xob_g6, xob_s3, xob_s4, xob_s5, xob_s6, xob_len, gob_g0, gob_g1, gob_g2, gob_g3, gob_g4, gob_g5, gob_g6, gob_g7, gob_g8, gob_g9, gob_g10, gob_g11, gob_g12, gob_g13, gob_g14, gob_g15, gob_g16, gob_g17, gob_s0, gob_s1, gob_s2, gob_s15, gob_s16, gob_s17, gob_len, sob_g0, sob_g1, sob_g2, sob_g3, sob_g4, sob_g5, sob_g6, sob_g7, sob_g8, sob_g9, sob_s5, sob_s6, sob_s7, sob_s8, sob_s9, sob_len, qob_g0, qob_g1, qob_g2, qob_g3, qob_g4, qob_g5, qob_s0, qob_s1, qob_s2, qob_s3, qob_s4, qob_s5, qob_len, wob_g0, wob_g1, wob_g2, wob_s0, wob_s1, wob_s2, wob_len, pob_g0, pob_g1, pob_g2, pob_g3, pob_g4, pob_s0, pob_s1, pob_s2, pob_s3, pob_s4, pob_len, n_lt, n_eq, n_lt0, n_0lt, n_eq0, n_cl, n_add, n_mul, n_l, n_eqm, n_ltm, n_mlt, n_m1, l_lt, l_eq, l_lt0, l_0lt, l_eq0, l_add, l_mul, l_i, g_lt, g_eq, g_gt, n_div, n_rem, l_div, l_mod, n01_0, n01_1, n_1e, n_0e1, ald_i, ald_o, ald_l, ald_z, ald_a, ast_i, ast_l, ast_z, ast_a, zI_t, zI_f, zI_ok, zI_eq0, r_M_keep_46, r_M_keep_47, r_M_keep_50, r_M_keep_51, r_M_keep_54, r_M_keep_55, r_M_keep_57, r_M_keep_58, r_M_keep_59, r_M_keep_62, r_M_keep_63, r_M_keep_64, r_M_keep_65, r_M_keep_68, r_M_keep_69, r_M_keep_71, r_M_keep_72, r_M_keep_73, r_M_keep_75, r_M_keep_76, r_M_keep_78, r_M_keep_79, r_M_keep_80, x58', h2, h3, up_1, z58, z70, xC, xH]
    refine ih (k + 1) _ (va_up f2 (5000 * m + (k + 1)) (nI (lC (wy gs w hh sh st ky g (k + 1))))) (va_up f3 (5000 * m + (k + 1)) (nI (lH (wy gs w hh sh st ky g (k + 1))))) (by omega) ?_ (fun i hi => ?_) (fun j hj => ?_) ?_ (fun i hi => ?_) (fun j hj => ?_) (fun j j1 j2 => ?_) hE
    · simp (disch := (first | omega | (simp only [up_2, mk_21]; first | done | omega))) only [up_e, up_n, mk_e, mk_n]
    · by_cases q : i = k + 1
      · rw [q, va_up_self]
      · rw [va_up_ne _ _ (by omega)]; exact g2 i (by omega)
    · rw [va_up_ne _ _ (by omega)]; exact e2 j hj
    · simp (disch := (first | omega | (simp only [up_2, mk_21]; first | done | omega))) only [up_e, up_n, mk_e, mk_n]
    · by_cases q : i = k + 1
      · rw [q, va_up_self]
      · rw [va_up_ne _ _ (by omega)]; exact g3 i (by omega)
    · rw [va_up_ne _ _ (by omega)]; exact e3 j hj
    · simp (disch := (first | omega | (simp only [up_2, mk_21]; first | done | omega))) only [up_e, up_n, mk_e, mk_n]; exact hF j j1 j2
set_option maxHeartbeats 1000000 in
theorem c_M_keep {h : mxH} {g m n : Nat} {wl : Nat → Nat} {wc wd : Nat → Nat → Nat} {Q : Option Value → mxH → Prop} (hB : GB gs) (hw : 0 < w) (hw2 : w ≤ 12) (hh0 : 0 < hh) (hh2 : hh ≤ 12) (hn : w * hh ≤ 144) (hen : en < 1000) (hsh : ∀ c, sh c ≤ 1) (hse : sh en = 0) (hG : GI gs w hh fr en mo sh g st ky) (hbf : brg gs fr = false) (hm : m ≤ 5) (hM : MG h w hh gs) (hT : MT h sh) (x58 : MO h w hh gs (nI m) hd nd bd pv fr en mo n) (hD : MD h st ky n) (hW : MW h m wl wc wd)
    (kk : ∀ (h' : mxH), MW h' (m + 1) (va_up wl m (kM (ky g))) (va_up wc m (fun i => lC (wy gs w hh sh st ky g i))) (va_up wd m (fun i => lH (wy gs w hh sh st ky g i))) → MO h' w hh gs (nI (m + 1)) (nI m) nd bd pv fr en mo n → (∀ k, k ≠ 58 → k ≠ 68 → k ≠ 69 → k ≠ 70 → h'.1 k = h.1 k) → h'.2 = h.2 → Q (some (.int (nI (kM (ky g))))) h') :
    mcl mx_P 107 [.ref 58, .int (nI g)] h Q := by
  have hlen := hG.short hB hw hn hbf
  have x58' : h.1 58 = _ := x58
  obtain ⟨⟨f1, a1, b1⟩, ⟨f2, a2, b2⟩, ⟨f3, a3, b3⟩, c⟩ := hW
  have g2 := hG.2.2.2.2.2.2.1
  have g16 := hG.2.2.2.2.2.2.2
  have l16 := (hG.2.1 g (by omega)).1.2.2.1 g16
  have w0 : wy gs w hh sh st ky g 0 = g := rfl
  have z58 : ¬ (58 = 69) := by omega
  have z70 : ¬ (70 = 69) := by omega
  rw [mcl]
  simp (disch := omega) only [mx_li, mx_ll, mx_la, mx_get, mx_s1, mx_s2, mx_tl, mx_nl, mx_ic, mx_op, mx_oc, mx_fd, mx_lg, mx_ls, mx_pd, mx_len, mx_isc, mx_ps, mx_ent, mx_rv, ↓reduceIte, List.length_cons, List.length_nil, Nat.reduceAdd, Nat.reduceLT, Nat.reduceEqDiff, Nat.reduceBEq, true_and, and_true, or_false, or_true, false_or, true_or, and_self, not_false_eq_true, not_true_eq_false, mob_g0, mob_g1, mob_g2, mob_g3, mob_g4, mob_g5, mob_g6, mob_g7, mob_g8, mob_g9, mob_g10, mob_g11, mob_g12, mob_g13, mob_g14, mob_g15, mob_g16, mob_g17, mob_g18, mob_g19, mob_g20, mob_g21, mob_g22, mob_g23, mob_g24, mob_g25, mob_g26, mob_g27, mob_g28, mob_g29, mob_g30, mob_g31, mob_g32, mob_s0, mob_s1, mob_s11, mob_s12, mob_s13, mob_s14, mob_s15, mob_s19, mob_s20, mob_s21, mob_s22, mob_s23, mob_s24, mob_s31, mob_len, xob_g0, xob_g1, xob_g2, xob_g3, xob_g4, xob_g5, xob_g6, xob_s3, xob_s4, xob_s5, xob_s6, xob_len, gob_g0, gob_g1, gob_g2, gob_g3, gob_g4, gob_g5, gob_g6, gob_g7, gob_g8, gob_g9, gob_g10, gob_g11, gob_g12, gob_g13, gob_g14, gob_g15, gob_g16, gob_g17, gob_s0, gob_s1, gob_s2, gob_s15, gob_s16, gob_s17, gob_len, sob_g0, sob_g1, sob_g2, sob_g3, sob_g4, sob_g5, sob_g6, sob_g7, sob_g8, sob_g9, sob_s5, sob_s6, sob_s7, sob_s8, sob_s9, sob_len, qob_g0, qob_g1, qob_g2, qob_g3, qob_g4, qob_g5, qob_s0, qob_s1, qob_s2, qob_s3, qob_s4, qob_s5, qob_len, wob_g0, wob_g1, wob_g2, wob_s0, wob_s1, wob_s2, wob_len, pob_g0, pob_g1, pob_g2, pob_g3, pob_g4, pob_s0, pob_s1, pob_s2, pob_s3, pob_s4, pob_len, n_lt, n_eq, n_lt0, n_0lt, n_eq0, n_cl, n_add, n_mul, n_l, n_eqm, n_ltm, n_mlt, n_m1, l_lt, l_eq, l_lt0, l_0lt, l_eq0, l_add, l_mul, l_i, g_lt, g_eq, g_gt, n_div, n_rem, l_div, l_mod, n01_0, n01_1, n_1e, n_0e1, ald_i, ald_o, ald_l, ald_z, ald_a, ast_i, ast_l, ast_z, ast_a, zI_t, zI_f, zI_ok, zI_eq0, r_M_keep_0, r_M_keep_3, r_M_keep_4, r_M_keep_7, r_M_keep_8, r_M_keep_9, r_M_keep_10, r_M_keep_11, r_M_keep_12, r_M_keep_14, r_M_keep_15, r_M_keep_18, r_M_keep_19, r_M_keep_20, r_M_keep_23, r_M_keep_24, r_M_keep_25, r_M_keep_28, r_M_keep_29, r_M_keep_31, x58', a2, a3, up_1, z58, z70]
  have hk : ∀ k, k ≠ 69 → k ≠ 70 → (mx_up (mx_up h 69 (.inl (0, 30000, .inl (va_up f2 (5000 * m) (nI fr))))) 70 (.inl (0, 30000, .inl (va_up f3 (5000 * m) (nI 16))))).1 k = h.1 k := fun k k1 k2 => by simp (disch := (first | omega | (simp only [up_2, mk_21]; first | done | omega))) only [up_e, up_n, mk_e, mk_n]
  have e69 : (mx_up (mx_up h 69 (.inl (0, 30000, .inl (va_up f2 (5000 * m) (nI fr))))) 70 (.inl (0, 30000, .inl (va_up f3 (5000 * m) (nI 16))))).1 69 = .inl (0, 30000, .inl (va_up f2 (5000 * m) (nI fr))) := by simp (disch := (first | omega | (simp only [up_2, mk_21]; first | done | omega))) only [up_e, up_n, mk_e, mk_n]
  have e70 : (mx_up (mx_up h 69 (.inl (0, 30000, .inl (va_up f2 (5000 * m) (nI fr))))) 70 (.inl (0, 30000, .inl (va_up f3 (5000 * m) (nI 16))))).1 70 = .inl (0, 30000, .inl (va_up f3 (5000 * m) (nI 16))) := by simp (disch := (first | omega | (simp only [up_2, mk_21]; first | done | omega))) only [up_e, up_n, mk_e, mk_n]
  have e2 : (mx_up (mx_up h 69 (.inl (0, 30000, .inl (va_up f2 (5000 * m) (nI fr))))) 70 (.inl (0, 30000, .inl (va_up f3 (5000 * m) (nI 16))))).2 = h.2 := rfl
  generalize mx_up (mx_up h 69 (.inl (0, 30000, .inl (va_up f2 (5000 * m) (nI fr))))) 70 (.inl (0, 30000, .inl (va_up f3 (5000 * m) (nI 16)))) = h1 at hk e69 e70 e2
  have x1 : MO h1 w hh gs (nI m) hd nd bd pv fr en mo n := (hk 58 (by omega) (by omega)).trans x58
  have fin := l_M_keep (h0 := h1) (F2 := f2) (F3 := f3) (Q := Q) hB hw hw2 hh0 hh2 hn hen hsh hse hG hbf hm (hM.kept (fun j j1 j2 => hk j (by omega) (by omega))) (hT.kept (hk 71 (by omega) (by omega))) x1 (hD.kept (fun j j1 j2 => hk j (by omega) (by omega))) (fun h' f2' f3' p1 p2 p3 p4 p5 p6 p7 p8 => by
    have y58 : h'.1 58 = _ := (p7 58 (by omega) (by omega)).trans x1
    have y68 := (p7 68 (by omega) (by omega)).trans ((hk 68 (by omega) (by omega)).trans a1)
    have z68 : ¬ (58 = 68) := by omega
    rw [r_M_keep_83]
    simp (disch := omega) only [mx_li, mx_ll, mx_la, mx_get, mx_s1, mx_s2, mx_tl, mx_nl, mx_ic, mx_op, mx_oc, mx_fd, mx_lg, mx_ls, mx_pd, mx_len, mx_isc, mx_ps, mx_ent, mx_rv, ↓reduceIte, List.length_cons, List.length_nil, Nat.reduceAdd, Nat.reduceLT, Nat.reduceEqDiff, Nat.reduceBEq, true_and, and_true, or_false, or_true, false_or, true_or, and_self, not_false_eq_true, not_true_eq_false, mob_g0, mob_g1, mob_g2, mob_g3, mob_g4, mob_g5, mob_g6, mob_g7, mob_g8, mob_g9, mob_g10, mob_g11, mob_g12, mob_g13, mob_g14, mob_g15, mob_g16, mob_g17, mob_g18, mob_g19, mob_g20, mob_g21, mob_g22, mob_g23, mob_g24, mob_g25, mob_g26, mob_g27, mob_g28, mob_g29, mob_g30, mob_g31, mob_g32, mob_s0, mob_s1, mob_s11, mob_s12, mob_s13, mob_s14, mob_s15, mob_s19, mob_s20, mob_s21, mob_s22, mob_s23, mob_s24, mob_s31, mob_len, xob_g0, xob_g1, xob_g2, xob_g3, xob_g4, xob_g5, xob_g6, xob_s3, xob_s4, xob_s5, xob_s6, xob_len, gob_g0, gob_g1, gob_g2, gob_g3, gob_g4, gob_g5, gob_g6, gob_g7, gob_g8, gob_g9, gob_g10, gob_g11, gob_g12, gob_g13, gob_g14, gob_g15, gob_g16, gob_g17, gob_s0, gob_s1, gob_s2, gob_s15, gob_s16, gob_s17, gob_len, sob_g0, sob_g1, sob_g2, sob_g3, sob_g4, sob_g5, sob_g6, sob_g7, sob_g8, sob_g9, sob_s5, sob_s6, sob_s7, sob_s8, sob_s9, sob_len, qob_g0, qob_g1, qob_g2, qob_g3, qob_g4, qob_g5, qob_s0, qob_s1, qob_s2, qob_s3, qob_s4, qob_s5, qob_len, wob_g0, wob_g1, wob_g2, wob_s0, wob_s1, wob_s2, wob_len, pob_g0, pob_g1, pob_g2, pob_g3, pob_g4, pob_s0, pob_s1, pob_s2, pob_s3, pob_s4, pob_len, n_lt, n_eq, n_lt0, n_0lt, n_eq0, n_cl, n_add, n_mul, n_l, n_eqm, n_ltm, n_mlt, n_m1, l_lt, l_eq, l_lt0, l_0lt, l_eq0, l_add, l_mul, l_i, g_lt, g_eq, g_gt, n_div, n_rem, l_div, l_mod, n01_0, n01_1, n_1e, n_0e1, ald_i, ald_o, ald_l, ald_z, ald_a, ast_i, ast_l, ast_z, ast_a, zI_t, zI_f, zI_ok, zI_eq0, r_M_keep_84, r_M_keep_87, r_M_keep_88, r_M_keep_91, r_M_keep_93, r_M_keep_94, r_M_keep_95, r_M_keep_96, r_M_keep_97, r_M_keep_98, r_M_keep_101, r_M_keep_104, r_M_keep_105, r_M_keep_106, r_M_keep_109, r_M_keep_110, r_M_keep_111, r_M_keep_114, r_M_keep_116, y58, y68, up_1, z68, up_up]
    refine kk _ ⟨⟨va_up f1 m (nI (kM (ky g) + 1)), ?_, fun k hk' => ?_⟩, ⟨f2', ?_, fun k i hk' hi => ?_⟩, ⟨f3', ?_, fun k i hk' hi => ?_⟩, fun k hk' => ?_⟩ (up_e rfl) (fun k k1 k2 k3 k4 => ?_) (by rw [up_2, up_2, p8, e2])
    · simp (disch := (first | omega | (simp only [up_2, mk_21]; first | done | omega))) only [up_e, up_n, mk_e, mk_n]
    · by_cases q : k = m
      · rw [q, va_up_self, va_up_self]
      · rw [va_up_ne _ _ q, va_up_ne _ _ q]; exact b1 k (by omega)
    · simp (disch := (first | omega | (simp only [up_2, mk_21]; first | done | omega))) only [up_e, up_n, mk_e, mk_n]; exact p1
    · by_cases q : k = m
      · subst q
        rw [va_up_self] at hi ⊢
        exact p2 i hi
      · rw [va_up_ne _ _ q] at hi ⊢
        have cc := c k (by omega)
        rw [p3 _ (by omega)]
        exact b2 k i (by omega) hi
    · simp (disch := (first | omega | (simp only [up_2, mk_21]; first | done | omega))) only [up_e, up_n, mk_e, mk_n]; exact p4
    · by_cases q : k = m
      · subst q
        rw [va_up_self] at hi ⊢
        exact p5 i hi
      · rw [va_up_ne _ _ q] at hi ⊢
        have cc := c k (by omega)
        rw [p6 _ (by omega)]
        exact b3 k i (by omega) hi
    · by_cases q : k = m
      · rw [q, va_up_self]; exact hlen
      · rw [va_up_ne _ _ q]; exact c k (by omega)
    · simp (disch := (first | omega | (simp only [up_2, mk_21]; first | done | omega))) only [up_e, up_n, mk_e, mk_n]
      exact (p7 k k3 k4).trans (hk k k3 k4)) (kM (ky g)) 0 h1 _ _ (by omega) e69 (fun i hi => by
      have : i = 0 := by omega
      rw [this, w0, l16]; exact va_up_self _ _ _) (fun j hj => va_up_ne _ _ (by omega)) e70 (fun i hi => by
      have : i = 0 := by omega
      rw [this, w0, g16]; exact va_up_self _ _ _) (fun j hj => va_up_ne _ _ (by omega)) (fun _ _ _ => rfl) rfl
  rw [w0] at fin
  exact fin
end MKP
