/-! THE CLASS's SEARCH: ways; begin, trace -/
theorem QQ.kept {h h' : mxH} {qc qr qs qh cap : Nat} {C R S H : Nat → Nat} {rc ct : Nat} (hQ : QQ h qc qr qs qh cap C R S H rc ct) (hk : ∀ k, (k = 31 ∨ k = qc ∨ k = qr ∨ k = qs ∨ k = qh) → h'.1 k = h.1 k) : QQ h' qc qr qs qh cap C R S H rc ct := by
  obtain ⟨q1, q2, q3, q4, q5, q6⟩ := hQ
  refine ⟨?_, ?_, ?_, ?_, ?_, q6⟩
  · rw [hk 31 (by omega)]; exact q1
  · rw [hk qc (by omega)]; exact q2
  · rw [hk qr (by omega)]; exact q3
  · rw [hk qs (by omega)]; exact q4
  · rw [hk qh (by omega)]; exact q5
theorem XD.kept {h h' : mxH} {qc qr qs qh cap : Nat} {gs : mG} {w hh fr mo : Nat} {st ky : Nat → Nat} (hD : XD h qc qr qs qh cap gs w hh fr mo st ky) (hk : ∀ k, (k = 31 ∨ k = qc ∨ k = qr ∨ k = qs ∨ k = qh) → h'.1 k = h.1 k) : XD h' qc qr qs qh cap gs w hh fr mo st ky := by
  obtain ⟨C, R, S, H, ct, hQ, r⟩ := hD
  exact ⟨C, R, S, H, ct, hQ.kept hk, r⟩
/-- a way of the class -/
def WC (h : mxH) (a pa ha cap n : Nat) (c d : Nat → Nat) : Prop := h.1 a = .inr (4, wob pa ha (nI n)) ∧ (∃ f, h.1 pa = .inl (0, cap, .inl f) ∧ ∀ i, i ≤ n → f i = nI (c i)) ∧ (∃ f, h.1 ha = .inl (0, cap, .inl f) ∧ ∀ i, i ≤ n → f i = nI (d i)) ∧ n < cap ∧ cap < 100000
theorem WC.kept {h h' : mxH} {a pa ha cap n : Nat} {c d : Nat → Nat} (hW : WC h a pa ha cap n c d) (hk : ∀ k, (k = a ∨ k = pa ∨ k = ha) → h'.1 k = h.1 k) : WC h' a pa ha cap n c d := by
  obtain ⟨q1, ⟨f2, q2, r2⟩, ⟨f3, q3, r3⟩, q4⟩ := hW
  refine ⟨?_, ⟨f2, ?_, r2⟩, ⟨f3, ?_, r3⟩, q4⟩
  · rw [hk a (by omega)]; exact q1
  · rw [hk pa (by omega)]; exact q2
  · rw [hk ha (by omega)]; exact q3
def WN (h h' : mxH) (n pa ha cap pa' ha' cap' : Nat) : Prop :=
  (n < cap ∧ cap' = cap ∧ pa' = pa ∧ ha' = ha ∧ h'.2 = h.2) ∨ (cap ≤ n ∧ cap' = 2 * n + 1 ∧ pa' = h.2.1 ∧ ha' = h.2.1 + 1 ∧ h'.2.1 = h.2.1 + 2 ∧ h'.2.2 = h.2.2 + 2 * (2 * n + 1))
theorem WN.of2 {h h1 h' : mxH} {n pa ha cap pa' ha' cap' : Nat} (hN : WN h h1 n pa ha cap pa' ha' cap') (e : h'.2 = h1.2) : WN h h' n pa ha cap pa' ha' cap' := by
  unfold WN at *
  rw [e]
  exact hN
set_option maxHeartbeats 1000000 in
theorem c_W_begin {h : mxH} {a pa ha cap n fr : Nat} {wl0 : Int32} {f2 f3 : Nat → Int32} {K : Option Value → mxH → Prop} (x : h.1 a = .inr (4, wob pa ha wl0)) (x2 : h.1 pa = .inl (0, cap, .inl f2)) (x3 : h.1 ha = .inl (0, cap, .inl f3)) (hs : pa ≠ ha ∧ a ≠ pa ∧ a ≠ ha ∧ a < h.2.1 ∧ pa < h.2.1 ∧ ha < h.2.1) (hn : n ≤ 10000) (hc : 0 < cap) (hc2 : cap < 100000)
    (kk : ∀ (h' : mxH) (pa' ha' cap' : Nat), WN h h' n pa ha cap pa' ha' cap' → WC h' a pa' ha' cap' 0 (fun _ => fr) (fun _ => 16) ∨ True → h'.1 a = .inr (4, wob pa' ha' (nI n)) → (∃ f, h'.1 pa' = .inl (0, cap', .inl f) ∧ f 0 = nI fr) → (∃ f, h'.1 ha' = .inl (0, cap', .inl f) ∧ f 0 = nI 16) → n < cap' → cap' < 100000 → (∀ k, k < h.2.1 → k ≠ a → k ≠ pa → k ≠ ha → h'.1 k = h.1 k) → K none h') :
    mcl mx_P 69 [.ref a, .int (nI fr), .int (nI n)] h K := by
  obtain ⟨s1, s2, s3, s4, s5, s6⟩ := hs
  have s1' := Ne.symm s1
  have s2' := Ne.symm s2
  have s3' := Ne.symm s3
  rw [mcl]
  by_cases e : n < cap
  · simp (disch := omega) only [mx_li, mx_ll, mx_la, mx_get, mx_s1, mx_s2, mx_tl, mx_nl, mx_ic, mx_op, mx_oc, mx_fd, mx_lg, mx_ls, mx_pd, mx_len, mx_isc, mx_ps, mx_ent, mx_rv, ↓reduceIte, List.length_cons, List.length_nil, Nat.reduceAdd, Nat.reduceLT, Nat.reduceEqDiff, Nat.reduceBEq, true_and, and_true, or_false, or_true, false_or, true_or, and_self, not_false_eq_true, not_true_eq_false, mob_g0, mob_g1, mob_g2, mob_g3, mob_g4, mob_g5, mob_g6, mob_g7, mob_g8, mob_g9, mob_g10, mob_g11, mob_g12, mob_g13, mob_g14, mob_g15, mob_g16, mob_g17, mob_g18, mob_g19, mob_g20, mob_g21, mob_g22, mob_g23, mob_g24, mob_g25, mob_g26, mob_g27, mob_g28, mob_g29, mob_g30, mob_g31, mob_g32, mob_s0, mob_s1, mob_s11, mob_s12, mob_s13, mob_s14, mob_s15, mob_s19, mob_s20, mob_s21, mob_s22, mob_s23, mob_s24, mob_s31, mob_len, xob_g0, xob_g1, xob_g2, xob_g3, xob_g4, xob_g5, xob_g6, xob_s3, xob_s4, xob_s5, xob_s6, xob_len, gob_g0, gob_g1, gob_g2, gob_g3, gob_g4, gob_g5, gob_g6, gob_g7, gob_g8, gob_g9, gob_g10, gob_g11, gob_g12, gob_g13, gob_g14, gob_g15, gob_g16, gob_g17, gob_s0, gob_s1, gob_s2, gob_s15, gob_s16, gob_s17, gob_len, sob_g0, sob_g1, sob_g2, sob_g3, sob_g4, sob_g5, sob_g6, sob_g7, sob_g8, sob_g9, sob_s5, sob_s6, sob_s7, sob_s8, sob_s9, sob_len, qob_g0, qob_g1, qob_g2, qob_g3, qob_g4, qob_g5, qob_s0, qob_s1, qob_s2, qob_s3, qob_s4, qob_s5, qob_len, wob_g0, wob_g1, wob_g2, wob_s0, wob_s1, wob_s2, wob_len, pob_g0, pob_g1, pob_g2, pob_g3, pob_g4, pob_s0, pob_s1, pob_s2, pob_s3, pob_s4, pob_len, n_lt, n_eq, n_lt0, n_0lt, n_eq0, n_cl, n_add, n_mul, n_l, n_eqm, n_ltm, n_mlt, n_m1, l_lt, l_eq, l_lt0, l_0lt, l_eq0, l_add, l_mul, l_i, g_lt, g_eq, g_gt, n_div, n_rem, l_div, l_mod, n01_0, n01_1, n_1e, n_0e1, ald_i, ald_o, ald_l, ald_z, ald_a, ast_i, ast_l, ast_z, ast_a, zI_t, zI_f, zI_ok, zI_eq0, r_W_begin_0, r_W_begin_1, r_W_begin_4, r_W_begin_5, r_W_begin_6, r_W_begin_9, r_W_begin_10, r_W_begin_11, r_W_begin_12, r_W_begin_13, r_W_begin_14, r_W_begin_15, r_W_begin_17, r_W_begin_20, r_W_begin_21, r_W_begin_22, r_W_begin_23, r_W_begin_24, r_W_begin_25, r_W_begin_26, r_W_begin_28, r_W_begin_31, r_W_begin_32, r_W_begin_33, r_W_begin_36, r_W_begin_37, r_W_begin_40, r_W_begin_41, r_W_begin_42, r_W_begin_43, r_W_begin_44, r_W_begin_47, r_W_begin_48, r_W_begin_50, r_W_begin_51, x, x2, x3, e, up_1, s1, s1', s2, s2', s3, s3']
    refine kk _ pa ha cap (Or.inl ⟨e, rfl, rfl, rfl, rfl⟩) (Or.inr trivial) ?_ ⟨va_up f2 0 (nI fr), ?_, va_up_self _ _ _⟩ ⟨va_up f3 0 (nI 16), ?_, va_up_self _ _ _⟩ e hc2 (fun k k1 k2 k3 k4 => ?_)
    · simp (disch := (first | omega | (simp only [up_2, mk_21]; first | done | omega))) only [up_e, up_n, mk_e, mk_n]
    · simp (disch := (first | omega | (simp only [up_2, mk_21]; first | done | omega))) only [up_e, up_n, mk_e, mk_n]
    · simp (disch := (first | omega | (simp only [up_2, mk_21]; first | done | omega))) only [up_e, up_n, mk_e, mk_n]
    · simp (disch := (first | omega | (simp only [up_2, mk_21]; first | done | omega))) only [up_e, up_n, mk_e, mk_n]
  · have en : ¬ (50000000 < 2 * n + 1) := by omega
    have a0 : mx_ar0 0 (2 * n + 1) = .inl (0, 2 * n + 1, .inl (fun _ => 0)) := rfl
    have e1 : ¬ (a = h.2.1) := by omega
    have e2 : ¬ (a = h.2.1 + 1) := by omega
    have e3 : ¬ (h.2.1 = a) := by omega
    have e4 : ¬ (h.2.1 + 1 = a) := by omega
    have e5 : ¬ (h.2.1 = h.2.1 + 1) := by omega
    have e6 : ¬ (h.2.1 + 1 = h.2.1) := by omega
    simp (disch := omega) only [mx_li, mx_ll, mx_la, mx_get, mx_s1, mx_s2, mx_tl, mx_nl, mx_ic, mx_op, mx_oc, mx_fd, mx_lg, mx_ls, mx_pd, mx_len, mx_isc, mx_ps, mx_ent, mx_rv, ↓reduceIte, List.length_cons, List.length_nil, Nat.reduceAdd, Nat.reduceLT, Nat.reduceEqDiff, Nat.reduceBEq, true_and, and_true, or_false, or_true, false_or, true_or, and_self, not_false_eq_true, not_true_eq_false, mob_g0, mob_g1, mob_g2, mob_g3, mob_g4, mob_g5, mob_g6, mob_g7, mob_g8, mob_g9, mob_g10, mob_g11, mob_g12, mob_g13, mob_g14, mob_g15, mob_g16, mob_g17, mob_g18, mob_g19, mob_g20, mob_g21, mob_g22, mob_g23, mob_g24, mob_g25, mob_g26, mob_g27, mob_g28, mob_g29, mob_g30, mob_g31, mob_g32, mob_s0, mob_s1, mob_s11, mob_s12, mob_s13, mob_s14, mob_s15, mob_s19, mob_s20, mob_s21, mob_s22, mob_s23, mob_s24, mob_s31, mob_len, xob_g0, xob_g1, xob_g2, xob_g3, xob_g4, xob_g5, xob_g6, xob_s3, xob_s4, xob_s5, xob_s6, xob_len, gob_g0, gob_g1, gob_g2, gob_g3, gob_g4, gob_g5, gob_g6, gob_g7, gob_g8, gob_g9, gob_g10, gob_g11, gob_g12, gob_g13, gob_g14, gob_g15, gob_g16, gob_g17, gob_s0, gob_s1, gob_s2, gob_s15, gob_s16, gob_s17, gob_len, sob_g0, sob_g1, sob_g2, sob_g3, sob_g4, sob_g5, sob_g6, sob_g7, sob_g8, sob_g9, sob_s5, sob_s6, sob_s7, sob_s8, sob_s9, sob_len, qob_g0, qob_g1, qob_g2, qob_g3, qob_g4, qob_g5, qob_s0, qob_s1, qob_s2, qob_s3, qob_s4, qob_s5, qob_len, wob_g0, wob_g1, wob_g2, wob_s0, wob_s1, wob_s2, wob_len, pob_g0, pob_g1, pob_g2, pob_g3, pob_g4, pob_s0, pob_s1, pob_s2, pob_s3, pob_s4, pob_len, n_lt, n_eq, n_lt0, n_0lt, n_eq0, n_cl, n_add, n_mul, n_l, n_eqm, n_ltm, n_mlt, n_m1, l_lt, l_eq, l_lt0, l_0lt, l_eq0, l_add, l_mul, l_i, g_lt, g_eq, g_gt, n_div, n_rem, l_div, l_mod, n01_0, n01_1, n_1e, n_0e1, ald_i, ald_o, ald_l, ald_z, ald_a, ast_i, ast_l, ast_z, ast_a, zI_t, zI_f, zI_ok, zI_eq0, r_W_begin_0, r_W_begin_1, r_W_begin_4, r_W_begin_5, r_W_begin_6, r_W_begin_9, r_W_begin_10, r_W_begin_11, r_W_begin_12, r_W_begin_13, r_W_begin_14, r_W_begin_15, r_W_begin_17, r_W_begin_20, r_W_begin_21, r_W_begin_22, r_W_begin_23, r_W_begin_24, r_W_begin_25, r_W_begin_26, r_W_begin_28, r_W_begin_31, r_W_begin_32, r_W_begin_33, r_W_begin_36, r_W_begin_37, r_W_begin_40, r_W_begin_41, r_W_begin_42, r_W_begin_43, r_W_begin_44, r_W_begin_47, r_W_begin_48, r_W_begin_50, r_W_begin_51, x, x2, x3, e, en, or_self, up_1, up_2, mk_1, mk_21, mk_22, a0, e1, e2, e3, e4, e5, e6]
    refine kk _ h.2.1 (h.2.1 + 1) (2 * n + 1) (Or.inr ⟨by omega, rfl, rfl, rfl, rfl, ?_⟩) (Or.inr trivial) ?_ ⟨va_up (fun _ => 0) 0 (nI fr), ?_, va_up_self _ _ _⟩ ⟨va_up (fun _ => 0) 0 (nI 16), ?_, va_up_self _ _ _⟩ (by omega) (by omega) (fun k k1 k2 k3 k4 => ?_)
    · simp only [up_2, mk_22]; omega
    · simp (disch := (first | omega | (simp only [up_2, mk_21]; first | done | omega))) only [up_e, up_n, mk_e, mk_n]
    · simp (disch := (first | omega | (simp only [up_2, mk_21]; first | done | omega))) only [up_e, up_n, mk_e, mk_n]
    · simp (disch := (first | omega | (simp only [up_2, mk_21]; first | done | omega))) only [up_e, up_n, mk_e, mk_n]
    · simp (disch := (first | omega | (simp only [up_2, mk_21]; first | done | omega))) only [up_e, up_n, mk_e, mk_n]
theorem sepW {qc qr qs qh x : Nat} (h : 40 ≤ x ∧ x < 58 ∨ 78 ≤ x) (ne : x ≠ qc ∧ x ≠ qr ∧ x ≠ qs ∧ x ≠ qh) : (∀ j, (j = 31 ∨ j = qc ∨ j = qr ∨ j = qs ∨ j = qh) → j ≠ x) ∧ (∀ j, (j = 3 ∨ 17 ≤ j ∧ j ≤ 30 ∨ 36 ≤ j ∧ j ≤ 38) → j ≠ x) := by
  obtain ⟨n1, n2, n3, n4⟩ := ne
  refine ⟨fun j hj => ?_, fun j hj => by omega⟩
  rcases hj with rfl | rfl | rfl | rfl | rfl
  · omega
  · exact Ne.symm n1
  · exact Ne.symm n2
  · exact Ne.symm n3
  · exact Ne.symm n4
theorem adqs.ne {qc qr qs qh a : Nat} (hA : adqs qc qr qs qh) (ha : 36 ≤ a ∧ a < 78) : a ≠ qc ∧ a ≠ qr ∧ a ≠ qs ∧ a ≠ qh := by
  obtain ⟨A1, A2, A3, A4⟩ := hA
  unfold adq at A1 A2 A3 A4
  exact ⟨by omega, by omega, by omega, by omega⟩
section TRC
variable {qc qr qs qh cap : Nat} {gs : mG} {w hh fr en mo : Nat} {sh st ky : Nat → Nat} {lc : Int64}
set_option maxHeartbeats 1000000 in
theorem l_S_trace {h0 : mxH} {g a pa ha wcap : Nat} {a1 : Option Value} {K : Option Value → mxH → Prop} (hB : GB gs) (hw : 0 < w) (hn : w * hh ≤ 144) (hmo : mo ≤ 8) (hsh : ∀ c, sh c ≤ 1) (hG : GI gs w hh fr en mo sh g st ky) (hbf : brg gs fr = false) (hA : adqs qc qr qs qh)
    (x : h0.1 a = .inr (4, wob pa ha (nI (kM (ky g))))) (hcap : kM (ky g) < wcap) (hsp : pa ≠ ha ∧ (40 ≤ pa ∧ pa < 58 ∨ 78 ≤ pa) ∧ (40 ≤ ha ∧ ha < 58 ∨ 78 ≤ ha) ∧ (pa ≠ a ∧ pa ≠ qc ∧ pa ≠ qr ∧ pa ≠ qs ∧ pa ≠ qh) ∧ (ha ≠ a ∧ ha ≠ qc ∧ ha ≠ qr ∧ ha ≠ qs ∧ ha ≠ qh)) (hS : XS h0 w hh gs fr en mo sh lc) (hD : XD h0 qc qr qs qh cap gs w hh fr mo st ky)
    (kk : ∀ (h' : mxH), (∃ f, h'.1 pa = .inl (0, wcap, .inl f) ∧ ∀ i, i ≤ kM (ky g) → f i = nI (lC (wy gs w hh sh st ky g i))) → (∃ f, h'.1 ha = .inl (0, wcap, .inl f) ∧ ∀ i, i ≤ kM (ky g) → f i = nI (lH (wy gs w hh sh st ky g i))) → (∀ k, k ≠ pa → k ≠ ha → h'.1 k = h0.1 k) → h'.2 = h0.2 → K none h') :
    ∀ (d k : Nat) (h : mxH) (f2 f3 : Nat → Int32), k + d = kM (ky g) → h.1 pa = .inl (0, wcap, .inl f2) → (∀ i, i ≤ k → f2 i = nI (lC (wy gs w hh sh st ky g i))) → h.1 ha = .inl (0, wcap, .inl f3) → (∀ i, i ≤ k → f3 i = nI (lH (wy gs w hh sh st ky g i))) → (∀ k, k ≠ pa → k ≠ ha → h.1 k = h0.1 k) → h.2 = h0.2 →
      mw mx_P 49 24 [some (.ref 30), a1, some (.ref a), some (.int (nI (kM (ky g)))), some (.int (nI (row gs mo (wy gs w hh sh st ky g k)))), some (.int (nI (k + 1)))] [] h K := by
  have hlen := hG.short hB hw hn hbf
  obtain ⟨p0, p1, p2, ⟨p3, p4⟩, p5, p6⟩ := id hsp
  obtain ⟨sp1, sp2⟩ := sepW p1 p4
  obtain ⟨sh1, sh2⟩ := sepW p2 p6
  clear p1 p2 hsp
  intro d
  induction d with
  | zero =>
    intro k h f2 f3 hk h2 g2 h3 g3 hF hE
    have e : kM (ky g) < k + 1 := by omega
    rw [r_S_trace_24]
    simp (disch := omega) only [mx_li, mx_ll, mx_la, mx_get, mx_s1, mx_s2, mx_tl, mx_nl, mx_ic, mx_op, mx_oc, mx_fd, mx_lg, mx_ls, mx_pd, mx_len, mx_isc, mx_ps, mx_ent, mx_rv, ↓reduceIte, List.length_cons, List.length_nil, Nat.reduceAdd, Nat.reduceLT, Nat.reduceEqDiff, Nat.reduceBEq, true_and, and_true, or_false, or_true, false_or, true_or, and_self, not_false_eq_true, not_true_eq_false, mob_g0, mob_g1, mob_g2, mob_g3, mob_g4, mob_g5, mob_g6, mob_g7, mob_g8, mob_g9, mob_g10, mob_g11, mob_g12, mob_g13, mob_g14, mob_g15, mob_g16, mob_g17, mob_g18, mob_g19, mob_g20, mob_g21, mob_g22, mob_g23, mob_g24, mob_g25, mob_g26, mob_g27, mob_g28, mob_g29, mob_g30, mob_g31, mob_g32, mob_s0, mob_s1, mob_s11, mob_s12, mob_s13, mob_s14, mob_s15, mob_s19, mob_s20, mob_s21, mob_s22, mob_s23, mob_s24, mob_s31, mob_len, xob_g0, xob_g1, xob_g2, xob_g3, xob_g4, xob_g5, xob_g6, xob_s3, xob_s4, xob_s5, xob_s6, xob_len, gob_g0, gob_g1, gob_g2, gob_g3, gob_g4, gob_g5, gob_g6, gob_g7, gob_g8, gob_g9, gob_g10, gob_g11, gob_g12, gob_g13, gob_g14, gob_g15, gob_g16, gob_g17, gob_s0, gob_s1, gob_s2, gob_s15, gob_s16, gob_s17, gob_len, sob_g0, sob_g1, sob_g2, sob_g3, sob_g4, sob_g5, sob_g6, sob_g7, sob_g8, sob_g9, sob_s5, sob_s6, sob_s7, sob_s8, sob_s9, sob_len, qob_g0, qob_g1, qob_g2, qob_g3, qob_g4, qob_g5, qob_s0, qob_s1, qob_s2, qob_s3, qob_s4, qob_s5, qob_len, wob_g0, wob_g1, wob_g2, wob_s0, wob_s1, wob_s2, wob_len, pob_g0, pob_g1, pob_g2, pob_g3, pob_g4, pob_s0, pob_s1, pob_s2, pob_s3, pob_s4, pob_len, n_lt, n_eq, n_lt0, n_0lt, n_eq0, n_cl, n_add, n_mul, n_l, n_eqm, n_ltm, n_mlt, n_m1, l_lt, l_eq, l_lt0, l_0lt, l_eq0, l_add, l_mul, l_i, g_lt, g_eq, g_gt, n_div, n_rem, l_div, l_mod, n01_0, n01_1, n_1e, n_0e1, ald_i, ald_o, ald_l, ald_z, ald_a, ast_i, ast_l, ast_z, ast_a, zI_t, zI_f, zI_ok, zI_eq0, r_S_trace_26, r_S_trace_27, r_S_trace_30, r_S_trace_31, r_S_trace_33, r_S_trace_36, r_S_trace_38, r_S_trace_40, r_S_trace_43, r_S_trace_44, r_S_trace_45, r_S_trace_48, r_S_trace_50, r_S_trace_51, r_S_trace_54, r_S_trace_56, r_S_trace_59, r_S_trace_62, r_S_trace_63, r_S_trace_64, r_S_trace_65, r_S_trace_68, r_S_trace_70, r_S_trace_71, r_S_trace_74, r_S_trace_76, r_S_trace_79, r_S_trace_82, r_S_trace_83, r_S_trace_86, r_S_trace_89, e]
    exact kk h ⟨f2, h2, fun i hi => g2 i (by omega)⟩ ⟨f3, h3, fun i hi => g3 i (by omega)⟩ hF hE
  | succ d ih =>
    intro k h f2 f3 hk h2 g2 h3 g3 hF hE
    have e : ¬ kM (ky g) < k + 1 := by omega
    have hS1 : XS h w hh gs fr en mo sh lc := hS.kept (fun j hj => hF j (sp2 j hj) (sh2 j hj))
    have hD1 : XD h qc qr qs qh cap gs w hh fr mo st ky := hD.kept (fun j hj => hF j (sp1 j hj) (sh1 j hj))
    have x1 : h.1 a = _ := (hF a (Ne.symm p3) (Ne.symm p5)).trans x
    obtain ⟨w1, w2, -⟩ := hG.way hB hw k (by omega)
    obtain ⟨b1, b2, b3⟩ := hG.step hB hw (k := k) (by omega)
    obtain ⟨v1, v2, v3⟩ := hG.way hB hw (k + 1) (by omega)
    have vl := (hG.2.1 _ (show st (wy gs w hh sh st ky g (k + 1)) ≠ 0 by omega)).1
    obtain ⟨C, R, S, H, ct, hQ, hI, hcp, hv, hs2, hR, hO⟩ := id hD1
    have hcc := hI.2.1
    have hl18 : wy gs w hh sh st ky g (k + 1) < 88128 := lC_lt vl.1 hn
    have hrl := row_rc hB vl
    have y1 : R (row gs mo (wy gs w hh sh st ky g (k + 1))) % 262144 = wy gs w hh sh st ky g (k + 1) := by rw [((hR _ vl).2.2.2 (by omega)).2]; omega
    have e1 : oR gs mo (some (wy gs w hh sh st ky g (k + 1))) = nI (row gs mo (wy gs w hh sh st ky g (k + 1))) := rfl
    have xC : wy gs w hh sh st ky g (k + 1) / 612 = lC (wy gs w hh sh st ky g (k + 1)) := rfl
    rw [r_S_trace_24]
    simp (disch := omega) only [mx_li, mx_ll, mx_la, mx_get, mx_s1, mx_s2, mx_tl, mx_nl, mx_ic, mx_op, mx_oc, mx_fd, mx_lg, mx_ls, mx_pd, mx_len, mx_isc, mx_ps, mx_ent, mx_rv, ↓reduceIte, List.length_cons, List.length_nil, Nat.reduceAdd, Nat.reduceLT, Nat.reduceEqDiff, Nat.reduceBEq, true_and, and_true, or_false, or_true, false_or, true_or, and_self, not_false_eq_true, not_true_eq_false, mob_g0, mob_g1, mob_g2, mob_g3, mob_g4, mob_g5, mob_g6, mob_g7, mob_g8, mob_g9, mob_g10, mob_g11, mob_g12, mob_g13, mob_g14, mob_g15, mob_g16, mob_g17, mob_g18, mob_g19, mob_g20, mob_g21, mob_g22, mob_g23, mob_g24, mob_g25, mob_g26, mob_g27, mob_g28, mob_g29, mob_g30, mob_g31, mob_g32, mob_s0, mob_s1, mob_s11, mob_s12, mob_s13, mob_s14, mob_s15, mob_s19, mob_s20, mob_s21, mob_s22, mob_s23, mob_s24, mob_s31, mob_len, xob_g0, xob_g1, xob_g2, xob_g3, xob_g4, xob_g5, xob_g6, xob_s3, xob_s4, xob_s5, xob_s6, xob_len, gob_g0, gob_g1, gob_g2, gob_g3, gob_g4, gob_g5, gob_g6, gob_g7, gob_g8, gob_g9, gob_g10, gob_g11, gob_g12, gob_g13, gob_g14, gob_g15, gob_g16, gob_g17, gob_s0, gob_s1, gob_s2, gob_s15, gob_s16, gob_s17, gob_len, sob_g0, sob_g1, sob_g2, sob_g3, sob_g4, sob_g5, sob_g6, sob_g7, sob_g8, sob_g9, sob_s5, sob_s6, sob_s7, sob_s8, sob_s9, sob_len, qob_g0, qob_g1, qob_g2, qob_g3, qob_g4, qob_g5, qob_s0, qob_s1, qob_s2, qob_s3, qob_s4, qob_s5, qob_len, wob_g0, wob_g1, wob_g2, wob_s0, wob_s1, wob_s2, wob_len, pob_g0, pob_g1, pob_g2, pob_g3, pob_g4, pob_s0, pob_s1, pob_s2, pob_s3, pob_s4, pob_len, n_lt, n_eq, n_lt0, n_0lt, n_eq0, n_cl, n_add, n_mul, n_l, n_eqm, n_ltm, n_mlt, n_m1, l_lt, l_eq, l_lt0, l_0lt, l_eq0, l_add, l_mul, l_i, g_lt, g_eq, g_gt, n_div, n_rem, l_div, l_mod, n01_0, n01_1, n_1e, n_0e1, ald_i, ald_o, ald_l, ald_z, ald_a, ast_i, ast_l, ast_z, ast_a, zI_t, zI_f, zI_ok, zI_eq0, r_S_trace_26, r_S_trace_27, r_S_trace_30, r_S_trace_31, r_S_trace_33, e, hS1.2.2.1, e_S_nextRow hB hw hn hmo hsh hS1 hD1 hG.2.1 (show st (wy gs w hh sh st ky g k) ≠ 0 by omega), b1, e1]
    simp (disch := omega) only [mx_li, mx_ll, mx_la, mx_get, mx_s1, mx_s2, mx_tl, mx_nl, mx_ic, mx_op, mx_oc, mx_fd, mx_lg, mx_ls, mx_pd, mx_len, mx_isc, mx_ps, mx_ent, mx_rv, ↓reduceIte, List.length_cons, List.length_nil, Nat.reduceAdd, Nat.reduceLT, Nat.reduceEqDiff, Nat.reduceBEq, true_and, and_true, or_false, or_true, false_or, true_or, and_self, not_false_eq_true, not_true_eq_false, mob_g0, mob_g1, mob_g2, mob_g3, mob_g4, mob_g5, mob_g6, mob_g7, mob_g8, mob_g9, mob_g10, mob_g11, mob_g12, mob_g13, mob_g14, mob_g15, mob_g16, mob_g17, mob_g18, mob_g19, mob_g20, mob_g21, mob_g22, mob_g23, mob_g24, mob_g25, mob_g26, mob_g27, mob_g28, mob_g29, mob_g30, mob_g31, mob_g32, mob_s0, mob_s1, mob_s11, mob_s12, mob_s13, mob_s14, mob_s15, mob_s19, mob_s20, mob_s21, mob_s22, mob_s23, mob_s24, mob_s31, mob_len, xob_g0, xob_g1, xob_g2, xob_g3, xob_g4, xob_g5, xob_g6, xob_s3, xob_s4, xob_s5, xob_s6, xob_len, gob_g0, gob_g1, gob_g2, gob_g3, gob_g4, gob_g5, gob_g6, gob_g7, gob_g8, gob_g9, gob_g10, gob_g11, gob_g12, gob_g13, gob_g14, gob_g15, gob_g16, gob_g17, gob_s0, gob_s1, gob_s2, gob_s15, gob_s16, gob_s17, gob_len, sob_g0, sob_g1, sob_g2, sob_g3, sob_g4, sob_g5, sob_g6, sob_g7, sob_g8, sob_g9, sob_s5, sob_s6, sob_s7, sob_s8, sob_s9, sob_len, qob_g0, qob_g1, qob_g2, qob_g3, qob_g4, qob_g5, qob_s0, qob_s1, qob_s2, qob_s3, qob_s4, qob_s5, qob_len, wob_g0, wob_g1, wob_g2, wob_s0, wob_s1, wob_s2, wob_len, pob_g0, pob_g1, pob_g2, pob_g3, pob_g4, pob_s0, pob_s1, pob_s2, pob_s3, pob_s4, pob_len, n_lt, n_eq, n_lt0, n_0lt, n_eq0, n_cl, n_add, n_mul, n_l, n_eqm, n_ltm, n_mlt, n_m1, l_lt, l_eq, l_lt0, l_0lt, l_eq0, l_add, l_mul, l_i, g_lt, g_eq, g_gt, n_div, n_rem, l_div, l_mod, n01_0, n01_1, n_1e, n_0e1, ald_i, ald_o, ald_l, ald_z, ald_a, ast_i, ast_l, ast_z, ast_a, zI_t, zI_f, zI_ok, zI_eq0, r_S_trace_36, r_S_trace_38, r_S_trace_40, r_S_trace_43, r_S_trace_44, r_S_trace_45, r_S_trace_48, r_S_trace_50, r_S_trace_51, r_S_trace_54, r_S_trace_56, r_S_trace_59, r_S_trace_62, r_S_trace_63, x1, h2, hS1.2.2.1, hQ.1, e_Q_codeOf hQ (show row gs mo (wy gs w hh sh st ky g (k + 1)) < cap by omega) hI.1, y1, xC]
    have hQ2 : QQ (mx_up h pa (.inl (0, wcap, .inl (va_up f2 (k + 1) (nI (lC (wy gs w hh sh st ky g (k + 1)))))))) qc qr qs qh cap C R S H (bas gs mo (w * hh)) ct := hQ.kept (fun j hj => up_n (sp1 j hj))
    have z30 : ¬ (30 = pa) := sp2 30 (by omega)
    have z31 : ¬ (31 = pa) := sp1 31 (Or.inl rfl)
    have za : ¬ (a = pa) := Ne.symm p3
    have zh : ¬ (ha = pa) := Ne.symm p0
    simp (disch := omega) only [mx_li, mx_ll, mx_la, mx_get, mx_s1, mx_s2, mx_tl, mx_nl, mx_ic, mx_op, mx_oc, mx_fd, mx_lg, mx_ls, mx_pd, mx_len, mx_isc, mx_ps, mx_ent, mx_rv, ↓reduceIte, List.length_cons, List.length_nil, Nat.reduceAdd, Nat.reduceLT, Nat.reduceEqDiff, Nat.reduceBEq, true_and, and_true, or_false, or_true, false_or, true_or, and_self, not_false_eq_true, not_true_eq_false, mob_g0, mob_g1, mob_g2, mob_g3, mob_g4, mob_g5, mob_g6, mob_g7, mob_g8, mob_g9, mob_g10, mob_g11, mob_g12, mob_g13, mob_g14, mob_g15, mob_g16, mob_g17, mob_g18, mob_g19, mob_g20, mob_g21, mob_g22, mob_g23, mob_g24, mob_g25, mob_g26, mob_g27, mob_g28, mob_g29, mob_g30, mob_g31, mob_g32, mob_s0, mob_s1, mob_s11, mob_s12, mob_s13, mob_s14, mob_s15, mob_s19, mob_s20, mob_s21, mob_s22, mob_s23, mob_s24, mob_s31, mob_len, xob_g0, xob_g1, xob_g2, xob_g3, xob_g4, xob_g5, xob_g6, xob_s3, xob_s4, xob_s5, xob_s6, xob_len, gob_g0, gob_g1, gob_g2, gob_g3, gob_g4, gob_g5, gob_g6, gob_g7, gob_g8, gob_g9, gob_g10, gob_g11, gob_g12, gob_g13, gob_g14, gob_g15, gob_g16, gob_g17, gob_s0, gob_s1, gob_s2, gob_s15, gob_s16, gob_s17, gob_len, sob_g0, sob_g1, sob_g2, sob_g3, sob_g4, sob_g5, sob_g6, sob_g7, sob_g8, sob_g9, sob_s5, sob_s6, sob_s7, sob_s8, sob_s9, sob_len, qob_g0, qob_g1, qob_g2, qob_g3, qob_g4, qob_g5, qob_s0, qob_s1, qob_s2, qob_s3, qob_s4, qob_s5, qob_len, wob_g0, wob_g1, wob_g2, wob_s0, wob_s1, wob_s2, wob_len, pob_g0, pob_g1, pob_g2, pob_g3, pob_g4, pob_s0, pob_s1, pob_s2, pob_s3, pob_s4, pob_len, n_lt, n_eq, n_lt0, n_0lt, n_eq0, n_cl, n_add, n_mul, n_l, n_eqm, n_ltm, n_mlt, n_m1, l_lt, l_eq, l_lt0, l_0lt, l_eq0, l_add, l_mul, l_i, g_lt, g_eq, g_gt, n_div, n_rem, l_div, l_mod, n01_0, n01_1, n_1e, n_0e1, ald_i, ald_o, ald_l, ald_z, ald_a, ast_i, ast_l, ast_z, ast_a, zI_t, zI_f, zI_ok, zI_eq0, r_S_trace_64, r_S_trace_65, r_S_trace_68, r_S_trace_70, r_S_trace_71, r_S_trace_74, r_S_trace_76, r_S_trace_79, r_S_trace_82, r_S_trace_83, r_S_trace_86, up_1, z30, z31, za, zh, x1, h3, hS1.2.2.1, hQ.1, e_Q_codeOf hQ2 (show row gs mo (wy gs w hh sh st ky g (k + 1)) < cap by omega) hI.1, y1, e_S_headingOf]
    refine ih (k + 1) _ (va_up f2 (k + 1) (nI (lC (wy gs w hh sh st ky g (k + 1))))) (va_up f3 (k + 1) (nI (lH (wy gs w hh sh st ky g (k + 1))))) (by omega) ?_ (fun i hi => ?_) ?_ (fun i hi => ?_) (fun j j1 j2 => ?_) hE
    · simp (disch := (first | omega | (simp only [up_2, mk_21]; first | done | omega))) only [up_e, up_n, mk_e, mk_n]
    · by_cases q : i = k + 1
      · rw [q, va_up_self]
      · rw [va_up_ne _ _ q]; exact g2 i (by omega)
    · simp (disch := (first | omega | (simp only [up_2, mk_21]; first | done | omega))) only [up_e, up_n, mk_e, mk_n]
    · by_cases q : i = k + 1
      · rw [q, va_up_self]
      · rw [va_up_ne _ _ q]; exact g3 i (by omega)
    · simp (disch := (first | omega | (simp only [up_2, mk_21]; first | done | omega))) only [up_e, up_n, mk_e, mk_n]; exact hF j j1 j2
theorem c_S_trace {h : mxH} {g a pa ha wcap : Nat} {wl0 : Int32} {f2 f3 : Nat → Int32} {K : Option Value → mxH → Prop} (hB : GB gs) (hw : 0 < w) (hn : w * hh ≤ 144) (hmo : mo ≤ 8) (hsh : ∀ c, sh c ≤ 1) (hG : GI gs w hh fr en mo sh g st ky) (hbf : brg gs fr = false) (hA : adqs qc qr qs qh) (h78 : 78 ≤ h.2.1) (hql : qc < h.2.1 ∧ qr < h.2.1 ∧ qs < h.2.1 ∧ qh < h.2.1)
    (x : h.1 a = .inr (4, wob pa ha wl0)) (x2 : h.1 pa = .inl (0, wcap, .inl f2)) (x3 : h.1 ha = .inl (0, wcap, .inl f3)) (hwc : 0 < wcap ∧ wcap < 100000) (ha1 : 40 ≤ a ∧ a < 58) (hsp : pa ≠ ha ∧ (40 ≤ pa ∧ pa < 58 ∨ 78 ≤ pa) ∧ (40 ≤ ha ∧ ha < 58 ∨ 78 ≤ ha) ∧ (pa ≠ a ∧ pa ≠ qc ∧ pa ≠ qr ∧ pa ≠ qs ∧ pa ≠ qh) ∧ (ha ≠ a ∧ ha ≠ qc ∧ ha ≠ qr ∧ ha ≠ qs ∧ ha ≠ qh)) (hlt : pa < h.2.1 ∧ ha < h.2.1) (hS : XS h w hh gs fr en mo sh lc) (hD : XD h qc qr qs qh cap gs w hh fr mo st ky)
    (kk : ∀ (h' : mxH) (pa' ha' cap' : Nat), WN h h' (kM (ky g)) pa ha wcap pa' ha' cap' → WC h' a pa' ha' cap' (kM (ky g)) (fun i => lC (wy gs w hh sh st ky g i)) (fun i => lH (wy gs w hh sh st ky g i)) → (∀ k, k < h.2.1 → k ≠ a → k ≠ pa → k ≠ ha → h'.1 k = h.1 k) → K none h') :
    mcl mx_P 49 [.ref 30, .int (nI (row gs mo g)), .ref a] h K := by
  have hlen := hG.short hB hw hn hbf
  obtain ⟨p0, p1, p2, ⟨p3, p4⟩, p5, p6⟩ := id hsp
  obtain ⟨sp1, sp2⟩ := sepW p1 p4
  obtain ⟨sh1, sh2⟩ := sepW p2 p6
  have g2 := hG.2.2.2.2.2.2.1
  have g16 := hG.2.2.2.2.2.2.2
  have vg := (hG.2.1 g (by omega)).1
  obtain ⟨C, R, S, H, ct, hQ, hI, hcp, hv, hs2, hR, hO⟩ := id hD
  have hcc := hI.2.1
  have hg18 : g < 88128 := lC_lt vg.1 hn
  have hrg := row_rc hB vg
  have y1 : R (row gs mo g) / 262144 % 262144 = kM (ky g) := by
    rw [((hR _ vg).2.2.2 (by omega)).2]
    unfold kM
    omega
  rw [mcl]
  simp (disch := omega) only [mx_li, mx_ll, mx_la, mx_get, mx_s1, mx_s2, mx_tl, mx_nl, mx_ic, mx_op, mx_oc, mx_fd, mx_lg, mx_ls, mx_pd, mx_len, mx_isc, mx_ps, mx_ent, mx_rv, ↓reduceIte, List.length_cons, List.length_nil, Nat.reduceAdd, Nat.reduceLT, Nat.reduceEqDiff, Nat.reduceBEq, true_and, and_true, or_false, or_true, false_or, true_or, and_self, not_false_eq_true, not_true_eq_false, mob_g0, mob_g1, mob_g2, mob_g3, mob_g4, mob_g5, mob_g6, mob_g7, mob_g8, mob_g9, mob_g10, mob_g11, mob_g12, mob_g13, mob_g14, mob_g15, mob_g16, mob_g17, mob_g18, mob_g19, mob_g20, mob_g21, mob_g22, mob_g23, mob_g24, mob_g25, mob_g26, mob_g27, mob_g28, mob_g29, mob_g30, mob_g31, mob_g32, mob_s0, mob_s1, mob_s11, mob_s12, mob_s13, mob_s14, mob_s15, mob_s19, mob_s20, mob_s21, mob_s22, mob_s23, mob_s24, mob_s31, mob_len, xob_g0, xob_g1, xob_g2, xob_g3, xob_g4, xob_g5, xob_g6, xob_s3, xob_s4, xob_s5, xob_s6, xob_len, gob_g0, gob_g1, gob_g2, gob_g3, gob_g4, gob_g5, gob_g6, gob_g7, gob_g8, gob_g9, gob_g10, gob_g11, gob_g12, gob_g13, gob_g14, gob_g15, gob_g16, gob_g17, gob_s0, gob_s1, gob_s2, gob_s15, gob_s16, gob_s17, gob_len, sob_g0, sob_g1, sob_g2, sob_g3, sob_g4, sob_g5, sob_g6, sob_g7, sob_g8, sob_g9, sob_s5, sob_s6, sob_s7, sob_s8, sob_s9, sob_len, qob_g0, qob_g1, qob_g2, qob_g3, qob_g4, qob_g5, qob_s0, qob_s1, qob_s2, qob_s3, qob_s4, qob_s5, qob_len, wob_g0, wob_g1, wob_g2, wob_s0, wob_s1, wob_s2, wob_len, pob_g0, pob_g1, pob_g2, pob_g3, pob_g4, pob_s0, pob_s1, pob_s2, pob_s3, pob_s4, pob_len, n_lt, n_eq, n_lt0, n_0lt, n_eq0, n_cl, n_add, n_mul, n_l, n_eqm, n_ltm, n_mlt, n_m1, l_lt, l_eq, l_lt0, l_0lt, l_eq0, l_add, l_mul, l_i, g_lt, g_eq, g_gt, n_div, n_rem, l_div, l_mod, n01_0, n01_1, n_1e, n_0e1, ald_i, ald_o, ald_l, ald_z, ald_a, ast_i, ast_l, ast_z, ast_a, zI_t, zI_f, zI_ok, zI_eq0, r_S_trace_0, r_S_trace_1, r_S_trace_4, r_S_trace_5, r_S_trace_8, r_S_trace_9, r_S_trace_10, r_S_trace_11, r_S_trace_14, r_S_trace_15, hS.2.2.1, hQ.1, e_Q_movesOf hQ (show row gs mo g < cap by omega) hI.1 (hI.2.2.2.1 _ (show row gs mo g < cap by omega)), y1, x]
  refine c_W_begin x x2 x3 ⟨p0, Ne.symm p3, Ne.symm p5, by clear p1 p2 hsp; omega, hlt.1, hlt.2⟩ (by omega) hwc.1 hwc.2 (fun h1 pa' ha' cap' b1 _ b2 b3 b4 b5 b6 b7 => ?_)
  simp (disch := omega) only [mx_li, mx_ll, mx_la, mx_get, mx_s1, mx_s2, mx_tl, mx_nl, mx_ic, mx_op, mx_oc, mx_fd, mx_lg, mx_ls, mx_pd, mx_len, mx_isc, mx_ps, mx_ent, mx_rv, ↓reduceIte, List.length_cons, List.length_nil, Nat.reduceAdd, Nat.reduceLT, Nat.reduceEqDiff, Nat.reduceBEq, true_and, and_true, or_false, or_true, false_or, true_or, and_self, not_false_eq_true, not_true_eq_false, mob_g0, mob_g1, mob_g2, mob_g3, mob_g4, mob_g5, mob_g6, mob_g7, mob_g8, mob_g9, mob_g10, mob_g11, mob_g12, mob_g13, mob_g14, mob_g15, mob_g16, mob_g17, mob_g18, mob_g19, mob_g20, mob_g21, mob_g22, mob_g23, mob_g24, mob_g25, mob_g26, mob_g27, mob_g28, mob_g29, mob_g30, mob_g31, mob_g32, mob_s0, mob_s1, mob_s11, mob_s12, mob_s13, mob_s14, mob_s15, mob_s19, mob_s20, mob_s21, mob_s22, mob_s23, mob_s24, mob_s31, mob_len, xob_g0, xob_g1, xob_g2, xob_g3, xob_g4, xob_g5, xob_g6, xob_s3, xob_s4, xob_s5, xob_s6, xob_len, gob_g0, gob_g1, gob_g2, gob_g3, gob_g4, gob_g5, gob_g6, gob_g7, gob_g8, gob_g9, gob_g10, gob_g11, gob_g12, gob_g13, gob_g14, gob_g15, gob_g16, gob_g17, gob_s0, gob_s1, gob_s2, gob_s15, gob_s16, gob_s17, gob_len, sob_g0, sob_g1, sob_g2, sob_g3, sob_g4, sob_g5, sob_g6, sob_g7, sob_g8, sob_g9, sob_s5, sob_s6, sob_s7, sob_s8, sob_s9, sob_len, qob_g0, qob_g1, qob_g2, qob_g3, qob_g4, qob_g5, qob_s0, qob_s1, qob_s2, qob_s3, qob_s4, qob_s5, qob_len, wob_g0, wob_g1, wob_g2, wob_s0, wob_s1, wob_s2, wob_len, pob_g0, pob_g1, pob_g2, pob_g3, pob_g4, pob_s0, pob_s1, pob_s2, pob_s3, pob_s4, pob_len, n_lt, n_eq, n_lt0, n_0lt, n_eq0, n_cl, n_add, n_mul, n_l, n_eqm, n_ltm, n_mlt, n_m1, l_lt, l_eq, l_lt0, l_0lt, l_eq0, l_add, l_mul, l_i, g_lt, g_eq, g_gt, n_div, n_rem, l_div, l_mod, n01_0, n01_1, n_1e, n_0e1, ald_i, ald_o, ald_l, ald_z, ald_a, ast_i, ast_l, ast_z, ast_a, zI_t, zI_f, zI_ok, zI_eq0, r_S_trace_18, r_S_trace_19, r_S_trace_21, r_S_trace_22]
  obtain ⟨f2', b3, c3⟩ := b3
  obtain ⟨f3', b4, c4⟩ := b4
  obtain ⟨sa1, sa2⟩ := sepW (x := a) (Or.inl ha1) (hA.ne (by omega))
  have hS1 : XS h1 w hh gs fr en mo sh lc := hS.kept (fun j hj => b7 j (by clear p1 p2 hsp b1 hA; omega) (sa2 j hj) (sp2 j hj) (sh2 j hj))
  have hD1 : XD h1 qc qr qs qh cap gs w hh fr mo st ky := hD.kept (fun j hj => b7 j (by clear p1 p2 hsp b1 hA; omega) (sa1 j hj) (sp1 j hj) (sh1 j hj))
  have hsp' : pa' ≠ ha' ∧ (40 ≤ pa' ∧ pa' < 58 ∨ 78 ≤ pa') ∧ (40 ≤ ha' ∧ ha' < 58 ∨ 78 ≤ ha') ∧ (pa' ≠ a ∧ pa' ≠ qc ∧ pa' ≠ qr ∧ pa' ≠ qs ∧ pa' ≠ qh) ∧ (ha' ≠ a ∧ ha' ≠ qc ∧ ha' ≠ qr ∧ ha' ≠ qs ∧ ha' ≠ qh) := by
    rcases b1 with ⟨-, -, rfl, rfl, -⟩ | ⟨-, -, rfl, rfl, -⟩
    · exact hsp
    · clear p1 p2 hsp; omega
  have w0 : wy gs w hh sh st ky g 0 = g := rfl
  have l16 := vg.2.2.1 g16
  have := l_S_trace (h0 := h1) (a1 := some (.int (nI (row gs mo g)))) (K := K) hB hw hn hmo hsh hG hbf hA b2 b5 hsp' hS1 hD1 (fun h' d1 d2 d3 d4 => by
    refine kk h' pa' ha' cap' (b1.of2 d4) ⟨?_, d1, d2, b5, b6⟩ (fun k k1 k2 k3 k4 => ?_)
    · rw [d3 a (Ne.symm hsp'.2.2.2.1.1) (Ne.symm hsp'.2.2.2.2.1)]; exact b2
    · rw [d3 k ?_ ?_, b7 k k1 k2 k3 k4]
      · rcases b1 with ⟨-, -, rfl, rfl, -⟩ | ⟨-, -, rfl, rfl, -⟩
        · exact k3
        · omega
      · rcases b1 with ⟨-, -, rfl, rfl, -⟩ | ⟨-, -, rfl, rfl, -⟩
        · exact k4
        · omega) (kM (ky g)) 0 h1 f2' f3' (by omega) b3 (fun i hi => by
      have : i = 0 := by omega
      rw [this, w0, l16]; exact c3) b4 (fun i hi => by
      have : i = 0 := by omega
      rw [this, w0, g16]; exact c4) (fun _ _ _ => rfl) rfl
  rw [w0] at this
  exact this
end TRC
