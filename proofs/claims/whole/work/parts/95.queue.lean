/-! THE CLASS's QUEUE: rows by cost and rank; spots 0 unseen, 1 taken, k + 2 at place k of the heap -/
def sI (k : Nat) : Int32 := match k with
  | 0 => -1
  | 1 => -2
  | k + 2 => nI k
theorem sI_2 (k : Nat) : sI (k + 2) = nI k := rfl
theorem mx_s1_0 (l : mxL) (v : Value) : mx_s1 l 0 v = some v :: l.tail := by cases l <;> rfl
def QQ (h : mxH) (qc qr qs qh cap : Nat) (C R S H : Nat → Nat) (rc ct : Nat) : Prop :=
  h.1 31 = .inr (3, qob qc qr qs qh (nI rc) (nI ct)) ∧ h.1 qc = .inl (1, cap, .inr (.inl (fun r => lN (C r)))) ∧ h.1 qr = .inl (1, cap, .inr (.inl (fun r => lN (R r)))) ∧ h.1 qs = .inl (0, cap, .inl (fun r => sI (S r))) ∧ h.1 qh = .inl (0, cap, .inl (fun i => nI (H i))) ∧
  (qc ≠ 31 ∧ qr ≠ 31 ∧ qs ≠ 31 ∧ qh ≠ 31) ∧ (qc ≠ qr ∧ qc ≠ qs ∧ qc ≠ qh) ∧ (qr ≠ qs ∧ qr ≠ qh) ∧ qs ≠ qh
/-- the order of rows -/
def rlt (C R : Nat → Nat) (a b : Nat) : Prop := C a < C b ∨ C a = C b ∧ R a < R b
theorem rlt_ord (C R : Nat → Nat) : ordl (rlt C R) := by
  refine ⟨fun a b h => ?_, fun a b c h1 h2 => ?_⟩
  · unfold rlt at *; omega
  · unfold rlt at *; omega
theorem QQ.putH {h : mxH} {qc qr qs qh cap : Nat} {C R S H : Nat → Nat} {rc ct : Nat} (hQ : QQ h qc qr qs qh cap C R S H rc ct) (k v : Nat) : QQ (mx_up h qh (.inl (0, cap, .inl (va_up (fun i => nI (H i)) k (nI v))))) qc qr qs qh cap C R S (va_up H k v) rc ct := by
  obtain ⟨q1, q2, q3, q4, q5, ⟨n1, n2, n3, n4⟩, ⟨n5, n6, n7⟩, ⟨n8, n9⟩, n10⟩ := hQ
  refine ⟨?_, ?_, ?_, ?_, ?_, ⟨n1, n2, n3, n4⟩, ⟨n5, n6, n7⟩, ⟨n8, n9⟩, n10⟩
  · rw [up_1, if_neg (Ne.symm n4)]; exact q1
  · rw [up_1, if_neg n7]; exact q2
  · rw [up_1, if_neg n9]; exact q3
  · rw [up_1, if_neg n10]; exact q4
  · rw [up_1, if_pos rfl]
    congr 4
    funext i
    by_cases e : i = k
    · subst e; rw [va_up_self, va_up_self]
    · rw [va_up_ne _ _ e, va_up_ne _ _ e]
theorem QQ.putS {h : mxH} {qc qr qs qh cap : Nat} {C R S H : Nat → Nat} {rc ct : Nat} (hQ : QQ h qc qr qs qh cap C R S H rc ct) (r k : Nat) : QQ (mx_up h qs (.inl (0, cap, .inl (va_up (fun r => sI (S r)) r (nI k))))) qc qr qs qh cap C R (va_up S r (k + 2)) H rc ct := by
  obtain ⟨q1, q2, q3, q4, q5, ⟨n1, n2, n3, n4⟩, ⟨n5, n6, n7⟩, ⟨n8, n9⟩, n10⟩ := hQ
  refine ⟨?_, ?_, ?_, ?_, ?_, ⟨n1, n2, n3, n4⟩, ⟨n5, n6, n7⟩, ⟨n8, n9⟩, n10⟩
  · rw [up_1, if_neg (Ne.symm n3)]; exact q1
  · rw [up_1, if_neg n6]; exact q2
  · rw [up_1, if_neg n8]; exact q3
  · rw [up_1, if_pos rfl]
    congr 4
    funext i
    by_cases e : i = r
    · subst e; rw [va_up_self, va_up_self]; rfl
    · rw [va_up_ne _ _ e, va_up_ne _ _ e]
  · rw [up_1, if_neg (Ne.symm n10)]; exact q5
theorem sp_up (S : Nat → Nat) (r k : Nat) : (fun q => va_up S r (k + 2) q - 2) = va_up (fun q => S q - 2) r k := by
  funext q
  by_cases e : q = r
  · subst e; rw [va_up_self, va_up_self]; omega
  · rw [va_up_ne _ _ e, va_up_ne _ _ e]
/-- what a change of the order of the queue leaves as it was -/
def QF (h h' : mxH) (qs qh : Nat) : Prop := (∀ k, k ≠ qs → k ≠ qh → h'.1 k = h.1 k) ∧ h'.2 = h.2
theorem QF.rf {h : mxH} {qs qh : Nat} : QF h h qs qh := ⟨fun _ _ _ => rfl, rfl⟩
theorem QF.two {h h0 : mxH} {qs qh : Nat} {a b : mxC} (hF : QF h0 h qs qh) : QF h0 (mx_up (mx_up h qh a) qs b) qs qh := by
  refine ⟨fun k h1 h2 => ?_, hF.2⟩
  rw [up_1, if_neg h1, up_1, if_neg h2]
  exact hF.1 k h1 h2
set_option maxHeartbeats 2000000 in
theorem l_Q_rise {h0 : mxH} {qc qr qs qh cap : Nat} {C R S0 : Nat → Nat} {rc ct n x : Nat} {op : Nat → Prop} {K : Option Value → mxH → Prop} {F : Option Value}
    (hcap : cap < 1000000) (hn : n ≤ cap) (hop : ∀ r, op r → r < cap) (hu : ∀ a b, op a → op b → R a = R b → a = b) (hC : ∀ r, r < cap → C r < 9223372036854775808) (hR : ∀ r, r < cap → R r < 9223372036854775808)
    (kk : ∀ (h' : mxH) (S' H' : Nat → Nat), QQ h' qc qr qs qh cap C R S' H' rc ct → hHP (rlt C R) op H' (fun r => S' r - 2) n → (∀ r, ¬ op r → S' r = S0 r) → (∀ r, op r → 2 ≤ S' r) → QF h0 h' qs qh → K none h') :
    ∀ (k : Nat) (h : mxH) (S H : Nat → Nat) (T : mxL), QQ h qc qr qs qh cap C R S H rc ct → hRi (rlt C R) op H (fun r => S r - 2) n k x → (∀ r, ¬ op r → S r = S0 r) → (∀ r, op r → r ≠ x → 2 ≤ S r) → QF h0 h qs qh →
      mw mx_P 66 18 (some (.ref 31) :: some (.int (nI x)) :: F :: some (.long (lN (C x))) :: none :: some (.long (lN (R x))) :: none :: some (.int (nI k)) :: T) [] h K := by
  intro k
  induction k using Nat.strongRecOn with
  | ind k ih =>
    intro h S H T hQ hr hs1 hs2 hF
    have hm := hr.1
    have hx := hop x hm.2.1
    have hk := hm.1
    have hQ0 := hQ
    obtain ⟨q1, q2, q3, q4, q5, ⟨n1, n2, n3, n4⟩, ⟨n5, n6, n7⟩, ⟨n8, n9⟩, n10⟩ := hQ0
    have fin : (k = 0 ∨ ¬ rlt C R x (H ((k - 1) / 2))) → K none (mx_up (mx_up h qh (.inl (0, cap, .inl (va_up (fun i => nI (H i)) k (nI x))))) qs (.inl (0, cap, .inl (va_up (fun r => sI (S r)) x (nI k))))) := by
      intro hc
      refine kk _ (va_up S x (k + 2)) (va_up H k x) ((hQ.putH k x).putS x k) ?_ (fun r a => ?_) (fun r a => ?_) hF.two
      · rw [sp_up]; exact hr.done hc
      · rw [va_up_ne _ _ (fun e => a (by rw [e]; exact hm.2.1))]; exact hs1 r a
      · by_cases e : r = x
        · subst e; rw [va_up_self]; omega
        · rw [va_up_ne _ _ e]; exact hs2 r a e
    rw [r_Q_rise_18]
    by_cases k0 : k = 0
    · subst k0
      simp (disch := omega) only [mx_li, mx_ll, mx_la, mx_get, mx_s1, mx_s2, mx_tl, mx_nl, mx_ic, mx_op, mx_oc, mx_fd, mx_lg, mx_ls, mx_pd, mx_len, mx_isc, mx_ps, mx_ent, mx_rv, ↓reduceIte, List.length_cons, List.length_nil, Nat.reduceAdd, Nat.reduceLT, Nat.reduceEqDiff, Nat.reduceBEq, true_and, and_true, or_false, or_true, false_or, true_or, and_self, not_false_eq_true, not_true_eq_false, mob_g0, mob_g1, mob_g2, mob_g3, mob_g4, mob_g5, mob_g6, mob_g7, mob_g8, mob_g9, mob_g10, mob_g11, mob_g12, mob_g13, mob_g14, mob_g15, mob_g16, mob_g17, mob_g18, mob_g19, mob_g20, mob_g21, mob_g22, mob_g23, mob_g24, mob_g25, mob_g26, mob_g27, mob_g28, mob_g29, mob_g30, mob_g31, mob_g32, mob_s0, mob_s1, mob_s11, mob_s12, mob_s13, mob_s14, mob_s15, mob_s19, mob_s20, mob_s21, mob_s22, mob_s23, mob_s24, mob_s31, mob_len, xob_g0, xob_g1, xob_g2, xob_g3, xob_g4, xob_g5, xob_g6, xob_s3, xob_s4, xob_s5, xob_s6, xob_len, gob_g0, gob_g1, gob_g2, gob_g3, gob_g4, gob_g5, gob_g6, gob_g7, gob_g8, gob_g9, gob_g10, gob_g11, gob_g12, gob_g13, gob_g14, gob_g15, gob_g16, gob_g17, gob_s0, gob_s1, gob_s2, gob_s15, gob_s16, gob_s17, gob_len, sob_g0, sob_g1, sob_g2, sob_g3, sob_g4, sob_g5, sob_g6, sob_g7, sob_g8, sob_g9, sob_s5, sob_s6, sob_s7, sob_s8, sob_s9, sob_len, qob_g0, qob_g1, qob_g2, qob_g3, qob_g4, qob_g5, qob_s0, qob_s1, qob_s2, qob_s3, qob_s4, qob_s5, qob_len, wob_g0, wob_g1, wob_g2, wob_s0, wob_s1, wob_s2, wob_len, pob_g0, pob_g1, pob_g2, pob_g3, pob_g4, pob_s0, pob_s1, pob_s2, pob_s3, pob_s4, pob_len, n_lt, n_eq, n_lt0, n_0lt, n_eq0, n_cl, n_add, n_mul, n_l, n_eqm, n_ltm, n_mlt, n_m1, l_lt, l_eq, l_lt0, l_0lt, l_eq0, l_add, l_mul, l_i, g_lt, g_eq, g_gt, n_div, n_rem, l_div, l_mod, n01_0, n01_1, n_1e, n_0e1, ald_i, ald_o, ald_l, ald_z, ald_a, ast_i, ast_l, ast_z, ast_a, zI_t, zI_f, zI_ok, zI_eq0, r_Q_rise_0, r_Q_rise_1, r_Q_rise_4, r_Q_rise_5, r_Q_rise_6, r_Q_rise_7, r_Q_rise_8, r_Q_rise_11, r_Q_rise_12, r_Q_rise_13, r_Q_rise_15, r_Q_rise_16, r_Q_rise_20, r_Q_rise_23, r_Q_rise_25, r_Q_rise_26, r_Q_rise_27, r_Q_rise_28, r_Q_rise_29, r_Q_rise_31, r_Q_rise_32, r_Q_rise_35, r_Q_rise_37, r_Q_rise_38, r_Q_rise_40, r_Q_rise_41, r_Q_rise_42, r_Q_rise_45, r_Q_rise_47, r_Q_rise_48, r_Q_rise_49, r_Q_rise_52, r_Q_rise_53, r_Q_rise_54, r_Q_rise_57, r_Q_rise_59, r_Q_rise_60, r_Q_rise_61, r_Q_rise_64, r_Q_rise_66, r_Q_rise_67, r_Q_rise_70, r_Q_rise_72, r_Q_rise_73, r_Q_rise_74, r_Q_rise_77, r_Q_rise_80, r_Q_rise_81, r_Q_rise_84, r_Q_rise_86, r_Q_rise_88, r_Q_rise_89, r_Q_rise_90, r_Q_rise_93, r_Q_rise_95, r_Q_rise_97, r_Q_rise_98, r_Q_rise_100, r_Q_rise_102, r_Q_rise_105, r_Q_rise_106, r_Q_rise_109, r_Q_rise_111, r_Q_rise_112, r_Q_rise_113, r_Q_rise_114, r_Q_rise_117, r_Q_rise_118, r_Q_rise_120, r_Q_rise_121, q1, q4, q5, up_1, n4, n10, n3, Ne.symm n4, Ne.symm n3]
      exact fin (Or.inl rfl)
    · have kp : 0 < k := by omega
      have hp : (k - 1) / 2 < n := by omega
      have ho := hm.2.2.1 ((k - 1) / 2) hp (by omega)
      have hq := hop _ ho.1
      have c1 := hC _ hx; have c2 := hC _ hq; have r1 := hR _ hx; have r2 := hR _ hq
      generalize hy : H ((k - 1) / 2) = y at *
      simp (disch := omega) only [mx_li, mx_ll, mx_la, mx_get, mx_s1, mx_s2, mx_tl, mx_nl, mx_ic, mx_op, mx_oc, mx_fd, mx_lg, mx_ls, mx_pd, mx_len, mx_isc, mx_ps, mx_ent, mx_rv, ↓reduceIte, List.length_cons, List.length_nil, Nat.reduceAdd, Nat.reduceLT, Nat.reduceEqDiff, Nat.reduceBEq, true_and, and_true, or_false, or_true, false_or, true_or, and_self, not_false_eq_true, not_true_eq_false, mob_g0, mob_g1, mob_g2, mob_g3, mob_g4, mob_g5, mob_g6, mob_g7, mob_g8, mob_g9, mob_g10, mob_g11, mob_g12, mob_g13, mob_g14, mob_g15, mob_g16, mob_g17, mob_g18, mob_g19, mob_g20, mob_g21, mob_g22, mob_g23, mob_g24, mob_g25, mob_g26, mob_g27, mob_g28, mob_g29, mob_g30, mob_g31, mob_g32, mob_s0, mob_s1, mob_s11, mob_s12, mob_s13, mob_s14, mob_s15, mob_s19, mob_s20, mob_s21, mob_s22, mob_s23, mob_s24, mob_s31, mob_len, xob_g0, xob_g1, xob_g2, xob_g3, xob_g4, xob_g5, xob_g6, xob_s3, xob_s4, xob_s5, xob_s6, xob_len, gob_g0, gob_g1, gob_g2, gob_g3, gob_g4, gob_g5, gob_g6, gob_g7, gob_g8, gob_g9, gob_g10, gob_g11, gob_g12, gob_g13, gob_g14, gob_g15, gob_g16, gob_g17, gob_s0, gob_s1, gob_s2, gob_s15, gob_s16, gob_s17, gob_len, sob_g0, sob_g1, sob_g2, sob_g3, sob_g4, sob_g5, sob_g6, sob_g7, sob_g8, sob_g9, sob_s5, sob_s6, sob_s7, sob_s8, sob_s9, sob_len, qob_g0, qob_g1, qob_g2, qob_g3, qob_g4, qob_g5, qob_s0, qob_s1, qob_s2, qob_s3, qob_s4, qob_s5, qob_len, wob_g0, wob_g1, wob_g2, wob_s0, wob_s1, wob_s2, wob_len, pob_g0, pob_g1, pob_g2, pob_g3, pob_g4, pob_s0, pob_s1, pob_s2, pob_s3, pob_s4, pob_len, n_lt, n_eq, n_lt0, n_0lt, n_eq0, n_cl, n_add, n_mul, n_l, n_eqm, n_ltm, n_mlt, n_m1, l_lt, l_eq, l_lt0, l_0lt, l_eq0, l_add, l_mul, l_i, g_lt, g_eq, g_gt, n_div, n_rem, l_div, l_mod, n01_0, n01_1, n_1e, n_0e1, ald_i, ald_o, ald_l, ald_z, ald_a, ast_i, ast_l, ast_z, ast_a, zI_t, zI_f, zI_ok, zI_eq0, r_Q_rise_0, r_Q_rise_1, r_Q_rise_4, r_Q_rise_5, r_Q_rise_6, r_Q_rise_7, r_Q_rise_8, r_Q_rise_11, r_Q_rise_12, r_Q_rise_13, r_Q_rise_15, r_Q_rise_16, r_Q_rise_20, r_Q_rise_23, r_Q_rise_25, r_Q_rise_26, r_Q_rise_27, r_Q_rise_28, r_Q_rise_29, r_Q_rise_31, r_Q_rise_32, r_Q_rise_35, r_Q_rise_37, r_Q_rise_38, r_Q_rise_40, r_Q_rise_41, r_Q_rise_42, r_Q_rise_45, r_Q_rise_47, r_Q_rise_48, r_Q_rise_49, r_Q_rise_52, r_Q_rise_53, r_Q_rise_54, r_Q_rise_57, r_Q_rise_59, r_Q_rise_60, r_Q_rise_61, r_Q_rise_64, r_Q_rise_66, r_Q_rise_67, r_Q_rise_70, r_Q_rise_72, r_Q_rise_73, r_Q_rise_74, r_Q_rise_77, r_Q_rise_80, r_Q_rise_81, r_Q_rise_84, r_Q_rise_86, r_Q_rise_88, r_Q_rise_89, r_Q_rise_90, r_Q_rise_93, r_Q_rise_95, r_Q_rise_97, r_Q_rise_98, r_Q_rise_100, r_Q_rise_102, r_Q_rise_105, r_Q_rise_106, r_Q_rise_109, r_Q_rise_111, r_Q_rise_112, r_Q_rise_113, r_Q_rise_114, r_Q_rise_117, r_Q_rise_118, r_Q_rise_120, r_Q_rise_121, q1, q2, q3, q4, q5, kp, hy, n_sub, mx_s1_0, up_1, n4, n10, n3, Ne.symm n4, Ne.symm n3]
      have hxy : y ≠ x := ho.2.2
      have nx : rlt C R x y → ∀ T', mw mx_P 66 18 (some (.ref 31) :: some (.int (nI x)) :: F :: some (.long (lN (C x))) :: none :: some (.long (lN (R x))) :: none :: some (.int (nI ((k - 1) / 2))) :: T') [] (mx_up (mx_up h qh (.inl (0, cap, .inl (va_up (fun i => nI (H i)) k (nI y))))) qs (.inl (0, cap, .inl (va_up (fun r => sI (S r)) y (nI k))))) K := by
        intro hl T'
        have hst := hr.step (rlt_ord C R) kp (by rw [hy]; exact hl)
        rw [hy] at hst
        refine ih ((k - 1) / 2) (by omega) _ (va_up S y (k + 2)) (va_up H k y) T' ((hQ.putH k y).putS y k) (by rw [sp_up]; exact hst) (fun r a => ?_) (fun r a b => ?_) hF.two
        · rw [va_up_ne _ _ (fun e => a (by rw [e]; exact ho.1))]; exact hs1 r a
        · by_cases e : r = y
          · subst e; rw [va_up_self]; omega
          · rw [va_up_ne _ _ e]; exact hs2 r a b
      by_cases e1 : C y < C x
      · rw [if_pos e1]
        exact fin (Or.inr (by unfold rlt; omega))
      · rw [if_neg e1]
        by_cases e2 : C x = C y
        · rw [if_pos e2]
          by_cases e3 : R y < R x
          · rw [if_pos e3]
            exact fin (Or.inr (by unfold rlt; omega))
          · rw [if_neg e3]
            have e4 : R y ≠ R x := fun q => hxy (hu y x ho.1 hm.2.1 q)
            exact nx (Or.inr ⟨e2, by omega⟩) _
        · rw [if_neg e2]
          exact nx (Or.inl (by omega)) _
theorem c_Q_rise {h : mxH} {qc qr qs qh cap : Nat} {C R S H : Nat → Nat} {rc ct n k x : Nat} {op : Nat → Prop} {K : Option Value → mxH → Prop}
    (hcap : cap < 1000000) (hn : n ≤ cap) (hop : ∀ r, op r → r < cap) (hu : ∀ a b, op a → op b → R a = R b → a = b) (hC : ∀ r, r < cap → C r < 9223372036854775808) (hR : ∀ r, r < cap → R r < 9223372036854775808)
    (hQ : QQ h qc qr qs qh cap C R S H rc ct) (hr : hRi (rlt C R) op H (fun r => S r - 2) n k x) (hs2 : ∀ r, op r → r ≠ x → 2 ≤ S r)
    (kk : ∀ (h' : mxH) (S' H' : Nat → Nat), QQ h' qc qr qs qh cap C R S' H' rc ct → hHP (rlt C R) op H' (fun r => S' r - 2) n → (∀ r, ¬ op r → S' r = S r) → (∀ r, op r → 2 ≤ S' r) → QF h h' qs qh → K none h') :
    mcl mx_P 66 [.ref 31, .int (nI x), .int (nI k)] h K := by
  have hx := hop x hr.1.2.1
  obtain ⟨q1, q2, q3, q4, q5, ⟨n1, n2, n3, n4⟩, ⟨n5, n6, n7⟩, ⟨n8, n9⟩, n10⟩ := id hQ
  rw [mcl]
  simp (disch := omega) only [mx_li, mx_ll, mx_la, mx_get, mx_s1, mx_s2, mx_tl, mx_nl, mx_ic, mx_op, mx_oc, mx_fd, mx_lg, mx_ls, mx_pd, mx_len, mx_isc, mx_ps, mx_ent, mx_rv, ↓reduceIte, List.length_cons, List.length_nil, Nat.reduceAdd, Nat.reduceLT, Nat.reduceEqDiff, Nat.reduceBEq, true_and, and_true, or_false, or_true, false_or, true_or, and_self, not_false_eq_true, not_true_eq_false, mob_g0, mob_g1, mob_g2, mob_g3, mob_g4, mob_g5, mob_g6, mob_g7, mob_g8, mob_g9, mob_g10, mob_g11, mob_g12, mob_g13, mob_g14, mob_g15, mob_g16, mob_g17, mob_g18, mob_g19, mob_g20, mob_g21, mob_g22, mob_g23, mob_g24, mob_g25, mob_g26, mob_g27, mob_g28, mob_g29, mob_g30, mob_g31, mob_g32, mob_s0, mob_s1, mob_s11, mob_s12, mob_s13, mob_s14, mob_s15, mob_s19, mob_s20, mob_s21, mob_s22, mob_s23, mob_s24, mob_s31, mob_len, xob_g0, xob_g1, xob_g2, xob_g3, xob_g4, xob_g5, xob_g6, xob_s3, xob_s4, xob_s5, xob_s6, xob_len, gob_g0, gob_g1, gob_g2, gob_g3, gob_g4, gob_g5, gob_g6, gob_g7, gob_g8, gob_g9, gob_g10, gob_g11, gob_g12, gob_g13, gob_g14, gob_g15, gob_g16, gob_g17, gob_s0, gob_s1, gob_s2, gob_s15, gob_s16, gob_s17, gob_len, sob_g0, sob_g1, sob_g2, sob_g3, sob_g4, sob_g5, sob_g6, sob_g7, sob_g8, sob_g9, sob_s5, sob_s6, sob_s7, sob_s8, sob_s9, sob_len, qob_g0, qob_g1, qob_g2, qob_g3, qob_g4, qob_g5, qob_s0, qob_s1, qob_s2, qob_s3, qob_s4, qob_s5, qob_len, wob_g0, wob_g1, wob_g2, wob_s0, wob_s1, wob_s2, wob_len, pob_g0, pob_g1, pob_g2, pob_g3, pob_g4, pob_s0, pob_s1, pob_s2, pob_s3, pob_s4, pob_len, n_lt, n_eq, n_lt0, n_0lt, n_eq0, n_cl, n_add, n_mul, n_l, n_eqm, n_ltm, n_mlt, n_m1, l_lt, l_eq, l_lt0, l_0lt, l_eq0, l_add, l_mul, l_i, g_lt, g_eq, g_gt, n_div, n_rem, l_div, l_mod, n01_0, n01_1, n_1e, n_0e1, ald_i, ald_o, ald_l, ald_z, ald_a, ast_i, ast_l, ast_z, ast_a, zI_t, zI_f, zI_ok, zI_eq0, r_Q_rise_0, r_Q_rise_1, r_Q_rise_4, r_Q_rise_5, r_Q_rise_6, r_Q_rise_7, r_Q_rise_8, r_Q_rise_11, r_Q_rise_12, r_Q_rise_13, r_Q_rise_15, r_Q_rise_16, q1, q2, q3]
  exact l_Q_rise hcap hn hop hu hC hR kk k h S H [] hQ hr (fun _ _ => rfl) hs2 QF.rf
