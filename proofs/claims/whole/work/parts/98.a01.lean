/-! THE CLASS's QUEUE: takeLeast, offer, and what they keep -/
/-- pigeons -/
theorem pig : ∀ (N n : Nat) (f : Nat → Nat), (∀ i, i < n → f i < N) → (∀ i j, i < n → j < n → f i = f j → i = j) → n ≤ N
  | 0, n, f, h1, _ => by
    cases n with
    | zero => exact Nat.le_refl _
    | succ n => exact absurd (h1 0 (by omega)) (by omega)
  | N + 1, n, f, h1, h2 => by
    cases n with
    | zero => omega
    | succ n =>
      refine Nat.succ_le_succ (pig N n (fun i => if f i = N then f n else f i) (fun i hi => ?_) (fun i j hi hj e => ?_))
      · show (if f i = N then f n else f i) < N
        split
        · next e =>
          have a := h1 n (by omega)
          have b : f n ≠ N := fun q => by have := h2 i n (by omega) (by omega) (e.trans q.symm); omega
          omega
        · next e =>
          have a := h1 i (by omega)
          omega
      · have e' : (if f i = N then f n else f i) = (if f j = N then f n else f j) := e
        split at e'
        · next a =>
          split at e'
          · next b => exact h2 i j (by omega) (by omega) (a.trans b.symm)
          · next b => have := h2 n j (by omega) (by omega) e'; omega
        · next a =>
          split at e'
          · next b => have := h2 i n (by omega) (by omega) e'; omega
          · next b => exact h2 i j (by omega) (by omega) e'
theorem hHP_le {lt : Nat → Nat → Prop} {op : Nat → Prop} {hp sp : Nat → Nat} {n N : Nat} (h : hHP lt op hp sp n) (hN : ∀ e, op e → e < N) : n ≤ N :=
  pig N n hp (fun i hi => hN _ (h.1 i hi).1) (fun i j hi hj e => by rw [← (h.1 i hi).2, ← (h.1 j hj).2, e])
theorem hHP_lt {lt : Nat → Nat → Prop} {op : Nat → Prop} {hp sp : Nat → Nat} {n N x : Nat} (h : hHP lt op hp sp n) (hN : ∀ e, op e → e < N) (hx : x < N) (hox : ¬ op x) : n < N := by
  have h1 := pig N (n + 1) (fun i => if i = n then x else hp i) (fun i hi => ?_) (fun i j hi hj e => ?_)
  · omega
  · show (if i = n then x else hp i) < N
    split
    · exact hx
    · exact hN _ (h.1 i (by omega)).1
  · have e' : (if i = n then x else hp i) = (if j = n then x else hp j) := e
    split at e'
    · next a =>
      split at e'
      · next b => omega
      · next b => exact absurd (e' ▸ (h.1 j (by omega)).1) hox
    · next a =>
      split at e'
      · next b => exact absurd (e'.symm ▸ (h.1 i (by omega)).1) hox
      · next b => rw [← (h.1 i (by omega)).2, ← (h.1 j (by omega)).2, e']
theorem hHP.cong {lt : Nat → Nat → Prop} {op op' : Nat → Prop} {hp sp sp' : Nat → Nat} {n : Nat} (h : hHP lt op hp sp n) (ho : ∀ e, op' e ↔ op e) (hs : ∀ e, op e → sp' e = sp e) : hHP lt op' hp sp' n := by
  obtain ⟨h1, h2, h3⟩ := h
  refine ⟨fun i hi => ⟨(ho _).mpr (h1 i hi).1, by rw [hs _ (h1 i hi).1]; exact (h1 i hi).2⟩, fun e he => h2 e ((ho e).mp he), h3⟩
/-- open rows -/
def QOp (rc : Nat) (S : Nat → Nat) (r : Nat) : Prop := r < rc ∧ 2 ≤ S r
def QI (C R S H : Nat → Nat) (cap rc ct : Nat) : Prop :=
  cap < 1000000 ∧ rc ≤ cap ∧ (∀ r, r < cap → C r < 9223372036854775808) ∧ (∀ r, r < cap → R r < 9223372036854775808) ∧ (∀ a b, QOp rc S a → QOp rc S b → R a = R b → a = b) ∧ hHP (rlt C R) (QOp rc S) H (fun r => S r - 2) ct
/-- what the queue's methods leave as it was -/
def QG (h h' : mxH) (qc qr qs qh : Nat) : Prop := (∀ k, k ≠ 31 → k ≠ qc → k ≠ qr → k ≠ qs → k ≠ qh → h'.1 k = h.1 k) ∧ h'.2 = h.2
theorem QG.rf {h : mxH} {qc qr qs qh : Nat} : QG h h qc qr qs qh := ⟨fun _ _ _ _ _ _ => rfl, rfl⟩
theorem QG.tr {h h1 h2 : mxH} {qc qr qs qh : Nat} (a : QG h h1 qc qr qs qh) (b : QG h1 h2 qc qr qs qh) : QG h h2 qc qr qs qh := ⟨fun k k1 k2 k3 k4 k5 => (b.1 k k1 k2 k3 k4 k5).trans (a.1 k k1 k2 k3 k4 k5), b.2.trans a.2⟩
theorem QF.g {h h' : mxH} {qc qr qs qh : Nat} (a : QF h h' qs qh) : QG h h' qc qr qs qh := ⟨fun k _ _ _ k4 k5 => a.1 k k4 k5, a.2⟩
theorem QG.up {h h' : mxH} {qc qr qs qh j : Nat} {c : mxC} (a : QG h h' qc qr qs qh) (hj : j = 31 ∨ j = qc ∨ j = qr ∨ j = qs ∨ j = qh) : QG h (mx_up h' j c) qc qr qs qh := by
  refine ⟨fun k k1 k2 k3 k4 k5 => ?_, a.2⟩
  rw [up_1, if_neg (by omega)]
  exact a.1 k k1 k2 k3 k4 k5
theorem QQ.cnt {h : mxH} {qc qr qs qh cap : Nat} {C R S H : Nat → Nat} {rc ct : Nat} (hQ : QQ h qc qr qs qh cap C R S H rc ct) (n : Nat) : QQ (mx_up h 31 (.inr (3, qob qc qr qs qh (nI rc) (nI n)))) qc qr qs qh cap C R S H rc n := by
  obtain ⟨q1, q2, q3, q4, q5, ⟨n1, n2, n3, n4⟩, ⟨n5, n6, n7⟩, ⟨n8, n9⟩, n10⟩ := hQ
  refine ⟨?_, ?_, ?_, ?_, ?_, ⟨n1, n2, n3, n4⟩, ⟨n5, n6, n7⟩, ⟨n8, n9⟩, n10⟩
  · rw [up_1, if_pos rfl]
  · rw [up_1, if_neg n1]; exact q2
  · rw [up_1, if_neg n2]; exact q3
  · rw [up_1, if_neg n3]; exact q4
  · rw [up_1, if_neg n4]; exact q5
theorem QQ.putT {h : mxH} {qc qr qs qh cap : Nat} {C R S H : Nat → Nat} {rc ct : Nat} (hQ : QQ h qc qr qs qh cap C R S H rc ct) (r : Nat) : QQ (mx_up h qs (.inl (0, cap, .inl (va_up (fun r => sI (S r)) r (-2))))) qc qr qs qh cap C R (va_up S r 1) H rc ct := by
  obtain ⟨q1, q2, q3, q4, q5, ⟨n1, n2, n3, n4⟩, ⟨n5, n6, n7⟩, ⟨n8, n9⟩, n10⟩ := hQ
  refine ⟨?_, ?_, ?_, ?_, ?_, ⟨n1, n2, n3, n4⟩, ⟨n5, n6, n7⟩, ⟨n8, n9⟩, n10⟩
  · rw [up_1, if_neg (Ne.symm n3)]; exact q1
  · rw [up_1, if_neg n6]; exact q2
  · rw [up_1, if_neg n8]; exact q3
  · rw [up_1, if_pos rfl]
    congr 4
    funext i
    by_cases e : i = r
    · subst e; rw [va_up_self, va_up_self]; rfl
    · rw [va_up_ne _ _ e, va_up_ne _ _ e]
  · rw [up_1, if_neg (Ne.symm n10)]; exact q5
theorem QQ.putCR {h : mxH} {qc qr qs qh cap : Nat} {C R S H : Nat → Nat} {rc ct : Nat} (hQ : QQ h qc qr qs qh cap C R S H rc ct) (r a b : Nat) : QQ (mx_up (mx_up h qc (.inl (1, cap, .inr (.inl (va_up (fun r => lN (C r)) r (lN a)))))) qr (.inl (1, cap, .inr (.inl (va_up (fun r => lN (R r)) r (lN b)))))) qc qr qs qh cap (va_up C r a) (va_up R r b) S H rc ct := by
  obtain ⟨q1, q2, q3, q4, q5, ⟨n1, n2, n3, n4⟩, ⟨n5, n6, n7⟩, ⟨n8, n9⟩, n10⟩ := hQ
  have fu : ∀ (f : Nat → Nat) (v : Nat), (va_up (fun r => lN (f r)) r (lN v)) = fun q => lN (va_up f r v q) := by
    intro f v
    funext i
    by_cases e : i = r
    · subst e; rw [va_up_self, va_up_self]
    · rw [va_up_ne _ _ e, va_up_ne _ _ e]
  refine ⟨?_, ?_, ?_, ?_, ?_, ⟨n1, n2, n3, n4⟩, ⟨n5, n6, n7⟩, ⟨n8, n9⟩, n10⟩
  · rw [up_1, if_neg (Ne.symm n2), up_1, if_neg (Ne.symm n1)]; exact q1
  · rw [up_1, if_neg n5, up_1, if_pos rfl, fu]
  · rw [up_1, if_pos rfl, fu]
  · rw [up_1, if_neg (Ne.symm n8), up_1, if_neg (Ne.symm n6)]; exact q4
  · rw [up_1, if_neg (Ne.symm n9), up_1, if_neg (Ne.symm n7)]; exact q5
section TAKE
variable {h : mxH} {qc qr qs qh cap : Nat} {C R S H : Nat → Nat} {rc ct : Nat} {K : Option Value → mxH → Prop}
theorem e_Q_take0 (hQ : QQ h qc qr qs qh cap C R S H rc 0) (K : Option Value → mxH → Prop) : mcl mx_P 64 [.ref 31] h K ↔ K (some (.int (-1))) h := by
  have q1 := hQ.1
  rw [mcl]
  simp (disch := omega) only [mx_li, mx_ll, mx_la, mx_get, mx_s1, mx_s2, mx_tl, mx_nl, mx_ic, mx_op, mx_oc, mx_fd, mx_lg, mx_ls, mx_pd, mx_len, mx_isc, mx_ps, mx_ent, mx_rv, ↓reduceIte, List.length_cons, List.length_nil, Nat.reduceAdd, Nat.reduceLT, Nat.reduceEqDiff, Nat.reduceBEq, true_and, and_true, or_false, or_true, false_or, true_or, and_self, not_false_eq_true, not_true_eq_false, mob_g0, mob_g1, mob_g2, mob_g3, mob_g4, mob_g5, mob_g6, mob_g7, mob_g8, mob_g9, mob_g10, mob_g11, mob_g12, mob_g13, mob_g14, mob_g15, mob_g16, mob_g17, mob_g18, mob_g19, mob_g20, mob_g21, mob_g22, mob_g23, mob_g24, mob_g25, mob_g26, mob_g27, mob_g28, mob_g29, mob_g30, mob_g31, mob_g32, mob_s0, mob_s1, mob_s11, mob_s12, mob_s13, mob_s14, mob_s15, mob_s19, mob_s20, mob_s21, mob_s22, mob_s23, mob_s24, mob_s31, mob_len, xob_g0, xob_g1, xob_g2, xob_g3, xob_g4, xob_g5, xob_g6, xob_s3, xob_s4, xob_s5, xob_s6, xob_len, gob_g0, gob_g1, gob_g2, gob_g3, gob_g4, gob_g5, gob_g6, gob_g7, gob_g8, gob_g9, gob_g10, gob_g11, gob_g12, gob_g13, gob_g14, gob_g15, gob_g16, gob_g17, gob_s0, gob_s1, gob_s2, gob_s15, gob_s16, gob_s17, gob_len, sob_g0, sob_g1, sob_g2, sob_g3, sob_g4, sob_g5, sob_g6, sob_g7, sob_g8, sob_g9, sob_s5, sob_s6, sob_s7, sob_s8, sob_s9, sob_len, qob_g0, qob_g1, qob_g2, qob_g3, qob_g4, qob_g5, qob_s0, qob_s1, qob_s2, qob_s3, qob_s4, qob_s5, qob_len, wob_g0, wob_g1, wob_g2, wob_s0, wob_s1, wob_s2, wob_len, pob_g0, pob_g1, pob_g2, pob_g3, pob_g4, pob_s0, pob_s1, pob_s2, pob_s3, pob_s4, pob_len, n_lt, n_eq, n_lt0, n_0lt, n_eq0, n_cl, n_add, n_mul, n_l, n_eqm, n_ltm, n_mlt, n_m1, l_lt, l_eq, l_lt0, l_0lt, l_eq0, l_add, l_mul, l_i, g_lt, g_eq, g_gt, n_div, n_rem, l_div, l_mod, n01_0, n01_1, n_1e, n_0e1, ald_i, ald_o, ald_l, ald_z, ald_a, ast_i, ast_l, ast_z, ast_a, zI_t, zI_f, zI_ok, zI_eq0, r_Q_takeLeast_0, r_Q_takeLeast_1, r_Q_takeLeast_4, r_Q_takeLeast_7, r_Q_takeLeast_8, r_Q_takeLeast_9, r_Q_takeLeast_10, r_Q_takeLeast_13, r_Q_takeLeast_14, r_Q_takeLeast_15, r_Q_takeLeast_16, r_Q_takeLeast_17, r_Q_takeLeast_18, r_Q_takeLeast_21, r_Q_takeLeast_22, r_Q_takeLeast_23, r_Q_takeLeast_26, r_Q_takeLeast_27, r_Q_takeLeast_30, r_Q_takeLeast_33, r_Q_takeLeast_34, r_Q_takeLeast_35, r_Q_takeLeast_38, r_Q_takeLeast_39, r_Q_takeLeast_42, r_Q_takeLeast_43, r_Q_takeLeast_46, r_Q_takeLeast_47, r_Q_takeLeast_50, r_Q_takeLeast_51, r_Q_takeLeast_53, r_Q_takeLeast_54, r_Q_takeLeast_55, q1]
set_option maxHeartbeats 1000000 in
theorem c_Q_take (hQ : QQ h qc qr qs qh cap C R S H rc ct) (hI : QI C R S H cap rc ct) (hct : 0 < ct)
    (kk : ∀ (h' : mxH) (r : Nat) (S' H' : Nat → Nat), QOp rc S r → (∀ q, QOp rc S q → ¬ rlt C R q r) → QQ h' qc qr qs qh cap C R S' H' rc (ct - 1) → QI C R S' H' cap rc (ct - 1) → S' r = 1 → (∀ q, q ≠ r → min (S' q) 2 = min (S q) 2) → QG h h' qc qr qs qh → K (some (.int (nI r))) h') :
    mcl mx_P 64 [.ref 31] h K := by
  obtain ⟨i1, i2, i3, i4, i5, i6⟩ := id hI
  have hle := hHP_le i6 (N := rc) (fun e he => he.1)
  have hop : ∀ r, QOp rc S r → r < cap := fun r hr => Nat.lt_of_lt_of_le hr.1 i2
  have h0 := i6.1 0 hct
  have hr0 := hop _ h0.1
  have hroot := i6.root (rlt_ord C R)
  obtain ⟨q1, q2, q3, q4, q5, ⟨n1, n2, n3, n4⟩, ⟨n5, n6, n7⟩, ⟨n8, n9⟩, n10⟩ := id hQ
  obtain ⟨n, rfl⟩ : ∃ n, ct = n + 1 := ⟨ct - 1, by omega⟩
  rw [mcl]
  have hop' : ∀ e, (QOp rc S e ∧ e ≠ H 0) → e < cap := fun e he => hop e he.1
  -- the end: the spot of the least is put
  have fin : ∀ (h2 : mxH) (S' H' : Nat → Nat), QQ h2 qc qr qs qh cap C R S' H' rc n → hHP (rlt C R) (fun e => QOp rc S e ∧ e ≠ H 0) H' (fun r => S' r - 2) n → (∀ r, ¬ (QOp rc S r ∧ r ≠ H 0) → S' r = S r) → (∀ r, (QOp rc S r ∧ r ≠ H 0) → 2 ≤ S' r) → QG h h2 qc qr qs qh →
      K (some (.int (nI (H 0)))) (mx_up h2 qs (.inl (0, cap, .inl (va_up (fun r => sI (S' r)) (H 0) (-2))))) := by
    intro h2 S' H' a1 a2 a3 a4 a5
    have mn : ∀ q, q ≠ H 0 → (min (va_up S' (H 0) 1 q) 2 = min (S q) 2) := by
      intro q hq
      rw [va_up_ne _ _ hq]
      by_cases o : QOp rc S q
      · have b1 := a4 q ⟨o, hq⟩
        have b2 := o.2
        omega
      · rw [a3 q (fun z => o z.1)]
    have opq : ∀ e, QOp rc (va_up S' (H 0) 1) e ↔ (QOp rc S e ∧ e ≠ H 0) := by
      intro e
      by_cases q : e = H 0
      · subst q
        unfold QOp
        rw [va_up_self]
        constructor
        · rintro ⟨-, b⟩; omega
        · rintro ⟨-, b⟩; exact absurd rfl b
      · have := mn e q
        unfold QOp
        constructor
        · rintro ⟨b1, b2⟩; exact ⟨⟨b1, by omega⟩, q⟩
        · rintro ⟨⟨b1, b2⟩, -⟩; exact ⟨b1, by omega⟩
    refine kk _ (H 0) (va_up S' (H 0) 1) H' h0.1 hroot (a1.putT (H 0)) ⟨i1, i2, i3, i4, ?_, ?_⟩ (va_up_self _ _ _) mn (a5.up (by omega))
    · intro a b ha hb
      exact i5 a b ((opq a).mp ha).1 ((opq b).mp hb).1
    · refine a2.cong opq (fun e he => ?_)
      rw [va_up_ne _ _ he.2]
  have hn1 : n + 1 - 1 = n := by omega
  by_cases n0 : n = 0
  · subst n0
    simp (disch := omega) only [mx_li, mx_ll, mx_la, mx_get, mx_s1, mx_s2, mx_tl, mx_nl, mx_ic, mx_op, mx_oc, mx_fd, mx_lg, mx_ls, mx_pd, mx_len, mx_isc, mx_ps, mx_ent, mx_rv, ↓reduceIte, List.length_cons, List.length_nil, Nat.reduceAdd, Nat.reduceLT, Nat.reduceEqDiff, Nat.reduceBEq, true_and, and_true, or_false, or_true, false_or, true_or, and_self, not_false_eq_true, not_true_eq_false, mob_g0, mob_g1, mob_g2, mob_g3, mob_g4, mob_g5, mob_g6, mob_g7, mob_g8, mob_g9, mob_g10, mob_g11, mob_g12, mob_g13, mob_g14, mob_g15, mob_g16, mob_g17, mob_g18, mob_g19, mob_g20, mob_g21, mob_g22, mob_g23, mob_g24, mob_g25, mob_g26, mob_g27, mob_g28, mob_g29, mob_g30, mob_g31, mob_g32, mob_s0, mob_s1, mob_s11, mob_s12, mob_s13, mob_s14, mob_s15, mob_s19, mob_s20, mob_s21, mob_s22, mob_s23, mob_s24, mob_s31, mob_len, xob_g0, xob_g1, xob_g2, xob_g3, xob_g4, xob_g5, xob_g6, xob_s3, xob_s4, xob_s5, xob_s6, xob_len, gob_g0, gob_g1, gob_g2, gob_g3, gob_g4, gob_g5, gob_g6, gob_g7, gob_g8, gob_g9, gob_g10, gob_g11, gob_g12, gob_g13, gob_g14, gob_g15, gob_g16, gob_g17, gob_s0, gob_s1, gob_s2, gob_s15, gob_s16, gob_s17, gob_len, sob_g0, sob_g1, sob_g2, sob_g3, sob_g4, sob_g5, sob_g6, sob_g7, sob_g8, sob_g9, sob_s5, sob_s6, sob_s7, sob_s8, sob_s9, sob_len, qob_g0, qob_g1, qob_g2, qob_g3, qob_g4, qob_g5, qob_s0, qob_s1, qob_s2, qob_s3, qob_s4, qob_s5, qob_len, wob_g0, wob_g1, wob_g2, wob_s0, wob_s1, wob_s2, wob_len, pob_g0, pob_g1, pob_g2, pob_g3, pob_g4, pob_s0, pob_s1, pob_s2, pob_s3, pob_s4, pob_len, n_lt, n_eq, n_lt0, n_0lt, n_eq0, n_cl, n_add, n_mul, n_l, n_eqm, n_ltm, n_mlt, n_m1, l_lt, l_eq, l_lt0, l_0lt, l_eq0, l_add, l_mul, l_i, g_lt, g_eq, g_gt, n_div, n_rem, l_div, l_mod, n01_0, n01_1, n_1e, n_0e1, ald_i, ald_o, ald_l, ald_z, ald_a, ast_i, ast_l, ast_z, ast_a, zI_t, zI_f, zI_ok, zI_eq0, r_Q_takeLeast_0, r_Q_takeLeast_1, r_Q_takeLeast_4, r_Q_takeLeast_7, r_Q_takeLeast_8, r_Q_takeLeast_9, r_Q_takeLeast_10, r_Q_takeLeast_13, r_Q_takeLeast_14, r_Q_takeLeast_15, r_Q_takeLeast_16, r_Q_takeLeast_17, r_Q_takeLeast_18, r_Q_takeLeast_21, r_Q_takeLeast_22, r_Q_takeLeast_23, r_Q_takeLeast_26, r_Q_takeLeast_27, r_Q_takeLeast_30, r_Q_takeLeast_33, r_Q_takeLeast_34, r_Q_takeLeast_35, r_Q_takeLeast_38, r_Q_takeLeast_39, r_Q_takeLeast_42, r_Q_takeLeast_43, r_Q_takeLeast_46, r_Q_takeLeast_47, r_Q_takeLeast_50, r_Q_takeLeast_51, r_Q_takeLeast_53, r_Q_takeLeast_54, r_Q_takeLeast_55, q1, q4, q5, n_sub, up_1, n3, n4, Ne.symm n3, Ne.symm n4, Nat.zero_add, Nat.sub_self, Nat.lt_irrefl]
    exact fin _ S H (hQ.cnt 0) (i6.take0 (fun e => Iff.rfl)) (fun _ _ => rfl) (fun r hr => hr.1.2) (QG.rf.up (by omega))
  · have np : 0 < n := by omega
    simp (disch := omega) only [mx_li, mx_ll, mx_la, mx_get, mx_s1, mx_s2, mx_tl, mx_nl, mx_ic, mx_op, mx_oc, mx_fd, mx_lg, mx_ls, mx_pd, mx_len, mx_isc, mx_ps, mx_ent, mx_rv, ↓reduceIte, List.length_cons, List.length_nil, Nat.reduceAdd, Nat.reduceLT, Nat.reduceEqDiff, Nat.reduceBEq, true_and, and_true, or_false, or_true, false_or, true_or, and_self, not_false_eq_true, not_true_eq_false, mob_g0, mob_g1, mob_g2, mob_g3, mob_g4, mob_g5, mob_g6, mob_g7, mob_g8, mob_g9, mob_g10, mob_g11, mob_g12, mob_g13, mob_g14, mob_g15, mob_g16, mob_g17, mob_g18, mob_g19, mob_g20, mob_g21, mob_g22, mob_g23, mob_g24, mob_g25, mob_g26, mob_g27, mob_g28, mob_g29, mob_g30, mob_g31, mob_g32, mob_s0, mob_s1, mob_s11, mob_s12, mob_s13, mob_s14, mob_s15, mob_s19, mob_s20, mob_s21, mob_s22, mob_s23, mob_s24, mob_s31, mob_len, xob_g0, xob_g1, xob_g2, xob_g3, xob_g4, xob_g5, xob_g6, xob_s3, xob_s4, xob_s5, xob_s6, xob_len, gob_g0, gob_g1, gob_g2, gob_g3, gob_g4, gob_g5, gob_g6, gob_g7, gob_g8, gob_g9, gob_g10, gob_g11, gob_g12, gob_g13, gob_g14, gob_g15, gob_g16, gob_g17, gob_s0, gob_s1, gob_s2, gob_s15, gob_s16, gob_s17, gob_len, sob_g0, sob_g1, sob_g2, sob_g3, sob_g4, sob_g5, sob_g6, sob_g7, sob_g8, sob_g9, sob_s5, sob_s6, sob_s7, sob_s8, sob_s9, sob_len, qob_g0, qob_g1, qob_g2, qob_g3, qob_g4, qob_g5, qob_s0, qob_s1, qob_s2, qob_s3, qob_s4, qob_s5, qob_len, wob_g0, wob_g1, wob_g2, wob_s0, wob_s1, wob_s2, wob_len, pob_g0, pob_g1, pob_g2, pob_g3, pob_g4, pob_s0, pob_s1, pob_s2, pob_s3, pob_s4, pob_len, n_lt, n_eq, n_lt0, n_0lt, n_eq0, n_cl, n_add, n_mul, n_l, n_eqm, n_ltm, n_mlt, n_m1, l_lt, l_eq, l_lt0, l_0lt, l_eq0, l_add, l_mul, l_i, g_lt, g_eq, g_gt, n_div, n_rem, l_div, l_mod, n01_0, n01_1, n_1e, n_0e1, ald_i, ald_o, ald_l, ald_z, ald_a, ast_i, ast_l, ast_z, ast_a, zI_t, zI_f, zI_ok, zI_eq0, r_Q_takeLeast_0, r_Q_takeLeast_1, r_Q_takeLeast_4, r_Q_takeLeast_7, r_Q_takeLeast_8, r_Q_takeLeast_9, r_Q_takeLeast_10, r_Q_takeLeast_13, r_Q_takeLeast_14, r_Q_takeLeast_15, r_Q_takeLeast_16, r_Q_takeLeast_17, r_Q_takeLeast_18, r_Q_takeLeast_21, r_Q_takeLeast_22, r_Q_takeLeast_23, r_Q_takeLeast_26, r_Q_takeLeast_27, r_Q_takeLeast_30, r_Q_takeLeast_33, r_Q_takeLeast_34, r_Q_takeLeast_35, r_Q_takeLeast_38, r_Q_takeLeast_39, r_Q_takeLeast_42, r_Q_takeLeast_43, r_Q_takeLeast_46, r_Q_takeLeast_47, r_Q_takeLeast_50, r_Q_takeLeast_51, r_Q_takeLeast_53, r_Q_takeLeast_54, r_Q_takeLeast_55, q1, q4, q5, n_sub, up_1, n3, n4, Ne.symm n3, Ne.symm n4, np, hn1]
    have hsi := i6.take (op' := fun e => QOp rc S e ∧ e ≠ H 0) (fun e => Iff.rfl) np
    have hQ1 := hQ.cnt n
    refine c_Q_sink i1 (by omega) hop' (fun a b ha hb => i5 a b ha.1 hb.1) i3 i4 hQ1 hsi (fun r a b => a.1.2) (fun h' S' H' a1 a2 a3 a4 a5 => ?_)
    obtain ⟨p1, p2, p3, p4, p5, -⟩ := id a1
    simp (disch := omega) only [mx_li, mx_ll, mx_la, mx_get, mx_s1, mx_s2, mx_tl, mx_nl, mx_ic, mx_op, mx_oc, mx_fd, mx_lg, mx_ls, mx_pd, mx_len, mx_isc, mx_ps, mx_ent, mx_rv, ↓reduceIte, List.length_cons, List.length_nil, Nat.reduceAdd, Nat.reduceLT, Nat.reduceEqDiff, Nat.reduceBEq, true_and, and_true, or_false, or_true, false_or, true_or, and_self, not_false_eq_true, not_true_eq_false, mob_g0, mob_g1, mob_g2, mob_g3, mob_g4, mob_g5, mob_g6, mob_g7, mob_g8, mob_g9, mob_g10, mob_g11, mob_g12, mob_g13, mob_g14, mob_g15, mob_g16, mob_g17, mob_g18, mob_g19, mob_g20, mob_g21, mob_g22, mob_g23, mob_g24, mob_g25, mob_g26, mob_g27, mob_g28, mob_g29, mob_g30, mob_g31, mob_g32, mob_s0, mob_s1, mob_s11, mob_s12, mob_s13, mob_s14, mob_s15, mob_s19, mob_s20, mob_s21, mob_s22, mob_s23, mob_s24, mob_s31, mob_len, xob_g0, xob_g1, xob_g2, xob_g3, xob_g4, xob_g5, xob_g6, xob_s3, xob_s4, xob_s5, xob_s6, xob_len, gob_g0, gob_g1, gob_g2, gob_g3, gob_g4, gob_g5, gob_g6, gob_g7, gob_g8, gob_g9, gob_g10, gob_g11, gob_g12, gob_g13, gob_g14, gob_g15, gob_g16, gob_g17, gob_s0, gob_s1, gob_s2, gob_s15, gob_s16, gob_s17, gob_len, sob_g0, sob_g1, sob_g2, sob_g3, sob_g4, sob_g5, sob_g6, sob_g7, sob_g8, sob_g9, sob_s5, sob_s6, sob_s7, sob_s8, sob_s9, sob_len, qob_g0, qob_g1, qob_g2, qob_g3, qob_g4, qob_g5, qob_s0, qob_s1, qob_s2, qob_s3, qob_s4, qob_s5, qob_len, wob_g0, wob_g1, wob_g2, wob_s0, wob_s1, wob_s2, wob_len, pob_g0, pob_g1, pob_g2, pob_g3, pob_g4, pob_s0, pob_s1, pob_s2, pob_s3, pob_s4, pob_len, n_lt, n_eq, n_lt0, n_0lt, n_eq0, n_cl, n_add, n_mul, n_l, n_eqm, n_ltm, n_mlt, n_m1, l_lt, l_eq, l_lt0, l_0lt, l_eq0, l_add, l_mul, l_i, g_lt, g_eq, g_gt, n_div, n_rem, l_div, l_mod, n01_0, n01_1, n_1e, n_0e1, ald_i, ald_o, ald_l, ald_z, ald_a, ast_i, ast_l, ast_z, ast_a, zI_t, zI_f, zI_ok, zI_eq0, r_Q_takeLeast_0, r_Q_takeLeast_1, r_Q_takeLeast_4, r_Q_takeLeast_7, r_Q_takeLeast_8, r_Q_takeLeast_9, r_Q_takeLeast_10, r_Q_takeLeast_13, r_Q_takeLeast_14, r_Q_takeLeast_15, r_Q_takeLeast_16, r_Q_takeLeast_17, r_Q_takeLeast_18, r_Q_takeLeast_21, r_Q_takeLeast_22, r_Q_takeLeast_23, r_Q_takeLeast_26, r_Q_takeLeast_27, r_Q_takeLeast_30, r_Q_takeLeast_33, r_Q_takeLeast_34, r_Q_takeLeast_35, r_Q_takeLeast_38, r_Q_takeLeast_39, r_Q_takeLeast_42, r_Q_takeLeast_43, r_Q_takeLeast_46, r_Q_takeLeast_47, r_Q_takeLeast_50, r_Q_takeLeast_51, r_Q_takeLeast_53, r_Q_takeLeast_54, r_Q_takeLeast_55, p1, p4, up_1]
    exact fin h' S' H' a1 a2 a3 a4 ((QG.rf.up (Or.inl rfl)).tr a5.g)
end TAKE
