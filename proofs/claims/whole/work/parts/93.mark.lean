/-! MARKS, both sides -/
theorem and_sp {a b A B : Nat} (ha : a < 256) (hA : A < 256) : (256 * b + a) &&& (256 * B + A) = 256 * (b &&& B) + (a &&& A) := by
  have h1 : (a &&& A) < 2 ^ 8 := Nat.lt_of_le_of_lt Nat.and_le_left ha
  apply Nat.eq_of_testBit_eq
  intro i
  rw [Nat.testBit_and, show 256 * b + a = 2 ^ 8 * b + a from rfl, show 256 * B + A = 2 ^ 8 * B + A from rfl, show 256 * (b &&& B) + (a &&& A) = 2 ^ 8 * (b &&& B) + (a &&& A) from rfl, Nat.testBit_two_pow_mul_add _ ha, Nat.testBit_two_pow_mul_add _ hA, Nat.testBit_two_pow_mul_add _ h1]
  split <;> rw [Nat.testBit_and]
theorem or_sp {a b A B : Nat} (ha : a < 256) (hA : A < 256) : (256 * b + a) ||| (256 * B + A) = 256 * (b ||| B) + (a ||| A) := by
  have h1 : (a ||| A) < 2 ^ 8 := Nat.or_lt_two_pow ha hA
  apply Nat.eq_of_testBit_eq
  intro i
  rw [Nat.testBit_or, show 256 * b + a = 2 ^ 8 * b + a from rfl, show 256 * B + A = 2 ^ 8 * B + A from rfl, show 256 * (b ||| B) + (a ||| A) = 2 ^ 8 * (b ||| B) + (a ||| A) from rfl, Nat.testBit_two_pow_mul_add _ ha, Nat.testBit_two_pow_mul_add _ hA, Nat.testBit_two_pow_mul_add _ h1]
  split <;> rw [Nat.testBit_or]
theorem dig_tab : ∀ p, p < 4 → ∀ k, k < 4 → ∀ a, a < 256 → ((a &&& (255 - 3 * 4 ^ p)) ||| (k * 4 ^ p) = a - 4 ^ p * (a / 4 ^ p % 4) + 4 ^ p * k ∧ 255 - 3 * 4 ^ p < 256 ∧ k * 4 ^ p < 256 ∧ (a &&& (255 - 3 * 4 ^ p)) < 256) := by decide +kernel
theorem and_lo {b : Nat} (hb : b < 256) : b &&& 16777215 = b := by
  have := Nat.and_two_pow_sub_one_eq_mod b 24
  rw [show (2 : Nat) ^ 24 - 1 = 16777215 from rfl] at this
  rw [this]
  omega
/-- one digit of a cell's marks changed -/
theorem pk_set {a b p k : Nat} (ha : a < 256) (hb : b < 256) (hk : k < 4) (hp : p < 8) : ((a + 256 * b) &&& (4294967295 - 3 * 4 ^ p)) ||| (k * 4 ^ p) = if p < 4 then (a - 4 ^ p * (a / 4 ^ p % 4) + 4 ^ p * k) + 256 * b else a + 256 * (b - 4 ^ (p - 4) * (b / 4 ^ (p - 4) % 4) + 4 ^ (p - 4) * k) := by
  by_cases h4 : p < 4
  · rw [if_pos h4]
    obtain ⟨t1, t2, t3, t4⟩ := dig_tab p h4 k hk a ha
    have e1 : 4294967295 - 3 * 4 ^ p = 256 * 16777215 + (255 - 3 * 4 ^ p) := by
      rcases (show p = 0 ∨ p = 1 ∨ p = 2 ∨ p = 3 by omega) with rfl | rfl | rfl | rfl <;> rfl
    rw [Nat.add_comm a, e1, and_sp ha t2, and_lo hb, show k * 4 ^ p = 256 * 0 + k * 4 ^ p by omega, or_sp t4 t3, t1, Nat.or_zero, Nat.add_comm]
  · rw [if_neg h4]
    obtain ⟨t1, t2, t3, t4⟩ := dig_tab (p - 4) (by omega) k hk b hb
    have e1 : 4294967295 - 3 * 4 ^ p = 256 * (256 * 65535 + (255 - 3 * 4 ^ (p - 4))) + 255 := by
      rcases (show p = 4 ∨ p = 5 ∨ p = 6 ∨ p = 7 by omega) with rfl | rfl | rfl | rfl <;> rfl
    have e2 : k * 4 ^ p = 256 * (k * 4 ^ (p - 4)) + 0 := by
      rcases (show p = 4 ∨ p = 5 ∨ p = 6 ∨ p = 7 by omega) with rfl | rfl | rfl | rfl <;> omega
    have e3 : a &&& 255 = a := by
      have := Nat.and_two_pow_sub_one_eq_mod a 8
      rw [show (2 : Nat) ^ 8 - 1 = 255 from rfl] at this
      rw [this]; omega
    have e4 : b &&& (256 * 65535 + (255 - 3 * 4 ^ (p - 4))) = (b &&& (255 - 3 * 4 ^ (p - 4))) := by
      have := and_sp (b := 0) (B := 65535) hb t2
      rw [Nat.mul_zero, Nat.zero_add, Nat.zero_and, Nat.mul_zero, Nat.zero_add] at this
      exact this
    rw [Nat.add_comm a, e1, and_sp ha (by decide), e3, e4, e2, or_sp ha (by decide), t1, Nat.or_zero, Nat.add_comm]
theorem pkm_set {gs : mG} (hB : GB gs) {p c k : Nat} (hk : k < 4) (hp : p < 8) : (pkm gs c &&& (4294967295 - 3 * 4 ^ p)) ||| (k * 4 ^ p) = pkm (gsu gs 6 (144 * p + c) k) c := by
  have b := hB.2.2.2.2.2.2.1
  have b0 := b c; have b1 := b (144 + c); have b2 := b (288 + c); have b3 := b (432 + c); have b4 := b (576 + c); have b5 := b (720 + c); have b6 := b (864 + c); have b7 := b (1008 + c)
  generalize hq : gs 6 (576 + c) + 4 * gs 6 (720 + c) + 16 * gs 6 (864 + c) + 64 * gs 6 (1008 + c) = q
  generalize hr : gs 6 c + 4 * gs 6 (144 + c) + 16 * gs 6 (288 + c) + 64 * gs 6 (432 + c) = r
  have e : pkm gs c = r + 256 * q := by unfold pkm; omega
  have r2 : r < 256 := by omega
  have q2 : q < 256 := by omega
  obtain ⟨d0, d1, d2, d3, -⟩ := dig4 b0 b1 b2 b3 hr
  obtain ⟨e0, e1, e2, e3, -⟩ := dig4 b4 b5 b6 b7 hq
  rw [e, pk_set r2 q2 hk hp]
  have e3' : q / 64 % 4 = gs 6 (1008 + c) := by rw [e3]; exact Nat.mod_eq_of_lt (by omega)
  have d3' : r / 64 % 4 = gs 6 (432 + c) := by rw [d3]; exact Nat.mod_eq_of_lt (by omega)
  clear e3 d3
  rcases (show p = 0 ∨ p = 1 ∨ p = 2 ∨ p = 3 ∨ p = 4 ∨ p = 5 ∨ p = 6 ∨ p = 7 by omega) with rfl | rfl | rfl | rfl | rfl | rfl | rfl | rfl <;>
  · simp only [Nat.reducePow, Nat.reduceMul, Nat.reduceSub, Nat.reduceLT, ↓reduceIte, Nat.div_one, Nat.zero_add, Nat.one_mul, Nat.pow_zero, Nat.mul_zero, d0, d1, d2, d3', e0, e1, e2, e3']
    clear d0 d1 d2 d3' e0 e1 e2 e3'
    unfold pkm
    simp [gsu]
    omega
section MARK
variable {h : mxH} {w hh : Nat} {gs : mG} {fc lp : Int32} {ln lb : Int64}
theorem shl_m {p k : Nat} (hp : p < 8) (hk : k < 4) : i_shl (nI k) (nI (2 * p)) = nI (k * 4 ^ p) := by
  have : ∀ p, p < 8 → ∀ k, k < 4 → i_shl (nI k) (nI (2 * p)) = nI (k * 4 ^ p) := by decide +kernel
  exact this p hp k hk
theorem msk_m {p : Nat} (hp : p < 8) : nI (3 * 4 ^ p) ^^^ (-1) = nI (4294967295 - 3 * 4 ^ p) := by
  have : ∀ p, p < 8 → nI (3 * 4 ^ p) ^^^ (-1) = nI (4294967295 - 3 * 4 ^ p) := by decide +kernel
  exact this p hp
theorem shr_1 {n : Nat} (h : n < 65536) : i_shr (nI n) (nI 1) = nI (n / 2) := by
  have := pk_shrN (n := n) (by omega) (nI 1 &&& 31) 1 (by decide)
  unfold i_shr
  rw [this]
theorem e_G_putMark {c p k : Nat} (hX : XG h w hh gs) (hB : GB gs) (hn : w * hh ≤ 144) (hc : c < w * hh) (hp : p < 8) (hk : k < 4) (K : Option Value → mxH → Prop) : mcl mx_P 32 [.ref 17, .int (nI c), .int (nI p), .int (nI k)] h K ↔ K (some (.int (nI (mcnt (gsu gs 6 (144 * p + c) k) c)))) (mx_up h 27 (.inl (0, w * hh, .inl (va_up (fun c => if c < 144 then nI (pkm gs c) else 0) c (nI (pkm (gsu gs 6 (144 * p + c) k) c)))))) := by
  have x17 := hX.1
  have x27 := hX.2.2.2.2.2.2.2.2.2.2.1
  have hc2 : c < 144 := by omega
  have hB2 : GB (gsu gs 6 (144 * p + c) k) := hB.put (by omega)
  have hl := pkm_lt hB2 c
  have l1 : ((pkm (gsu gs 6 (144 * p + c) k) c ||| pkm (gsu gs 6 (144 * p + c) k) c / 2) &&& 21845) ≤ 21845 := Nat.and_le_right
  rw [mcl]
  simp (disch := omega) only [mx_li, mx_ll, mx_la, mx_get, mx_s1, mx_s2, mx_tl, mx_nl, mx_ic, mx_op, mx_oc, mx_fd, mx_lg, mx_ls, mx_pd, mx_len, mx_isc, mx_ps, mx_ent, mx_rv, ↓reduceIte, List.length_cons, List.length_nil, Nat.reduceAdd, Nat.reduceLT, Nat.reduceEqDiff, Nat.reduceBEq, true_and, and_true, or_false, or_true, false_or, true_or, and_self, not_false_eq_true, not_true_eq_false, mob_g0, mob_g1, mob_g2, mob_g3, mob_g4, mob_g5, mob_g6, mob_g7, mob_g8, mob_g9, mob_g10, mob_g11, mob_g12, mob_g13, mob_g14, mob_g15, mob_g16, mob_g17, mob_g18, mob_g19, mob_g20, mob_g21, mob_g22, mob_g23, mob_g24, mob_g25, mob_g26, mob_g27, mob_g28, mob_g29, mob_g30, mob_g31, mob_g32, mob_s0, mob_s1, mob_s11, mob_s12, mob_s13, mob_s14, mob_s15, mob_s19, mob_s20, mob_s21, mob_s22, mob_s23, mob_s24, mob_s31, mob_len, xob_g0, xob_g1, xob_g2, xob_g3, xob_g4, xob_g5, xob_g6, xob_s3, xob_s4, xob_s5, xob_s6, xob_len, gob_g0, gob_g1, gob_g2, gob_g3, gob_g4, gob_g5, gob_g6, gob_g7, gob_g8, gob_g9, gob_g10, gob_g11, gob_g12, gob_g13, gob_g14, gob_g15, gob_g16, gob_g17, gob_s0, gob_s1, gob_s2, gob_s15, gob_s16, gob_s17, gob_len, sob_g0, sob_g1, sob_g2, sob_g3, sob_g4, sob_g5, sob_g6, sob_g7, sob_g8, sob_g9, sob_s5, sob_s6, sob_s7, sob_s8, sob_s9, sob_len, qob_g0, qob_g1, qob_g2, qob_g3, qob_g4, qob_g5, qob_s0, qob_s1, qob_s2, qob_s3, qob_s4, qob_s5, qob_len, wob_g0, wob_g1, wob_g2, wob_s0, wob_s1, wob_s2, wob_len, pob_g0, pob_g1, pob_g2, pob_g3, pob_g4, pob_s0, pob_s1, pob_s2, pob_s3, pob_s4, pob_len, n_lt, n_eq, n_lt0, n_0lt, n_eq0, n_cl, n_add, n_mul, n_l, n_eqm, n_ltm, n_mlt, n_m1, l_lt, l_eq, l_lt0, l_0lt, l_eq0, l_add, l_mul, l_i, g_lt, g_eq, g_gt, n_div, n_rem, l_div, l_mod, n01_0, n01_1, n_1e, n_0e1, ald_i, ald_o, ald_l, ald_z, ald_a, ast_i, ast_l, ast_z, ast_a, zI_t, zI_f, zI_ok, zI_eq0, r_G_putMark_0, r_G_putMark_1, r_G_putMark_2, r_G_putMark_3, r_G_putMark_5, r_G_putMark_6, r_G_putMark_9, r_G_putMark_10, r_G_putMark_11, r_G_putMark_12, r_G_putMark_14, r_G_putMark_15, r_G_putMark_16, r_G_putMark_17, r_G_putMark_18, r_G_putMark_19, r_G_putMark_21, r_G_putMark_22, r_G_putMark_23, r_G_putMark_25, r_G_putMark_26, r_G_putMark_29, r_G_putMark_30, r_G_putMark_32, r_G_putMark_33, r_G_putMark_35, r_G_putMark_37, r_G_putMark_38, r_G_putMark_39, r_G_putMark_40, r_G_putMark_43, r_G_putMark_44, r_G_putMark_47, x17, x27, hc2, shl_m, msk_m, nx_and, nx_or, pkm_set hB, shr_1, e_bitCount, bc_mcnt hB2, up_1, up_2]
end MARK
