/-! BITS: how many are set, as the JDK counts them -/
theorem nx_and (a b : Nat) : nI a &&& nI b = nI (a &&& b) := by
  apply Int32.toBitVec_inj.mp
  simp [nI, BitVec.ofNat_and]
theorem nx_or (a b : Nat) : nI a ||| nI b = nI (a ||| b) := by
  apply Int32.toBitVec_inj.mp
  simp [nI, BitVec.ofNat_or]
theorem nx_ushr {n k : Nat} (hn : n < 4294967296) (hk : k < 32) : i_ushr (nI n) (nI k) = nI (n / 2 ^ k) := by
  refine pk_ushrN hn (nI k) k ?_
  have : ∀ k : Fin 32, (((nI k.val).toUInt32 &&& Int32.toUInt32 31).toBitVec % 32).toNat = k.val := by decide +kernel
  exact this ⟨k, hk⟩
theorem e_bitCount {n : Nat} (hn : n < 65536) (h : mxH) (K : Option Value → mxH → Prop) : mcl mx_P 136 [.int (nI n)] h K ↔ K (some (.int (nI (bcN n)))) h := by
  rw [mcl]
  have l1 : (n / 2 &&& 1431655765) ≤ n := Nat.le_trans Nat.and_le_left (by omega)
  have a1 : n - (n / 2 &&& 1431655765) < 65536 := by omega
  generalize ha : n - (n / 2 &&& 1431655765) = a at a1
  have l2 : (a &&& 858993459) ≤ a := Nat.and_le_left
  have l3 : (a / 4 &&& 858993459) ≤ a / 4 := Nat.and_le_left
  have b1 : (a &&& 858993459) + (a / 4 &&& 858993459) < 131072 := by omega
  generalize hb : (a &&& 858993459) + (a / 4 &&& 858993459) = b at b1
  have l4 : (b + b / 16 &&& 252645135) ≤ b + b / 16 := Nat.and_le_left
  have c1 : (b + b / 16 &&& 252645135) < 262144 := by omega
  generalize hc : (b + b / 16 &&& 252645135) = c at c1
  have hbc : bcN n = ((c + c / 256) + (c + c / 256) / 65536) &&& 63 := by
    unfold bcN
    rw [ha, hb, hc]
  rw [hbc]
  simp (disch := omega) only [mx_li, mx_ll, mx_la, mx_get, mx_s1, mx_s2, mx_tl, mx_nl, mx_ic, mx_op, mx_oc, mx_fd, mx_lg, mx_ls, mx_pd, mx_len, mx_isc, mx_ps, mx_ent, mx_rv, ↓reduceIte, List.length_cons, List.length_nil, Nat.reduceAdd, Nat.reduceLT, Nat.reduceEqDiff, Nat.reduceBEq, true_and, and_true, or_false, or_true, false_or, true_or, and_self, not_false_eq_true, not_true_eq_false, mob_g0, mob_g1, mob_g2, mob_g3, mob_g4, mob_g5, mob_g6, mob_g7, mob_g8, mob_g9, mob_g10, mob_g11, mob_g12, mob_g13, mob_g14, mob_g15, mob_g16, mob_g17, mob_g18, mob_g19, mob_g20, mob_g21, mob_g22, mob_g23, mob_g24, mob_g25, mob_g26, mob_g27, mob_g28, mob_g29, mob_g30, mob_g31, mob_g32, mob_s0, mob_s1, mob_s11, mob_s12, mob_s13, mob_s14, mob_s15, mob_s19, mob_s20, mob_s21, mob_s22, mob_s23, mob_s24, mob_s31, mob_len, xob_g0, xob_g1, xob_g2, xob_g3, xob_g4, xob_g5, xob_g6, xob_s3, xob_s4, xob_s5, xob_s6, xob_len, gob_g0, gob_g1, gob_g2, gob_g3, gob_g4, gob_g5, gob_g6, gob_g7, gob_g8, gob_g9, gob_g10, gob_g11, gob_g12, gob_g13, gob_g14, gob_g15, gob_g16, gob_g17, gob_s0, gob_s1, gob_s2, gob_s15, gob_s16, gob_s17, gob_len, sob_g0, sob_g1, sob_g2, sob_g3, sob_g4, sob_g5, sob_g6, sob_g7, sob_g8, sob_g9, sob_s5, sob_s6, sob_s7, sob_s8, sob_s9, sob_len, qob_g0, qob_g1, qob_g2, qob_g3, qob_g4, qob_g5, qob_s0, qob_s1, qob_s2, qob_s3, qob_s4, qob_s5, qob_len, wob_g0, wob_g1, wob_g2, wob_s0, wob_s1, wob_s2, wob_len, pob_g0, pob_g1, pob_g2, pob_g3, pob_g4, pob_s0, pob_s1, pob_s2, pob_s3, pob_s4, pob_len, r_JI_bitCount_0, r_JI_bitCount_1, r_JI_bitCount_2, r_JI_bitCount_3, r_JI_bitCount_4, r_JI_bitCount_7, r_JI_bitCount_8, r_JI_bitCount_9, r_JI_bitCount_10, r_JI_bitCount_11, r_JI_bitCount_14, r_JI_bitCount_15, r_JI_bitCount_16, r_JI_bitCount_17, r_JI_bitCount_18, r_JI_bitCount_21, r_JI_bitCount_22, r_JI_bitCount_23, r_JI_bitCount_24, r_JI_bitCount_25, r_JI_bitCount_26, r_JI_bitCount_27, r_JI_bitCount_28, r_JI_bitCount_29, r_JI_bitCount_32, r_JI_bitCount_33, r_JI_bitCount_34, r_JI_bitCount_35, r_JI_bitCount_36, r_JI_bitCount_38, r_JI_bitCount_39, r_JI_bitCount_40, r_JI_bitCount_41, r_JI_bitCount_42, r_JI_bitCount_43, r_JI_bitCount_45, r_JI_bitCount_46, r_JI_bitCount_47, r_JI_bitCount_48, r_JI_bitCount_49, r_JI_bitCount_51, r_JI_bitCount_52, nx_ushr, nx_and, n_sub, n_add, Nat.reducePow, ha, hb, hc]
theorem pkm_lt {gs : mG} (hB : GB gs) (c : Nat) : pkm gs c < 65536 := by
  have b := hB.2.2.2.2.2.2.1
  unfold pkm
  have b0 := b c; have b1 := b (144 + c); have b2 := b (288 + c); have b3 := b (432 + c); have b4 := b (576 + c); have b5 := b (720 + c); have b6 := b (864 + c); have b7 := b (1008 + c)
  omega
theorem dig4 {a b c d q : Nat} (ha : a ≤ 3) (hb : b ≤ 3) (hc : c ≤ 3) (hd : d ≤ 3) (h : a + 4 * b + 16 * c + 64 * d = q) : q % 4 = a ∧ q / 4 % 4 = b ∧ q / 16 % 4 = c ∧ q / 64 = d ∧ q < 256 := by
  refine ⟨by omega, by omega, by omega, by omega, by omega⟩
theorem bc_msum {gs : mG} (hB : GB gs) (c : Nat) : bcN (pkm gs c &&& 21845) + 2 * bcN (pkm gs c &&& 43690) = msum gs c := by
  have b := hB.2.2.2.2.2.2.1
  have b0 := b c; have b1 := b (144 + c); have b2 := b (288 + c); have b3 := b (432 + c); have b4 := b (576 + c); have b5 := b (720 + c); have b6 := b (864 + c); have b7 := b (1008 + c)
  generalize hq : gs 6 (576 + c) + 4 * gs 6 (720 + c) + 16 * gs 6 (864 + c) + 64 * gs 6 (1008 + c) = q
  generalize hp : gs 6 c + 4 * gs 6 (144 + c) + 16 * gs 6 (288 + c) + 64 * gs 6 (432 + c) = p
  have e : p + 256 * q = pkm gs c := by unfold pkm; omega
  obtain ⟨d0, d1, d2, d3, d4⟩ := dig4 b0 b1 b2 b3 hp
  obtain ⟨e0, e1, e2, e3, e4⟩ := dig4 b4 b5 b6 b7 hq
  have h := bc_dec q e4 p d4
  rw [e] at h
  rw [h]
  unfold msum
  rw [d0, d1, d2, d3, e0, e1, e2, e3]
/-- how many persons have marks on a cell -/
def mcnt (gs : mG) (c : Nat) : Nat := (if gs 6 c = 0 then 0 else 1) + (if gs 6 (144 + c) = 0 then 0 else 1) + (if gs 6 (288 + c) = 0 then 0 else 1) + (if gs 6 (432 + c) = 0 then 0 else 1) + (if gs 6 (576 + c) = 0 then 0 else 1) + (if gs 6 (720 + c) = 0 then 0 else 1) + (if gs 6 (864 + c) = 0 then 0 else 1) + (if gs 6 (1008 + c) = 0 then 0 else 1)
theorem bc_mcnt {gs : mG} (hB : GB gs) (c : Nat) : bcN ((pkm gs c ||| pkm gs c / 2) &&& 21845) = mcnt gs c := by
  have b := hB.2.2.2.2.2.2.1
  have b0 := b c; have b1 := b (144 + c); have b2 := b (288 + c); have b3 := b (432 + c); have b4 := b (576 + c); have b5 := b (720 + c); have b6 := b (864 + c); have b7 := b (1008 + c)
  generalize hq : gs 6 (576 + c) + 4 * gs 6 (720 + c) + 16 * gs 6 (864 + c) + 64 * gs 6 (1008 + c) = q
  generalize hp : gs 6 c + 4 * gs 6 (144 + c) + 16 * gs 6 (288 + c) + 64 * gs 6 (432 + c) = p
  have e : p + 256 * q = pkm gs c := by unfold pkm; omega
  obtain ⟨d0, d1, d2, d3, d4⟩ := dig4 b0 b1 b2 b3 hp
  obtain ⟨e0, e1, e2, e3, e4⟩ := dig4 b4 b5 b6 b7 hq
  have h := bc_any q e4 p d4
  rw [e] at h
  rw [h]
  unfold mcnt
  rw [d0, d1, d2, d3, e0, e1, e2, e3]
theorem bcN_le (n : Nat) : bcN n ≤ 63 := by
  unfold bcN
  exact Nat.and_le_right
theorem val_lt {gs : mG} (hB : GB gs) (a c : Nat) : val gs a c ≤ 1239 := by
  have h7 := hB.2.2.2.2.2.2.2.1 (144 * a + c)
  have b := hB.2.2.2.2.2.2.1
  unfold val msum
  have b0 := b c; have b1 := b (144 + c); have b2 := b (288 + c); have b3 := b (432 + c); have b4 := b (576 + c); have b5 := b (720 + c); have b6 := b (864 + c); have b7 := b (1008 + c)
  split <;> omega
set_option maxHeartbeats 1000000 in
theorem e_G_valueOf {h : mxH} {w hh a c : Nat} {gs : mG} (hX : XG h w hh gs) (hB : GB gs) (hn : w * hh ≤ 144) (hc : c < w * hh) (ha : a < 4) (K : Option Value → mxH → Prop) : mcl mx_P 33 [.ref 17, .int (nI a), .int (nI c)] h K ↔ K (some (.long (lN (val gs a c)))) h := by
  obtain ⟨x17, x18, x19, x20, x21, x22, x23, x24, x25, x26, x27, x28, x29⟩ := hX
  have h7 := hB.2.2.2.2.2.2.2.1 (144 * a + c)
  have hp := pkm_lt hB c
  have hi : a * (w * hh) + c < 4 * (w * hh) := by
    have : (a + 1) * (w * hh) ≤ 4 * (w * hh) := Nat.mul_le_mul_right _ (by omega)
    rw [Nat.add_mul] at this
    omega
  have hd : (a * (w * hh) + c) / (w * hh) = a := by
    rw [Nat.add_comm, Nat.add_mul_div_right _ _ (by omega), Nat.div_eq_of_lt hc, Nat.zero_add]
  have hm : (a * (w * hh) + c) % (w * hh) = c := by
    rw [Nat.add_comm, Nat.add_mul_mod_self_right, Nat.mod_eq_of_lt hc]
  have hc2 : c < 144 := by omega
  have l1 : (pkm gs c &&& 21845) ≤ 21845 := Nat.and_le_right
  have l2 : (pkm gs c &&& 43690) ≤ 43690 := Nat.and_le_right
  have l3 := bcN_le (pkm gs c &&& 21845)
  have l4 := bcN_le (pkm gs c &&& 43690)
  rw [mcl]
  simp (disch := omega) only [n_lt, n_eq, n_lt0, n_0lt, n_eq0, n_cl, n_add, n_mul, n_l, n_eqm, n_ltm, n_mlt, n_m1, l_lt, l_eq, l_lt0, l_0lt, l_eq0, l_add, l_mul, l_i, g_lt, g_eq, g_gt, n_div, n_rem, l_div, l_mod, n01_0, n01_1, n_1e, n_0e1, ald_i, ald_o, ald_l, ald_z, ald_a, ast_i, ast_l, ast_z, ast_a, zI_t, zI_f, zI_ok, zI_eq0, mx_li, mx_ll, mx_la, mx_get, mx_s1, mx_s2, mx_tl, mx_nl, mx_ic, mx_op, mx_oc, mx_fd, mx_lg, mx_ls, mx_pd, mx_len, mx_isc, mx_ps, mx_ent, mx_rv, ↓reduceIte, List.length_cons, List.length_nil, Nat.reduceAdd, Nat.reduceLT, Nat.reduceEqDiff, Nat.reduceBEq, true_and, and_true, or_false, or_true, false_or, true_or, and_self, not_false_eq_true, not_true_eq_false, mob_g0, mob_g1, mob_g2, mob_g3, mob_g4, mob_g5, mob_g6, mob_g7, mob_g8, mob_g9, mob_g10, mob_g11, mob_g12, mob_g13, mob_g14, mob_g15, mob_g16, mob_g17, mob_g18, mob_g19, mob_g20, mob_g21, mob_g22, mob_g23, mob_g24, mob_g25, mob_g26, mob_g27, mob_g28, mob_g29, mob_g30, mob_g31, mob_g32, mob_s0, mob_s1, mob_s11, mob_s12, mob_s13, mob_s14, mob_s15, mob_s19, mob_s20, mob_s21, mob_s22, mob_s23, mob_s24, mob_s31, mob_len, xob_g0, xob_g1, xob_g2, xob_g3, xob_g4, xob_g5, xob_g6, xob_s3, xob_s4, xob_s5, xob_s6, xob_len, gob_g0, gob_g1, gob_g2, gob_g3, gob_g4, gob_g5, gob_g6, gob_g7, gob_g8, gob_g9, gob_g10, gob_g11, gob_g12, gob_g13, gob_g14, gob_g15, gob_g16, gob_g17, gob_s0, gob_s1, gob_s2, gob_s15, gob_s16, gob_s17, gob_len, sob_g0, sob_g1, sob_g2, sob_g3, sob_g4, sob_g5, sob_g6, sob_g7, sob_g8, sob_g9, sob_s5, sob_s6, sob_s7, sob_s8, sob_s9, sob_len, qob_g0, qob_g1, qob_g2, qob_g3, qob_g4, qob_g5, qob_s0, qob_s1, qob_s2, qob_s3, qob_s4, qob_s5, qob_len, wob_g0, wob_g1, wob_g2, wob_s0, wob_s1, wob_s2, wob_len, pob_g0, pob_g1, pob_g2, pob_g3, pob_g4, pob_s0, pob_s1, pob_s2, pob_s3, pob_s4, pob_len, r_G_valueOf_0, r_G_valueOf_1, r_G_valueOf_4, r_G_valueOf_5, r_G_valueOf_6, r_G_valueOf_9, r_G_valueOf_10, r_G_valueOf_11, r_G_valueOf_12, r_G_valueOf_13, r_G_valueOf_14, r_G_valueOf_15, r_G_valueOf_16, r_G_valueOf_17, r_G_valueOf_20, r_G_valueOf_21, r_G_valueOf_22, r_G_valueOf_23, r_G_valueOf_26, r_G_valueOf_27, r_G_valueOf_28, r_G_valueOf_30, r_G_valueOf_31, r_G_valueOf_33, r_G_valueOf_35, r_G_valueOf_38, r_G_valueOf_39, r_G_valueOf_42, r_G_valueOf_43, r_G_valueOf_45, r_G_valueOf_47, r_G_valueOf_48, r_G_valueOf_51, r_G_valueOf_52, r_G_valueOf_53, r_G_valueOf_54, r_G_valueOf_55, r_G_valueOf_56, x17, x27, x28, hd, hm, hc2, nx_and, e_bitCount, bc_msum hB]
  unfold val
  by_cases e : a = 3
  · have hs := bc_msum hB c
    rw [if_pos e, if_pos e, ← hs]
    have : 10 * (bcN (pkm gs c &&& 21845) + 2 * bcN (pkm gs c &&& 43690)) < 2147483648 := by omega
    simp (disch := omega) only [n_lt, n_eq, n_lt0, n_0lt, n_eq0, n_cl, n_add, n_mul, n_l, n_eqm, n_ltm, n_mlt, n_m1, l_lt, l_eq, l_lt0, l_0lt, l_eq0, l_add, l_mul, l_i, g_lt, g_eq, g_gt, n_div, n_rem, l_div, l_mod, n01_0, n01_1, n_1e, n_0e1, ald_i, ald_o, ald_l, ald_z, ald_a, ast_i, ast_l, ast_z, ast_a, zI_t, zI_f, zI_ok, zI_eq0, Nat.mul_comm]
  · simp [e]
