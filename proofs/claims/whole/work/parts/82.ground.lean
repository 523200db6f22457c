/-! THE GROUND, as a mathematical value: field and place to a number. 0 price, 1 level, 2 barred, 3 most, 4 cents, 5 zone (place: the cell c); 6 mark (144 person + c); 7 value (144 aim + c); 8 weight (aim); 9 reach, slope, turn (0, 1, 2) -/
abbrev mG : Type := Nat → Nat → Nat
def gsu (gs : mG) (f i v : Nat) : mG := fun a j => if a = f ∧ j = i then v else gs a j
/-- what holds of every ground -/
def GB (gs : mG) : Prop := (∀ i, gs 0 i ≤ 999) ∧ (∀ i, gs 1 i ≤ 9999) ∧ (∀ i, gs 2 i ≤ 1) ∧ (∀ i, gs 3 i ≤ 3) ∧ (∀ i, gs 4 i ≤ 9999) ∧ (∀ i, gs 5 i ≤ 7) ∧ (∀ i, gs 6 i ≤ 3) ∧ (∀ i, gs 7 i ≤ 999) ∧ (∀ i, gs 8 i ≤ 1200) ∧ (gs 9 0 = 1 ∨ gs 9 0 = 2) ∧ gs 9 1 ≤ 9999 ∧ gs 9 2 ≤ 8
/-- all marks of a cell, four values each -/
def pkm (gs : mG) (c : Nat) : Nat := gs 6 c + 4 * gs 6 (144 + c) + 16 * gs 6 (288 + c) + 64 * gs 6 (432 + c) + 256 * gs 6 (576 + c) + 1024 * gs 6 (720 + c) + 4096 * gs 6 (864 + c) + 16384 * gs 6 (1008 + c)
def msum (gs : mG) (c : Nat) : Nat := gs 6 c + gs 6 (144 + c) + gs 6 (288 + c) + gs 6 (432 + c) + gs 6 (576 + c) + gs 6 (720 + c) + gs 6 (864 + c) + gs 6 (1008 + c)
/-- bridged; barred without a bridge -/
def brg (gs : mG) (c : Nat) : Bool := decide (gs 2 c = 1) && decide (0 < gs 3 c)
def sht (gs : mG) (c : Nat) : Bool := decide (gs 2 c = 1) && decide (gs 3 c = 0)
/-- a cell's value of an aim, marks counted -/
def val (gs : mG) (a c : Nat) : Nat := gs 7 (144 * a + c) + (if a = 3 then 10 * msum gs c else 0)
/-- what a unit of length into a cell costs, in sixtieths -/
def unt (gs : mG) (c : Nat) : Nat := if brg gs c = true then 60 * gs 4 c else 60 * gs 0 c + gs 8 0 * val gs 0 c + gs 8 1 * val gs 1 c + gs 8 2 * val gs 2 c + gs 8 3 * val gs 3 c
def dxl : List Int := [1, 2, 1, 1, 0, -1, -1, -2, -1, -2, -1, -1, 0, 1, 1, 2]
def dyl : List Int := [0, 1, 1, 2, 1, 2, 1, 1, 0, -1, -1, -2, -1, -2, -1, -1]
def lnl : List Nat := [10, 22, 14, 22, 10, 22, 14, 22, 10, 22, 14, 22, 10, 22, 14, 22]
/-- the cell that a heading leads to -/
def nbr (w hh c d : Nat) : Option Nat := if 0 ≤ (c % w : Int) + dxl.getD d 0 ∧ (c % w : Int) + dxl.getD d 0 < w ∧ 0 ≤ (c / w : Int) + dyl.getD d 0 ∧ (c / w : Int) + dyl.getD d 0 < hh then some (((c / w : Int) + dyl.getD d 0).toNat * w + ((c % w : Int) + dxl.getD d 0).toNat) else none
def oI (o : Option Nat) : Int32 := match o with
  | some k => nI k
  | none => -1
/-- the class's ground at its cells -/
def XG (h : mxH) (w hh : Nat) (gs : mG) : Prop :=
  h.1 17 = .inr (1, gob (nI w) (nI hh) (nI (w * hh)) (nI (gs 9 0)) (nI (gs 9 1)) (nI (gs 9 2))) ∧
  h.1 18 = .inl (0, w * hh, .inl (fun c => if c < w * hh then nI (c % w) else 0)) ∧ h.1 19 = .inl (0, w * hh, .inl (fun c => if c < w * hh then nI (c / w) else 0)) ∧ h.1 20 = .inl (0, w * hh * 16, .inl (fun i => if i < w * hh * 16 then oI (nbr w hh (i / 16) (i % 16)) else 0)) ∧
  h.1 21 = .inl (0, w * hh, .inl (fun c => nI (gs 0 c))) ∧ h.1 22 = .inl (0, w * hh, .inl (fun c => nI (gs 1 c))) ∧ h.1 23 = .inl (2, w * hh, .inl (fun c => nI (gs 2 c))) ∧ h.1 24 = .inl (0, w * hh, .inl (fun c => nI (gs 3 c))) ∧ h.1 25 = .inl (0, w * hh, .inl (fun c => nI (gs 4 c))) ∧ h.1 26 = .inl (0, w * hh, .inl (fun c => nI (gs 5 c))) ∧ h.1 27 = .inl (0, w * hh, .inl (fun c => if c < 144 then nI (pkm gs c) else 0)) ∧
  h.1 28 = .inl (0, 4 * (w * hh), .inl (fun i => nI (gs 7 (144 * (i / (w * hh)) + i % (w * hh))))) ∧ h.1 29 = .inl (1, 4, .inr (.inl (fun a => lN (gs 8 a))))
theorem e_G_isBridged {h : mxH} {w hh c : Nat} {gs : mG} (hX : XG h w hh gs) (hB : GB gs) (hn : w * hh ≤ 144) (hc : c < w * hh) (K : Option Value → mxH → Prop) : mcl mx_P 30 [.ref 17, .int (nI c)] h K ↔ K (some (.int (zI (brg gs c)))) h := by
  obtain ⟨x17, x18, x19, x20, x21, x22, x23, x24, x25, x26, x27, x28, x29⟩ := hX
  have b2 := hB.2.2.1 c
  have b3 := hB.2.2.2.1 c
  rw [mcl]
  simp (disch := omega) only [mx_li, mx_ll, mx_la, mx_get, mx_s1, mx_s2, mx_tl, mx_nl, mx_ic, mx_op, mx_oc, mx_fd, mx_lg, mx_ls, mx_pd, mx_len, mx_isc, mx_ps, mx_ent, mx_rv, ↓reduceIte, List.length_cons, List.length_nil, Nat.reduceAdd, Nat.reduceLT, Nat.reduceEqDiff, Nat.reduceBEq, true_and, and_true, or_false, or_true, false_or, true_or, and_self, not_false_eq_true, not_true_eq_false, mob_g0, mob_g1, mob_g2, mob_g3, mob_g4, mob_g5, mob_g6, mob_g7, mob_g8, mob_g9, mob_g10, mob_g11, mob_g12, mob_g13, mob_g14, mob_g15, mob_g16, mob_g17, mob_g18, mob_g19, mob_g20, mob_g21, mob_g22, mob_g23, mob_g24, mob_g25, mob_g26, mob_g27, mob_g28, mob_g29, mob_g30, mob_g31, mob_g32, mob_s0, mob_s1, mob_s11, mob_s12, mob_s13, mob_s14, mob_s15, mob_s19, mob_s20, mob_s21, mob_s22, mob_s23, mob_s24, mob_s31, mob_len, xob_g0, xob_g1, xob_g2, xob_g3, xob_g4, xob_g5, xob_g6, xob_s3, xob_s4, xob_s5, xob_s6, xob_len, gob_g0, gob_g1, gob_g2, gob_g3, gob_g4, gob_g5, gob_g6, gob_g7, gob_g8, gob_g9, gob_g10, gob_g11, gob_g12, gob_g13, gob_g14, gob_g15, gob_g16, gob_g17, gob_s0, gob_s1, gob_s2, gob_s15, gob_s16, gob_s17, gob_len, sob_g0, sob_g1, sob_g2, sob_g3, sob_g4, sob_g5, sob_g6, sob_g7, sob_g8, sob_g9, sob_s5, sob_s6, sob_s7, sob_s8, sob_s9, sob_len, qob_g0, qob_g1, qob_g2, qob_g3, qob_g4, qob_g5, qob_s0, qob_s1, qob_s2, qob_s3, qob_s4, qob_s5, qob_len, wob_g0, wob_g1, wob_g2, wob_s0, wob_s1, wob_s2, wob_len, pob_g0, pob_g1, pob_g2, pob_g3, pob_g4, pob_s0, pob_s1, pob_s2, pob_s3, pob_s4, pob_len, n_lt, n_eq, n_lt0, n_0lt, n_eq0, n_cl, n_add, n_mul, n_l, n_eqm, n_ltm, n_mlt, n_m1, l_lt, l_eq, l_lt0, l_0lt, l_eq0, l_add, l_mul, l_i, g_lt, g_eq, g_gt, n_div, n_rem, l_div, l_mod, n01_0, n01_1, n_1e, n_0e1, ald_i, ald_o, ald_l, ald_z, ald_a, ast_i, ast_l, ast_z, ast_a, zI_t, zI_f, zI_ok, zI_eq0, r_G_isBridged_0, r_G_isBridged_1, r_G_isBridged_4, r_G_isBridged_5, r_G_isBridged_6, r_G_isBridged_9, r_G_isBridged_10, r_G_isBridged_13, r_G_isBridged_14, r_G_isBridged_15, r_G_isBridged_18, r_G_isBridged_19, r_G_isBridged_22, r_G_isBridged_23, x17, x23, x24]
  unfold brg
  by_cases e : gs 2 c = 0
  · simp [e, zI_f]
  · have e1 : gs 2 c = 1 := by omega
    by_cases e2 : 0 < gs 3 c <;> simp [e, e1, e2, zI_f, zI_t]
theorem e_G_isClosedOff {h : mxH} {w hh c : Nat} {gs : mG} (hX : XG h w hh gs) (hB : GB gs) (hn : w * hh ≤ 144) (hc : c < w * hh) (K : Option Value → mxH → Prop) : mcl mx_P 31 [.ref 17, .int (nI c)] h K ↔ K (some (.int (zI (sht gs c)))) h := by
  obtain ⟨x17, x18, x19, x20, x21, x22, x23, x24, x25, x26, x27, x28, x29⟩ := hX
  have b2 := hB.2.2.1 c
  have b3 := hB.2.2.2.1 c
  rw [mcl]
  simp (disch := omega) only [mx_li, mx_ll, mx_la, mx_get, mx_s1, mx_s2, mx_tl, mx_nl, mx_ic, mx_op, mx_oc, mx_fd, mx_lg, mx_ls, mx_pd, mx_len, mx_isc, mx_ps, mx_ent, mx_rv, ↓reduceIte, List.length_cons, List.length_nil, Nat.reduceAdd, Nat.reduceLT, Nat.reduceEqDiff, Nat.reduceBEq, true_and, and_true, or_false, or_true, false_or, true_or, and_self, not_false_eq_true, not_true_eq_false, mob_g0, mob_g1, mob_g2, mob_g3, mob_g4, mob_g5, mob_g6, mob_g7, mob_g8, mob_g9, mob_g10, mob_g11, mob_g12, mob_g13, mob_g14, mob_g15, mob_g16, mob_g17, mob_g18, mob_g19, mob_g20, mob_g21, mob_g22, mob_g23, mob_g24, mob_g25, mob_g26, mob_g27, mob_g28, mob_g29, mob_g30, mob_g31, mob_g32, mob_s0, mob_s1, mob_s11, mob_s12, mob_s13, mob_s14, mob_s15, mob_s19, mob_s20, mob_s21, mob_s22, mob_s23, mob_s24, mob_s31, mob_len, xob_g0, xob_g1, xob_g2, xob_g3, xob_g4, xob_g5, xob_g6, xob_s3, xob_s4, xob_s5, xob_s6, xob_len, gob_g0, gob_g1, gob_g2, gob_g3, gob_g4, gob_g5, gob_g6, gob_g7, gob_g8, gob_g9, gob_g10, gob_g11, gob_g12, gob_g13, gob_g14, gob_g15, gob_g16, gob_g17, gob_s0, gob_s1, gob_s2, gob_s15, gob_s16, gob_s17, gob_len, sob_g0, sob_g1, sob_g2, sob_g3, sob_g4, sob_g5, sob_g6, sob_g7, sob_g8, sob_g9, sob_s5, sob_s6, sob_s7, sob_s8, sob_s9, sob_len, qob_g0, qob_g1, qob_g2, qob_g3, qob_g4, qob_g5, qob_s0, qob_s1, qob_s2, qob_s3, qob_s4, qob_s5, qob_len, wob_g0, wob_g1, wob_g2, wob_s0, wob_s1, wob_s2, wob_len, pob_g0, pob_g1, pob_g2, pob_g3, pob_g4, pob_s0, pob_s1, pob_s2, pob_s3, pob_s4, pob_len, n_lt, n_eq, n_lt0, n_0lt, n_eq0, n_cl, n_add, n_mul, n_l, n_eqm, n_ltm, n_mlt, n_m1, l_lt, l_eq, l_lt0, l_0lt, l_eq0, l_add, l_mul, l_i, g_lt, g_eq, g_gt, n_div, n_rem, l_div, l_mod, n01_0, n01_1, n_1e, n_0e1, ald_i, ald_o, ald_l, ald_z, ald_a, ast_i, ast_l, ast_z, ast_a, zI_t, zI_f, zI_ok, zI_eq0, r_G_isClosedOff_0, r_G_isClosedOff_1, r_G_isClosedOff_4, r_G_isClosedOff_5, r_G_isClosedOff_6, r_G_isClosedOff_9, r_G_isClosedOff_10, r_G_isClosedOff_13, r_G_isClosedOff_14, r_G_isClosedOff_15, r_G_isClosedOff_18, r_G_isClosedOff_19, r_G_isClosedOff_22, r_G_isClosedOff_23, x17, x23, x24]
  unfold sht
  by_cases e : gs 2 c = 0
  · simp [e, zI_f]
  · have e1 : gs 2 c = 1 := by omega
    by_cases e2 : gs 3 c = 0 <;> simp [e, e1, e2, zI_f, zI_t]
/-- the cell of two numbers -/
def cel (w hh : Nat) (x y : Int32) : Option Nat := if (¬ x < 0 ∧ x < nI w) ∧ ¬ y < 0 ∧ y < nI hh then some (y.toNatClampNeg * w + x.toNatClampNeg) else none
theorem ofnn {x : Int32} (h : ¬ x < 0) : x = nI x.toNatClampNeg ∧ x.toNatClampNeg < 2147483648 := by
  obtain ⟨j, h1, h2⟩ := nI_of h
  have h3 : x.toNatClampNeg = j := by rw [h2]; exact n_cl h1
  rw [h3]
  exact ⟨h2, h1⟩
theorem cel_some {w hh c : Nat} {x y : Int32} (hw : w < 2147483648) (hh' : hh < 2147483648) (h : cel w hh x y = some c) : ∃ j i, x = nI j ∧ y = nI i ∧ j < w ∧ i < hh ∧ c = i * w + j ∧ c < w * hh := by
  unfold cel at h
  split at h
  · next e =>
    obtain ⟨⟨e1, e2⟩, e3, e4⟩ := e
    obtain ⟨x1, x2⟩ := ofnn e1
    obtain ⟨y1, y2⟩ := ofnn e3
    rw [x1, n_lt x2 hw] at e2
    rw [y1, n_lt y2 hh'] at e4
    have hc := (Option.some.inj h).symm
    refine ⟨_, _, x1, y1, e2, e4, hc, ?_⟩
    rw [hc]
    have h5 : (y.toNatClampNeg + 1) * w ≤ hh * w := Nat.mul_le_mul_right w e4
    rw [Nat.add_mul, Nat.mul_comm hh w] at h5
    omega
  · cases h
theorem e_G_numberOf {h : mxH} {g w hh : Nat} {rest : List Value} (hg : h.1 g = .inr (1, .int (nI w) :: .int (nI hh) :: rest)) (x y : Int32) (K : Option Value → mxH → Prop) : mcl mx_P 29 [.ref g, .int x, .int y] h K ↔ K (some (.int (oI (cel w hh x y)))) h := by
  rw [mcl]
  simp only [mx_li, mx_ll, mx_la, mx_get, mx_s1, mx_s2, mx_tl, mx_nl, mx_ic, mx_op, mx_oc, mx_fd, mx_lg, mx_ls, mx_pd, mx_len, mx_isc, mx_ps, mx_ent, mx_rv, ↓reduceIte, List.length_cons, List.length_nil, Nat.reduceAdd, Nat.reduceLT, Nat.reduceEqDiff, Nat.reduceBEq, true_and, and_true, or_false, or_true, false_or, true_or, and_self, not_false_eq_true, not_true_eq_false, mob_g0, mob_g1, mob_g2, mob_g3, mob_g4, mob_g5, mob_g6, mob_g7, mob_g8, mob_g9, mob_g10, mob_g11, mob_g12, mob_g13, mob_g14, mob_g15, mob_g16, mob_g17, mob_g18, mob_g19, mob_g20, mob_g21, mob_g22, mob_g23, mob_g24, mob_g25, mob_g26, mob_g27, mob_g28, mob_g29, mob_g30, mob_g31, mob_g32, mob_s0, mob_s1, mob_s11, mob_s12, mob_s13, mob_s14, mob_s15, mob_s19, mob_s20, mob_s21, mob_s22, mob_s23, mob_s24, mob_s31, mob_len, xob_g0, xob_g1, xob_g2, xob_g3, xob_g4, xob_g5, xob_g6, xob_s3, xob_s4, xob_s5, xob_s6, xob_len, gob_g0, gob_g1, gob_g2, gob_g3, gob_g4, gob_g5, gob_g6, gob_g7, gob_g8, gob_g9, gob_g10, gob_g11, gob_g12, gob_g13, gob_g14, gob_g15, gob_g16, gob_g17, gob_s0, gob_s1, gob_s2, gob_s15, gob_s16, gob_s17, gob_len, sob_g0, sob_g1, sob_g2, sob_g3, sob_g4, sob_g5, sob_g6, sob_g7, sob_g8, sob_g9, sob_s5, sob_s6, sob_s7, sob_s8, sob_s9, sob_len, qob_g0, qob_g1, qob_g2, qob_g3, qob_g4, qob_g5, qob_s0, qob_s1, qob_s2, qob_s3, qob_s4, qob_s5, qob_len, wob_g0, wob_g1, wob_g2, wob_s0, wob_s1, wob_s2, wob_len, pob_g0, pob_g1, pob_g2, pob_g3, pob_g4, pob_s0, pob_s1, pob_s2, pob_s3, pob_s4, pob_len, r_G_numberOf_0, r_G_numberOf_1, r_G_numberOf_4, r_G_numberOf_5, r_G_numberOf_6, r_G_numberOf_9, r_G_numberOf_12, r_G_numberOf_13, r_G_numberOf_16, r_G_numberOf_17, r_G_numberOf_18, r_G_numberOf_21, r_G_numberOf_24, r_G_numberOf_25, r_G_numberOf_28, r_G_numberOf_29, r_G_numberOf_30, r_G_numberOf_33, r_G_numberOf_34, r_G_numberOf_35, r_G_numberOf_36, hg]
  unfold cel
  by_cases e1 : x < 0
  · simp [e1, oI]
  · by_cases e2 : x < nI w
    · by_cases e3 : y < 0
      · simp [e1, e2, e3, oI]
      · by_cases e4 : y < nI hh
        · have hx := (ofnn e1).1
          have hy := (ofnn e3).1
          have hr : y * nI w + x = nI (y.toNatClampNeg * w + x.toNatClampNeg) := by
            conv => lhs; rw [hx, hy, n_mul, n_add]
          simp [e1, e2, e3, e4, oI, hr]
        · simp [e1, e2, e3, e4, oI]
    · simp [e1, e2, oI]
theorem e_G_headingStep {h : mxH} {w hh : Nat} {gs : mG} (hX : XG h w hh gs) (hB : GB gs) (K : Option Value → mxH → Prop) : mcl mx_P 35 [.ref 17] h K ↔ K (some (.int (nI (if gs 9 0 = 1 then 2 else 1)))) h := by
  have b9 := hB.2.2.2.2.2.2.2.2.2.1
  rw [mcl]
  simp (disch := omega) only [mx_li, mx_ll, mx_la, mx_get, mx_s1, mx_s2, mx_tl, mx_nl, mx_ic, mx_op, mx_oc, mx_fd, mx_lg, mx_ls, mx_pd, mx_len, mx_isc, mx_ps, mx_ent, mx_rv, ↓reduceIte, List.length_cons, List.length_nil, Nat.reduceAdd, Nat.reduceLT, Nat.reduceEqDiff, Nat.reduceBEq, true_and, and_true, or_false, or_true, false_or, true_or, and_self, not_false_eq_true, not_true_eq_false, mob_g0, mob_g1, mob_g2, mob_g3, mob_g4, mob_g5, mob_g6, mob_g7, mob_g8, mob_g9, mob_g10, mob_g11, mob_g12, mob_g13, mob_g14, mob_g15, mob_g16, mob_g17, mob_g18, mob_g19, mob_g20, mob_g21, mob_g22, mob_g23, mob_g24, mob_g25, mob_g26, mob_g27, mob_g28, mob_g29, mob_g30, mob_g31, mob_g32, mob_s0, mob_s1, mob_s11, mob_s12, mob_s13, mob_s14, mob_s15, mob_s19, mob_s20, mob_s21, mob_s22, mob_s23, mob_s24, mob_s31, mob_len, xob_g0, xob_g1, xob_g2, xob_g3, xob_g4, xob_g5, xob_g6, xob_s3, xob_s4, xob_s5, xob_s6, xob_len, gob_g0, gob_g1, gob_g2, gob_g3, gob_g4, gob_g5, gob_g6, gob_g7, gob_g8, gob_g9, gob_g10, gob_g11, gob_g12, gob_g13, gob_g14, gob_g15, gob_g16, gob_g17, gob_s0, gob_s1, gob_s2, gob_s15, gob_s16, gob_s17, gob_len, sob_g0, sob_g1, sob_g2, sob_g3, sob_g4, sob_g5, sob_g6, sob_g7, sob_g8, sob_g9, sob_s5, sob_s6, sob_s7, sob_s8, sob_s9, sob_len, qob_g0, qob_g1, qob_g2, qob_g3, qob_g4, qob_g5, qob_s0, qob_s1, qob_s2, qob_s3, qob_s4, qob_s5, qob_len, wob_g0, wob_g1, wob_g2, wob_s0, wob_s1, wob_s2, wob_len, pob_g0, pob_g1, pob_g2, pob_g3, pob_g4, pob_s0, pob_s1, pob_s2, pob_s3, pob_s4, pob_len, n_lt, n_eq, n_lt0, n_0lt, n_eq0, n_cl, n_add, n_mul, n_l, n_eqm, n_ltm, n_mlt, n_m1, l_lt, l_eq, l_lt0, l_0lt, l_eq0, l_add, l_mul, l_i, g_lt, g_eq, g_gt, n_div, n_rem, l_div, l_mod, n01_0, n01_1, n_1e, n_0e1, ald_i, ald_o, ald_l, ald_z, ald_a, ast_i, ast_l, ast_z, ast_a, zI_t, zI_f, zI_ok, zI_eq0, r_G_headingStep_0, r_G_headingStep_1, r_G_headingStep_4, r_G_headingStep_5, r_G_headingStep_8, r_G_headingStep_9, r_G_headingStep_12, r_G_headingStep_13, hX.1]
  rcases b9 with e | e <;> simp [e]
theorem e_G_ahead {h : mxH} {w hh c d : Nat} {gs : mG} (hX : XG h w hh gs) (hn : w * hh ≤ 144) (hc : c < w * hh) (hd : d < 16) (K : Option Value → mxH → Prop) : mcl mx_P 36 [.ref 17, .int (nI c), .int (nI d)] h K ↔ K (some (.int (oI (nbr w hh c d)))) h := by
  rw [mcl]
  simp (disch := omega) only [mx_li, mx_ll, mx_la, mx_get, mx_s1, mx_s2, mx_tl, mx_nl, mx_ic, mx_op, mx_oc, mx_fd, mx_lg, mx_ls, mx_pd, mx_len, mx_isc, mx_ps, mx_ent, mx_rv, ↓reduceIte, List.length_cons, List.length_nil, Nat.reduceAdd, Nat.reduceLT, Nat.reduceEqDiff, Nat.reduceBEq, true_and, and_true, or_false, or_true, false_or, true_or, and_self, not_false_eq_true, not_true_eq_false, mob_g0, mob_g1, mob_g2, mob_g3, mob_g4, mob_g5, mob_g6, mob_g7, mob_g8, mob_g9, mob_g10, mob_g11, mob_g12, mob_g13, mob_g14, mob_g15, mob_g16, mob_g17, mob_g18, mob_g19, mob_g20, mob_g21, mob_g22, mob_g23, mob_g24, mob_g25, mob_g26, mob_g27, mob_g28, mob_g29, mob_g30, mob_g31, mob_g32, mob_s0, mob_s1, mob_s11, mob_s12, mob_s13, mob_s14, mob_s15, mob_s19, mob_s20, mob_s21, mob_s22, mob_s23, mob_s24, mob_s31, mob_len, xob_g0, xob_g1, xob_g2, xob_g3, xob_g4, xob_g5, xob_g6, xob_s3, xob_s4, xob_s5, xob_s6, xob_len, gob_g0, gob_g1, gob_g2, gob_g3, gob_g4, gob_g5, gob_g6, gob_g7, gob_g8, gob_g9, gob_g10, gob_g11, gob_g12, gob_g13, gob_g14, gob_g15, gob_g16, gob_g17, gob_s0, gob_s1, gob_s2, gob_s15, gob_s16, gob_s17, gob_len, sob_g0, sob_g1, sob_g2, sob_g3, sob_g4, sob_g5, sob_g6, sob_g7, sob_g8, sob_g9, sob_s5, sob_s6, sob_s7, sob_s8, sob_s9, sob_len, qob_g0, qob_g1, qob_g2, qob_g3, qob_g4, qob_g5, qob_s0, qob_s1, qob_s2, qob_s3, qob_s4, qob_s5, qob_len, wob_g0, wob_g1, wob_g2, wob_s0, wob_s1, wob_s2, wob_len, pob_g0, pob_g1, pob_g2, pob_g3, pob_g4, pob_s0, pob_s1, pob_s2, pob_s3, pob_s4, pob_len, n_lt, n_eq, n_lt0, n_0lt, n_eq0, n_cl, n_add, n_mul, n_l, n_eqm, n_ltm, n_mlt, n_m1, l_lt, l_eq, l_lt0, l_0lt, l_eq0, l_add, l_mul, l_i, g_lt, g_eq, g_gt, n_div, n_rem, l_div, l_mod, n01_0, n01_1, n_1e, n_0e1, ald_i, ald_o, ald_l, ald_z, ald_a, ast_i, ast_l, ast_z, ast_a, zI_t, zI_f, zI_ok, zI_eq0, r_G_ahead_0, r_G_ahead_1, r_G_ahead_4, r_G_ahead_5, r_G_ahead_7, r_G_ahead_8, r_G_ahead_9, r_G_ahead_10, r_G_ahead_11, hX.1, hX.2.2.2.1]
  rw [if_pos (by omega), show (c * 16 + d) / 16 = c by omega, show (c * 16 + d) % 16 = d by omega]
theorem e_G_behind {h : mxH} {w hh c d : Nat} {gs : mG} (hX : XG h w hh gs) (hn : w * hh ≤ 144) (hc : c < w * hh) (hd : d < 16) (K : Option Value → mxH → Prop) : mcl mx_P 37 [.ref 17, .int (nI c), .int (nI d)] h K ↔ K (some (.int (oI (nbr w hh c ((d + 8) % 16))))) h := by
  rw [mcl]
  simp (disch := omega) only [mx_li, mx_ll, mx_la, mx_get, mx_s1, mx_s2, mx_tl, mx_nl, mx_ic, mx_op, mx_oc, mx_fd, mx_lg, mx_ls, mx_pd, mx_len, mx_isc, mx_ps, mx_ent, mx_rv, ↓reduceIte, List.length_cons, List.length_nil, Nat.reduceAdd, Nat.reduceLT, Nat.reduceEqDiff, Nat.reduceBEq, true_and, and_true, or_false, or_true, false_or, true_or, and_self, not_false_eq_true, not_true_eq_false, mob_g0, mob_g1, mob_g2, mob_g3, mob_g4, mob_g5, mob_g6, mob_g7, mob_g8, mob_g9, mob_g10, mob_g11, mob_g12, mob_g13, mob_g14, mob_g15, mob_g16, mob_g17, mob_g18, mob_g19, mob_g20, mob_g21, mob_g22, mob_g23, mob_g24, mob_g25, mob_g26, mob_g27, mob_g28, mob_g29, mob_g30, mob_g31, mob_g32, mob_s0, mob_s1, mob_s11, mob_s12, mob_s13, mob_s14, mob_s15, mob_s19, mob_s20, mob_s21, mob_s22, mob_s23, mob_s24, mob_s31, mob_len, xob_g0, xob_g1, xob_g2, xob_g3, xob_g4, xob_g5, xob_g6, xob_s3, xob_s4, xob_s5, xob_s6, xob_len, gob_g0, gob_g1, gob_g2, gob_g3, gob_g4, gob_g5, gob_g6, gob_g7, gob_g8, gob_g9, gob_g10, gob_g11, gob_g12, gob_g13, gob_g14, gob_g15, gob_g16, gob_g17, gob_s0, gob_s1, gob_s2, gob_s15, gob_s16, gob_s17, gob_len, sob_g0, sob_g1, sob_g2, sob_g3, sob_g4, sob_g5, sob_g6, sob_g7, sob_g8, sob_g9, sob_s5, sob_s6, sob_s7, sob_s8, sob_s9, sob_len, qob_g0, qob_g1, qob_g2, qob_g3, qob_g4, qob_g5, qob_s0, qob_s1, qob_s2, qob_s3, qob_s4, qob_s5, qob_len, wob_g0, wob_g1, wob_g2, wob_s0, wob_s1, wob_s2, wob_len, pob_g0, pob_g1, pob_g2, pob_g3, pob_g4, pob_s0, pob_s1, pob_s2, pob_s3, pob_s4, pob_len, n_lt, n_eq, n_lt0, n_0lt, n_eq0, n_cl, n_add, n_mul, n_l, n_eqm, n_ltm, n_mlt, n_m1, l_lt, l_eq, l_lt0, l_0lt, l_eq0, l_add, l_mul, l_i, g_lt, g_eq, g_gt, n_div, n_rem, l_div, l_mod, n01_0, n01_1, n_1e, n_0e1, ald_i, ald_o, ald_l, ald_z, ald_a, ast_i, ast_l, ast_z, ast_a, zI_t, zI_f, zI_ok, zI_eq0, r_G_behind_0, r_G_behind_1, r_G_behind_4, r_G_behind_5, r_G_behind_7, r_G_behind_8, r_G_behind_9, r_G_behind_11, r_G_behind_12, r_G_behind_14, r_G_behind_15, r_G_behind_16, r_G_behind_17, hX.1, hX.2.2.2.1]
  rw [if_pos (by omega), show (c * 16 + (d + 8) % 16) / 16 = c by omega, show (c * 16 + (d + 8) % 16) % 16 = (d + 8) % 16 by omega]
/-- too steep between two cells -/
def stp (gs : mG) (a b : Nat) : Bool := decide (gs 9 1 < gs 1 a - gs 1 b) || decide (gs 9 1 < gs 1 b - gs 1 a)
theorem e_G_isTooSteep {h : mxH} {w hh a b : Nat} {gs : mG} (hX : XG h w hh gs) (hB : GB gs) (hn : w * hh ≤ 144) (ha : a < w * hh) (hb : b < w * hh) (K : Option Value → mxH → Prop) : mcl mx_P 38 [.ref 17, .int (nI a), .int (nI b)] h K ↔ K (some (.int (zI (stp gs a b)))) h := by
  have b1 := hB.2.1 a
  have b2 := hB.2.1 b
  have b9 := hB.2.2.2.2.2.2.2.2.2.2.1
  rw [mcl]
  simp (disch := omega) only [mx_li, mx_ll, mx_la, mx_get, mx_s1, mx_s2, mx_tl, mx_nl, mx_ic, mx_op, mx_oc, mx_fd, mx_lg, mx_ls, mx_pd, mx_len, mx_isc, mx_ps, mx_ent, mx_rv, ↓reduceIte, List.length_cons, List.length_nil, Nat.reduceAdd, Nat.reduceLT, Nat.reduceEqDiff, Nat.reduceBEq, true_and, and_true, or_false, or_true, false_or, true_or, and_self, not_false_eq_true, not_true_eq_false, mob_g0, mob_g1, mob_g2, mob_g3, mob_g4, mob_g5, mob_g6, mob_g7, mob_g8, mob_g9, mob_g10, mob_g11, mob_g12, mob_g13, mob_g14, mob_g15, mob_g16, mob_g17, mob_g18, mob_g19, mob_g20, mob_g21, mob_g22, mob_g23, mob_g24, mob_g25, mob_g26, mob_g27, mob_g28, mob_g29, mob_g30, mob_g31, mob_g32, mob_s0, mob_s1, mob_s11, mob_s12, mob_s13, mob_s14, mob_s15, mob_s19, mob_s20, mob_s21, mob_s22, mob_s23, mob_s24, mob_s31, mob_len, xob_g0, xob_g1, xob_g2, xob_g3, xob_g4, xob_g5, xob_g6, xob_s3, xob_s4, xob_s5, xob_s6, xob_len, gob_g0, gob_g1, gob_g2, gob_g3, gob_g4, gob_g5, gob_g6, gob_g7, gob_g8, gob_g9, gob_g10, gob_g11, gob_g12, gob_g13, gob_g14, gob_g15, gob_g16, gob_g17, gob_s0, gob_s1, gob_s2, gob_s15, gob_s16, gob_s17, gob_len, sob_g0, sob_g1, sob_g2, sob_g3, sob_g4, sob_g5, sob_g6, sob_g7, sob_g8, sob_g9, sob_s5, sob_s6, sob_s7, sob_s8, sob_s9, sob_len, qob_g0, qob_g1, qob_g2, qob_g3, qob_g4, qob_g5, qob_s0, qob_s1, qob_s2, qob_s3, qob_s4, qob_s5, qob_len, wob_g0, wob_g1, wob_g2, wob_s0, wob_s1, wob_s2, wob_len, pob_g0, pob_g1, pob_g2, pob_g3, pob_g4, pob_s0, pob_s1, pob_s2, pob_s3, pob_s4, pob_len, n_lt, n_eq, n_lt0, n_0lt, n_eq0, n_cl, n_add, n_mul, n_l, n_eqm, n_ltm, n_mlt, n_m1, l_lt, l_eq, l_lt0, l_0lt, l_eq0, l_add, l_mul, l_i, g_lt, g_eq, g_gt, n_div, n_rem, l_div, l_mod, n01_0, n01_1, n_1e, n_0e1, ald_i, ald_o, ald_l, ald_z, ald_a, ast_i, ast_l, ast_z, ast_a, zI_t, zI_f, zI_ok, zI_eq0, r_G_isTooSteep_0, r_G_isTooSteep_1, r_G_isTooSteep_4, r_G_isTooSteep_5, r_G_isTooSteep_6, r_G_isTooSteep_7, r_G_isTooSteep_10, r_G_isTooSteep_11, r_G_isTooSteep_12, r_G_isTooSteep_13, r_G_isTooSteep_16, r_G_isTooSteep_17, r_G_isTooSteep_20, r_G_isTooSteep_23, r_G_isTooSteep_24, r_G_isTooSteep_27, r_G_isTooSteep_28, hX.1, hX.2.2.2.2.2.1, e_abs]
  unfold stp
  by_cases e : gs 1 a < gs 1 b
  · have e1 : nI (gs 1 a) - nI (gs 1 b) < 0 := pk_sneg (by omega) e
    have e2 : -(nI (gs 1 a) - nI (gs 1 b)) = nI (gs 1 b - gs 1 a) := by
      rw [← n_sub (by omega), Int32.neg_sub]
    rw [if_pos e1, e2]
    simp (disch := omega) only [n_lt]
    have e3 : ¬ gs 9 1 < gs 1 a - gs 1 b := by omega
    by_cases e4 : gs 9 1 < gs 1 b - gs 1 a <;> simp [e3, e4, zI_t, zI_f, n01_0, n01_1, n_1e]
  · rw [n_sub (by omega), if_neg (nI_pos (by omega))]
    simp (disch := omega) only [n_lt]
    have e3 : ¬ gs 9 1 < gs 1 b - gs 1 a := by omega
    by_cases e4 : gs 9 1 < gs 1 a - gs 1 b <;> simp [e3, e4, zI_t, zI_f, n01_0, n01_1, n_1e]
theorem nbr_lt {w hh c d n : Nat} (h : nbr w hh c d = some n) : n < w * hh := by
  unfold nbr at h
  split at h
  · next e =>
    obtain ⟨e1, e2, e3, e4⟩ := e
    rw [← Option.some.inj h]
    generalize (c % w : Int) + dxl.getD d 0 = X at *
    generalize (c / w : Int) + dyl.getD d 0 = Y at *
    have h5 : (Y.toNat + 1) * w ≤ hh * w := Nat.mul_le_mul_right w (by omega)
    rw [Nat.add_mul, Nat.mul_comm hh w] at h5
    omega
  · cases h
/-- by how much two headings differ -/
def dif (a b : Nat) : Nat := if (if a < b then b - a else a - b) > 8 then 16 - (if a < b then b - a else a - b) else (if a < b then b - a else a - b)
/-- the cell to which a way may go on from c, having come by b, with heading d -/
def mvf (gs : mG) (w hh c b d : Nat) : Option Nat := if gs 9 0 = 1 ∧ d % 2 ≠ 0 then none else match nbr w hh c d with
  | none => none
  | some n => if sht gs n = true ∨ stp gs c n = true then none else if b = 16 ∨ b = d then some n else if dif b d ≤ gs 9 2 ∧ brg gs c = false ∧ brg gs n = false then some n else none
theorem oI_lt {o : Option Nat} (h : ∀ n, o = some n → n < 2147483648) : (oI o < 0) = (o = none) := by
  cases o with
  | none => simp [oI, n_m1]
  | some k => simp [oI, n_lt0 (h k rfl)]
theorem absI {b d : Nat} (hb : b < 1000000) (hd : d < 1000000) : (if nI b - nI d < 0 then -(nI b - nI d) else nI b - nI d) = nI (if b < d then d - b else b - d) := by
  by_cases e : b < d
  · rw [if_pos (pk_sneg (by omega) e), if_pos e, Int32.neg_sub, n_sub (by omega)]
  · rw [n_sub (by omega), if_neg (nI_pos (by omega)), if_neg e]
theorem difI {b d : Nat} (hb : b ≤ 16) (hd : d ≤ 16) : (if nI 16 - nI (if b < d then d - b else b - d) < nI (if b < d then d - b else b - d) then nI 16 - nI (if b < d then d - b else b - d) else nI (if b < d then d - b else b - d)) = nI (dif b d) := by
  unfold dif
  generalize ha : (if b < d then d - b else b - d) = a
  have ha' : a ≤ 16 := by rw [← ha]; split <;> omega
  rw [n_sub ha']
  by_cases e : a > 8
  · rw [if_pos (by rw [n_lt (by omega) (by omega)]; omega), if_pos e]
  · rw [if_neg (by rw [n_lt (by omega) (by omega)]; omega), if_neg e]
theorem dif_le (b d : Nat) (hb : b ≤ 16) (hd : d ≤ 16) : dif b d ≤ 8 := by
  unfold dif
  split <;> split <;> omega
set_option maxHeartbeats 1000000 in
theorem e_G_moveFrom {h : mxH} {w hh c b d : Nat} {gs : mG} (hX : XG h w hh gs) (hB : GB gs) (hn : w * hh ≤ 144) (hc : c < w * hh) (hb : b ≤ 16) (hd : d < 16) (K : Option Value → mxH → Prop) : mcl mx_P 39 [.ref 17, .int (nI c), .int (nI b), .int (nI d)] h K ↔ K (some (.int (oI (mvf gs w hh c b d)))) h := by
  have b9 := hB.2.2.2.2.2.2.2.2.2.1
  have b92 := hB.2.2.2.2.2.2.2.2.2.2.2
  have b91 : gs 9 0 < 3 := by omega
  rw [mcl]
  simp (disch := omega) only [mx_li, mx_ll, mx_la, mx_get, mx_s1, mx_s2, mx_tl, mx_nl, mx_ic, mx_op, mx_oc, mx_fd, mx_lg, mx_ls, mx_pd, mx_len, mx_isc, mx_ps, mx_ent, mx_rv, ↓reduceIte, List.length_cons, List.length_nil, Nat.reduceAdd, Nat.reduceLT, Nat.reduceEqDiff, Nat.reduceBEq, true_and, and_true, or_false, or_true, false_or, true_or, and_self, not_false_eq_true, not_true_eq_false, mob_g0, mob_g1, mob_g2, mob_g3, mob_g4, mob_g5, mob_g6, mob_g7, mob_g8, mob_g9, mob_g10, mob_g11, mob_g12, mob_g13, mob_g14, mob_g15, mob_g16, mob_g17, mob_g18, mob_g19, mob_g20, mob_g21, mob_g22, mob_g23, mob_g24, mob_g25, mob_g26, mob_g27, mob_g28, mob_g29, mob_g30, mob_g31, mob_g32, mob_s0, mob_s1, mob_s11, mob_s12, mob_s13, mob_s14, mob_s15, mob_s19, mob_s20, mob_s21, mob_s22, mob_s23, mob_s24, mob_s31, mob_len, xob_g0, xob_g1, xob_g2, xob_g3, xob_g4, xob_g5, xob_g6, xob_s3, xob_s4, xob_s5, xob_s6, xob_len, gob_g0, gob_g1, gob_g2, gob_g3, gob_g4, gob_g5, gob_g6, gob_g7, gob_g8, gob_g9, gob_g10, gob_g11, gob_g12, gob_g13, gob_g14, gob_g15, gob_g16, gob_g17, gob_s0, gob_s1, gob_s2, gob_s15, gob_s16, gob_s17, gob_len, sob_g0, sob_g1, sob_g2, sob_g3, sob_g4, sob_g5, sob_g6, sob_g7, sob_g8, sob_g9, sob_s5, sob_s6, sob_s7, sob_s8, sob_s9, sob_len, qob_g0, qob_g1, qob_g2, qob_g3, qob_g4, qob_g5, qob_s0, qob_s1, qob_s2, qob_s3, qob_s4, qob_s5, qob_len, wob_g0, wob_g1, wob_g2, wob_s0, wob_s1, wob_s2, wob_len, pob_g0, pob_g1, pob_g2, pob_g3, pob_g4, pob_s0, pob_s1, pob_s2, pob_s3, pob_s4, pob_len, n_lt, n_eq, n_lt0, n_0lt, n_eq0, n_cl, n_add, n_mul, n_l, n_eqm, n_ltm, n_mlt, n_m1, l_lt, l_eq, l_lt0, l_0lt, l_eq0, l_add, l_mul, l_i, g_lt, g_eq, g_gt, n_div, n_rem, l_div, l_mod, n01_0, n01_1, n_1e, n_0e1, ald_i, ald_o, ald_l, ald_z, ald_a, ast_i, ast_l, ast_z, ast_a, zI_t, zI_f, zI_ok, zI_eq0, r_G_moveFrom_0, r_G_moveFrom_1, r_G_moveFrom_4, r_G_moveFrom_5, r_G_moveFrom_8, r_G_moveFrom_9, r_G_moveFrom_10, r_G_moveFrom_11, r_G_moveFrom_14, r_G_moveFrom_15, r_G_moveFrom_16, r_G_moveFrom_17, r_G_moveFrom_18, r_G_moveFrom_19, r_G_moveFrom_22, r_G_moveFrom_24, r_G_moveFrom_26, r_G_moveFrom_29, r_G_moveFrom_30, r_G_moveFrom_32, r_G_moveFrom_35, r_G_moveFrom_38, r_G_moveFrom_39, r_G_moveFrom_40, r_G_moveFrom_42, r_G_moveFrom_45, r_G_moveFrom_48, r_G_moveFrom_49, r_G_moveFrom_50, r_G_moveFrom_51, r_G_moveFrom_53, r_G_moveFrom_56, r_G_moveFrom_57, r_G_moveFrom_58, r_G_moveFrom_61, r_G_moveFrom_63, r_G_moveFrom_64, r_G_moveFrom_65, r_G_moveFrom_66, r_G_moveFrom_67, r_G_moveFrom_70, r_G_moveFrom_72, r_G_moveFrom_74, r_G_moveFrom_76, r_G_moveFrom_78, r_G_moveFrom_79, r_G_moveFrom_82, r_G_moveFrom_83, r_G_moveFrom_86, r_G_moveFrom_89, r_G_moveFrom_90, r_G_moveFrom_93, r_G_moveFrom_94, r_G_moveFrom_96, r_G_moveFrom_98, r_G_moveFrom_101, r_G_moveFrom_102, r_G_moveFrom_103, r_G_moveFrom_106, r_G_moveFrom_109, r_G_moveFrom_110, r_G_moveFrom_112, r_G_moveFrom_115, r_G_moveFrom_118, r_G_moveFrom_120, r_G_moveFrom_123, r_G_moveFrom_124, hX.1, e_G_ahead hX hn hc hd]
  unfold mvf
  by_cases e0 : gs 9 0 = 1 ∧ d % 2 ≠ 0
  · simp [e0.1, e0.2, oI]
  · have e0' : (if gs 9 0 = 1 then if d % 2 = 0 then True else False else True) := by
      by_cases q : gs 9 0 = 1 <;> by_cases q2 : d % 2 = 0 <;> simp_all
    rw [if_neg e0]
    have key : ∀ A B : Prop, (if gs 9 0 = 1 then if d % 2 = 0 then A else B else A) ↔ A := by
      intro A B
      by_cases q : gs 9 0 = 1 <;> by_cases q2 : d % 2 = 0 <;> simp_all
    rw [key]
    cases hq : nbr w hh c d with
    | none => simp [oI, n_m1]
    | some n =>
      have hnn := nbr_lt hq
      have o1 : oI (some n) = nI n := rfl
      have o0 : oI none = -1 := rfl
      simp (disch := omega) only [o1, n_lt, n_eq, n_lt0, n_0lt, n_eq0, n_cl, n_add, n_mul, n_l, n_eqm, n_ltm, n_mlt, n_m1, l_lt, l_eq, l_lt0, l_0lt, l_eq0, l_add, l_mul, l_i, g_lt, g_eq, g_gt, n_div, n_rem, l_div, l_mod, n01_0, n01_1, n_1e, n_0e1, ald_i, ald_o, ald_l, ald_z, ald_a, ast_i, ast_l, ast_z, ast_a, zI_t, zI_f, zI_ok, zI_eq0, mx_li, mx_ll, mx_la, mx_get, mx_s1, mx_s2, mx_tl, mx_nl, mx_ic, mx_op, mx_oc, mx_fd, mx_lg, mx_ls, mx_pd, mx_len, mx_isc, mx_ps, mx_ent, mx_rv, ↓reduceIte, List.length_cons, List.length_nil, Nat.reduceAdd, Nat.reduceLT, Nat.reduceEqDiff, Nat.reduceBEq, true_and, and_true, or_false, or_true, false_or, true_or, and_self, not_false_eq_true, not_true_eq_false, mob_g0, mob_g1, mob_g2, mob_g3, mob_g4, mob_g5, mob_g6, mob_g7, mob_g8, mob_g9, mob_g10, mob_g11, mob_g12, mob_g13, mob_g14, mob_g15, mob_g16, mob_g17, mob_g18, mob_g19, mob_g20, mob_g21, mob_g22, mob_g23, mob_g24, mob_g25, mob_g26, mob_g27, mob_g28, mob_g29, mob_g30, mob_g31, mob_g32, mob_s0, mob_s1, mob_s11, mob_s12, mob_s13, mob_s14, mob_s15, mob_s19, mob_s20, mob_s21, mob_s22, mob_s23, mob_s24, mob_s31, mob_len, xob_g0, xob_g1, xob_g2, xob_g3, xob_g4, xob_g5, xob_g6, xob_s3, xob_s4, xob_s5, xob_s6, xob_len, gob_g0, gob_g1, gob_g2, gob_g3, gob_g4, gob_g5, gob_g6, gob_g7, gob_g8, gob_g9, gob_g10, gob_g11, gob_g12, gob_g13, gob_g14, gob_g15, gob_g16, gob_g17, gob_s0, gob_s1, gob_s2, gob_s15, gob_s16, gob_s17, gob_len, sob_g0, sob_g1, sob_g2, sob_g3, sob_g4, sob_g5, sob_g6, sob_g7, sob_g8, sob_g9, sob_s5, sob_s6, sob_s7, sob_s8, sob_s9, sob_len, qob_g0, qob_g1, qob_g2, qob_g3, qob_g4, qob_g5, qob_s0, qob_s1, qob_s2, qob_s3, qob_s4, qob_s5, qob_len, wob_g0, wob_g1, wob_g2, wob_s0, wob_s1, wob_s2, wob_len, pob_g0, pob_g1, pob_g2, pob_g3, pob_g4, pob_s0, pob_s1, pob_s2, pob_s3, pob_s4, pob_len, r_G_moveFrom_0, r_G_moveFrom_1, r_G_moveFrom_4, r_G_moveFrom_5, r_G_moveFrom_8, r_G_moveFrom_9, r_G_moveFrom_10, r_G_moveFrom_11, r_G_moveFrom_14, r_G_moveFrom_15, r_G_moveFrom_16, r_G_moveFrom_17, r_G_moveFrom_18, r_G_moveFrom_19, r_G_moveFrom_22, r_G_moveFrom_24, r_G_moveFrom_26, r_G_moveFrom_29, r_G_moveFrom_30, r_G_moveFrom_32, r_G_moveFrom_35, r_G_moveFrom_38, r_G_moveFrom_39, r_G_moveFrom_40, r_G_moveFrom_42, r_G_moveFrom_45, r_G_moveFrom_48, r_G_moveFrom_49, r_G_moveFrom_50, r_G_moveFrom_51, r_G_moveFrom_53, r_G_moveFrom_56, r_G_moveFrom_57, r_G_moveFrom_58, r_G_moveFrom_61, r_G_moveFrom_63, r_G_moveFrom_64, r_G_moveFrom_65, r_G_moveFrom_66, r_G_moveFrom_67, r_G_moveFrom_70, r_G_moveFrom_72, r_G_moveFrom_74, r_G_moveFrom_76, r_G_moveFrom_78, r_G_moveFrom_79, r_G_moveFrom_82, r_G_moveFrom_83, r_G_moveFrom_86, r_G_moveFrom_89, r_G_moveFrom_90, r_G_moveFrom_93, r_G_moveFrom_94, r_G_moveFrom_96, r_G_moveFrom_98, r_G_moveFrom_101, r_G_moveFrom_102, r_G_moveFrom_103, r_G_moveFrom_106, r_G_moveFrom_109, r_G_moveFrom_110, r_G_moveFrom_112, r_G_moveFrom_115, r_G_moveFrom_118, r_G_moveFrom_120, r_G_moveFrom_123, r_G_moveFrom_124, e_G_isClosedOff hX hB hn hnn, e_G_isTooSteep hX hB hn hc hnn, e_G_isBridged hX hB hn hc, e_G_isBridged hX hB hn hnn, hX.1, e_abs, e_min]
      cases h1 : sht gs n with
      | true => simp [oI]
      | false =>
        cases h2 : stp gs c n with
        | true => simp [oI]
        | false =>
          by_cases h3 : b = 16
          · simp [h3, oI]
          · by_cases h4 : b = d
            · simp [h4, oI]
            · simp only [h3, h4, reduceIte, or_self, Bool.false_eq_true]
              rw [absI (by omega) (by omega), difI hb (by omega)]
              have hdf := dif_le b d hb (by omega)
              simp (disch := omega) only [n_lt]
              by_cases h5 : gs 9 2 < dif b d
              · rw [if_pos h5, if_neg (by omega)]
                exact Iff.rfl
              · rw [if_neg h5]
                have h8 : dif b d ≤ gs 9 2 := by omega
                cases h6 : brg gs c <;> cases h7 : brg gs n <;> simp [oI, h8]
theorem e_G_bridgedUpTo {h : mxH} {w hh c r : Nat} {gs : mG} (hX : XG h w hh gs) (hB : GB gs) (hn : w * hh ≤ 144) (hc : c < w * hh) (hr : r < 1000000) (K : Option Value → mxH → Prop) : mcl mx_P 40 [.ref 17, .int (nI c), .int (nI r)] h K ↔ K (some (.int (if brg gs c = true then (if r < gs 3 c then nI (r + 1) else -1) else nI 0))) h := by
  have b3 := hB.2.2.2.1 c
  rw [mcl]
  simp (disch := omega) only [n_lt, n_eq, n_lt0, n_0lt, n_eq0, n_cl, n_add, n_mul, n_l, n_eqm, n_ltm, n_mlt, n_m1, l_lt, l_eq, l_lt0, l_0lt, l_eq0, l_add, l_mul, l_i, g_lt, g_eq, g_gt, n_div, n_rem, l_div, l_mod, n01_0, n01_1, n_1e, n_0e1, ald_i, ald_o, ald_l, ald_z, ald_a, ast_i, ast_l, ast_z, ast_a, zI_t, zI_f, zI_ok, zI_eq0, mx_li, mx_ll, mx_la, mx_get, mx_s1, mx_s2, mx_tl, mx_nl, mx_ic, mx_op, mx_oc, mx_fd, mx_lg, mx_ls, mx_pd, mx_len, mx_isc, mx_ps, mx_ent, mx_rv, ↓reduceIte, List.length_cons, List.length_nil, Nat.reduceAdd, Nat.reduceLT, Nat.reduceEqDiff, Nat.reduceBEq, true_and, and_true, or_false, or_true, false_or, true_or, and_self, not_false_eq_true, not_true_eq_false, mob_g0, mob_g1, mob_g2, mob_g3, mob_g4, mob_g5, mob_g6, mob_g7, mob_g8, mob_g9, mob_g10, mob_g11, mob_g12, mob_g13, mob_g14, mob_g15, mob_g16, mob_g17, mob_g18, mob_g19, mob_g20, mob_g21, mob_g22, mob_g23, mob_g24, mob_g25, mob_g26, mob_g27, mob_g28, mob_g29, mob_g30, mob_g31, mob_g32, mob_s0, mob_s1, mob_s11, mob_s12, mob_s13, mob_s14, mob_s15, mob_s19, mob_s20, mob_s21, mob_s22, mob_s23, mob_s24, mob_s31, mob_len, xob_g0, xob_g1, xob_g2, xob_g3, xob_g4, xob_g5, xob_g6, xob_s3, xob_s4, xob_s5, xob_s6, xob_len, gob_g0, gob_g1, gob_g2, gob_g3, gob_g4, gob_g5, gob_g6, gob_g7, gob_g8, gob_g9, gob_g10, gob_g11, gob_g12, gob_g13, gob_g14, gob_g15, gob_g16, gob_g17, gob_s0, gob_s1, gob_s2, gob_s15, gob_s16, gob_s17, gob_len, sob_g0, sob_g1, sob_g2, sob_g3, sob_g4, sob_g5, sob_g6, sob_g7, sob_g8, sob_g9, sob_s5, sob_s6, sob_s7, sob_s8, sob_s9, sob_len, qob_g0, qob_g1, qob_g2, qob_g3, qob_g4, qob_g5, qob_s0, qob_s1, qob_s2, qob_s3, qob_s4, qob_s5, qob_len, wob_g0, wob_g1, wob_g2, wob_s0, wob_s1, wob_s2, wob_len, pob_g0, pob_g1, pob_g2, pob_g3, pob_g4, pob_s0, pob_s1, pob_s2, pob_s3, pob_s4, pob_len, r_G_bridgedUpTo_0, r_G_bridgedUpTo_1, r_G_bridgedUpTo_2, r_G_bridgedUpTo_5, r_G_bridgedUpTo_8, r_G_bridgedUpTo_9, r_G_bridgedUpTo_10, r_G_bridgedUpTo_11, r_G_bridgedUpTo_12, r_G_bridgedUpTo_15, r_G_bridgedUpTo_16, r_G_bridgedUpTo_17, r_G_bridgedUpTo_20, r_G_bridgedUpTo_21, r_G_bridgedUpTo_22, r_G_bridgedUpTo_23, r_G_bridgedUpTo_26, r_G_bridgedUpTo_27, hX.1, hX.2.2.2.2.2.2.2.1, e_G_isBridged hX hB hn hc]
  cases h1 : brg gs c with
  | false => simp
  | true => by_cases h2 : r < gs 3 c <;> simp [h2]
