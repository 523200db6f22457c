/-! THE REFERENCE's GROUND, the same mathematical value -/
def MG (h : mxH) (w hh : Nat) (gs : mG) : Prop :=
  (∃ (fd hd nd : Int32) (bd : Int64) (pv fr en sm sz : Int32), h.1 58 = .inr (5, mob (nI w) (nI hh) (nI (gs 9 0)) (nI (gs 9 1)) (nI (gs 9 2)) fd hd nd bd pv fr en sm sz)) ∧
  h.1 59 = .inl (0, 144, .inl (fun c => nI (gs 0 c))) ∧ h.1 60 = .inl (0, 144, .inl (fun c => nI (gs 1 c))) ∧ h.1 61 = .inl (2, 144, .inl (fun c => nI (gs 2 c))) ∧ h.1 62 = .inl (0, 144, .inl (fun c => nI (gs 3 c))) ∧ h.1 63 = .inl (0, 144, .inl (fun c => nI (gs 4 c))) ∧
  h.1 64 = .inl (0, 576, .inl (fun i => nI (gs 7 i))) ∧ h.1 65 = .inl (0, 1152, .inl (fun i => nI (gs 6 i))) ∧ h.1 66 = .inl (0, 144, .inl (fun c => nI (gs 5 c))) ∧ h.1 67 = .inl (0, 4, .inl (fun a => nI (gs 8 a)))
def iZ (z : Int) : Int32 := Int32.ofInt z
theorem iZ_toInt {z : Int} (h1 : -1000000000 < z) (h2 : z < 1000000000) : (iZ z).toInt = z := by
  exact Int32.toInt_ofInt_of_le (by show (-2147483648 : Int) ≤ z; omega) (by show z < 2147483648; omega)
theorem iZ_nat (n : Nat) : iZ (n : Int) = nI n := by
  unfold iZ nI
  exact Int32.ofInt_eq_ofNat
theorem nI_iZ (a : Nat) (z : Int) : nI a + iZ z = iZ (a + z) := by
  rw [← iZ_nat]
  unfold iZ
  rw [Int32.ofInt_add]
theorem celZ {w hh : Nat} {X Y : Int} (hw : w < 1000000) (hh' : hh < 1000000) (x1 : -1000000 < X) (x2 : X < 1000000) (y1 : -1000000 < Y) (y2 : Y < 1000000) : cel w hh (iZ X) (iZ Y) = if 0 ≤ X ∧ X < w ∧ 0 ≤ Y ∧ Y < hh then some (Y.toNat * w + X.toNat) else none := by
  unfold cel
  have ex := iZ_toInt (z := X) (by omega) (by omega)
  have ey := iZ_toInt (z := Y) (by omega) (by omega)
  have c1 : (iZ X < 0) ↔ X < 0 := by rw [Int32.lt_iff_toInt_lt, ex]; rfl
  have c2 : (iZ Y < 0) ↔ Y < 0 := by rw [Int32.lt_iff_toInt_lt, ey]; rfl
  have c3 : (iZ X < nI w) ↔ X < w := by rw [Int32.lt_iff_toInt_lt, ex, nI_toInt (by omega)]
  have c4 : (iZ Y < nI hh) ↔ Y < hh := by rw [Int32.lt_iff_toInt_lt, ey, nI_toInt (by omega)]
  by_cases e : 0 ≤ X ∧ X < w ∧ 0 ≤ Y ∧ Y < hh
  · rw [if_pos e, if_pos ⟨⟨by rw [c1]; omega, c3.mpr e.2.1⟩, by rw [c2]; omega, c4.mpr e.2.2.2⟩]
    rw [show (iZ Y).toNatClampNeg = Y.toNat by unfold Int32.toNatClampNeg; rw [ey], show (iZ X).toNatClampNeg = X.toNat by unfold Int32.toNatClampNeg; rw [ex]]
  · rw [if_neg e, if_neg]
    rintro ⟨⟨q1, q2⟩, q3, q4⟩
    rw [c1] at q1
    rw [c2] at q3
    exact e ⟨by omega, c3.mp q2, by omega, c4.mp q4⟩
theorem dxl_b (d : Nat) : -3 < dxl.getD d 0 ∧ dxl.getD d 0 < 3 := by
  by_cases h : d < 16
  · have : ∀ d : Fin 16, -3 < dxl.getD d.val 0 ∧ dxl.getD d.val 0 < 3 := by decide +kernel
    exact this ⟨d, h⟩
  · rw [List.getD_eq_getElem?_getD, List.getElem?_eq_none (by show 16 ≤ d; omega)]
    decide
theorem dyl_b (d : Nat) : -3 < dyl.getD d 0 ∧ dyl.getD d 0 < 3 := by
  by_cases h : d < 16
  · have : ∀ d : Fin 16, -3 < dyl.getD d.val 0 ∧ dyl.getD d.val 0 < 3 := by decide +kernel
    exact this ⟨d, h⟩
  · rw [List.getD_eq_getElem?_getD, List.getElem?_eq_none (by show 16 ≤ d; omega)]
    decide
theorem cel_nbr {w hh c d : Nat} (hw : 0 < w) (hw2 : w ≤ 12) (hh2 : hh ≤ 12) (hc : c < 1000) : cel w hh (nI (c % w) + iZ (dxl.getD d 0)) (nI (c / w) + iZ (dyl.getD d 0)) = nbr w hh c d := by
  have h1 := dxl_b d
  have h2 := dyl_b d
  have h3 : c % w < w := Nat.mod_lt _ hw
  have h4 : c / w ≤ c := Nat.div_le_self _ _
  have h5 := Int.natCast_nonneg (c / w)
  rw [nI_iZ, nI_iZ, celZ (by omega) (by omega) (by omega) (by omega) (by omega) (by omega)]
  unfold nbr
  rfl
theorem wi_cell {w : Nat} (hw : 0 < w) (hw2 : w ≤ 12) (x : Int32) : wi x.toInt64 (lN 0) ((nI w).toInt64 - lN 1) = true ↔ (¬ x < 0 ∧ x < nI w) := by
  unfold wi
  rw [n_l (by omega), l_sub (by omega), Bool.and_eq_true, Bool.not_eq_true', Bool.not_eq_true', decide_eq_false_iff_not, decide_eq_false_iff_not]
  rw [Int64.lt_iff_toInt_lt, Int64.lt_iff_toInt_lt, Int32.lt_iff_toInt_lt, Int32.lt_iff_toInt_lt, Int32.toInt_toInt64, lN_toInt (by omega), lN_toInt (by omega), nI_toInt (by omega), Int32.toInt_zero]
  omega
theorem e_M_isCell {h : mxH} {w hh : Nat} {gs : mG} (hM : MG h w hh gs) (hw : 0 < w) (hw2 : w ≤ 12) (h0 : 0 < hh) (hh2 : hh ≤ 12) (x y : Int32) (K : Option Value → mxH → Prop) : mcl mx_P 78 [.ref 58, .int x, .int y] h K ↔ K (some (.int (zI (cel w hh x y).isSome))) h := by
  obtain ⟨⟨fd, hd, nd, bd, pv, fr, en, sm, sz, x58⟩, -⟩ := hM
  rw [mcl]
  simp only [mx_li, mx_ll, mx_la, mx_get, mx_s1, mx_s2, mx_tl, mx_nl, mx_ic, mx_op, mx_oc, mx_fd, mx_lg, mx_ls, mx_pd, mx_len, mx_isc, mx_ps, mx_ent, mx_rv, ↓reduceIte, List.length_cons, List.length_nil, Nat.reduceAdd, Nat.reduceLT, Nat.reduceEqDiff, Nat.reduceBEq, true_and, and_true, or_false, or_true, false_or, true_or, and_self, not_false_eq_true, not_true_eq_false, mob_g0, mob_g1, mob_g2, mob_g3, mob_g4, mob_g5, mob_g6, mob_g7, mob_g8, mob_g9, mob_g10, mob_g11, mob_g12, mob_g13, mob_g14, mob_g15, mob_g16, mob_g17, mob_g18, mob_g19, mob_g20, mob_g21, mob_g22, mob_g23, mob_g24, mob_g25, mob_g26, mob_g27, mob_g28, mob_g29, mob_g30, mob_g31, mob_g32, mob_s0, mob_s1, mob_s11, mob_s12, mob_s13, mob_s14, mob_s15, mob_s19, mob_s20, mob_s21, mob_s22, mob_s23, mob_s24, mob_s31, mob_len, xob_g0, xob_g1, xob_g2, xob_g3, xob_g4, xob_g5, xob_g6, xob_s3, xob_s4, xob_s5, xob_s6, xob_len, gob_g0, gob_g1, gob_g2, gob_g3, gob_g4, gob_g5, gob_g6, gob_g7, gob_g8, gob_g9, gob_g10, gob_g11, gob_g12, gob_g13, gob_g14, gob_g15, gob_g16, gob_g17, gob_s0, gob_s1, gob_s2, gob_s15, gob_s16, gob_s17, gob_len, sob_g0, sob_g1, sob_g2, sob_g3, sob_g4, sob_g5, sob_g6, sob_g7, sob_g8, sob_g9, sob_s5, sob_s6, sob_s7, sob_s8, sob_s9, sob_len, qob_g0, qob_g1, qob_g2, qob_g3, qob_g4, qob_g5, qob_s0, qob_s1, qob_s2, qob_s3, qob_s4, qob_s5, qob_len, wob_g0, wob_g1, wob_g2, wob_s0, wob_s1, wob_s2, wob_len, pob_g0, pob_g1, pob_g2, pob_g3, pob_g4, pob_s0, pob_s1, pob_s2, pob_s3, pob_s4, pob_len, r_M_isCell_0, r_M_isCell_1, r_M_isCell_2, r_M_isCell_3, r_M_isCell_4, r_M_isCell_7, r_M_isCell_8, r_M_isCell_9, r_M_isCell_10, r_M_isCell_13, r_M_isCell_16, r_M_isCell_17, r_M_isCell_18, r_M_isCell_19, r_M_isCell_20, r_M_isCell_23, r_M_isCell_24, r_M_isCell_25, r_M_isCell_26, r_M_isCell_29, r_M_isCell_32, r_M_isCell_33, r_M_isCell_36, r_M_isCell_37, x58, e_M_within, zI_eq0]
  have wx := wi_cell hw hw2 x
  have wy := wi_cell h0 hh2 y
  cases a1 : wi x.toInt64 (lN 0) ((nI w).toInt64 - lN 1) with
  | true =>
    cases a2 : wi y.toInt64 (lN 0) ((nI hh).toInt64 - lN 1) with
    | true =>
      have ec : (cel w hh x y).isSome = true := by unfold cel; rw [if_pos ⟨wx.mp a1, wy.mp a2⟩]; rfl
      simp [ec, zI_t, n_1e]
    | false =>
      have ec : (cel w hh x y).isSome = false := by unfold cel; rw [if_neg (fun q => by rw [wy.mpr q.2] at a2; cases a2)]; rfl
      simp [ec, zI_f]
      intro q
      exact Or.inl rfl
  | false =>
    have ec : (cel w hh x y).isSome = false := by unfold cel; rw [if_neg (fun q => by rw [wx.mpr q.1] at a1; cases a1)]; rfl
    simp [ec, zI_f]
    intro q
    exact Or.inl rfl
