/-! THE GROUND, as a mathematical value: field and place to a number. 0 price, 1 level, 2 barred, 3 most, 4 cents, 5 zone (place: the cell c); 6 mark (8 c + person); 7 value (4 c + aim); 8 weight (aim); 9 reach, slope, turn (0, 1, 2) -/
abbrev mG : Type := Nat → Nat → Nat
def gsu (gs : mG) (f i v : Nat) : mG := fun a j => if a = f ∧ j = i then v else gs a j
/-- what holds of every ground -/
def GB (gs : mG) : Prop := (∀ i, gs 0 i ≤ 999) ∧ (∀ i, gs 1 i ≤ 9999) ∧ (∀ i, gs 2 i ≤ 1) ∧ (∀ i, gs 3 i ≤ 3) ∧ (∀ i, gs 4 i ≤ 9999) ∧ (∀ i, gs 5 i ≤ 7) ∧ (∀ i, gs 6 i ≤ 3) ∧ (∀ i, gs 7 i ≤ 999) ∧ (∀ i, gs 8 i ≤ 1200) ∧ (gs 9 0 = 1 ∨ gs 9 0 = 2) ∧ gs 9 1 ≤ 9999 ∧ gs 9 2 ≤ 8
/-- all marks of a cell, four values each -/
def pkm (gs : mG) (c : Nat) : Nat := gs 6 (8 * c) + 4 * gs 6 (8 * c + 1) + 16 * gs 6 (8 * c + 2) + 64 * gs 6 (8 * c + 3) + 256 * gs 6 (8 * c + 4) + 1024 * gs 6 (8 * c + 5) + 4096 * gs 6 (8 * c + 6) + 16384 * gs 6 (8 * c + 7)
def msum (gs : mG) (c : Nat) : Nat := gs 6 (8 * c) + gs 6 (8 * c + 1) + gs 6 (8 * c + 2) + gs 6 (8 * c + 3) + gs 6 (8 * c + 4) + gs 6 (8 * c + 5) + gs 6 (8 * c + 6) + gs 6 (8 * c + 7)
/-- bridged; barred without a bridge -/
def brg (gs : mG) (c : Nat) : Bool := decide (gs 2 c = 1) && decide (0 < gs 3 c)
def sht (gs : mG) (c : Nat) : Bool := decide (gs 2 c = 1) && decide (gs 3 c = 0)
/-- a cell's value of an aim, marks counted -/
def val (gs : mG) (a c : Nat) : Nat := gs 7 (4 * c + a) + (if a = 3 then 10 * msum gs c else 0)
/-- what a unit of length into a cell costs, in sixtieths -/
def unt (gs : mG) (c : Nat) : Nat := if brg gs c = true then 60 * gs 4 c else 60 * gs 0 c + gs 8 0 * val gs 0 c + gs 8 1 * val gs 1 c + gs 8 2 * val gs 2 c + gs 8 3 * val gs 3 c
def dxl : List Int := [1, 2, 1, 1, 0, -1, -1, -2, -1, -2, -1, -1, 0, 1, 1, 2]
def dyl : List Int := [0, 1, 1, 2, 1, 2, 1, 1, 0, -1, -1, -2, -1, -2, -1, -1]
def lnl : List Nat := [10, 22, 14, 22, 10, 22, 14, 22, 10, 22, 14, 22, 10, 22, 14, 22]
/-- the cell that a heading leads to -/
def nbr (w hh c d : Nat) : Option Nat := if 0 ≤ (c % w : Int) + dxl.getD d 0 ∧ (c % w : Int) + dxl.getD d 0 < w ∧ 0 ≤ (c / w : Int) + dyl.getD d 0 ∧ (c / w : Int) + dyl.getD d 0 < hh then some (((c / w : Int) + dyl.getD d 0).toNat * w + ((c % w : Int) + dxl.getD d 0).toNat) else none
def oI (o : Option Nat) : Int32 := match o with
  | some k => nI k
  | none => -1
/-- the class's ground at its cells -/
def XG (h : mxH) (w hh : Nat) (gs : mG) : Prop :=
  h.1 17 = .inr (1, [.int (nI w), .int (nI hh), .int (nI (w * hh)), .ref 18, .ref 19, .ref 20, .ref 21, .ref 22, .ref 23, .ref 24, .ref 25, .ref 26, .ref 27, .ref 28, .ref 29, .int (nI (gs 9 0)), .int (nI (gs 9 1)), .int (nI (gs 9 2))]) ∧
  h.1 18 = .inl (0, w * hh, .inl (fun c => if c < w * hh then nI (c % w) else 0)) ∧ h.1 19 = .inl (0, w * hh, .inl (fun c => if c < w * hh then nI (c / w) else 0)) ∧ h.1 20 = .inl (0, w * hh * 16, .inl (fun i => if i < w * hh * 16 then oI (nbr w hh (i / 16) (i % 16)) else 0)) ∧
  h.1 21 = .inl (0, w * hh, .inl (fun c => nI (gs 0 c))) ∧ h.1 22 = .inl (0, w * hh, .inl (fun c => nI (gs 1 c))) ∧ h.1 23 = .inl (2, w * hh, .inl (fun c => nI (gs 2 c))) ∧ h.1 24 = .inl (0, w * hh, .inl (fun c => nI (gs 3 c))) ∧ h.1 25 = .inl (0, w * hh, .inl (fun c => nI (gs 4 c))) ∧ h.1 26 = .inl (0, w * hh, .inl (fun c => nI (gs 5 c))) ∧ h.1 27 = .inl (0, w * hh, .inl (fun c => nI (pkm gs c))) ∧
  h.1 28 = .inl (0, 4 * (w * hh), .inl (fun i => nI (gs 7 (4 * (i % (w * hh)) + i / (w * hh))))) ∧ h.1 29 = .inl (1, 4, .inr (.inl (fun a => lN (gs 8 a))))
theorem e_G_isBridged {h : mxH} {w hh c : Nat} {gs : mG} (hX : XG h w hh gs) (hB : GB gs) (hn : w * hh ≤ 144) (hc : c < w * hh) (K : Option Value → mxH → Prop) : mcl mx_P 30 [.ref 17, .int (nI c)] h K ↔ K (some (.int (zI (brg gs c)))) h := by
  obtain ⟨x17, x18, x19, x20, x21, x22, x23, x24, x25, x26, x27, x28, x29⟩ := hX
  have b2 := hB.2.2.1 c
  have b3 := hB.2.2.2.1 c
  rw [mcl]
  simp (disch := omega) only [mx_li, mx_ll, mx_la, mx_get, mx_s1, mx_s2, mx_tl, mx_nl, mx_ic, mx_op, mx_oc, mx_fd, mx_lg, mx_ls, mx_pd, mx_len, mx_isc, mx_ps, mx_ent, mx_rv, reduceIte, List.length_cons, List.length_nil, Nat.reduceAdd, Nat.reduceLT, Nat.reduceEqDiff, Nat.reduceBEq, true_and, and_true, or_false, or_true, false_or, true_or, and_self, not_false_eq_true, not_true_eq_false, n_lt, n_eq, n_lt0, n_0lt, n_eq0, n_cl, n_add, n_mul, n_l, n_eqm, n_ltm, n_mlt, n_m1, l_lt, l_eq, l_lt0, l_0lt, l_eq0, l_add, l_mul, l_i, g_lt, g_eq, g_gt, n_div, n_rem, l_div, l_mod, n01_0, n01_1, n_1e, n_0e1, ald_i, ald_o, ald_l, ald_z, ald_a, ast_i, ast_l, ast_z, ast_a, zI_t, zI_f, zI_ok, zI_eq0, r_G_isBridged_0, r_G_isBridged_1, r_G_isBridged_4, r_G_isBridged_5, r_G_isBridged_6, r_G_isBridged_9, r_G_isBridged_10, r_G_isBridged_13, r_G_isBridged_14, r_G_isBridged_15, r_G_isBridged_18, r_G_isBridged_19, r_G_isBridged_22, r_G_isBridged_23, x17, x23, x24]
  unfold brg
  by_cases e : gs 2 c = 0
  · simp only [e, reduceIte, Nat.reduceEqDiff, decide_false, Bool.false_and, zI_f]
    simp [zI_f]
  · have e1 : gs 2 c = 1 := by omega
    by_cases e2 : 0 < gs 3 c <;> simp [e, e1, e2, zI_f, zI_t]
theorem e_G_isClosedOff {h : mxH} {w hh c : Nat} {gs : mG} (hX : XG h w hh gs) (hB : GB gs) (hn : w * hh ≤ 144) (hc : c < w * hh) (K : Option Value → mxH → Prop) : mcl mx_P 31 [.ref 17, .int (nI c)] h K ↔ K (some (.int (zI (sht gs c)))) h := by
  obtain ⟨x17, x18, x19, x20, x21, x22, x23, x24, x25, x26, x27, x28, x29⟩ := hX
  have b2 := hB.2.2.1 c
  have b3 := hB.2.2.2.1 c
  rw [mcl]
  simp (disch := omega) only [mx_li, mx_ll, mx_la, mx_get, mx_s1, mx_s2, mx_tl, mx_nl, mx_ic, mx_op, mx_oc, mx_fd, mx_lg, mx_ls, mx_pd, mx_len, mx_isc, mx_ps, mx_ent, mx_rv, reduceIte, List.length_cons, List.length_nil, Nat.reduceAdd, Nat.reduceLT, Nat.reduceEqDiff, Nat.reduceBEq, true_and, and_true, or_false, or_true, false_or, true_or, and_self, not_false_eq_true, not_true_eq_false, n_lt, n_eq, n_lt0, n_0lt, n_eq0, n_cl, n_add, n_mul, n_l, n_eqm, n_ltm, n_mlt, n_m1, l_lt, l_eq, l_lt0, l_0lt, l_eq0, l_add, l_mul, l_i, g_lt, g_eq, g_gt, n_div, n_rem, l_div, l_mod, n01_0, n01_1, n_1e, n_0e1, ald_i, ald_o, ald_l, ald_z, ald_a, ast_i, ast_l, ast_z, ast_a, zI_t, zI_f, zI_ok, zI_eq0, r_G_isClosedOff_0, r_G_isClosedOff_1, r_G_isClosedOff_4, r_G_isClosedOff_5, r_G_isClosedOff_6, r_G_isClosedOff_9, r_G_isClosedOff_10, r_G_isClosedOff_13, r_G_isClosedOff_14, r_G_isClosedOff_15, r_G_isClosedOff_18, r_G_isClosedOff_19, r_G_isClosedOff_22, r_G_isClosedOff_23, x17, x23, x24]
  unfold sht
  by_cases e : gs 2 c = 0
  · simp [e, zI_f]
  · have e1 : gs 2 c = 1 := by omega
    by_cases e2 : gs 3 c = 0 <;> simp [e, e1, e2, zI_f, zI_t]
