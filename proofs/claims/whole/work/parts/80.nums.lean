/-! NUMBERS, as equations for simp -/
theorem n_lt {a b : Nat} (ha : a < 2147483648) (hb : b < 2147483648) : (nI a < nI b) = (a < b) := propext (nI_ltI ha hb)
theorem n_eq {a b : Nat} (ha : a < 2147483648) (hb : b < 2147483648) : (nI a = nI b) = (a = b) := propext (nI_eq ha hb)
theorem n_lt0 {a : Nat} (ha : a < 2147483648) : (nI a < 0) = False := eq_false (nI_pos ha)
theorem n_0lt {a : Nat} (ha : a < 2147483648) : (0 < nI a) = (0 < a) := by
  rw [← nI_0]; exact n_lt (by decide) ha
theorem n_eq0 {a : Nat} (ha : a < 2147483648) : (nI a = 0) = (a = 0) := by
  rw [← nI_0]; exact n_eq ha (by decide)
theorem n_cl {a : Nat} (ha : a < 2147483648) : (nI a).toNatClampNeg = a := nI_clamp ha
theorem n_add (a b : Nat) : nI a + nI b = nI (a + b) := nI_add a b
theorem n_mul (a b : Nat) : nI a * nI b = nI (a * b) := pk_mul a b
theorem n_sub {a b : Nat} (h : b ≤ a) : nI a - nI b = nI (a - b) := pk_sub h
theorem n_div {a d : Nat} (ha : a < 2147483648) (h0 : 0 < d) (hd : d < 2147483648) : nI a / nI d = nI (a / d) := pk_div ha h0 hd
theorem n_rem {a d : Nat} (ha : a < 2147483648) (h0 : 0 < d) (hd : d < 2147483648) : i_rem (nI a) (nI d) = nI (a % d) := pk_rem ha h0 hd
theorem n_l {a : Nat} (ha : a < 2147483648) : (nI a).toInt64 = lN a := nI_l ha
theorem n_ltm {a : Nat} (ha : a < 2147483648) : (nI a < -1) = False := by
  refine eq_false ?_
  rw [Int32.lt_iff_toInt_lt, nI_toInt ha]
  have : (-1 : Int32).toInt = -1 := by decide
  omega
theorem n_eqm {a : Nat} (ha : a < 2147483648) : (nI a = -1) = False := by
  refine eq_false ?_
  intro h
  have h1 := congrArg Int32.toInt h
  rw [nI_toInt ha] at h1
  have : (-1 : Int32).toInt = -1 := by decide
  omega
theorem n_mlt {a : Nat} (ha : a < 2147483648) : (-1 < nI a) = True := by
  refine eq_true ?_
  rw [Int32.lt_iff_toInt_lt, nI_toInt ha]
  have : (-1 : Int32).toInt = -1 := by decide
  omega
theorem n_m1 : ((-1 : Int32) < 0) = True := eq_true (by decide)
theorem l_lt {a b : Nat} (ha : a < 9223372036854775808) (hb : b < 9223372036854775808) : (lN a < lN b) = (a < b) := propext (pk_lLT ha hb)
theorem l_eq {a b : Nat} (ha : a < 9223372036854775808) (hb : b < 9223372036854775808) : (lN a = lN b) = (a = b) := propext (pk_lEQ ha hb)
theorem lN_0 : lN 0 = 0 := by decide
theorem l_lt0 {a : Nat} (ha : a < 9223372036854775808) : (lN a < 0) = False := by
  rw [← lN_0, l_lt ha (by decide)]; simp
theorem l_0lt {a : Nat} (ha : a < 9223372036854775808) : (0 < lN a) = (0 < a) := by
  rw [← lN_0, l_lt (by decide) ha]
theorem l_eq0 {a : Nat} (ha : a < 9223372036854775808) : (lN a = 0) = (a = 0) := by
  rw [← lN_0, l_eq ha (by decide)]
theorem l_add (a b : Nat) : lN a + lN b = lN (a + b) := lN_add a b
theorem l_mul (a b : Nat) : lN a * lN b = lN (a * b) := lN_mul a b
theorem l_sub {a b : Nat} (h : b ≤ a) : lN a - lN b = lN (a - b) := lN_sub h
theorem l_div {a d : Nat} (ha : a < 9223372036854775808) (h0 : 0 < d) (hd : d < 9223372036854775808) : lN a / lN d = lN (a / d) := pk_lDiv ha h0 hd
theorem l_mod {a d : Nat} (ha : a < 9223372036854775808) (h0 : 0 < d) (hd : d < 9223372036854775808) : l_rem (lN a) (lN d) = lN (a % d) := pk_lRem ha h0 hd
theorem l_i (a : Nat) : (lN a).toInt32 = nI a := lN_i a
theorem g_lt (x y : Int64) : (lg_cmp x y < 0) = (x < y) := by
  refine propext ?_
  have h := lg_cmp_ge x y
  rw [← Int32.not_lt, ← Int64.not_lt] at h
  exact ⟨fun a => Decidable.byContradiction fun q => (h.mpr q) a, fun a => Decidable.byContradiction fun q => (h.mp q) a⟩
theorem g_eq (x y : Int64) : (lg_cmp x y = 0) = (x = y) := by
  refine propext ?_
  unfold lg_cmp
  by_cases h1 : x > y
  · rw [if_pos h1]
    refine ⟨fun h => absurd h (by decide), fun h => ?_⟩
    rw [h] at h1
    exact absurd h1 Int64.lt_irrefl
  · rw [if_neg h1]
    by_cases h2 : x = y
    · rw [if_pos h2]; simp [h2]
    · rw [if_neg h2]
      exact ⟨fun h => absurd h (by decide), fun h => absurd h h2⟩
theorem g_gt (x y : Int64) : (0 < lg_cmp x y) = (y < x) := by
  refine propext ?_
  unfold lg_cmp
  by_cases h1 : x > y
  · rw [if_pos h1]
    exact ⟨fun _ => h1, fun _ => by decide⟩
  · rw [if_neg h1]
    by_cases h2 : x = y
    · rw [if_pos h2]
      exact ⟨fun h => absurd h (by decide), fun h => absurd h h1⟩
    · rw [if_neg h2]
      exact ⟨fun h => absurd h (by decide), fun h => absurd h h1⟩
theorem mx_ix {j n : Nat} (h : j < n) (hj : j < 2147483648) : ¬ (nI j < 0 ∨ n ≤ (nI j).toNatClampNeg) := by
  rw [n_cl hj]
  rintro (q | q)
  · exact nI_pos hj q
  · omega
/-- reading and writing arrays at a place that is there -/
theorem ald_i {j n : Nat} {f : Nat → Int32} (h : j < n) (hj : j < 2147483648) : mx_ald 0 (nI j) (.inl (0, n, .inl f)) = some (.int (f j)) := by
  unfold mx_ald
  dsimp only
  rw [if_pos ⟨Or.inl rfl, mx_ix h hj⟩, n_cl hj]
theorem ald_o {j n : Nat} {f : Nat → Int32} (h : j < n) (hj : j < 2147483648) : mx_ald 0 (nI j) (.inl (9, n, .inl f)) = some (.int (f j)) := by
  unfold mx_ald
  dsimp only
  rw [if_pos ⟨Or.inr ⟨rfl, rfl⟩, mx_ix h hj⟩, n_cl hj]
theorem ald_l {j n : Nat} {f : Nat → Int64} (h : j < n) (hj : j < 2147483648) : mx_ald 1 (nI j) (.inl (1, n, .inr (.inl f))) = some (.long (f j)) := by
  unfold mx_ald
  dsimp only
  rw [if_pos ⟨rfl, mx_ix h hj⟩, n_cl hj]
theorem ald_z {j n : Nat} {f : Nat → Int32} (h : j < n) (hj : j < 2147483648) : mx_ald 2 (nI j) (.inl (2, n, .inl f)) = some (.int (f j)) := by
  unfold mx_ald
  dsimp only
  rw [if_pos ⟨Or.inl rfl, mx_ix h hj⟩, n_cl hj]
theorem ald_a {j n : Nat} {f : Nat → Option Nat} (h : j < n) (hj : j < 2147483648) : mx_ald 3 (nI j) (.inl (3, n, .inr (.inr (.inr (.inr f))))) = some (mx_rv (f j)) := by
  unfold mx_ald
  dsimp only
  rw [if_pos ⟨rfl, mx_ix h hj⟩, n_cl hj]
theorem ast_i {j n : Nat} {f : Nat → Int32} {x : Int32} (h : j < n) (hj : j < 2147483648) : mx_ast 0 (nI j) (.int x) (.inl (0, n, .inl f)) = some (.inl (0, n, .inl (va_up f j x))) := by
  unfold mx_ast
  dsimp only
  rw [if_pos ⟨rfl, mx_ix h hj⟩, n_cl hj]
theorem ast_l {j n : Nat} {f : Nat → Int64} {x : Int64} (h : j < n) (hj : j < 2147483648) : mx_ast 1 (nI j) (.long x) (.inl (1, n, .inr (.inl f))) = some (.inl (1, n, .inr (.inl (va_up f j x)))) := by
  unfold mx_ast
  dsimp only
  rw [if_pos ⟨rfl, mx_ix h hj⟩, n_cl hj]
theorem ast_z {j n : Nat} {f : Nat → Int32} {x : Int32} (h : j < n) (hj : j < 2147483648) : mx_ast 2 (nI j) (.int x) (.inl (2, n, .inl f)) = some (.inl (2, n, .inl (va_up f j x))) := by
  unfold mx_ast
  dsimp only
  rw [if_pos ⟨rfl, mx_ix h hj⟩, n_cl hj]
theorem ast_a {j n x : Nat} {f : Nat → Option Nat} (h : j < n) (hj : j < 2147483648) : mx_ast 3 (nI j) (.ref x) (.inl (3, n, .inr (.inr (.inr (.inr f))))) = some (.inl (3, n, .inr (.inr (.inr (.inr (va_up f j (some x))))))) := by
  unfold mx_ast
  dsimp only
  rw [if_pos ⟨rfl, mx_ix h hj⟩, n_cl hj]
/-- cells read behind writes -/
theorem up_1 (h : mxH) (k : Nat) (c : mxC) (j : Nat) : (mx_up h k c).1 j = if j = k then c else h.1 j := rfl
theorem up_2 (h : mxH) (k : Nat) (c : mxC) : (mx_up h k c).2 = h.2 := rfl
theorem mk_1 (h : mxH) (c : mxC) (w j : Nat) : (mx_mk h c w).1 j = if j = h.2.1 then c else h.1 j := rfl
theorem mk_21 (h : mxH) (c : mxC) (w : Nat) : (mx_mk h c w).2.1 = h.2.1 + 1 := rfl
theorem mk_22 (h : mxH) (c : mxC) (w : Nat) : (mx_mk h c w).2.2 = h.2.2 + w := rfl
theorem up_up (h : mxH) (k : Nat) (c d : mxC) : mx_up (mx_up h k c) k d = mx_up h k d := by
  unfold mx_up
  refine Prod.ext ?_ rfl
  funext j
  show va_up (va_up h.1 k c) k d j = va_up h.1 k d j
  by_cases e : j = k
  · subst e; rw [va_up_self, va_up_self]
  · rw [va_up_ne _ _ e, va_up_ne _ _ e, va_up_ne _ _ e]
theorem up_self {h : mxH} {k : Nat} {c : mxC} (e : h.1 k = c) : mx_up h k c = h := by
  unfold mx_up
  refine Prod.ext ?_ rfl
  funext j
  show va_up h.1 k c j = h.1 j
  by_cases q : j = k
  · subst q; rw [va_up_self, e]
  · rw [va_up_ne _ _ q]
theorem up_comm (h : mxH) {k l : Nat} (c d : mxC) (e : k ≠ l) : mx_up (mx_up h k c) l d = mx_up (mx_up h l d) k c := by
  unfold mx_up
  refine Prod.ext ?_ rfl
  funext j
  show va_up (va_up h.1 k c) l d j = va_up (va_up h.1 l d) k c j
  by_cases q : j = k
  · subst q; rw [va_up_self, va_up_ne _ _ e, va_up_self]
  · rw [va_up_ne _ _ q]
    by_cases r : j = l
    · subst r; rw [va_up_self, va_up_self]
    · rw [va_up_ne _ _ r, va_up_ne _ _ r, va_up_ne _ _ q]
/-- a truth value as the machine has it -/
def zI (b : Bool) : Int32 := bif b then nI 1 else nI 0
theorem zI_t : zI true = nI 1 := rfl
theorem zI_f : zI false = nI 0 := rfl
theorem zI_ok (b : Bool) : (zI b = 0 ∨ zI b = 1) = True := eq_true (by cases b; exact Or.inl rfl; exact Or.inr rfl)
theorem zI_eq0 (b : Bool) : (zI b = 0) = (b = false) := by cases b <;> simp [zI] <;> decide
theorem n01_0 : (nI 0 = 0 ∨ nI 0 = 1) = True := eq_true (Or.inl rfl)
theorem n01_1 : (nI 1 = 0 ∨ nI 1 = 1) = True := eq_true (Or.inr rfl)
theorem n_1e : (nI 1 = (1 : Int32)) = True := eq_true rfl
theorem n_0e1 : (nI 0 = (1 : Int32)) = False := eq_false (by decide)
