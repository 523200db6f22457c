/-! THE GROUND BEHIND OTHER WRITES: marks, values, weights, the rules of moves -/
theorem gsu_pk {gs : mG} {p c v c' : Nat} (hc : c < 144) (hc' : c' < 144) (hne : c' ≠ c) : pkm (gsu gs 6 (144 * p + c) v) c' = pkm gs c' := by
  unfold pkm
  rw [gsu_i _ _ _ (by omega), gsu_i _ _ _ (by omega), gsu_i _ _ _ (by omega), gsu_i _ _ _ (by omega), gsu_i _ _ _ (by omega), gsu_i _ _ _ (by omega), gsu_i _ _ _ (by omega), gsu_i _ _ _ (by omega)]
theorem XG.p6 {h : mxH} {w hh : Nat} {gs : mG} {p c v : Nat} (hX : XG h w hh gs) (hc : c < 144) : XG (mx_up h 27 (.inl (0, w * hh, .inl (va_up (fun c => if c < 144 then nI (pkm gs c) else 0) c (nI (pkm (gsu gs 6 (144 * p + c) v) c)))))) w hh (gsu gs 6 (144 * p + c) v) := by
  obtain ⟨x17, x18, x19, x20, x21, x22, x23, x24, x25, x26, x27, x28, x29⟩ := hX
  refine ⟨?_, ?_, ?_, ?_, ?_, ?_, ?_, ?_, ?_, ?_, ?_, ?_, ?_⟩
  · rw [up_1, if_neg (by decide), gsu_f _ _ _ _ (by decide), gsu_f _ _ _ _ (by decide), gsu_f _ _ _ _ (by decide)]; exact x17
  · rw [up_1, if_neg (by decide)]; exact x18
  · rw [up_1, if_neg (by decide)]; exact x19
  · rw [up_1, if_neg (by decide)]; exact x20
  · rw [up_1, if_neg (by decide), x21]; simp only [gsu_f gs _ _ _ (show (0 : Nat) ≠ 6 by decide)]
  · rw [up_1, if_neg (by decide), x22]; simp only [gsu_f gs _ _ _ (show (1 : Nat) ≠ 6 by decide)]
  · rw [up_1, if_neg (by decide), x23]; simp only [gsu_f gs _ _ _ (show (2 : Nat) ≠ 6 by decide)]
  · rw [up_1, if_neg (by decide), x24]; simp only [gsu_f gs _ _ _ (show (3 : Nat) ≠ 6 by decide)]
  · rw [up_1, if_neg (by decide), x25]; simp only [gsu_f gs _ _ _ (show (4 : Nat) ≠ 6 by decide)]
  · rw [up_1, if_neg (by decide), x26]; simp only [gsu_f gs _ _ _ (show (5 : Nat) ≠ 6 by decide)]
  · rw [up_1, if_pos rfl]
    congr 4
    funext c'
    by_cases e : c' = c
    · subst e; rw [va_up_self, if_pos hc]
    · rw [va_up_ne _ _ e]
      by_cases e2 : c' < 144
      · rw [if_pos e2, if_pos e2, gsu_pk hc e2 e]
      · rw [if_neg e2, if_neg e2]
  · rw [up_1, if_neg (by decide), x28]; simp only [gsu_f gs _ _ _ (show (7 : Nat) ≠ 6 by decide)]
  · rw [up_1, if_neg (by decide), x29]; simp only [gsu_f gs _ _ _ (show (8 : Nat) ≠ 6 by decide)]
theorem XG.p7 {h : mxH} {w hh : Nat} {gs : mG} {a c v : Nat} (hX : XG h w hh gs) (hn : w * hh ≤ 144) (hc : c < w * hh) : XG (mx_up h 28 (.inl (0, 4 * (w * hh), .inl (va_up (fun i => nI (gs 7 (144 * (i / (w * hh)) + i % (w * hh)))) (a * (w * hh) + c) (nI v))))) w hh (gsu gs 7 (144 * a + c) v) := by
  obtain ⟨x17, x18, x19, x20, x21, x22, x23, x24, x25, x26, x27, x28, x29⟩ := hX
  refine ⟨?_, ?_, ?_, ?_, ?_, ?_, ?_, ?_, ?_, ?_, ?_, ?_, ?_⟩
  · rw [up_1, if_neg (by decide), gsu_f _ _ _ _ (by decide), gsu_f _ _ _ _ (by decide), gsu_f _ _ _ _ (by decide)]; exact x17
  · rw [up_1, if_neg (by decide)]; exact x18
  · rw [up_1, if_neg (by decide)]; exact x19
  · rw [up_1, if_neg (by decide)]; exact x20
  · rw [up_1, if_neg (by decide), x21]; simp only [gsu_f gs _ _ _ (show (0 : Nat) ≠ 7 by decide)]
  · rw [up_1, if_neg (by decide), x22]; simp only [gsu_f gs _ _ _ (show (1 : Nat) ≠ 7 by decide)]
  · rw [up_1, if_neg (by decide), x23]; simp only [gsu_f gs _ _ _ (show (2 : Nat) ≠ 7 by decide)]
  · rw [up_1, if_neg (by decide), x24]; simp only [gsu_f gs _ _ _ (show (3 : Nat) ≠ 7 by decide)]
  · rw [up_1, if_neg (by decide), x25]; simp only [gsu_f gs _ _ _ (show (4 : Nat) ≠ 7 by decide)]
  · rw [up_1, if_neg (by decide), x26]; simp only [gsu_f gs _ _ _ (show (5 : Nat) ≠ 7 by decide)]
  · rw [up_1, if_neg (by decide), x27]; simp only [pkm_f (gs := gs) (f := 7) (i := 144 * a + c) (v := v) (by decide)]
  · rw [up_1, if_pos rfl]
    congr 4
    funext i
    have hm : i % (w * hh) < w * hh := Nat.mod_lt _ (by omega)
    by_cases e : i = a * (w * hh) + c
    · subst e
      rw [va_up_self, show (a * (w * hh) + c) / (w * hh) = a by rw [Nat.add_comm, Nat.add_mul_div_right _ _ (by omega), Nat.div_eq_of_lt hc, Nat.zero_add], show (a * (w * hh) + c) % (w * hh) = c by rw [Nat.add_comm, Nat.add_mul_mod_self_right, Nat.mod_eq_of_lt hc], gsu_s]
    · rw [va_up_ne _ _ e, gsu_i]
      intro q
      have h1 : i / (w * hh) = a := by omega
      have h2 : i % (w * hh) = c := by omega
      apply e
      have h3 := Nat.div_add_mod i (w * hh)
      rw [h1, h2, Nat.mul_comm] at h3
      exact h3.symm
  · rw [up_1, if_neg (by decide), x29]; simp only [gsu_f gs _ _ _ (show (8 : Nat) ≠ 7 by decide)]
theorem XG.p8 {h : mxH} {w hh : Nat} {gs : mG} {a v : Nat} (hX : XG h w hh gs) : XG (mx_up h 29 (.inl (1, 4, .inr (.inl (va_up (fun a => lN (gs 8 a)) a (lN v)))))) w hh (gsu gs 8 a v) := by
  obtain ⟨x17, x18, x19, x20, x21, x22, x23, x24, x25, x26, x27, x28, x29⟩ := hX
  refine ⟨?_, ?_, ?_, ?_, ?_, ?_, ?_, ?_, ?_, ?_, ?_, ?_, ?_⟩
  · rw [up_1, if_neg (by decide), gsu_f _ _ _ _ (by decide), gsu_f _ _ _ _ (by decide), gsu_f _ _ _ _ (by decide)]; exact x17
  · rw [up_1, if_neg (by decide)]; exact x18
  · rw [up_1, if_neg (by decide)]; exact x19
  · rw [up_1, if_neg (by decide)]; exact x20
  · rw [up_1, if_neg (by decide), x21]; simp only [gsu_f gs _ _ _ (show (0 : Nat) ≠ 8 by decide)]
  · rw [up_1, if_neg (by decide), x22]; simp only [gsu_f gs _ _ _ (show (1 : Nat) ≠ 8 by decide)]
  · rw [up_1, if_neg (by decide), x23]; simp only [gsu_f gs _ _ _ (show (2 : Nat) ≠ 8 by decide)]
  · rw [up_1, if_neg (by decide), x24]; simp only [gsu_f gs _ _ _ (show (3 : Nat) ≠ 8 by decide)]
  · rw [up_1, if_neg (by decide), x25]; simp only [gsu_f gs _ _ _ (show (4 : Nat) ≠ 8 by decide)]
  · rw [up_1, if_neg (by decide), x26]; simp only [gsu_f gs _ _ _ (show (5 : Nat) ≠ 8 by decide)]
  · rw [up_1, if_neg (by decide), x27]; simp only [pkm_f (gs := gs) (f := 8) (i := a) (v := v) (by decide)]
  · rw [up_1, if_neg (by decide), x28]; simp only [gsu_f gs _ _ _ (show (7 : Nat) ≠ 8 by decide)]
  · rw [up_1, if_pos rfl]
    congr 5
    funext j
    by_cases e : j = a
    · subst e; rw [va_up_self, gsu_s]
    · rw [va_up_ne _ _ e, gsu_i _ _ _ e]
/-- the three rules of moves -/
def gs9 (gs : mG) (r s t : Nat) : mG := gsu (gsu (gsu gs 9 0 r) 9 1 s) 9 2 t
theorem gs9_f (gs : mG) (r s t : Nat) {f : Nat} (hf : f ≠ 9) (i : Nat) : gs9 gs r s t f i = gs f i := by
  unfold gs9
  rw [gsu_f _ _ _ _ hf, gsu_f _ _ _ _ hf, gsu_f _ _ _ _ hf]
theorem gs9_0 (gs : mG) (r s t : Nat) : gs9 gs r s t 9 0 = r := by
  unfold gs9
  rw [gsu_i _ _ _ (by decide), gsu_i _ _ _ (by decide), gsu_s]
theorem gs9_1 (gs : mG) (r s t : Nat) : gs9 gs r s t 9 1 = s := by
  unfold gs9
  rw [gsu_i _ _ _ (by decide), gsu_s]
theorem gs9_2 (gs : mG) (r s t : Nat) : gs9 gs r s t 9 2 = t := by
  unfold gs9
  rw [gsu_s]
theorem GB.p9 {gs : mG} (hB : GB gs) {r s t : Nat} (hr : r = 1 ∨ r = 2) (hs : s ≤ 9999) (ht : t ≤ 8) : GB (gs9 gs r s t) := by
  obtain ⟨b0, b1, b2, b3, b4, b5, b6, b7, b8, b9, b10, b11⟩ := hB
  refine ⟨fun i => ?_, fun i => ?_, fun i => ?_, fun i => ?_, fun i => ?_, fun i => ?_, fun i => ?_, fun i => ?_, fun i => ?_, ?_, ?_, ?_⟩
  · rw [gs9_f _ _ _ _ (by decide)]; exact b0 i
  · rw [gs9_f _ _ _ _ (by decide)]; exact b1 i
  · rw [gs9_f _ _ _ _ (by decide)]; exact b2 i
  · rw [gs9_f _ _ _ _ (by decide)]; exact b3 i
  · rw [gs9_f _ _ _ _ (by decide)]; exact b4 i
  · rw [gs9_f _ _ _ _ (by decide)]; exact b5 i
  · rw [gs9_f _ _ _ _ (by decide)]; exact b6 i
  · rw [gs9_f _ _ _ _ (by decide)]; exact b7 i
  · rw [gs9_f _ _ _ _ (by decide)]; exact b8 i
  · rw [gs9_0]; exact hr
  · rw [gs9_1]; exact hs
  · rw [gs9_2]; exact ht
theorem XG.p9 {h : mxH} {w hh : Nat} {gs : mG} {r s t : Nat} (hX : XG h w hh gs) : XG (mx_up h 17 (.inr (1, gob (nI w) (nI hh) (nI (w * hh)) (nI r) (nI s) (nI t)))) w hh (gs9 gs r s t) := by
  obtain ⟨x17, x18, x19, x20, x21, x22, x23, x24, x25, x26, x27, x28, x29⟩ := hX
  have hp : pkm (gs9 gs r s t) = pkm gs := by
    funext c
    unfold pkm
    simp only [gs9_f gs r s t (show (6 : Nat) ≠ 9 by decide)]
  refine ⟨?_, ?_, ?_, ?_, ?_, ?_, ?_, ?_, ?_, ?_, ?_, ?_, ?_⟩
  · rw [up_1, if_pos rfl, gs9_0, gs9_1, gs9_2]
  · rw [up_1, if_neg (by decide)]; exact x18
  · rw [up_1, if_neg (by decide)]; exact x19
  · rw [up_1, if_neg (by decide)]; exact x20
  · rw [up_1, if_neg (by decide), x21]; simp only [gs9_f gs r s t (show (0 : Nat) ≠ 9 by decide)]
  · rw [up_1, if_neg (by decide), x22]; simp only [gs9_f gs r s t (show (1 : Nat) ≠ 9 by decide)]
  · rw [up_1, if_neg (by decide), x23]; simp only [gs9_f gs r s t (show (2 : Nat) ≠ 9 by decide)]
  · rw [up_1, if_neg (by decide), x24]; simp only [gs9_f gs r s t (show (3 : Nat) ≠ 9 by decide)]
  · rw [up_1, if_neg (by decide), x25]; simp only [gs9_f gs r s t (show (4 : Nat) ≠ 9 by decide)]
  · rw [up_1, if_neg (by decide), x26]; simp only [gs9_f gs r s t (show (5 : Nat) ≠ 9 by decide)]
  · rw [up_1, if_neg (by decide), x27, hp]
  · rw [up_1, if_neg (by decide), x28]; simp only [gs9_f gs r s t (show (7 : Nat) ≠ 9 by decide)]
  · rw [up_1, if_neg (by decide), x29]; simp only [gs9_f gs r s t (show (8 : Nat) ≠ 9 by decide)]
