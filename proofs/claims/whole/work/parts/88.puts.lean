/-! THE GROUND BEHIND A WRITE (printed by wip/whole/tools/gen_simple.py) -/
theorem pkm_f {gs : mG} {f i v : Nat} (h : f ≠ 6) (c : Nat) : pkm (gsu gs f i v) c = pkm gs c := by
  unfold pkm
  simp only [gsu_f gs _ _ _ (Ne.symm h)]
theorem XG.p0 {h : mxH} {w hh : Nat} {gs : mG} {i v : Nat} (hX : XG h w hh gs) : XG (mx_up h 21 (.inl (0, w * hh, .inl (va_up (fun c => nI (gs 0 c)) i (nI v))))) w hh (gsu gs 0 i v) := by
  obtain ⟨x17, x18, x19, x20, x21, x22, x23, x24, x25, x26, x27, x28, x29⟩ := hX
  refine ⟨?_, ?_, ?_, ?_, ?_, ?_, ?_, ?_, ?_, ?_, ?_, ?_, ?_⟩
  · rw [up_1, if_neg (by decide), gsu_f _ _ _ _ (by decide), gsu_f _ _ _ _ (by decide), gsu_f _ _ _ _ (by decide)]; exact x17
  · rw [up_1, if_neg (by decide)]; exact x18
  · rw [up_1, if_neg (by decide)]; exact x19
  · rw [up_1, if_neg (by decide)]; exact x20
  · rw [up_1, if_pos rfl, gsu_fun]
  · rw [up_1, if_neg (by decide), x22]; simp only [gsu_f gs _ _ _ (show (1 : Nat) ≠ 0 by decide)]
  · rw [up_1, if_neg (by decide), x23]; simp only [gsu_f gs _ _ _ (show (2 : Nat) ≠ 0 by decide)]
  · rw [up_1, if_neg (by decide), x24]; simp only [gsu_f gs _ _ _ (show (3 : Nat) ≠ 0 by decide)]
  · rw [up_1, if_neg (by decide), x25]; simp only [gsu_f gs _ _ _ (show (4 : Nat) ≠ 0 by decide)]
  · rw [up_1, if_neg (by decide), x26]; simp only [gsu_f gs _ _ _ (show (5 : Nat) ≠ 0 by decide)]
  · rw [up_1, if_neg (by decide), x27]; simp only [pkm_f (gs := gs) (f := 0) (i := i) (v := v) (by decide)]
  · rw [up_1, if_neg (by decide), x28]; simp only [gsu_f gs _ _ _ (show (7 : Nat) ≠ 0 by decide)]
  · rw [up_1, if_neg (by decide), x29]; simp only [gsu_f gs _ _ _ (show (8 : Nat) ≠ 0 by decide)]
theorem XG.p1 {h : mxH} {w hh : Nat} {gs : mG} {i v : Nat} (hX : XG h w hh gs) : XG (mx_up h 22 (.inl (0, w * hh, .inl (va_up (fun c => nI (gs 1 c)) i (nI v))))) w hh (gsu gs 1 i v) := by
  obtain ⟨x17, x18, x19, x20, x21, x22, x23, x24, x25, x26, x27, x28, x29⟩ := hX
  refine ⟨?_, ?_, ?_, ?_, ?_, ?_, ?_, ?_, ?_, ?_, ?_, ?_, ?_⟩
  · rw [up_1, if_neg (by decide), gsu_f _ _ _ _ (by decide), gsu_f _ _ _ _ (by decide), gsu_f _ _ _ _ (by decide)]; exact x17
  · rw [up_1, if_neg (by decide)]; exact x18
  · rw [up_1, if_neg (by decide)]; exact x19
  · rw [up_1, if_neg (by decide)]; exact x20
  · rw [up_1, if_neg (by decide), x21]; simp only [gsu_f gs _ _ _ (show (0 : Nat) ≠ 1 by decide)]
  · rw [up_1, if_pos rfl, gsu_fun]
  · rw [up_1, if_neg (by decide), x23]; simp only [gsu_f gs _ _ _ (show (2 : Nat) ≠ 1 by decide)]
  · rw [up_1, if_neg (by decide), x24]; simp only [gsu_f gs _ _ _ (show (3 : Nat) ≠ 1 by decide)]
  · rw [up_1, if_neg (by decide), x25]; simp only [gsu_f gs _ _ _ (show (4 : Nat) ≠ 1 by decide)]
  · rw [up_1, if_neg (by decide), x26]; simp only [gsu_f gs _ _ _ (show (5 : Nat) ≠ 1 by decide)]
  · rw [up_1, if_neg (by decide), x27]; simp only [pkm_f (gs := gs) (f := 1) (i := i) (v := v) (by decide)]
  · rw [up_1, if_neg (by decide), x28]; simp only [gsu_f gs _ _ _ (show (7 : Nat) ≠ 1 by decide)]
  · rw [up_1, if_neg (by decide), x29]; simp only [gsu_f gs _ _ _ (show (8 : Nat) ≠ 1 by decide)]
theorem XG.p2 {h : mxH} {w hh : Nat} {gs : mG} {i v : Nat} (hX : XG h w hh gs) : XG (mx_up h 23 (.inl (2, w * hh, .inl (va_up (fun c => nI (gs 2 c)) i (nI v))))) w hh (gsu gs 2 i v) := by
  obtain ⟨x17, x18, x19, x20, x21, x22, x23, x24, x25, x26, x27, x28, x29⟩ := hX
  refine ⟨?_, ?_, ?_, ?_, ?_, ?_, ?_, ?_, ?_, ?_, ?_, ?_, ?_⟩
  · rw [up_1, if_neg (by decide), gsu_f _ _ _ _ (by decide), gsu_f _ _ _ _ (by decide), gsu_f _ _ _ _ (by decide)]; exact x17
  · rw [up_1, if_neg (by decide)]; exact x18
  · rw [up_1, if_neg (by decide)]; exact x19
  · rw [up_1, if_neg (by decide)]; exact x20
  · rw [up_1, if_neg (by decide), x21]; simp only [gsu_f gs _ _ _ (show (0 : Nat) ≠ 2 by decide)]
  · rw [up_1, if_neg (by decide), x22]; simp only [gsu_f gs _ _ _ (show (1 : Nat) ≠ 2 by decide)]
  · rw [up_1, if_pos rfl, gsu_fun]
  · rw [up_1, if_neg (by decide), x24]; simp only [gsu_f gs _ _ _ (show (3 : Nat) ≠ 2 by decide)]
  · rw [up_1, if_neg (by decide), x25]; simp only [gsu_f gs _ _ _ (show (4 : Nat) ≠ 2 by decide)]
  · rw [up_1, if_neg (by decide), x26]; simp only [gsu_f gs _ _ _ (show (5 : Nat) ≠ 2 by decide)]
  · rw [up_1, if_neg (by decide), x27]; simp only [pkm_f (gs := gs) (f := 2) (i := i) (v := v) (by decide)]
  · rw [up_1, if_neg (by decide), x28]; simp only [gsu_f gs _ _ _ (show (7 : Nat) ≠ 2 by decide)]
  · rw [up_1, if_neg (by decide), x29]; simp only [gsu_f gs _ _ _ (show (8 : Nat) ≠ 2 by decide)]
theorem XG.p3 {h : mxH} {w hh : Nat} {gs : mG} {i v : Nat} (hX : XG h w hh gs) : XG (mx_up h 24 (.inl (0, w * hh, .inl (va_up (fun c => nI (gs 3 c)) i (nI v))))) w hh (gsu gs 3 i v) := by
  obtain ⟨x17, x18, x19, x20, x21, x22, x23, x24, x25, x26, x27, x28, x29⟩ := hX
  refine ⟨?_, ?_, ?_, ?_, ?_, ?_, ?_, ?_, ?_, ?_, ?_, ?_, ?_⟩
  · rw [up_1, if_neg (by decide), gsu_f _ _ _ _ (by decide), gsu_f _ _ _ _ (by decide), gsu_f _ _ _ _ (by decide)]; exact x17
  · rw [up_1, if_neg (by decide)]; exact x18
  · rw [up_1, if_neg (by decide)]; exact x19
  · rw [up_1, if_neg (by decide)]; exact x20
  · rw [up_1, if_neg (by decide), x21]; simp only [gsu_f gs _ _ _ (show (0 : Nat) ≠ 3 by decide)]
  · rw [up_1, if_neg (by decide), x22]; simp only [gsu_f gs _ _ _ (show (1 : Nat) ≠ 3 by decide)]
  · rw [up_1, if_neg (by decide), x23]; simp only [gsu_f gs _ _ _ (show (2 : Nat) ≠ 3 by decide)]
  · rw [up_1, if_pos rfl, gsu_fun]
  · rw [up_1, if_neg (by decide), x25]; simp only [gsu_f gs _ _ _ (show (4 : Nat) ≠ 3 by decide)]
  · rw [up_1, if_neg (by decide), x26]; simp only [gsu_f gs _ _ _ (show (5 : Nat) ≠ 3 by decide)]
  · rw [up_1, if_neg (by decide), x27]; simp only [pkm_f (gs := gs) (f := 3) (i := i) (v := v) (by decide)]
  · rw [up_1, if_neg (by decide), x28]; simp only [gsu_f gs _ _ _ (show (7 : Nat) ≠ 3 by decide)]
  · rw [up_1, if_neg (by decide), x29]; simp only [gsu_f gs _ _ _ (show (8 : Nat) ≠ 3 by decide)]
theorem XG.p4 {h : mxH} {w hh : Nat} {gs : mG} {i v : Nat} (hX : XG h w hh gs) : XG (mx_up h 25 (.inl (0, w * hh, .inl (va_up (fun c => nI (gs 4 c)) i (nI v))))) w hh (gsu gs 4 i v) := by
  obtain ⟨x17, x18, x19, x20, x21, x22, x23, x24, x25, x26, x27, x28, x29⟩ := hX
  refine ⟨?_, ?_, ?_, ?_, ?_, ?_, ?_, ?_, ?_, ?_, ?_, ?_, ?_⟩
  · rw [up_1, if_neg (by decide), gsu_f _ _ _ _ (by decide), gsu_f _ _ _ _ (by decide), gsu_f _ _ _ _ (by decide)]; exact x17
  · rw [up_1, if_neg (by decide)]; exact x18
  · rw [up_1, if_neg (by decide)]; exact x19
  · rw [up_1, if_neg (by decide)]; exact x20
  · rw [up_1, if_neg (by decide), x21]; simp only [gsu_f gs _ _ _ (show (0 : Nat) ≠ 4 by decide)]
  · rw [up_1, if_neg (by decide), x22]; simp only [gsu_f gs _ _ _ (show (1 : Nat) ≠ 4 by decide)]
  · rw [up_1, if_neg (by decide), x23]; simp only [gsu_f gs _ _ _ (show (2 : Nat) ≠ 4 by decide)]
  · rw [up_1, if_neg (by decide), x24]; simp only [gsu_f gs _ _ _ (show (3 : Nat) ≠ 4 by decide)]
  · rw [up_1, if_pos rfl, gsu_fun]
  · rw [up_1, if_neg (by decide), x26]; simp only [gsu_f gs _ _ _ (show (5 : Nat) ≠ 4 by decide)]
  · rw [up_1, if_neg (by decide), x27]; simp only [pkm_f (gs := gs) (f := 4) (i := i) (v := v) (by decide)]
  · rw [up_1, if_neg (by decide), x28]; simp only [gsu_f gs _ _ _ (show (7 : Nat) ≠ 4 by decide)]
  · rw [up_1, if_neg (by decide), x29]; simp only [gsu_f gs _ _ _ (show (8 : Nat) ≠ 4 by decide)]
theorem XG.p5 {h : mxH} {w hh : Nat} {gs : mG} {i v : Nat} (hX : XG h w hh gs) : XG (mx_up h 26 (.inl (0, w * hh, .inl (va_up (fun c => nI (gs 5 c)) i (nI v))))) w hh (gsu gs 5 i v) := by
  obtain ⟨x17, x18, x19, x20, x21, x22, x23, x24, x25, x26, x27, x28, x29⟩ := hX
  refine ⟨?_, ?_, ?_, ?_, ?_, ?_, ?_, ?_, ?_, ?_, ?_, ?_, ?_⟩
  · rw [up_1, if_neg (by decide), gsu_f _ _ _ _ (by decide), gsu_f _ _ _ _ (by decide), gsu_f _ _ _ _ (by decide)]; exact x17
  · rw [up_1, if_neg (by decide)]; exact x18
  · rw [up_1, if_neg (by decide)]; exact x19
  · rw [up_1, if_neg (by decide)]; exact x20
  · rw [up_1, if_neg (by decide), x21]; simp only [gsu_f gs _ _ _ (show (0 : Nat) ≠ 5 by decide)]
  · rw [up_1, if_neg (by decide), x22]; simp only [gsu_f gs _ _ _ (show (1 : Nat) ≠ 5 by decide)]
  · rw [up_1, if_neg (by decide), x23]; simp only [gsu_f gs _ _ _ (show (2 : Nat) ≠ 5 by decide)]
  · rw [up_1, if_neg (by decide), x24]; simp only [gsu_f gs _ _ _ (show (3 : Nat) ≠ 5 by decide)]
  · rw [up_1, if_neg (by decide), x25]; simp only [gsu_f gs _ _ _ (show (4 : Nat) ≠ 5 by decide)]
  · rw [up_1, if_pos rfl, gsu_fun]
  · rw [up_1, if_neg (by decide), x27]; simp only [pkm_f (gs := gs) (f := 5) (i := i) (v := v) (by decide)]
  · rw [up_1, if_neg (by decide), x28]; simp only [gsu_f gs _ _ _ (show (7 : Nat) ≠ 5 by decide)]
  · rw [up_1, if_neg (by decide), x29]; simp only [gsu_f gs _ _ _ (show (8 : Nat) ≠ 5 by decide)]
theorem MG.p0 {h : mxH} {w hh : Nat} {gs : mG} {i v : Nat} (hM : MG h w hh gs) : MG (mx_up h 59 (.inl (0, 144, .inl (va_up (fun c => nI (gs 0 c)) i (nI v))))) w hh (gsu gs 0 i v) := by
  obtain ⟨⟨fd, hd, nd, bd, pv, fr, en, sm, sz, x58⟩, x59, x60, x61, x62, x63, x64, x65, x66, x67⟩ := hM
  refine ⟨⟨fd, hd, nd, bd, pv, fr, en, sm, sz, ?_⟩, ?_, ?_, ?_, ?_, ?_, ?_, ?_, ?_, ?_⟩
  · rw [up_1, if_neg (by decide), gsu_f _ _ _ _ (by decide), gsu_f _ _ _ _ (by decide), gsu_f _ _ _ _ (by decide)]; exact x58
  · rw [up_1, if_pos rfl, gsu_fun]
  · rw [up_1, if_neg (by decide), x60]; simp only [gsu_f gs _ _ _ (show (1 : Nat) ≠ 0 by decide)]
  · rw [up_1, if_neg (by decide), x61]; simp only [gsu_f gs _ _ _ (show (2 : Nat) ≠ 0 by decide)]
  · rw [up_1, if_neg (by decide), x62]; simp only [gsu_f gs _ _ _ (show (3 : Nat) ≠ 0 by decide)]
  · rw [up_1, if_neg (by decide), x63]; simp only [gsu_f gs _ _ _ (show (4 : Nat) ≠ 0 by decide)]
  · rw [up_1, if_neg (by decide), x64]; simp only [gsu_f gs _ _ _ (show (7 : Nat) ≠ 0 by decide)]
  · rw [up_1, if_neg (by decide), x65]; simp only [gsu_f gs _ _ _ (show (6 : Nat) ≠ 0 by decide)]
  · rw [up_1, if_neg (by decide), x66]; simp only [gsu_f gs _ _ _ (show (5 : Nat) ≠ 0 by decide)]
  · rw [up_1, if_neg (by decide), x67]; simp only [gsu_f gs _ _ _ (show (8 : Nat) ≠ 0 by decide)]
theorem MG.p1 {h : mxH} {w hh : Nat} {gs : mG} {i v : Nat} (hM : MG h w hh gs) : MG (mx_up h 60 (.inl (0, 144, .inl (va_up (fun c => nI (gs 1 c)) i (nI v))))) w hh (gsu gs 1 i v) := by
  obtain ⟨⟨fd, hd, nd, bd, pv, fr, en, sm, sz, x58⟩, x59, x60, x61, x62, x63, x64, x65, x66, x67⟩ := hM
  refine ⟨⟨fd, hd, nd, bd, pv, fr, en, sm, sz, ?_⟩, ?_, ?_, ?_, ?_, ?_, ?_, ?_, ?_, ?_⟩
  · rw [up_1, if_neg (by decide), gsu_f _ _ _ _ (by decide), gsu_f _ _ _ _ (by decide), gsu_f _ _ _ _ (by decide)]; exact x58
  · rw [up_1, if_neg (by decide), x59]; simp only [gsu_f gs _ _ _ (show (0 : Nat) ≠ 1 by decide)]
  · rw [up_1, if_pos rfl, gsu_fun]
  · rw [up_1, if_neg (by decide), x61]; simp only [gsu_f gs _ _ _ (show (2 : Nat) ≠ 1 by decide)]
  · rw [up_1, if_neg (by decide), x62]; simp only [gsu_f gs _ _ _ (show (3 : Nat) ≠ 1 by decide)]
  · rw [up_1, if_neg (by decide), x63]; simp only [gsu_f gs _ _ _ (show (4 : Nat) ≠ 1 by decide)]
  · rw [up_1, if_neg (by decide), x64]; simp only [gsu_f gs _ _ _ (show (7 : Nat) ≠ 1 by decide)]
  · rw [up_1, if_neg (by decide), x65]; simp only [gsu_f gs _ _ _ (show (6 : Nat) ≠ 1 by decide)]
  · rw [up_1, if_neg (by decide), x66]; simp only [gsu_f gs _ _ _ (show (5 : Nat) ≠ 1 by decide)]
  · rw [up_1, if_neg (by decide), x67]; simp only [gsu_f gs _ _ _ (show (8 : Nat) ≠ 1 by decide)]
theorem MG.p2 {h : mxH} {w hh : Nat} {gs : mG} {i v : Nat} (hM : MG h w hh gs) : MG (mx_up h 61 (.inl (2, 144, .inl (va_up (fun c => nI (gs 2 c)) i (nI v))))) w hh (gsu gs 2 i v) := by
  obtain ⟨⟨fd, hd, nd, bd, pv, fr, en, sm, sz, x58⟩, x59, x60, x61, x62, x63, x64, x65, x66, x67⟩ := hM
  refine ⟨⟨fd, hd, nd, bd, pv, fr, en, sm, sz, ?_⟩, ?_, ?_, ?_, ?_, ?_, ?_, ?_, ?_, ?_⟩
  · rw [up_1, if_neg (by decide), gsu_f _ _ _ _ (by decide), gsu_f _ _ _ _ (by decide), gsu_f _ _ _ _ (by decide)]; exact x58
  · rw [up_1, if_neg (by decide), x59]; simp only [gsu_f gs _ _ _ (show (0 : Nat) ≠ 2 by decide)]
  · rw [up_1, if_neg (by decide), x60]; simp only [gsu_f gs _ _ _ (show (1 : Nat) ≠ 2 by decide)]
  · rw [up_1, if_pos rfl, gsu_fun]
  · rw [up_1, if_neg (by decide), x62]; simp only [gsu_f gs _ _ _ (show (3 : Nat) ≠ 2 by decide)]
  · rw [up_1, if_neg (by decide), x63]; simp only [gsu_f gs _ _ _ (show (4 : Nat) ≠ 2 by decide)]
  · rw [up_1, if_neg (by decide), x64]; simp only [gsu_f gs _ _ _ (show (7 : Nat) ≠ 2 by decide)]
  · rw [up_1, if_neg (by decide), x65]; simp only [gsu_f gs _ _ _ (show (6 : Nat) ≠ 2 by decide)]
  · rw [up_1, if_neg (by decide), x66]; simp only [gsu_f gs _ _ _ (show (5 : Nat) ≠ 2 by decide)]
  · rw [up_1, if_neg (by decide), x67]; simp only [gsu_f gs _ _ _ (show (8 : Nat) ≠ 2 by decide)]
theorem MG.p3 {h : mxH} {w hh : Nat} {gs : mG} {i v : Nat} (hM : MG h w hh gs) : MG (mx_up h 62 (.inl (0, 144, .inl (va_up (fun c => nI (gs 3 c)) i (nI v))))) w hh (gsu gs 3 i v) := by
  obtain ⟨⟨fd, hd, nd, bd, pv, fr, en, sm, sz, x58⟩, x59, x60, x61, x62, x63, x64, x65, x66, x67⟩ := hM
  refine ⟨⟨fd, hd, nd, bd, pv, fr, en, sm, sz, ?_⟩, ?_, ?_, ?_, ?_, ?_, ?_, ?_, ?_, ?_⟩
  · rw [up_1, if_neg (by decide), gsu_f _ _ _ _ (by decide), gsu_f _ _ _ _ (by decide), gsu_f _ _ _ _ (by decide)]; exact x58
  · rw [up_1, if_neg (by decide), x59]; simp only [gsu_f gs _ _ _ (show (0 : Nat) ≠ 3 by decide)]
  · rw [up_1, if_neg (by decide), x60]; simp only [gsu_f gs _ _ _ (show (1 : Nat) ≠ 3 by decide)]
  · rw [up_1, if_neg (by decide), x61]; simp only [gsu_f gs _ _ _ (show (2 : Nat) ≠ 3 by decide)]
  · rw [up_1, if_pos rfl, gsu_fun]
  · rw [up_1, if_neg (by decide), x63]; simp only [gsu_f gs _ _ _ (show (4 : Nat) ≠ 3 by decide)]
  · rw [up_1, if_neg (by decide), x64]; simp only [gsu_f gs _ _ _ (show (7 : Nat) ≠ 3 by decide)]
  · rw [up_1, if_neg (by decide), x65]; simp only [gsu_f gs _ _ _ (show (6 : Nat) ≠ 3 by decide)]
  · rw [up_1, if_neg (by decide), x66]; simp only [gsu_f gs _ _ _ (show (5 : Nat) ≠ 3 by decide)]
  · rw [up_1, if_neg (by decide), x67]; simp only [gsu_f gs _ _ _ (show (8 : Nat) ≠ 3 by decide)]
theorem MG.p4 {h : mxH} {w hh : Nat} {gs : mG} {i v : Nat} (hM : MG h w hh gs) : MG (mx_up h 63 (.inl (0, 144, .inl (va_up (fun c => nI (gs 4 c)) i (nI v))))) w hh (gsu gs 4 i v) := by
  obtain ⟨⟨fd, hd, nd, bd, pv, fr, en, sm, sz, x58⟩, x59, x60, x61, x62, x63, x64, x65, x66, x67⟩ := hM
  refine ⟨⟨fd, hd, nd, bd, pv, fr, en, sm, sz, ?_⟩, ?_, ?_, ?_, ?_, ?_, ?_, ?_, ?_, ?_⟩
  · rw [up_1, if_neg (by decide), gsu_f _ _ _ _ (by decide), gsu_f _ _ _ _ (by decide), gsu_f _ _ _ _ (by decide)]; exact x58
  · rw [up_1, if_neg (by decide), x59]; simp only [gsu_f gs _ _ _ (show (0 : Nat) ≠ 4 by decide)]
  · rw [up_1, if_neg (by decide), x60]; simp only [gsu_f gs _ _ _ (show (1 : Nat) ≠ 4 by decide)]
  · rw [up_1, if_neg (by decide), x61]; simp only [gsu_f gs _ _ _ (show (2 : Nat) ≠ 4 by decide)]
  · rw [up_1, if_neg (by decide), x62]; simp only [gsu_f gs _ _ _ (show (3 : Nat) ≠ 4 by decide)]
  · rw [up_1, if_pos rfl, gsu_fun]
  · rw [up_1, if_neg (by decide), x64]; simp only [gsu_f gs _ _ _ (show (7 : Nat) ≠ 4 by decide)]
  · rw [up_1, if_neg (by decide), x65]; simp only [gsu_f gs _ _ _ (show (6 : Nat) ≠ 4 by decide)]
  · rw [up_1, if_neg (by decide), x66]; simp only [gsu_f gs _ _ _ (show (5 : Nat) ≠ 4 by decide)]
  · rw [up_1, if_neg (by decide), x67]; simp only [gsu_f gs _ _ _ (show (8 : Nat) ≠ 4 by decide)]
theorem MG.p5 {h : mxH} {w hh : Nat} {gs : mG} {i v : Nat} (hM : MG h w hh gs) : MG (mx_up h 66 (.inl (0, 144, .inl (va_up (fun c => nI (gs 5 c)) i (nI v))))) w hh (gsu gs 5 i v) := by
  obtain ⟨⟨fd, hd, nd, bd, pv, fr, en, sm, sz, x58⟩, x59, x60, x61, x62, x63, x64, x65, x66, x67⟩ := hM
  refine ⟨⟨fd, hd, nd, bd, pv, fr, en, sm, sz, ?_⟩, ?_, ?_, ?_, ?_, ?_, ?_, ?_, ?_, ?_⟩
  · rw [up_1, if_neg (by decide), gsu_f _ _ _ _ (by decide), gsu_f _ _ _ _ (by decide), gsu_f _ _ _ _ (by decide)]; exact x58
  · rw [up_1, if_neg (by decide), x59]; simp only [gsu_f gs _ _ _ (show (0 : Nat) ≠ 5 by decide)]
  · rw [up_1, if_neg (by decide), x60]; simp only [gsu_f gs _ _ _ (show (1 : Nat) ≠ 5 by decide)]
  · rw [up_1, if_neg (by decide), x61]; simp only [gsu_f gs _ _ _ (show (2 : Nat) ≠ 5 by decide)]
  · rw [up_1, if_neg (by decide), x62]; simp only [gsu_f gs _ _ _ (show (3 : Nat) ≠ 5 by decide)]
  · rw [up_1, if_neg (by decide), x63]; simp only [gsu_f gs _ _ _ (show (4 : Nat) ≠ 5 by decide)]
  · rw [up_1, if_neg (by decide), x64]; simp only [gsu_f gs _ _ _ (show (7 : Nat) ≠ 5 by decide)]
  · rw [up_1, if_neg (by decide), x65]; simp only [gsu_f gs _ _ _ (show (6 : Nat) ≠ 5 by decide)]
  · rw [up_1, if_pos rfl, gsu_fun]
  · rw [up_1, if_neg (by decide), x67]; simp only [gsu_f gs _ _ _ (show (8 : Nat) ≠ 5 by decide)]
