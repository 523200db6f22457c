/-! THE CLASS's STATE -/
def AW (wp wh : Nat → Nat) (qc qr qs qh nx : Nat) : Prop :=
  adqs qc qr qs qh ∧ (qc < nx ∧ qr < nx ∧ qs < nx ∧ qh < nx) ∧ 78 ≤ nx ∧
  (∀ k, k < 6 → (wp k = 41 + 3 * k ∨ 78 ≤ wp k) ∧ (wh k = 42 + 3 * k ∨ 78 ≤ wh k) ∧ wp k < nx ∧ wh k < nx ∧ (wp k ≠ qc ∧ wp k ≠ qr ∧ wp k ≠ qs ∧ wp k ≠ qh) ∧ (wh k ≠ qc ∧ wh k ≠ qr ∧ wh k ≠ qs ∧ wh k ≠ qh)) ∧
  (∀ k j, k < 6 → j < 6 → wp k ≠ wh j ∧ (k ≠ j → wp k ≠ wp j ∧ wh k ≠ wh j))
theorem AW.mono {wp wh : Nat → Nat} {qc qr qs qh nx nx' : Nat} (h : AW wp wh qc qr qs qh nx) (hn : nx ≤ nx') : AW wp wh qc qr qs qh nx' := by
  obtain ⟨a1, ⟨b1, b2, b3, b4⟩, a3, a4, a5⟩ := h
  refine ⟨a1, ⟨by omega, by omega, by omega, by omega⟩, by omega, fun k hk => ?_, a5⟩
  obtain ⟨c1, c2, c3, c4, c5, c6⟩ := a4 k hk
  exact ⟨c1, c2, by omega, by omega, c5, c6⟩
theorem AW.q {h h' : mxH} {wp wh : Nat → Nat} {n qc qr qs qh cap qc' qr' qs' qh' cap' : Nat} (a : AW wp wh qc qr qs qh h.2.1) (hN : QN h h' n qc qr qs qh cap qc' qr' qs' qh' cap') : AW wp wh qc' qr' qs' qh' h'.2.1 := by
  have h78 := a.2.2.1
  rcases hN with ⟨-, -, rfl, rfl, rfl, rfl, e⟩ | ⟨-, -, rfl, rfl, rfl, rfl, e, -⟩
  · rw [e]; exact a
  · obtain ⟨a1, a2, a3, a4, a5⟩ := a
    refine ⟨⟨Or.inr (by omega), Or.inr (by omega), Or.inr (by omega), Or.inr (by omega)⟩, ⟨by omega, by omega, by omega, by omega⟩, by omega, fun k hk => ?_, a5⟩
    obtain ⟨c1, c2, c3, c4, c5, c6⟩ := a4 k hk
    exact ⟨c1, c2, by omega, by omega, ⟨by omega, by omega, by omega, by omega⟩, ⟨by omega, by omega, by omega, by omega⟩⟩
theorem AW.w {h h' : mxH} {wp wh : Nat → Nat} {n m qc qr qs qh pa' ha' wcap cap' : Nat} (a : AW wp wh qc qr qs qh h.2.1) (hm : m < 6) (hN : WN h h' n (wp m) (wh m) wcap pa' ha' cap') : AW (va_up wp m pa') (va_up wh m ha') qc qr qs qh h'.2.1 := by
  rcases hN with ⟨-, -, rfl, rfl, e⟩ | ⟨-, -, rfl, rfl, e, -⟩
  · rw [e]
    have e1 : va_up wp m (wp m) = wp := by
      funext k
      by_cases z : k = m
      · rw [z, va_up_self]
      · rw [va_up_ne _ _ z]
    have e2 : va_up wh m (wh m) = wh := by
      funext k
      by_cases z : k = m
      · rw [z, va_up_self]
      · rw [va_up_ne _ _ z]
    rw [e1, e2]; exact a
  · obtain ⟨a1, ⟨b1, b2, b3, b4⟩, a3, a4, a5⟩ := a
    refine ⟨a1, ⟨by omega, by omega, by omega, by omega⟩, by omega, fun k hk => ?_, fun k j hk hj => ?_⟩
    · by_cases z : k = m
      · subst z
        rw [va_up_self, va_up_self]
        exact ⟨Or.inr a3, Or.inr (by omega), by omega, by omega, ⟨by omega, by omega, by omega, by omega⟩, ⟨by omega, by omega, by omega, by omega⟩⟩
      · rw [va_up_ne _ _ z, va_up_ne _ _ z]
        obtain ⟨c1, c2, c3, c4, c5, c6⟩ := a4 k hk
        exact ⟨c1, c2, by omega, by omega, c5, c6⟩
    · obtain ⟨-, -, c3, c4, -, -⟩ := a4 k hk
      obtain ⟨-, -, d3, d4, -, -⟩ := a4 j hj
      obtain ⟨f1, f2⟩ := a5 k j hk hj
      by_cases z : k = m
      · subst z
        rw [va_up_self, va_up_self]
        by_cases y : j = k
        · subst y
          rw [va_up_self, va_up_self]
          exact ⟨by omega, fun q => absurd rfl q⟩
        · rw [va_up_ne _ _ y, va_up_ne _ _ y]
          exact ⟨by omega, fun _ => ⟨by omega, by omega⟩⟩
      · rw [va_up_ne _ _ z, va_up_ne _ _ z]
        by_cases y : j = m
        · subst y
          rw [va_up_self, va_up_self]
          exact ⟨by omega, fun _ => ⟨by omega, by omega⟩⟩
        · rw [va_up_ne _ _ y, va_up_ne _ _ y]
          exact ⟨f1, f2⟩
def XI (h : mxH) (w hh : Nat) (gs : mG) (sh : Nat → Nat) (m N : Nat) (bd : Int64) (pv : Int32) (wl : Nat → Nat) (wc wd : Nat → Nat → Nat) (qc qr qs qh cap : Nat) (wp wh wcap : Nat → Nat) : Prop :=
  SB h w hh gs sh ∧ (∃ fi la sm hr lc, h.1 30 = .inr (2, sob fi la sm hr lc)) ∧ XQ h qc qr qs qh cap ∧ AW wp wh qc qr qs qh h.2.1 ∧ h.1 16 = .inr (0, xob (nI m) (lN N) bd pv) ∧ (∃ f, h.1 39 = .inl (3, 6, .inr (.inr (.inr (.inr f)))) ∧ ∀ k, k < 6 → f k = some (40 + 3 * k)) ∧
  (∀ k, k < 6 → WC h (40 + 3 * k) (wp k) (wh k) (wcap k) (wl k) (wc k) (wd k))
def wsum (f : Nat → Nat) : Nat := f 0 + f 1 + f 2 + f 3 + f 4 + f 5
def RM (h : mxH) (cap : Nat) (wcap : Nat → Nat) (j : Nat) : Prop := h.2.1 ≤ 78 + 7 * j ∧ h.2.2 ≤ 2000000 + 8 * cap + 4 * wsum wcap + 5 * j ∧ cap ≤ 132192 ∧ ∀ k, k < 6 → wcap k ≤ 4609
def XF (h h' : mxH) : Prop := ∀ k, (k < 16 ∨ 58 ≤ k ∧ k ≤ 77) → h'.1 k = h.1 k
theorem XF.tr {h h1 h2 : mxH} (a : XF h h1) (b : XF h1 h2) : XF h h2 := fun k hk => (b k hk).trans (a k hk)
def M2 (h h' : mxH) : Prop := (∀ k, ¬ (58 ≤ k ∧ k ≤ 77) → h'.1 k = h.1 k) ∧ h'.2 = h.2
theorem M2.tr {h h1 h2 : mxH} (a : M2 h h1) (b : M2 h1 h2) : M2 h h2 := ⟨fun k hk => (b.1 k hk).trans (a.1 k hk), b.2.trans a.2⟩
theorem M2.rf {h : mxH} : M2 h h := ⟨fun _ _ => rfl, rfl⟩
theorem MF.m2 {h h' : mxH} (a : MF h h') : M2 h h' := ⟨fun k hk => a.1 k (by omega) (by omega), a.2⟩
theorem AW.out {wp wh : Nat → Nat} {qc qr qs qh nx x : Nat} (a : AW wp wh qc qr qs qh nx) (hx : 58 ≤ x ∧ x ≤ 77) : (x ≠ qc ∧ x ≠ qr ∧ x ≠ qs ∧ x ≠ qh) ∧ ∀ k, k < 6 → x ≠ wp k ∧ x ≠ wh k := by
  obtain ⟨a1, a2, a3, a4, a5⟩ := a
  refine ⟨a1.ne (by omega), fun k hk => ?_⟩
  obtain ⟨c1, c2, -⟩ := a4 k hk
  omega
theorem XI.kept {h h' : mxH} {w hh : Nat} {gs : mG} {sh : Nat → Nat} {m N : Nat} {bd : Int64} {pv : Int32} {wl : Nat → Nat} {wc wd : Nat → Nat → Nat} {qc qr qs qh cap : Nat} {wp wh wcap : Nat → Nat} (hX : XI h w hh gs sh m N bd pv wl wc wd qc qr qs qh cap wp wh wcap) (hF : M2 h h') : XI h' w hh gs sh m N bd pv wl wc wd qc qr qs qh cap wp wh wcap := by
  obtain ⟨a1, ⟨fi, la, sm, hr, lc, a2⟩, a3, a4, a5, ⟨f, a6, b6⟩, a7⟩ := hX
  have k0 : ∀ k, (k < 58 ∨ 77 < k) → h'.1 k = h.1 k := fun k hk => hF.1 k (by omega)
  have ow : ∀ k, k < 6 → ¬ (58 ≤ wp k ∧ wp k ≤ 77) ∧ ¬ (58 ≤ wh k ∧ wh k ≤ 77) := fun k hk => by
    obtain ⟨c1, c2, -⟩ := a4.2.2.2.1 k hk
    omega
  have oq : ¬ (58 ≤ qc ∧ qc ≤ 77) ∧ ¬ (58 ≤ qr ∧ qr ≤ 77) ∧ ¬ (58 ≤ qs ∧ qs ≤ 77) ∧ ¬ (58 ≤ qh ∧ qh ≤ 77) := by
    obtain ⟨⟨A1, A2, A3, A4⟩, -⟩ := a4
    unfold adq at A1 A2 A3 A4
    exact ⟨by omega, by omega, by omega, by omega⟩
  refine ⟨a1.kept (fun k hk => k0 k (by omega)), ⟨fi, la, sm, hr, lc, (k0 30 (by omega)).trans a2⟩, a3.kept (fun k hk => ?_), by rw [hF.2]; exact a4, (k0 16 (by omega)).trans a5, ⟨f, (k0 39 (by omega)).trans a6, b6⟩, fun k hk => (a7 k hk).kept (fun j hj => ?_)⟩
  · rcases hk with rfl | rfl | rfl | rfl | rfl
    · exact k0 31 (by omega)
    · exact hF.1 _ oq.1
    · exact hF.1 _ oq.2.1
    · exact hF.1 _ oq.2.2.1
    · exact hF.1 _ oq.2.2.2
  · rcases hj with rfl | rfl | rfl
    · exact k0 _ (by omega)
    · exact hF.1 _ (ow k hk).1
    · exact hF.1 _ (ow k hk).2
