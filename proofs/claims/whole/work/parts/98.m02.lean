/-! BOTH OBJECTS: calls that put into the ground -/
section OPT
variable {h : mxH} {w hh : Nat} {gs : mG} {sh : Nat → Nat} {m N : Nat} {bd : Int64} {pv : Int32} {fr en : Nat} {wl : Nat → Nat} {wc wd : Nat → Nat → Nat} {j : Nat}
theorem st_bar (hs : OKp w hh gs sh m N pv fr en wl wc wd) (hX : XE h w hh gs sh m N bd pv wl wc wd j) (x y : Int32) : ∃ r, STEP 3 80 [.int x, .int y] h (w, hh, gs, sh, m, N, bd, pv, fr, en, wl, wc, wd) j (.int r) := by
  obtain ⟨⟨w0, w12⟩, ⟨h0, h12⟩, hn, hB, -⟩ := id hs
  obtain ⟨xg, x16⟩ := hX.g
  have no : (∀ c, cel w hh x y = some c → gs 2 c ≠ 0) → ∃ r, STEP 3 80 [.int x, .int y] h (w, hh, gs, sh, m, N, bd, pv, fr, en, wl, wc, wd) j (.int r) := fun hc => ⟨nI 0, STEP.idle hs hX (fun K hk => (e_X_bar_no xg hB hn w12 h12 x16 hc K).mpr hk) (fun h1 K hM hk => (e_M_bar_no hM.1 hB w0 w12 h0 h12 hn hc K).mpr hk)⟩
  cases hc : cel w hh x y with
  | none => exact no (fun c q => by rw [hc] at q; cases q)
  | some c =>
    obtain ⟨-, -, -, -, -, -, -, hlt⟩ := cel_some (by omega) (by omega) hc
    by_cases b0 : gs 2 c = 0
    · refine ⟨nI 1, STEP.put (gs' := gsu gs 2 c 1) (u := fun h1 => mx_up h1 61 (.inl (2, 144, .inl (va_up (fun c => nI (gs 2 c)) c (nI 1))))) hs hX (hB.put (Or.inr (Or.inr (Or.inl ⟨rfl, Nat.le_refl 1⟩)))) (fun K hk => (e_X_bar_ok xg hn x16 hc hlt b0 K).mpr hk) xg.p2 ?_ rfl (fun h1 K hM hk => (e_M_bar_ok hM w0 w12 h0 h12 hn hc b0 K).mpr hk) (fun h1 hM => hM.p2) ?_ (fun _ => rfl) (gsu_9 (by omega))⟩
      · intro k hk; simp (disch := (first | omega | (simp only [up_2, mk_21]; first | done | omega))) only [up_e, up_n, mk_e, mk_n]
      · intro h1 k hk; simp (disch := (first | omega | (simp only [up_2, mk_21]; first | done | omega))) only [up_e, up_n, mk_e, mk_n]
    · exact no (fun c' q => by rw [hc] at q; cases q; exact b0)
theorem st_aim (hs : OKp w hh gs sh m N pv fr en wl wc wd) (hX : XE h w hh gs sh m N bd pv wl wc wd j) (a x y : Int32) (v : Int64) : ∃ r, STEP 5 82 [.int a, .int x, .int y, .long v] h (w, hh, gs, sh, m, N, bd, pv, fr, en, wl, wc, wd) j (.int r) := by
  obtain ⟨⟨w0, w12⟩, ⟨h0, h12⟩, hn, hB, -⟩ := id hs
  obtain ⟨xg, x16⟩ := hX.g
  have no : (cel w hh x y = none ∨ wi a.toInt64 (lN 0) (lN 3) = false ∨ wi v (lN 0) (lN 999) = false) → ∃ r, STEP 5 82 [.int a, .int x, .int y, .long v] h (w, hh, gs, sh, m, N, bd, pv, fr, en, wl, wc, wd) j (.int r) := fun hc => ⟨nI 0, STEP.idle hs hX (fun K hk => (e_X_aim_no xg hn w12 h12 x16 hc K).mpr hk) (fun h1 K hM hk => (e_M_aim_no hM.1 w0 w12 h0 h12 hc K).mpr hk)⟩
  cases hc : cel w hh x y with
  | none => exact no (Or.inl hc)
  | some c =>
    obtain ⟨-, -, -, -, -, -, -, hlt⟩ := cel_some (by omega) (by omega) hc
    cases w1 : wi a.toInt64 (lN 0) (lN 3) with
    | false => exact no (Or.inr (Or.inl w1))
    | true =>
      cases w2 : wi v (lN 0) (lN 999) with
      | false => exact no (Or.inr (Or.inr w2))
      | true =>
        obtain ⟨a', -, ha, rfl⟩ := wi_n w1 (by omega) (by omega)
        obtain ⟨v', -, hv, rfl⟩ := wi_l w2 (by omega) (by omega)
        refine ⟨nI 1, STEP.put (gs' := gsu gs 7 (144 * a' + c) v') (u := fun h1 => mx_up h1 64 (.inl (0, 576, .inl (va_up (fun i => nI (gs 7 i)) (144 * a' + c) (nI v'))))) hs hX (hB.put (by omega)) (fun K hk => (e_X_aim_ok xg hn x16 hc hlt ha hv K).mpr hk) (xg.p7 hn hlt) ?_ rfl (fun h1 K hM hk => (e_M_aim_ok hM w0 w12 h0 h12 hn hc ha hv K).mpr hk) (fun h1 hM => hM.p7) ?_ (fun _ => rfl) (gsu_9 (by omega))⟩
        · intro k hk; simp (disch := (first | omega | (simp only [up_2, mk_21]; first | done | omega))) only [up_e, up_n, mk_e, mk_n]
        · intro h1 k hk; simp (disch := (first | omega | (simp only [up_2, mk_21]; first | done | omega))) only [up_e, up_n, mk_e, mk_n]
theorem st_weight (hs : OKp w hh gs sh m N pv fr en wl wc wd) (hX : XE h w hh gs sh m N bd pv wl wc wd j) (a : Int32) (u b : Int64) : ∃ r, STEP 6 83 [.int a, .long u, .long b] h (w, hh, gs, sh, m, N, bd, pv, fr, en, wl, wc, wd) j (.int r) := by
  obtain ⟨⟨w0, w12⟩, ⟨h0, h12⟩, hn, hB, -⟩ := id hs
  obtain ⟨xg, x16⟩ := hX.g
  have no : (wi a.toInt64 (lN 0) (lN 3) = false ∨ wi u (lN 0) (lN 20) = false ∨ wi b (lN 1) (lN 6) = false) → ∃ r, STEP 6 83 [.int a, .long u, .long b] h (w, hh, gs, sh, m, N, bd, pv, fr, en, wl, wc, wd) j (.int r) := fun hc => ⟨nI 0, STEP.idle hs hX (fun K hk => (e_X_weight_no xg x16 hc K).mpr hk) (fun h1 K hM hk => (e_M_weight_no hM.1 hc K).mpr hk)⟩
  cases w1 : wi a.toInt64 (lN 0) (lN 3) with
  | false => exact no (Or.inl w1)
  | true =>
    cases w2 : wi u (lN 0) (lN 20) with
    | false => exact no (Or.inr (Or.inl w2))
    | true =>
      cases w3 : wi b (lN 1) (lN 6) with
      | false => exact no (Or.inr (Or.inr w3))
      | true =>
        obtain ⟨a', -, ha, rfl⟩ := wi_n w1 (by omega) (by omega)
        obtain ⟨u', -, hu, rfl⟩ := wi_l w2 (by omega) (by omega)
        obtain ⟨b', hb1, hb, rfl⟩ := wi_l w3 (by omega) (by omega)
        have hv : u' * (60 / b') ≤ 1200 := by
          have : 60 / b' ≤ 60 := Nat.div_le_self _ _
          have : u' * (60 / b') ≤ 20 * 60 := Nat.mul_le_mul hu this
          omega
        refine ⟨nI 1, STEP.put (gs' := gsu gs 8 a' (u' * (60 / b'))) (u := fun h1 => mx_up h1 67 (.inl (0, 4, .inl (va_up (fun a => nI (gs 8 a)) a' (nI (u' * (60 / b'))))))) hs hX (hB.put (by omega)) (fun K hk => (e_X_weight_ok xg x16 ha hu hb1 hb K).mpr hk) xg.p8 ?_ rfl (fun h1 K hM hk => (e_M_weight_ok hM ha hu hb1 hb K).mpr hk) (fun h1 hM => hM.p8) ?_ (fun _ => rfl) (gsu_9 (by omega))⟩
        · intro k hk; simp (disch := (first | omega | (simp only [up_2, mk_21]; first | done | omega))) only [up_e, up_n, mk_e, mk_n]
        · intro h1 k hk; simp (disch := (first | omega | (simp only [up_2, mk_21]; first | done | omega))) only [up_e, up_n, mk_e, mk_n]
theorem st_bridge (hs : OKp w hh gs sh m N pv fr en wl wc wd) (hX : XE h w hh gs sh m N bd pv wl wc wd j) (x y p : Int32) (q : Int64) : ∃ r, STEP 14 84 [.int x, .int y, .int p, .long q] h (w, hh, gs, sh, m, N, bd, pv, fr, en, wl, wc, wd) j (.int r) := by
  obtain ⟨⟨w0, w12⟩, ⟨h0, h12⟩, hn, hB, -⟩ := id hs
  obtain ⟨xg, x16⟩ := hX.g
  have no : (cel w hh x y = none ∨ wi p.toInt64 (lN 1) (lN 3) = false ∨ wi q (lN 0) (lN 9999) = false) → ∃ r, STEP 14 84 [.int x, .int y, .int p, .long q] h (w, hh, gs, sh, m, N, bd, pv, fr, en, wl, wc, wd) j (.int r) := fun hc => ⟨nI 0, STEP.idle hs hX (fun K hk => (e_X_bridge_no xg hn w12 h12 x16 hc K).mpr hk) (fun h1 K hM hk => (e_M_bridge_no hM.1 w0 w12 h0 h12 hc K).mpr hk)⟩
  cases hc : cel w hh x y with
  | none => exact no (Or.inl hc)
  | some c =>
    obtain ⟨-, -, -, -, -, -, -, hlt⟩ := cel_some (by omega) (by omega) hc
    cases w1 : wi p.toInt64 (lN 1) (lN 3) with
    | false => exact no (Or.inr (Or.inl w1))
    | true =>
      cases w2 : wi q (lN 0) (lN 9999) with
      | false => exact no (Or.inr (Or.inr w2))
      | true =>
        obtain ⟨a, ha1, ha, rfl⟩ := wi_n w1 (by omega) (by omega)
        obtain ⟨b, -, hb, rfl⟩ := wi_l w2 (by omega) (by omega)
        refine ⟨nI 1, STEP.put (gs' := gsu (gsu gs 3 c a) 4 c b) (u := fun h1 => mx_up (mx_up h1 62 (.inl (0, 144, .inl (va_up (fun c => nI (gs 3 c)) c (nI a))))) 63 (.inl (0, 144, .inl (va_up (fun c => nI (gs 4 c)) c (nI b))))) hs hX ((hB.put (f := 3) (by omega)).put (f := 4) (by omega)) (fun K hk => (e_X_bridge_ok xg hn x16 hc hlt ha1 ha hb K).mpr hk) ?_ ?_ rfl (fun h1 K hM hk => (e_M_bridge_ok hM w0 w12 h0 h12 hn hc ha1 ha hb K).mpr hk) ?_ ?_ (fun _ => rfl) ?_⟩
        · exact (xg.p3 (i := c) (v := a)).p4 (i := c) (v := b)
        · intro k hk; simp (disch := (first | omega | (simp only [up_2, mk_21]; first | done | omega))) only [up_e, up_n, mk_e, mk_n]
        · intro h1 hM; exact (hM.p3 (i := c) (v := a)).p4 (i := c) (v := b)
        · intro h1 k hk; simp (disch := (first | omega | (simp only [up_2, mk_21]; first | done | omega))) only [up_e, up_n, mk_e, mk_n]
        · obtain ⟨u1, u2, u3⟩ := gsu_9 (gs := gs) (f := 3) (i := c) (v := a) (by omega)
          obtain ⟨v1, v2, v3⟩ := gsu_9 (gs := gsu gs 3 c a) (f := 4) (i := c) (v := b) (by omega)
          exact ⟨v1.trans u1, v2.trans u2, v3.trans u3⟩
theorem st_mark (hs : OKp w hh gs sh m N pv fr en wl wc wd) (hX : XE h w hh gs sh m N bd pv wl wc wd j) (p x y k : Int32) : ∃ r, STEP 15 85 [.int p, .int x, .int y, .int k] h (w, hh, gs, sh, m, N, bd, pv, fr, en, wl, wc, wd) j (.int r) := by
  obtain ⟨⟨w0, w12⟩, ⟨h0, h12⟩, hn, hB, -⟩ := id hs
  obtain ⟨xg, x16⟩ := hX.g
  have no : (cel w hh x y = none ∨ wi p.toInt64 (lN 0) (lN 7) = false ∨ wi k.toInt64 (lN 0) (lN 3) = false) → ∃ r, STEP 15 85 [.int p, .int x, .int y, .int k] h (w, hh, gs, sh, m, N, bd, pv, fr, en, wl, wc, wd) j (.int r) := fun hc => ⟨-1, STEP.idle hs hX (fun K hk => (e_X_mark_no xg hn w12 h12 x16 hc K).mpr hk) (fun h1 K hM hk => (e_M_mark_no hM.1 w0 w12 h0 h12 hc K).mpr hk)⟩
  cases hc : cel w hh x y with
  | none => exact no (Or.inl hc)
  | some c =>
    obtain ⟨-, -, -, -, -, -, -, hlt⟩ := cel_some (by omega) (by omega) hc
    cases w1 : wi p.toInt64 (lN 0) (lN 7) with
    | false => exact no (Or.inr (Or.inl w1))
    | true =>
      cases w2 : wi k.toInt64 (lN 0) (lN 3) with
      | false => exact no (Or.inr (Or.inr w2))
      | true =>
        obtain ⟨p', -, hp, rfl⟩ := wi_n w1 (by omega) (by omega)
        obtain ⟨k', -, hk', rfl⟩ := wi_n w2 (by omega) (by omega)
        refine ⟨_, STEP.put (gs' := gsu gs 6 (144 * p' + c) k') (u := fun h1 => mx_up h1 65 (.inl (0, 1152, .inl (va_up (fun i => nI (gs 6 i)) (144 * p' + c) (nI k'))))) hs hX (hB.put (by omega)) (fun K hk => (e_X_mark_ok xg hB hn x16 hc hlt hp hk' K).mpr hk) (xg.p6 (by omega)) ?_ rfl (fun h1 K hM hk => (e_M_mark_ok hM hB w0 w12 h0 h12 hn hc hp hk' K).mpr hk) (fun h1 hM => hM.p6) ?_ (fun _ => rfl) (gsu_9 (by omega))⟩
        · intro k hk; simp (disch := (first | omega | (simp only [up_2, mk_21]; first | done | omega))) only [up_e, up_n, mk_e, mk_n]
        · intro h1 k hk; simp (disch := (first | omega | (simp only [up_2, mk_21]; first | done | omega))) only [up_e, up_n, mk_e, mk_n]
theorem st_zone (hs : OKp w hh gs sh m N pv fr en wl wc wd) (hX : XE h w hh gs sh m N bd pv wl wc wd j) (z x y : Int32) : ∃ r, STEP 16 86 [.int z, .int x, .int y] h (w, hh, gs, sh, m, N, bd, pv, fr, en, wl, wc, wd) j (.int r) := by
  obtain ⟨⟨w0, w12⟩, ⟨h0, h12⟩, hn, hB, -⟩ := id hs
  obtain ⟨xg, x16⟩ := hX.g
  have no : (cel w hh x y = none ∨ wi z.toInt64 (lN 0) (lN 7) = false) → ∃ r, STEP 16 86 [.int z, .int x, .int y] h (w, hh, gs, sh, m, N, bd, pv, fr, en, wl, wc, wd) j (.int r) := fun hc => ⟨-1, STEP.idle hs hX (fun K hk => (e_X_zone_no xg hn w12 h12 x16 hc K).mpr hk) (fun h1 K hM hk => (e_M_zone_no hM.1 w0 w12 h0 h12 hc K).mpr hk)⟩
  cases hc : cel w hh x y with
  | none => exact no (Or.inl hc)
  | some c =>
    obtain ⟨-, -, -, -, -, -, -, hlt⟩ := cel_some (by omega) (by omega) hc
    cases w1 : wi z.toInt64 (lN 0) (lN 7) with
    | false => exact no (Or.inr w1)
    | true =>
      obtain ⟨z', -, hz, rfl⟩ := wi_n w1 (by omega) (by omega)
      refine ⟨_, STEP.put (gs' := gsu gs 5 c z') (u := fun h1 => mx_up h1 66 (.inl (0, 144, .inl (va_up (fun c => nI (gs 5 c)) c (nI z'))))) hs hX (hB.put (by omega)) (fun K hk => (e_X_zone_ok xg hn x16 hc hlt hz K).mpr hk) xg.p5 ?_ rfl (fun h1 K hM hk => (e_M_zone_ok hM w0 w12 h0 h12 hn hc hz K).mpr hk) (fun h1 hM => hM.p5) ?_ (fun _ => rfl) (gsu_9 (by omega))⟩
      · intro k hk; simp (disch := (first | omega | (simp only [up_2, mk_21]; first | done | omega))) only [up_e, up_n, mk_e, mk_n]
      · intro h1 k hk; simp (disch := (first | omega | (simp only [up_2, mk_21]; first | done | omega))) only [up_e, up_n, mk_e, mk_n]
theorem st_moves (hs : OKp w hh gs sh m N pv fr en wl wc wd) (hX : XE h w hh gs sh m N bd pv wl wc wd j) (r s t : Int32) : ∃ r', STEP 4 81 [.int r, .int s, .int t] h (w, hh, gs, sh, m, N, bd, pv, fr, en, wl, wc, wd) j (.int r') := by
  obtain ⟨o1, o2, hn, hB, o5⟩ := id hs
  obtain ⟨xg, x16⟩ := hX.g
  have no : (wi r.toInt64 (lN 1) (lN 2) = false ∨ wi s.toInt64 (lN 0) (lN 9999) = false ∨ wi t.toInt64 (lN 0) (lN 8) = false) → ∃ r', STEP 4 81 [.int r, .int s, .int t] h (w, hh, gs, sh, m, N, bd, pv, fr, en, wl, wc, wd) j (.int r') := fun hc => ⟨nI 0, STEP.idle hs hX (fun K hk => (e_X_moves_no xg x16 hc K).mpr hk) (fun h1 K hM hk => (e_M_moves_no hM.1 hc K).mpr hk)⟩
  cases w1 : wi r.toInt64 (lN 1) (lN 2) with
  | false => exact no (Or.inl w1)
  | true =>
    cases w2 : wi s.toInt64 (lN 0) (lN 9999) with
    | false => exact no (Or.inr (Or.inl w2))
    | true =>
      cases w3 : wi t.toInt64 (lN 0) (lN 8) with
      | false => exact no (Or.inr (Or.inr w3))
      | true =>
        obtain ⟨r', hr1, hr, rfl⟩ := wi_n w1 (by omega) (by omega)
        obtain ⟨s', -, hs', rfl⟩ := wi_n w2 (by omega) (by omega)
        obtain ⟨t', -, ht, rfl⟩ := wi_n w3 (by omega) (by omega)
        refine ⟨nI 1, (w, hh, gs9 gs r' s' t', sh, m, N, bd, pv, fr, en, wl, wc, wd), ⟨o1, o2, hn, hB.p9 (by omega) hs' ht, o5⟩, fun K kk => (e_X_moves_ok xg x16 hr1 hr hs' ht K).mpr (kk _ (hX.gr xg.p9 (fun k hk => up_n (by omega)) rfl) (XF.rf.up (by omega))), fun h1 K hM kk => ?_⟩
        obtain ⟨a1, ⟨fr', en', sm, sz, a2, b2⟩, a3, a4, ⟨f, a5⟩⟩ := hM
        refine (e_M_moves_ok a2 hr1 hr hs' ht K).mpr (kk _ ⟨a1.p9, ⟨fr', en', sm, sz, ?_, b2⟩, a3.kept (fun k k1 k2 => up_n (by omega)), a4.kept (fun k k1 k2 => up_n (by omega)), ⟨f, (up_n (by omega)).trans a5⟩⟩ (M2.rf.up (by omega)))
        rw [gs9_0, gs9_1, gs9_2]
        exact up_e rfl
end OPT
