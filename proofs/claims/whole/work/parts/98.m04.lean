/-! BOTH OBJECTS: run, unlike -/
theorem pV_01 (o : Option Nat) (b : Bool) : pV o b = nI 0 ∨ pV o b = nI 1 := by
  cases o with
  | some g => exact Or.inr rfl
  | none => cases b with
    | true => exact Or.inl rfl
    | false => exact Or.inr rfl
section OPN
variable {h : mxH} {w hh : Nat} {gs : mG} {sh : Nat → Nat} {m N : Nat} {bd : Int64} {pv : Int32} {fr en : Nat} {wl : Nat → Nat} {wc wd : Nat → Nat → Nat} {j : Nat}
theorem st_run (hs : OKp w hh gs sh m N pv fr en wl wc wd) (hX : XE h w hh gs sh m N bd pv wl wc wd j) (x0 y0 x1 y1 : Int32) (nd : Int64) : ∃ r, STEP 7 109 [.int x0, .int y0, .int x1, .int y1, .long nd] h (w, hh, gs, sh, m, N, bd, pv, fr, en, wl, wc, wd) j (.int r) := by
  obtain ⟨⟨w0, w12⟩, ⟨h0, h12⟩, hn, hB, hm, hN, hpv, hv, hg, hsh, hne⟩ := id hs
  by_cases hok : ∃ a b N', rok gs w hh x0 y0 x1 y1 nd a b N'
  · obtain ⟨a, b, N', hok⟩ := hok
    obtain ⟨ha, hb, hab, -, n1, n2, b0, b1⟩ := id hok
    obtain ⟨-, -, -, -, -, -, -, hb'⟩ := cel_some (by omega) (by omega) hb
    have hbf : brg gs a = false := by unfold brg; simp [b0]
    have s0 : SHP 0 a b wl wc (fun _ => 0) := fun c => ⟨Nat.zero_le _, ⟨fun q => absurd (show (0 : Nat) = 1 from q) (by decide), fun ⟨_, _, k, i, q, _⟩ => absurd q (Nat.not_lt_zero k)⟩⟩
    rcases hr : srch gs w hh a 0 (fun _ => 0) N' (st0 gs b) (ky0 gs b) none with ⟨⟨o, bb⟩, laF, stF, kyF⟩
    have hinv := srch_inv hB hn N' 0 (st0 gs b) (ky0 gs b) none (SI.start (fr := a) (mo := 0) (sh := fun _ => 0) hb' b1) (by omega) (fun q hq => by cases hq) o bb laF stF kyF hr
    cases ho : o with
    | none =>
      subst ho
      exact ⟨_, (w, hh, gs, fun _ => 0, 0, N', bV laF, pV none bb, a, b, wl, wc, wd), ⟨⟨w0, w12⟩, ⟨h0, h12⟩, hn, hB, by omega, n2, pV_01 _ _, fun k hk => absurd hk (Nat.not_lt_zero k), fun k hk => absurd hk (Nat.not_lt_zero k), s0, fun q => absurd q (Nat.lt_irrefl 0)⟩,
        fun K kk => c_X_run_ok hB w0 w12 h12 hn hX hok hr (fun _ h' d1 d2 => kk h' d1 d2) (fun g q => by cases q),
        fun h1 K hM kk => c_M_run_ok hB w0 w12 h0 h12 hn hM hok hr (fun _ h' d1 d2 => kk h' d1 d2) (fun g q => by cases q)⟩
    | some g =>
      subst ho
      have hG := hinv.2 g rfl
      exact ⟨_, (w, hh, gs, shl (fun _ => 0) (fun i => lC (wy gs w hh (fun _ => 0) stF kyF g i)) a b (kM (kyF g) + 1), 0 + 1, N', bV laF, pV (some g) bb, a, b, va_up wl 0 (kM (kyF g)), va_up wc 0 (fun i => lC (wy gs w hh (fun _ => 0) stF kyF g i)), va_up wd 0 (fun i => lH (wy gs w hh (fun _ => 0) stF kyF g i))),
        ⟨⟨w0, w12⟩, ⟨h0, h12⟩, hn, hB, by omega, n2, pV_01 _ _, new_WV hB w0 hn hbf hab hG (fun k hk => absurd hk (Nat.not_lt_zero k)), new_WG hB w0 hG (fun k hk => absurd hk (Nat.not_lt_zero k)), new_SHP s0, fun _ => hab⟩,
        fun K kk => c_X_run_ok hB w0 w12 h12 hn hX hok hr (fun q => by cases q) (fun g' q h' d1 d2 => by cases q; exact kk h' d1 d2),
        fun h1 K hM kk => c_M_run_ok hB w0 w12 h0 h12 hn hM hok hr (fun q => by cases q) (fun g' q h' d1 d2 => by cases q; exact kk h' d1 d2)⟩
  · have hno : ∀ a b N', ¬ rok gs w hh x0 y0 x1 y1 nd a b N' := fun a b N' q => hok ⟨a, b, N', q⟩
    exact ⟨-3, STEP.idle hs hX (fun K hk => (e_X_run_no hB w12 h12 hn hX hno K).mpr hk) (fun h1 K hM hk => (e_M_run_no hB w0 w12 h0 h12 hn hM hno K).mpr hk)⟩
theorem st_unlike (hs : OKp w hh gs sh m N pv fr en wl wc wd) (hX : XE h w hh gs sh m N bd pv wl wc wd j) (ab be : Int64) : ∃ r, STEP 12 110 [.long ab, .long be] h (w, hh, gs, sh, m, N, bd, pv, fr, en, wl, wc, wd) j (.int r) := by
  obtain ⟨⟨w0, w12⟩, ⟨h0, h12⟩, hn, hB, hm, hN, hpv, hv, hg, hsh, hne⟩ := id hs
  by_cases hok : ∃ a b, uok gs m wl wc ab be a b
  · obtain ⟨a, b, hok⟩ := hok
    obtain ⟨-, -, -, -, -, m1, m5, e3, e4⟩ := id hok
    obtain ⟨v0, v1, v2, v3, -⟩ := hv 0 (by omega)
    have l0 := v3 0 (by omega)
    have l1 := v3 (wl 0) (by omega)
    have hne' := hne (by omega)
    have l1' : en < w * hh := by rw [← v2]; exact l1
    have e3' : gs 2 fr = 0 := by rw [← v1]; exact e3
    have e4' : gs 2 en = 0 := by rw [← v2]; exact e4
    have hbf : brg gs fr = false := by unfold brg; simp [e3']
    rcases hr : srch gs w hh fr (unS (wl 0) a b) sh N (st0 gs en) (ky0 gs en) none with ⟨⟨o, bb⟩, laF, stF, kyF⟩
    have hr' := hr
    rw [← v1, ← v2] at hr'
    have hinv := srch_inv hB hn N 0 (st0 gs en) (ky0 gs en) none (SI.start (fr := fr) (mo := unS (wl 0) a b) (sh := sh) l1' e4') (by omega) (fun q hq => by cases hq) o bb laF stF kyF hr
    cases ho : o with
    | none =>
      subst ho
      exact ⟨_, (w, hh, gs, sh, m, N, bV laF, pV none bb, fr, en, wl, wc, wd), ⟨⟨w0, w12⟩, ⟨h0, h12⟩, hn, hB, hm, hN, pV_01 _ _, hv, hg, hsh, hne⟩,
        fun K kk => c_X_unlike_ok hB w0 hn hN (fun c => (hsh c).1) hX ⟨l0, l1⟩ v0 hok hr' (fun _ h' d1 d2 => kk h' d1 d2) (fun g q => by cases q),
        fun h1 K hM kk => c_M_unlike_ok hB w0 w12 h0 h12 hn hN hM hv hsh hok hr (fun _ h' d1 d2 => kk h' d1 d2) (fun g q => by cases q)⟩
    | some g =>
      subst ho
      have hG := hinv.2 g rfl
      refine ⟨_, (w, hh, gs, shl sh (fun i => lC (wy gs w hh sh stF kyF g i)) fr en (kM (kyF g) + 1), m + 1, N, bV laF, pV (some g) bb, fr, en, va_up wl m (kM (kyF g)), va_up wc m (fun i => lC (wy gs w hh sh stF kyF g i)), va_up wd m (fun i => lH (wy gs w hh sh stF kyF g i))),
        ⟨⟨w0, w12⟩, ⟨h0, h12⟩, hn, hB, by omega, hN, pV_01 _ _, new_WV hB w0 hn hbf hne' hG hv, new_WG hB w0 hG hg, new_SHP hsh, fun _ => hne'⟩,
        fun K kk => c_X_unlike_ok hB w0 hn hN (fun c => (hsh c).1) hX ⟨l0, l1⟩ v0 hok hr' (fun q => by cases q) (fun g' q h' d1 d2 => by
          cases q
          rw [v1, v2] at d1
          exact kk h' d1 d2),
        fun h1 K hM kk => c_M_unlike_ok hB w0 w12 h0 h12 hn hN hM hv hsh hok hr (fun q => by cases q) (fun g' q h' d1 d2 => by cases q; exact kk h' d1 d2)⟩
  · have hno : ∀ a b, ¬ uok gs m wl wc ab be a b := fun a b q => hok ⟨a, b, q⟩
    exact ⟨-3, STEP.idle hs hX (fun K hk => (e_X_unlike_no hB hn hm hX (fun q => ⟨(hv 0 (by omega)).2.2.2.1 0 (by omega), (hv 0 (by omega)).2.2.2.1 (wl 0) (by omega)⟩) hno K).mpr hk) (fun h1 K hM hk => (e_M_unlike_no hB hn hm hM hv hno K).mpr hk)⟩
end OPN
