/-! BOTH OBJECTS: their state, a call on both -/
abbrev stT : Type := Nat × Nat × mG × (Nat → Nat) × Nat × Nat × Int64 × Int32 × Nat × Nat × (Nat → Nat) × (Nat → Nat → Nat) × (Nat → Nat → Nat)
def OKp (w hh : Nat) (gs : mG) (sh : Nat → Nat) (m N : Nat) (pv : Int32) (fr en : Nat) (wl : Nat → Nat) (wc wd : Nat → Nat → Nat) : Prop :=
  (0 < w ∧ w ≤ 12) ∧ (0 < hh ∧ hh ≤ 12) ∧ w * hh ≤ 144 ∧ GB gs ∧ m ≤ 6 ∧ N ≤ 100000 ∧ (pv = nI 0 ∨ pv = nI 1) ∧ WV w hh m fr en wl wc wd ∧ WG w hh m wl wc wd ∧ SHP m fr en wl wc sh ∧ (0 < m → fr ≠ en)
def OKS : stT → Prop := fun (w, hh, gs, sh, m, N, _, pv, fr, en, wl, wc, wd) => OKp w hh gs sh m N pv fr en wl wc wd
def XSt (h : mxH) (j : Nat) : stT → Prop := fun (w, hh, gs, sh, m, N, bd, pv, _, _, wl, wc, wd) => XE h w hh gs sh m N bd pv wl wc wd j
def MSt (h : mxH) : stT → Prop := fun (w, hh, gs, _, m, N, bd, pv, fr, en, wl, wc, wd) => ME h w hh gs m N bd pv fr en wl wc wd
def STEP (mX mM : Nat) (args : List Value) (h : mxH) (s : stT) (j : Nat) (r : Value) : Prop := ∃ (s' : stT), OKS s' ∧ (∀ K : Option Value → mxH → Prop, (∀ h1, XSt h1 (j + 1) s' → XF h h1 → K (some r) h1) → mcl mx_P mX (.ref 16 :: args) h K) ∧ (∀ (h1 : mxH) (K : Option Value → mxH → Prop), MSt h1 s → (∀ h2, MSt h2 s' → M2 h1 h2 → K (some r) h2) → mcl mx_P mM (.ref 58 :: args) h1 K)
theorem XI.gr {h h' : mxH} {w hh : Nat} {gs gs' : mG} {sh : Nat → Nat} {m N : Nat} {bd : Int64} {pv : Int32} {wl : Nat → Nat} {wc wd : Nat → Nat → Nat} {qc qr qs qh cap : Nat} {wp wh wcap : Nat → Nat} (hX : XI h w hh gs sh m N bd pv wl wc wd qc qr qs qh cap wp wh wcap) (hG : XG h' w hh gs') (hF : ∀ k, ¬ (17 ≤ k ∧ k ≤ 29) → h'.1 k = h.1 k) (hE : h'.2 = h.2) : XI h' w hh gs' sh m N bd pv wl wc wd qc qr qs qh cap wp wh wcap := by
  obtain ⟨⟨a1, x3, a36, a37, a38⟩, ⟨fi, la, sm, hr, lc, a2⟩, a3, a4, a5, ⟨f, a6, b6⟩, a7⟩ := hX
  have oq : ¬ (17 ≤ qc ∧ qc ≤ 29) ∧ ¬ (17 ≤ qr ∧ qr ≤ 29) ∧ ¬ (17 ≤ qs ∧ qs ≤ 29) ∧ ¬ (17 ≤ qh ∧ qh ≤ 29) := by
    obtain ⟨⟨A1, A2, A3, A4⟩, -⟩ := a4
    unfold adq at A1 A2 A3 A4
    exact ⟨by omega, by omega, by omega, by omega⟩
  refine ⟨⟨hG, (hF 3 (by omega)).trans x3, ?_, ?_, ?_⟩, ⟨fi, la, sm, hr, lc, (hF 30 (by omega)).trans a2⟩, a3.kept (fun k hk => ?_), by rw [hE]; exact a4, (hF 16 (by omega)).trans a5, ⟨f, (hF 39 (by omega)).trans a6, b6⟩, fun k hk => (a7 k hk).kept (fun j hj => ?_)⟩
  · rw [hF 36 (by omega)]; exact a36
  · rw [hF 37 (by omega)]; exact a37
  · rw [hF 38 (by omega)]; exact a38
  · rcases hk with rfl | rfl | rfl | rfl | rfl
    · exact hF _ (by omega)
    · exact hF _ oq.1
    · exact hF _ oq.2.1
    · exact hF _ oq.2.2.1
    · exact hF _ oq.2.2.2
  · obtain ⟨F1, F2, -⟩ := a4.f hk
    rcases hj with rfl | rfl | rfl
    · exact hF _ (by omega)
    · exact hF _ (by omega)
    · exact hF _ (by omega)
theorem XE.gr {h h' : mxH} {w hh : Nat} {gs gs' : mG} {sh : Nat → Nat} {m N : Nat} {bd : Int64} {pv : Int32} {wl : Nat → Nat} {wc wd : Nat → Nat → Nat} {j : Nat} (hX : XE h w hh gs sh m N bd pv wl wc wd j) (hG : XG h' w hh gs') (hF : ∀ k, ¬ (17 ≤ k ∧ k ≤ 29) → h'.1 k = h.1 k) (hE : h'.2 = h.2) : XE h' w hh gs' sh m N bd pv wl wc wd (j + 1) := by
  obtain ⟨qc, qr, qs, qh, cap, wp, wh, wcap, a, b⟩ := hX.mono
  refine ⟨qc, qr, qs, qh, cap, wp, wh, wcap, a.gr hG hF hE, ?_⟩
  unfold RM at *
  rw [hE]
  exact b
theorem ME.gr {h h' : mxH} {w hh : Nat} {gs gs' : mG} {m N : Nat} {bd : Int64} {pv : Int32} {fr en : Nat} {wl : Nat → Nat} {wc wd : Nat → Nat → Nat} (hM : ME h w hh gs m N bd pv fr en wl wc wd) (hG : MG h' w hh gs') (e9 : gs' 9 0 = gs 9 0 ∧ gs' 9 1 = gs 9 1 ∧ gs' 9 2 = gs 9 2) (hF : ∀ k, ¬ (59 ≤ k ∧ k ≤ 67) → h'.1 k = h.1 k) : ME h' w hh gs' m N bd pv fr en wl wc wd := by
  obtain ⟨a1, ⟨fr', en', sm, sz, a2, b2⟩, a3, a4, ⟨f, a5⟩⟩ := hM
  refine ⟨hG, ⟨fr', en', sm, sz, ?_, b2⟩, a3.kept (fun k k1 k2 => hF k (by omega)), a4.kept (fun k k1 k2 => hF k (by omega)), ⟨f, (hF 71 (by omega)).trans a5⟩⟩
  rw [hF 58 (by omega), e9.1, e9.2.1, e9.2.2]
  exact a2
theorem XE.g {h : mxH} {w hh : Nat} {gs : mG} {sh : Nat → Nat} {m N : Nat} {bd : Int64} {pv : Int32} {wl : Nat → Nat} {wc wd : Nat → Nat → Nat} {j : Nat} (hX : XE h w hh gs sh m N bd pv wl wc wd j) : XG h w hh gs ∧ h.1 16 = .inr (0, xob (nI m) (lN N) bd pv) := by
  obtain ⟨qc, qr, qs, qh, cap, wp, wh, wcap, ⟨⟨a1, -⟩, -, -, -, a5, -⟩, -⟩ := hX
  exact ⟨a1, a5⟩
theorem XF.rf {h : mxH} : XF h h := fun _ _ => rfl
theorem XF.up {h h' : mxH} {k : Nat} {c : mxC} (hF : XF h h') (hk : 17 ≤ k ∧ k ≤ 29) : XF h (mx_up h' k c) := fun i hi => (up_n (by omega)).trans (hF i hi)
theorem M2.up {h h' : mxH} {k : Nat} {c : mxC} (hF : M2 h h') (hk : 58 ≤ k ∧ k ≤ 77) : M2 h (mx_up h' k c) := ⟨fun i hi => (up_n (by omega)).trans (hF.1 i hi), hF.2⟩
/-- a call that changes nothing on both sides -/
theorem STEP.idle {mX mM : Nat} {args : List Value} {h : mxH} {s : stT} {j : Nat} {r : Value} (hs : OKS s) (hX : XSt h j s) (e1 : ∀ K : Option Value → mxH → Prop, K (some r) h → mcl mx_P mX (.ref 16 :: args) h K) (e2 : ∀ (h1 : mxH) (K : Option Value → mxH → Prop), MSt h1 s → K (some r) h1 → mcl mx_P mM (.ref 58 :: args) h1 K) : STEP mX mM args h s j r := by
  refine ⟨s, hs, fun K kk => e1 K (kk h ?_ XF.rf), fun h1 K hM kk => e2 h1 K hM (kk h1 hM M2.rf)⟩
  obtain ⟨w, hh, gs, sh, m, N, bd, pv, fr, en, wl, wc, wd⟩ := s
  exact XE.mono hX
/-- a call that puts into the ground on both sides -/
theorem STEP.put {mX mM : Nat} {args : List Value} {h : mxH} {w hh : Nat} {gs : mG} {sh : Nat → Nat} {m N : Nat} {bd : Int64} {pv : Int32} {fr en : Nat} {wl : Nat → Nat} {wc wd : Nat → Nat → Nat} {j : Nat} {r : Value} {gs' : mG} {u : mxH → mxH} {u' : mxH} (hs : OKp w hh gs sh m N pv fr en wl wc wd) (hX : XE h w hh gs sh m N bd pv wl wc wd j) (hB : GB gs')
    (e1 : ∀ K : Option Value → mxH → Prop, K (some r) u' → mcl mx_P mX (.ref 16 :: args) h K) (g1 : XG u' w hh gs') (f1 : ∀ k, ¬ (17 ≤ k ∧ k ≤ 29) → u'.1 k = h.1 k) (z1 : u'.2 = h.2)
    (e2 : ∀ (h1 : mxH) (K : Option Value → mxH → Prop), MG h1 w hh gs → K (some r) (u h1) → mcl mx_P mM (.ref 58 :: args) h1 K) (g2 : ∀ h1, MG h1 w hh gs → MG (u h1) w hh gs') (f2 : ∀ h1 k, ¬ (59 ≤ k ∧ k ≤ 67) → (u h1).1 k = h1.1 k) (z2 : ∀ h1, (u h1).2 = h1.2) (e9 : gs' 9 0 = gs 9 0 ∧ gs' 9 1 = gs 9 1 ∧ gs' 9 2 = gs 9 2) :
    STEP mX mM args h (w, hh, gs, sh, m, N, bd, pv, fr, en, wl, wc, wd) j r := by
  obtain ⟨o1, o2, o3, o4, o5⟩ := hs
  refine ⟨(w, hh, gs', sh, m, N, bd, pv, fr, en, wl, wc, wd), ⟨o1, o2, o3, hB, o5⟩, fun K kk => e1 K (kk u' (hX.gr g1 f1 z1) (fun k hk => f1 k (by omega))), fun h1 K hM kk => e2 h1 K hM.1 (kk (u h1) (ME.gr hM (g2 h1 hM.1) e9 (f2 h1)) ⟨fun k hk => f2 h1 k (by omega), z2 h1⟩)⟩
theorem gsu_9 {gs : mG} {f i v : Nat} (hf : f ≠ 9) : gsu gs f i v 9 0 = gs 9 0 ∧ gsu gs f i v 9 1 = gs 9 1 ∧ gsu gs f i v 9 2 = gs 9 2 := by
  unfold gsu
  refine ⟨?_, ?_, ?_⟩ <;> rw [if_neg (fun q => hf q.1.symm)]
section OPS
variable {h : mxH} {w hh : Nat} {gs : mG} {sh : Nat → Nat} {m N : Nat} {bd : Int64} {pv : Int32} {fr en : Nat} {wl : Nat → Nat} {wc wd : Nat → Nat → Nat} {j : Nat}
theorem st_cell (hs : OKp w hh gs sh m N pv fr en wl wc wd) (hX : XE h w hh gs sh m N bd pv wl wc wd j) (x y p q : Int32) : ∃ r, STEP 2 79 [.int x, .int y, .int p, .int q] h (w, hh, gs, sh, m, N, bd, pv, fr, en, wl, wc, wd) j (.int r) := by
  obtain ⟨⟨w0, w12⟩, ⟨h0, h12⟩, hn, hB, -⟩ := id hs
  obtain ⟨xg, x16⟩ := hX.g
  have no : (cel w hh x y = none ∨ wi p.toInt64 (lN 0) (lN 999) = false ∨ wi q.toInt64 (lN 0) (lN 9999) = false) → ∃ r, STEP 2 79 [.int x, .int y, .int p, .int q] h (w, hh, gs, sh, m, N, bd, pv, fr, en, wl, wc, wd) j (.int r) := fun hc => ⟨nI 0, STEP.idle hs hX (fun K hk => (e_X_cell_no xg hn w12 h12 x16 hc K).mpr hk) (fun h1 K hM hk => (e_M_cell_no hM.1 w0 w12 h0 h12 hc K).mpr hk)⟩
  cases hc : cel w hh x y with
  | none => exact no (Or.inl hc)
  | some c =>
    obtain ⟨-, -, -, -, -, -, -, hlt⟩ := cel_some (by omega) (by omega) hc
    cases w1 : wi p.toInt64 (lN 0) (lN 999) with
    | false => exact no (Or.inr (Or.inl w1))
    | true =>
      cases w2 : wi q.toInt64 (lN 0) (lN 9999) with
      | false => exact no (Or.inr (Or.inr w2))
      | true =>
        obtain ⟨a, -, ha, rfl⟩ := wi_n w1 (by omega) (by omega)
        obtain ⟨b, -, hb, rfl⟩ := wi_n w2 (by omega) (by omega)
        refine ⟨nI 1, STEP.put (gs' := gsu (gsu gs 0 c a) 1 c b) (u := fun h1 => mx_up (mx_up h1 59 (.inl (0, 144, .inl (va_up (fun c => nI (gs 0 c)) c (nI a))))) 60 (.inl (0, 144, .inl (va_up (fun c => nI (gs 1 c)) c (nI b))))) hs hX ((hB.put (Or.inl ⟨rfl, ha⟩)).put (Or.inr (Or.inl ⟨rfl, hb⟩))) (fun K hk => (e_X_cell_ok xg hn x16 hc hlt ha hb K).mpr hk) ?_ ?_ rfl (fun h1 K hM hk => (e_M_cell_ok hM w0 w12 h0 h12 hn hc ha hb K).mpr hk) ?_ ?_ (fun _ => rfl) ?_⟩
        · exact (xg.p0 (i := c) (v := a)).p1 (i := c) (v := b)
        · intro k hk; simp (disch := (first | omega | (simp only [up_2, mk_21]; first | done | omega))) only [up_e, up_n, mk_e, mk_n]
        · intro h1 hM; exact (hM.p0 (i := c) (v := a)).p1 (i := c) (v := b)
        · intro h1 k hk; simp (disch := (first | omega | (simp only [up_2, mk_21]; first | done | omega))) only [up_e, up_n, mk_e, mk_n]
        · obtain ⟨u1, u2, u3⟩ := gsu_9 (gs := gs) (f := 0) (i := c) (v := a) (by omega)
          obtain ⟨v1, v2, v3⟩ := gsu_9 (gs := gsu gs 0 c a) (f := 1) (i := c) (v := b) (by omega)
          exact ⟨v1.trans u1, v2.trans u2, v3.trans u3⟩
end OPS
