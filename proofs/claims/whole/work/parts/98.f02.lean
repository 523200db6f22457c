/-! THE CLASS: seek -/
def XE (h : mxH) (w hh : Nat) (gs : mG) (sh : Nat → Nat) (m N : Nat) (bd : Int64) (pv : Int32) (wl : Nat → Nat) (wc wd : Nat → Nat → Nat) (j : Nat) : Prop :=
  ∃ (qc qr qs qh cap : Nat) (wp wh wcap : Nat → Nat), XI h w hh gs sh m N bd pv wl wc wd qc qr qs qh cap wp wh wcap ∧ RM h cap wcap j
theorem wsum_up (f : Nat → Nat) {m : Nat} (x : Nat) (hm : m < 6) : wsum (va_up f m x) + f m = wsum f + x := by
  unfold wsum va_up
  rcases (show m = 0 ∨ m = 1 ∨ m = 2 ∨ m = 3 ∨ m = 4 ∨ m = 5 by omega) with rfl | rfl | rfl | rfl | rfl | rfl <;> simp <;> omega
theorem RM.q {h h' : mxH} {n qc qr qs qh cap qc' qr' qs' qh' cap' j : Nat} {wcap : Nat → Nat} (hR : RM h cap wcap j) (hn : n ≤ 66096) (hN : QN h h' n qc qr qs qh cap qc' qr' qs' qh' cap') : h'.2.1 ≤ 82 + 7 * j ∧ h'.2.2 ≤ 2000000 + 8 * cap' + 4 * wsum wcap + 5 * j ∧ cap' ≤ 132192 ∧ ∀ k, k < 6 → wcap k ≤ 4609 := by
  obtain ⟨a, b, c, d⟩ := hR
  rcases hN with ⟨-, e1, -, -, -, -, e⟩ | ⟨e0, e1, -, -, -, -, e2, e3⟩
  · rw [e, e1]; exact ⟨by omega, b, c, d⟩
  · exact ⟨by omega, by omega, by omega, d⟩
theorem RM.w {h h' : mxH} {n m pa ha pa' ha' cap cap' j : Nat} {wcap : Nat → Nat} (hR : h.2.1 ≤ 82 + 7 * j ∧ h.2.2 ≤ 2000000 + 8 * cap + 4 * wsum wcap + 5 * j ∧ cap ≤ 132192 ∧ ∀ k, k < 6 → wcap k ≤ 4609) (hm : m < 6) (hn : n ≤ 2304) (hN : WN h h' n pa ha (wcap m) pa' ha' cap') : RM h' cap (va_up wcap m cap') (j + 1) := by
  obtain ⟨a, b, c, d⟩ := hR
  have s := wsum_up wcap cap' hm
  have dm := d m hm
  refine ⟨?_, ?_, c, fun k hk => ?_⟩
  · rcases hN with ⟨-, e1, -, -, e⟩ | ⟨e0, e1, -, -, e2, e3⟩
    · rw [e]; omega
    · omega
  · rcases hN with ⟨-, e1, -, -, e⟩ | ⟨e0, e1, -, -, e2, e3⟩
    · rw [e]; omega
    · omega
  · by_cases z : k = m
    · rw [z, va_up_self]
      rcases hN with ⟨-, e1, -⟩ | ⟨e0, e1, -⟩ <;> omega
    · rw [va_up_ne _ _ z]; exact d k hk
theorem n_m2 {a : Nat} (ha : a < 2147483648) : (nI a = -2) = False := by
  refine eq_false fun q => ?_
  have : nI a < 0 := by rw [q]; decide
  exact nI_pos ha this
theorem m1_m2 : ((-1 : Int32) = -2) = False := eq_false (by decide)
theorem m2_lt : ((-2 : Int32) < 0) = True := eq_true (by decide)
theorem lm1_lt : ((-1 : Int64) < lN 0) = True := eq_true (by decide)
theorem laV_p {la : Option Nat} (hb : ∀ q, la = some q → kC q ≤ 100000 * 132157080) : (laV la < lN 0) = (la = none) := by
  cases la with
  | none => exact eq_true rfl ▸ (by simp [laV, lm1_lt])
  | some k =>
    have := hb k rfl
    have e : laV (some k) = lN (kC k) := rfl
    rw [e, l_lt (by omega) (by omega)]
    simp
theorem AW.rg {wp wh : Nat → Nat} {qc qr qs qh nx k : Nat} (a : AW wp wh qc qr qs qh nx) (hk : k < 6) : (40 ≤ wp k ∧ wp k < 58 ∨ 78 ≤ wp k) ∧ (40 ≤ wh k ∧ wh k < 58 ∨ 78 ≤ wh k) := by
  obtain ⟨c1, c2, -⟩ := a.2.2.2.1 k hk
  omega
theorem AW.f {wp wh : Nat → Nat} {qc qr qs qh nx k : Nat} (a : AW wp wh qc qr qs qh nx) (hk : k < 6) : 40 ≤ wp k ∧ 40 ≤ wh k ∧ (∀ j, j < 6 → wp k ≠ 40 + 3 * j ∧ wh k ≠ 40 + 3 * j) ∧ (∀ x, (x < 40 ∨ 58 ≤ x ∧ x < 78) → x ≠ wp k ∧ x ≠ wh k) ∧ wp k < nx ∧ wh k < nx := by
  obtain ⟨c1, c2, c3, c4, -⟩ := a.2.2.2.1 k hk
  exact ⟨by omega, by omega, fun j hj => by omega, fun x hx => by omega, c3, c4⟩
section SEK
variable {gs : mG} {w hh fr en mo : Nat} {sh : Nat → Nat} {m N : Nat} {bd : Int64} {pv : Int32} {wl : Nat → Nat} {wc wd : Nat → Nat → Nat}
/-- the class's state behind close and the two fields that it tells -/
theorem XI.closed {h h' : mxH} {qc qr qs qh cap qc' qr' qs' qh' cap' : Nat} {wp wh wcap : Nat → Nat} {n : Nat} {bd' : Int64} {pv' : Int32} {lc : Int64} {st ky : Nat → Nat} (hX : XI h w hh gs sh m N bd pv wl wc wd qc qr qs qh cap wp wh wcap) (hS : XS h' w hh gs fr en mo sh lc) (hD : XD h' qc' qr' qs' qh' cap' gs w hh fr mo st ky) (hN : QN h h' n qc qr qs qh cap qc' qr' qs' qh' cap') (hF : ∀ k, k < h.2.1 → k ≠ 16 → k ≠ 30 → k ≠ 31 → k ≠ 36 → k ≠ 37 → k ≠ qc → k ≠ qr → k ≠ qs → k ≠ qh → h'.1 k = h.1 k) (x16 : h'.1 16 = .inr (0, xob (nI m) (lN N) bd' pv')) : XI h' w hh gs sh m N bd' pv' wl wc wd qc' qr' qs' qh' cap' wp wh wcap := by
  obtain ⟨a1, a2, a3, a4, a5, ⟨f, a6, b6⟩, a7⟩ := hX
  have h78 := a4.2.2.1
  have nq : ∀ k, (36 ≤ k ∧ k < 78) → k ≠ qc ∧ k ≠ qr ∧ k ≠ qs ∧ k ≠ qh := fun k hk => a4.1.ne hk
  refine ⟨hS.sb, ⟨_, _, _, _, _, hS.2.2.1⟩, hD.q, a4.q hN, x16, ⟨f, ?_, b6⟩, fun k hk => (a7 k hk).kept (fun j hj => ?_)⟩
  · obtain ⟨n1, n2, n3, n4⟩ := nq 39 (by omega)
    rw [hF 39 (by omega) (by omega) (by omega) (by omega) (by omega) (by omega) n1 n2 n3 n4]; exact a6
  · obtain ⟨c1, c2, c3, c4, ⟨c5, c6, c7, c8⟩, ⟨c9, c10, c11, c12⟩⟩ := a4.2.2.2.1 k hk
    rcases hj with rfl | rfl | rfl
    · obtain ⟨n1, n2, n3, n4⟩ := nq (40 + 3 * k) (by omega)
      exact hF _ (by omega) (by omega) (by omega) (by omega) (by omega) (by omega) n1 n2 n3 n4
    · exact hF _ c3 (by omega) (by omega) (by omega) (by omega) (by omega) c5 c6 c7 c8
    · exact hF _ c4 (by omega) (by omega) (by omega) (by omega) (by omega) c9 c10 c11 c12
set_option maxHeartbeats 2000000 in
theorem c_X_seek {h : mxH} {j : Nat} {Q : Option Value → mxH → Prop} {o : Option Nat} {b : Bool} {laF : Option Nat} {stF kyF : Nat → Nat} (hB : GB gs) (hw : 0 < w) (hn : w * hh ≤ 144) (hmo : mo ≤ 8) (hfr : fr < w * hh) (hen : en < w * hh) (hbf : gs 2 fr = 0) (hbr : gs 2 en = 0) (hsh : ∀ c, sh c ≤ 1) (hN : N ≤ 100000) (hm : m ≤ 5) (hX : XE h w hh gs sh m N bd pv wl wc wd j)
    (hr : srch gs w hh fr mo sh N (st0 gs en) (ky0 gs en) none = ((o, b), laF, stF, kyF))
    (kN : o = none → ∀ h', XE h' w hh gs sh m N (bV laF) (pV o b) wl wc wd (j + 1) → XF h h' → Q (some (.int (if b = true then -2 else -1))) h')
    (kS : ∀ g, o = some g → ∀ h', XE h' w hh gs (shl sh (fun i => lC (wy gs w hh sh stF kyF g i)) fr en (kM (kyF g) + 1)) (m + 1) N (bV laF) (pV o b) (va_up wl m (kM (kyF g))) (va_up wc m (fun i => lC (wy gs w hh sh stF kyF g i))) (va_up wd m (fun i => lH (wy gs w hh sh stF kyF g i))) (j + 1) → XF h h' → Q (some (.int (nI (kM (kyF g))))) h') :
    mcl mx_P 21 [.ref 16, .int (nI fr), .int (nI en), .int (nI mo)] h Q := by
  obtain ⟨qc, qr, qs, qh, cap, wp, wh, wcap, hXI, hRM⟩ := hX
  obtain ⟨a1, ⟨fi, la, sm, hr', lc, a2⟩, a3, a4, a5, ⟨f, a6, b6⟩, a7⟩ := id hXI
  have h78 := a4.2.2.1
  have hbfr : brg gs fr = false := by unfold brg; simp [hbf]
  have hinv := srch_inv hB hn N 0 (st0 gs en) (ky0 gs en) none (SI.start (fr := fr) (mo := mo) (sh := sh) hen hbr) (by omega) (fun q hq => by cases hq) o b laF stF kyF hr
  have hbas := bas_le hB hmo (w * hh)
  have hbas2 : bas gs mo (w * hh) ≤ 66096 := by
    have : w * hh * 459 ≤ 144 * 459 := Nat.mul_le_mul_right _ hn
    omega
  rw [mcl]
  simp (disch := omega) only [mx_li, mx_ll, mx_la, mx_get, mx_s1, mx_s2, mx_tl, mx_nl, mx_ic, mx_op, mx_oc, mx_fd, mx_lg, mx_ls, mx_pd, mx_len, mx_isc, mx_ps, mx_ent, mx_rv, ↓reduceIte, List.length_cons, List.length_nil, Nat.reduceAdd, Nat.reduceLT, Nat.reduceEqDiff, Nat.reduceBEq, true_and, and_true, or_false, or_true, false_or, true_or, and_self, not_false_eq_true, not_true_eq_false, mob_g0, mob_g1, mob_g2, mob_g3, mob_g4, mob_g5, mob_g6, mob_g7, mob_g8, mob_g9, mob_g10, mob_g11, mob_g12, mob_g13, mob_g14, mob_g15, mob_g16, mob_g17, mob_g18, mob_g19, mob_g20, mob_g21, mob_g22, mob_g23, mob_g24, mob_g25, mob_g26, mob_g27, mob_g28, mob_g29, mob_g30, mob_g31, mob_g32, mob_s0, mob_s1, mob_s11, mob_s12, mob_s13, mob_s14, mob_s15, mob_s19, mob_s20, mob_s21, mob_s22, mob_s23, mob_s24, mob_s31, mob_len, xob_g0, xob_g1, xob_g2, xob_g3, xob_g4, xob_g5, xob_g6, xob_s3, xob_s4, xob_s5, xob_s6, xob_len, gob_g0, gob_g1, gob_g2, gob_g3, gob_g4, gob_g5, gob_g6, gob_g7, gob_g8, gob_g9, gob_g10, gob_g11, gob_g12, gob_g13, gob_g14, gob_g15, gob_g16, gob_g17, gob_s0, gob_s1, gob_s2, gob_s15, gob_s16, gob_s17, gob_len, sob_g0, sob_g1, sob_g2, sob_g3, sob_g4, sob_g5, sob_g6, sob_g7, sob_g8, sob_g9, sob_s5, sob_s6, sob_s7, sob_s8, sob_s9, sob_len, qob_g0, qob_g1, qob_g2, qob_g3, qob_g4, qob_g5, qob_s0, qob_s1, qob_s2, qob_s3, qob_s4, qob_s5, qob_len, wob_g0, wob_g1, wob_g2, wob_s0, wob_s1, wob_s2, wob_len, pob_g0, pob_g1, pob_g2, pob_g3, pob_g4, pob_s0, pob_s1, pob_s2, pob_s3, pob_s4, pob_len, n_lt, n_eq, n_lt0, n_0lt, n_eq0, n_cl, n_add, n_mul, n_l, n_eqm, n_ltm, n_mlt, n_m1, l_lt, l_eq, l_lt0, l_0lt, l_eq0, l_add, l_mul, l_i, g_lt, g_eq, g_gt, n_div, n_rem, l_div, l_mod, n01_0, n01_1, n_1e, n_0e1, ald_i, ald_o, ald_l, ald_z, ald_a, ast_i, ast_l, ast_z, ast_a, zI_t, zI_f, zI_ok, zI_eq0, r_X_seek_0, r_X_seek_1, r_X_seek_4, r_X_seek_5, r_X_seek_6, r_X_seek_7, r_X_seek_8, r_X_seek_11, a5, a2]
  refine c_S_close hB hn hmo hfr hen hbr hsh hN a4.1 h78 a1 a2 a3 hr (fun h1 qc' qr' qs' qh' cap' d1 d2 d3 d4 => ?_)
  have aw1 := a4.q d3
  have nq : ∀ k, (36 ≤ k ∧ k < 78) → k ≠ qc ∧ k ≠ qr ∧ k ≠ qs ∧ k ≠ qh := fun k hk => a4.1.ne hk
  have n16 : 16 ≠ qc ∧ 16 ≠ qr ∧ 16 ≠ qs ∧ 16 ≠ qh := by
    obtain ⟨⟨A1, A2, A3, A4⟩, -⟩ := a4
    unfold adq at A1 A2 A3 A4
    exact ⟨by omega, by omega, by omega, by omega⟩
  have x16 : h1.1 16 = .inr (0, xob (nI m) (lN N) bd pv) := (d4 16 (by omega) (by omega) (by omega) (by omega) (by omega) n16.1 n16.2.1 n16.2.2.1 n16.2.2.2).trans a5
  have x30 := d1.2.2.1
  -- the two fields
  have hres : ∀ (r : Int32), r = resX gs mo o b → ((r = -2) = (pV o b = nI 0)) := by
    intro r e
    subst e
    cases o with
    | some g =>
      have hG := hinv.2 g rfl
      have vg := (hG.2.1 g (by rw [hG.2.2.2.2.2.2.1]; omega)).1
      have := row_rc hB vg
      have e1 : resX gs mo (some g) b = nI (row gs mo g) := rfl
      have e2 : pV (some g) b = nI 1 := rfl
      rw [e1, e2, n_m2 (by omega)]
      exact (eq_false (by decide)).symm
    | none =>
      cases b with
      | true =>
        have e1 : resX gs mo none true = -2 := rfl
        have e2 : pV none true = nI 0 := rfl
        rw [e1, e2]; simp
      | false =>
        have e1 : resX gs mo none false = -1 := rfl
        have e2 : pV none false = nI 1 := rfl
        rw [e1, e2, m1_m2]
        exact (eq_false (by decide)).symm
  have pv01 : pV o b = nI 0 ∨ pV o b = nI 1 := by
    cases o with
    | some g => exact Or.inr rfl
    | none => cases b with
      | true => exact Or.inl rfl
      | false => exact Or.inr rfl
  have hlp := laV_p hinv.1
  -- behind the two fields
  have post : ∀ T, mw mx_P 21 65 (some (.ref 16) :: some (.int (nI fr)) :: some (.int (nI en)) :: some (.int (nI mo)) :: some (.int (resX gs mo o b)) :: T) [] (mx_up h1 16 (.inr (0, xob (nI m) (lN N) (bV laF) (pV o b)))) Q := by
    intro T
    have hk2 : ∀ k, k ≠ 16 → (mx_up h1 16 (.inr (0, xob (nI m) (lN N) (bV laF) (pV o b)))).1 k = h1.1 k := fun k k1 => up_n k1
    have e16 : (mx_up h1 16 (.inr (0, xob (nI m) (lN N) (bV laF) (pV o b)))).1 16 = .inr (0, xob (nI m) (lN N) (bV laF) (pV o b)) := up_e rfl
    have e2 : (mx_up h1 16 (.inr (0, xob (nI m) (lN N) (bV laF) (pV o b)))).2 = h1.2 := rfl
    generalize mx_up h1 16 (.inr (0, xob (nI m) (lN N) (bV laF) (pV o b))) = h2 at hk2 e16 e2
    have nq16 : 16 ≠ qc' ∧ 16 ≠ qr' ∧ 16 ≠ qs' ∧ 16 ≠ qh' := by
      obtain ⟨⟨A1, A2, A3, A4⟩, -⟩ := aw1
      unfold adq at A1 A2 A3 A4
      exact ⟨by omega, by omega, by omega, by omega⟩
    have hS2 : XS h2 w hh gs fr en mo sh (laV laF) := d1.kept (fun k hk => hk2 k (by omega))
    have hD2 : XD h2 qc' qr' qs' qh' cap' gs w hh fr mo stF kyF := d2.kept (fun k hk => hk2 k (by
      obtain ⟨z1, z2, z3, z4⟩ := nq16
      rcases hk with rfl | rfl | rfl | rfl | rfl
      · omega
      · exact Ne.symm z1
      · exact Ne.symm z2
      · exact Ne.symm z3
      · exact Ne.symm z4))
    have hN2 := d3.of2 e2
    have hF2 : ∀ k, k < h.2.1 → k ≠ 16 → k ≠ 30 → k ≠ 31 → k ≠ 36 → k ≠ 37 → k ≠ qc → k ≠ qr → k ≠ qs → k ≠ qh → h2.1 k = h.1 k := fun k k1 k2 k3 k4 k5 k6 k7 k8 k9 k10 => (hk2 k k2).trans (d4 k k1 k3 k4 k5 k6 k7 k8 k9 k10)
    have hX2 := hXI.closed hS2 hD2 hN2 hF2 e16
    have hXF : XF h h2 := fun k hk => by
      have : k ≠ qc ∧ k ≠ qr ∧ k ≠ qs ∧ k ≠ qh := by
        obtain ⟨⟨A1, A2, A3, A4⟩, -⟩ := a4
        unfold adq at A1 A2 A3 A4
        exact ⟨by omega, by omega, by omega, by omega⟩
      exact hF2 k (by omega) (by omega) (by omega) (by omega) (by omega) (by omega) this.1 this.2.1 this.2.2.1 this.2.2.2
    have hR2 := hRM.q hbas2 hN2
    rw [r_X_seek_65]
    cases ho : o with
    | none =>
      subst ho
      have er : resX gs mo none b = if b = true then -2 else -1 := rfl
      have el : (resX gs mo none b < 0) = True := by
        rw [er]
        cases b with
        | true => exact m2_lt
        | false => exact n_m1
      simp (disch := omega) only [mx_li, mx_ll, mx_la, mx_get, mx_s1, mx_s2, mx_tl, mx_nl, mx_ic, mx_op, mx_oc, mx_fd, mx_lg, mx_ls, mx_pd, mx_len, mx_isc, mx_ps, mx_ent, mx_rv, ↓reduceIte, List.length_cons, List.length_nil, Nat.reduceAdd, Nat.reduceLT, Nat.reduceEqDiff, Nat.reduceBEq, true_and, and_true, or_false, or_true, false_or, true_or, and_self, not_false_eq_true, not_true_eq_false, mob_g0, mob_g1, mob_g2, mob_g3, mob_g4, mob_g5, mob_g6, mob_g7, mob_g8, mob_g9, mob_g10, mob_g11, mob_g12, mob_g13, mob_g14, mob_g15, mob_g16, mob_g17, mob_g18, mob_g19, mob_g20, mob_g21, mob_g22, mob_g23, mob_g24, mob_g25, mob_g26, mob_g27, mob_g28, mob_g29, mob_g30, mob_g31, mob_g32, mob_s0, mob_s1, mob_s11, mob_s12, mob_s13, mob_s14, mob_s15, mob_s19, mob_s20, mob_s21, mob_s22, mob_s23, mob_s24, mob_s31, mob_len, xob_g0, xob_g1, xob_g2, xob_g3, xob_g4, xob_g5, xob_g6, xob_s3, xob_s4, xob_s5, xob_s6, xob_len, gob_g0, gob_g1, gob_g2, gob_g3, gob_g4, gob_g5, gob_g6, gob_g7, gob_g8, gob_g9, gob_g10, gob_g11, gob_g12, gob_g13, gob_g14, gob_g15, gob_g16, gob_g17, gob_s0, gob_s1, gob_s2, gob_s15, gob_s16, gob_s17, gob_len, sob_g0, sob_g1, sob_g2, sob_g3, sob_g4, sob_g5, sob_g6, sob_g7, sob_g8, sob_g9, sob_s5, sob_s6, sob_s7, sob_s8, sob_s9, sob_len, qob_g0, qob_g1, qob_g2, qob_g3, qob_g4, qob_g5, qob_s0, qob_s1, qob_s2, qob_s3, qob_s4, qob_s5, qob_len, wob_g0, wob_g1, wob_g2, wob_s0, wob_s1, wob_s2, wob_len, pob_g0, pob_g1, pob_g2, pob_g3, pob_g4, pob_s0, pob_s1, pob_s2, pob_s3, pob_s4, pob_len, n_lt, n_eq, n_lt0, n_0lt, n_eq0, n_cl, n_add, n_mul, n_l, n_eqm, n_ltm, n_mlt, n_m1, l_lt, l_eq, l_lt0, l_0lt, l_eq0, l_add, l_mul, l_i, g_lt, g_eq, g_gt, n_div, n_rem, l_div, l_mod, n01_0, n01_1, n_1e, n_0e1, ald_i, ald_o, ald_l, ald_z, ald_a, ast_i, ast_l, ast_z, ast_a, zI_t, zI_f, zI_ok, zI_eq0, r_X_seek_67, r_X_seek_79, r_X_seek_81, el]
      rw [er]
      refine kN rfl h2 ⟨qc', qr', qs', qh', cap', wp, wh, wcap, hX2, ?_⟩ hXF
      exact ⟨by omega, by omega, hR2.2.2.1, hR2.2.2.2⟩
    | some g =>
      subst ho
      have hG := hinv.2 g rfl
      have vg := (hG.2.1 g (by rw [hG.2.2.2.2.2.2.1]; omega)).1
      have hrg := row_rc hB vg
      have hlen := hG.short hB hw hn hbfr
      have er : resX gs mo (some g) b = nI (row gs mo g) := rfl
      have m6 : m < 6 := by omega
      obtain ⟨y1, y2, y3, y4, y5, ⟨f', y6, z6⟩, y7⟩ := id hX2
      have W := y7 m m6
      have q30 := hS2.2.2.1
      rw [er]
      simp (disch := omega) only [mx_li, mx_ll, mx_la, mx_get, mx_s1, mx_s2, mx_tl, mx_nl, mx_ic, mx_op, mx_oc, mx_fd, mx_lg, mx_ls, mx_pd, mx_len, mx_isc, mx_ps, mx_ent, mx_rv, ↓reduceIte, List.length_cons, List.length_nil, Nat.reduceAdd, Nat.reduceLT, Nat.reduceEqDiff, Nat.reduceBEq, true_and, and_true, or_false, or_true, false_or, true_or, and_self, not_false_eq_true, not_true_eq_false, mob_g0, mob_g1, mob_g2, mob_g3, mob_g4, mob_g5, mob_g6, mob_g7, mob_g8, mob_g9, mob_g10, mob_g11, mob_g12, mob_g13, mob_g14, mob_g15, mob_g16, mob_g17, mob_g18, mob_g19, mob_g20, mob_g21, mob_g22, mob_g23, mob_g24, mob_g25, mob_g26, mob_g27, mob_g28, mob_g29, mob_g30, mob_g31, mob_g32, mob_s0, mob_s1, mob_s11, mob_s12, mob_s13, mob_s14, mob_s15, mob_s19, mob_s20, mob_s21, mob_s22, mob_s23, mob_s24, mob_s31, mob_len, xob_g0, xob_g1, xob_g2, xob_g3, xob_g4, xob_g5, xob_g6, xob_s3, xob_s4, xob_s5, xob_s6, xob_len, gob_g0, gob_g1, gob_g2, gob_g3, gob_g4, gob_g5, gob_g6, gob_g7, gob_g8, gob_g9, gob_g10, gob_g11, gob_g12, gob_g13, gob_g14, gob_g15, gob_g16, gob_g17, gob_s0, gob_s1, gob_s2, gob_s15, gob_s16, gob_s17, gob_len, sob_g0, sob_g1, sob_g2, sob_g3, sob_g4, sob_g5, sob_g6, sob_g7, sob_g8, sob_g9, sob_s5, sob_s6, sob_s7, sob_s8, sob_s9, sob_len, qob_g0, qob_g1, qob_g2, qob_g3, qob_g4, qob_g5, qob_s0, qob_s1, qob_s2, qob_s3, qob_s4, qob_s5, qob_len, wob_g0, wob_g1, wob_g2, wob_s0, wob_s1, wob_s2, wob_len, pob_g0, pob_g1, pob_g2, pob_g3, pob_g4, pob_s0, pob_s1, pob_s2, pob_s3, pob_s4, pob_len, n_lt, n_eq, n_lt0, n_0lt, n_eq0, n_cl, n_add, n_mul, n_l, n_eqm, n_ltm, n_mlt, n_m1, l_lt, l_eq, l_lt0, l_0lt, l_eq0, l_add, l_mul, l_i, g_lt, g_eq, g_gt, n_div, n_rem, l_div, l_mod, n01_0, n01_1, n_1e, n_0e1, ald_i, ald_o, ald_l, ald_z, ald_a, ast_i, ast_l, ast_z, ast_a, zI_t, zI_f, zI_ok, zI_eq0, r_X_seek_67, r_X_seek_70, r_X_seek_71, r_X_seek_74, r_X_seek_76, r_X_seek_79, r_X_seek_81, r_X_seek_82, r_X_seek_83, r_X_seek_86, r_X_seek_87, r_X_seek_90, r_X_seek_91, r_X_seek_91n, r_X_seek_93, r_X_seek_94, r_X_seek_97, r_X_seek_99, r_X_seek_101, e16, m6, y6, z6 m m6, q30, mx_s1_0]
      obtain ⟨W1, ⟨g2, W2, W2'⟩, ⟨g3, W3, W3'⟩, W4, W5⟩ := id W
      obtain ⟨-, -, -, -, c5, c6⟩ := y4.2.2.2.1 m m6
      obtain ⟨F1, F2, F3, F4, F5, F6⟩ := y4.f m6
      have c7 := (y4.2.2.2.2 m m m6 m6).1
      have h783 := y4.2.2.1
      refine c_S_trace hB hw hn hmo hsh hG hbfr y4.1 h783 y4.2.1 W1 W2 W3 ⟨by omega, W5⟩ ⟨by omega, by omega⟩ ⟨c7, (y4.rg m6).1, (y4.rg m6).2, ⟨(F3 m m6).1, c5⟩, ⟨(F3 m m6).2, c6⟩⟩ ⟨F5, F6⟩ hS2 hD2 (fun h3 pa' ha' wcap' v1 v2 v3 => ?_)
      have aw3 := y4.w m6 v1
      have pah : 40 ≤ pa' ∧ 40 ≤ ha' := by
        rcases v1 with ⟨-, -, rfl, rfl, -⟩ | ⟨-, -, rfl, rfl, -⟩
        · exact ⟨F1, F2⟩
        · exact ⟨by omega, by omega⟩
      have fx : ∀ k, (k < 40 ∨ 58 ≤ k ∧ k < 78) → h3.1 k = h2.1 k := fun k hk => v3 k (by omega) (by omega) (F4 k hk).1 (F4 k hk).2
      have w16 : h3.1 16 = _ := (fx 16 (by omega)).trans e16
      have w30 : h3.1 30 = _ := (fx 30 (by omega)).trans q30
      have hS3 := y1.kept (h' := h3) (fun k hk => fx k (by omega))
      simp (disch := omega) only [mx_li, mx_ll, mx_la, mx_get, mx_s1, mx_s2, mx_tl, mx_nl, mx_ic, mx_op, mx_oc, mx_fd, mx_lg, mx_ls, mx_pd, mx_len, mx_isc, mx_ps, mx_ent, mx_rv, ↓reduceIte, List.length_cons, List.length_nil, Nat.reduceAdd, Nat.reduceLT, Nat.reduceEqDiff, Nat.reduceBEq, true_and, and_true, or_false, or_true, false_or, true_or, and_self, not_false_eq_true, not_true_eq_false, mob_g0, mob_g1, mob_g2, mob_g3, mob_g4, mob_g5, mob_g6, mob_g7, mob_g8, mob_g9, mob_g10, mob_g11, mob_g12, mob_g13, mob_g14, mob_g15, mob_g16, mob_g17, mob_g18, mob_g19, mob_g20, mob_g21, mob_g22, mob_g23, mob_g24, mob_g25, mob_g26, mob_g27, mob_g28, mob_g29, mob_g30, mob_g31, mob_g32, mob_s0, mob_s1, mob_s11, mob_s12, mob_s13, mob_s14, mob_s15, mob_s19, mob_s20, mob_s21, mob_s22, mob_s23, mob_s24, mob_s31, mob_len, xob_g0, xob_g1, xob_g2, xob_g3, xob_g4, xob_g5, xob_g6, xob_s3, xob_s4, xob_s5, xob_s6, xob_len, gob_g0, gob_g1, gob_g2, gob_g3, gob_g4, gob_g5, gob_g6, gob_g7, gob_g8, gob_g9, gob_g10, gob_g11, gob_g12, gob_g13, gob_g14, gob_g15, gob_g16, gob_g17, gob_s0, gob_s1, gob_s2, gob_s15, gob_s16, gob_s17, gob_len, sob_g0, sob_g1, sob_g2, sob_g3, sob_g4, sob_g5, sob_g6, sob_g7, sob_g8, sob_g9, sob_s5, sob_s6, sob_s7, sob_s8, sob_s9, sob_len, qob_g0, qob_g1, qob_g2, qob_g3, qob_g4, qob_g5, qob_s0, qob_s1, qob_s2, qob_s3, qob_s4, qob_s5, qob_len, wob_g0, wob_g1, wob_g2, wob_s0, wob_s1, wob_s2, wob_len, pob_g0, pob_g1, pob_g2, pob_g3, pob_g4, pob_s0, pob_s1, pob_s2, pob_s3, pob_s4, pob_len, n_lt, n_eq, n_lt0, n_0lt, n_eq0, n_cl, n_add, n_mul, n_l, n_eqm, n_ltm, n_mlt, n_m1, l_lt, l_eq, l_lt0, l_0lt, l_eq0, l_add, l_mul, l_i, g_lt, g_eq, g_gt, n_div, n_rem, l_div, l_mod, n01_0, n01_1, n_1e, n_0e1, ald_i, ald_o, ald_l, ald_z, ald_a, ast_i, ast_l, ast_z, ast_a, zI_t, zI_f, zI_ok, zI_eq0, r_X_seek_104, r_X_seek_105, r_X_seek_108, r_X_seek_110, w16, w30]
      have w0 : lC (wy gs w hh sh stF kyF g 0) = fr := vg.2.2.1 hG.2.2.2.2.2.2.2
      have wn : lC (wy gs w hh sh stF kyF g (kM (kyF g))) = en := hG.end hB hw
      refine c_S_share hn hS3 v2 ⟨by omega, by omega, by omega⟩ w30 (fun i hi => (hG.2.1 _ (by rw [(hG.way hB hw i hi).1]; omega)).1.1) (fun h4 s1 s2 s3 => ?_)
      rw [w0, wn] at s1
      have w16' : h4.1 16 = _ := (s2 16 (by omega)).trans w16
      have wa' := (s2 (40 + 3 * m) (by omega)).trans v2.1
      have hx1 : ¬ (40 + 3 * m = 16) := by omega
      simp (disch := omega) only [mx_li, mx_ll, mx_la, mx_get, mx_s1, mx_s2, mx_tl, mx_nl, mx_ic, mx_op, mx_oc, mx_fd, mx_lg, mx_ls, mx_pd, mx_len, mx_isc, mx_ps, mx_ent, mx_rv, ↓reduceIte, List.length_cons, List.length_nil, Nat.reduceAdd, Nat.reduceLT, Nat.reduceEqDiff, Nat.reduceBEq, true_and, and_true, or_false, or_true, false_or, true_or, and_self, not_false_eq_true, not_true_eq_false, mob_g0, mob_g1, mob_g2, mob_g3, mob_g4, mob_g5, mob_g6, mob_g7, mob_g8, mob_g9, mob_g10, mob_g11, mob_g12, mob_g13, mob_g14, mob_g15, mob_g16, mob_g17, mob_g18, mob_g19, mob_g20, mob_g21, mob_g22, mob_g23, mob_g24, mob_g25, mob_g26, mob_g27, mob_g28, mob_g29, mob_g30, mob_g31, mob_g32, mob_s0, mob_s1, mob_s11, mob_s12, mob_s13, mob_s14, mob_s15, mob_s19, mob_s20, mob_s21, mob_s22, mob_s23, mob_s24, mob_s31, mob_len, xob_g0, xob_g1, xob_g2, xob_g3, xob_g4, xob_g5, xob_g6, xob_s3, xob_s4, xob_s5, xob_s6, xob_len, gob_g0, gob_g1, gob_g2, gob_g3, gob_g4, gob_g5, gob_g6, gob_g7, gob_g8, gob_g9, gob_g10, gob_g11, gob_g12, gob_g13, gob_g14, gob_g15, gob_g16, gob_g17, gob_s0, gob_s1, gob_s2, gob_s15, gob_s16, gob_s17, gob_len, sob_g0, sob_g1, sob_g2, sob_g3, sob_g4, sob_g5, sob_g6, sob_g7, sob_g8, sob_g9, sob_s5, sob_s6, sob_s7, sob_s8, sob_s9, sob_len, qob_g0, qob_g1, qob_g2, qob_g3, qob_g4, qob_g5, qob_s0, qob_s1, qob_s2, qob_s3, qob_s4, qob_s5, qob_len, wob_g0, wob_g1, wob_g2, wob_s0, wob_s1, wob_s2, wob_len, pob_g0, pob_g1, pob_g2, pob_g3, pob_g4, pob_s0, pob_s1, pob_s2, pob_s3, pob_s4, pob_len, n_lt, n_eq, n_lt0, n_0lt, n_eq0, n_cl, n_add, n_mul, n_l, n_eqm, n_ltm, n_mlt, n_m1, l_lt, l_eq, l_lt0, l_0lt, l_eq0, l_add, l_mul, l_i, g_lt, g_eq, g_gt, n_div, n_rem, l_div, l_mod, n01_0, n01_1, n_1e, n_0e1, ald_i, ald_o, ald_l, ald_z, ald_a, ast_i, ast_l, ast_z, ast_a, zI_t, zI_f, zI_ok, zI_eq0, r_X_seek_113, r_X_seek_114, r_X_seek_115, r_X_seek_118, r_X_seek_119, r_X_seek_120, r_X_seek_123, r_X_seek_125, r_X_seek_128, w16', wa', up_1, hx1]
      have hk5 : ∀ k, k ≠ 16 → (mx_up h4 16 (.inr (0, xob (nI (m + 1)) (lN N) (bV laF) (pV (some g) b)))).1 k = h4.1 k := fun k k1 => up_n k1
      have e165 : (mx_up h4 16 (.inr (0, xob (nI (m + 1)) (lN N) (bV laF) (pV (some g) b)))).1 16 = .inr (0, xob (nI (m + 1)) (lN N) (bV laF) (pV (some g) b)) := up_e rfl
      have e25 : (mx_up h4 16 (.inr (0, xob (nI (m + 1)) (lN N) (bV laF) (pV (some g) b)))).2 = h3.2 := s3
      generalize mx_up h4 16 (.inr (0, xob (nI (m + 1)) (lN N) (bV laF) (pV (some g) b))) = h5 at hk5 e165 e25
      have k5 : ∀ k, k ≠ 16 → k ≠ 38 → h5.1 k = h3.1 k := fun k k1 k2 => (hk5 k k1).trans (s2 k k2)
      refine kS g rfl h5 ⟨qc', qr', qs', qh', cap', va_up wp m pa', va_up wh m ha', va_up wcap m wcap', ⟨s1.kept (fun k hk => hk5 k (by omega)), ⟨_, _, _, _, _, (k5 30 (by omega) (by omega)).trans w30⟩, ?_, by rw [e25]; exact aw3, e165, ⟨f', ?_, z6⟩, fun k hk => ?_⟩, ?_⟩ (fun k hk => ?_)
      · refine y3.kept (fun k hk => ?_)
        have kne : k ≠ 16 ∧ k ≠ 38 ∧ k ≠ 40 + 3 * m ∧ k < h2.2.1 := by
          obtain ⟨z1, z2, z3, z4⟩ := nq16
          obtain ⟨u1, u2, u3, u4⟩ := y4.1.ne (a := 38) (by omega)
          obtain ⟨t1, t2, t3, t4⟩ := y4.1.ne (a := 40 + 3 * m) (by omega)
          obtain ⟨r1, r2, r3, r4⟩ := y4.2.1
          rcases hk with rfl | rfl | rfl | rfl | rfl
          · omega
          · exact ⟨Ne.symm z1, Ne.symm u1, Ne.symm t1, r1⟩
          · exact ⟨Ne.symm z2, Ne.symm u2, Ne.symm t2, r2⟩
          · exact ⟨Ne.symm z3, Ne.symm u3, Ne.symm t3, r3⟩
          · exact ⟨Ne.symm z4, Ne.symm u4, Ne.symm t4, r4⟩
        rw [k5 k kne.1 kne.2.1]
        exact v3 k kne.2.2.2 kne.2.2.1 ((sepW (y4.rg m6).1 c5).1 k hk) ((sepW (y4.rg m6).2 c6).1 k hk)
      · rw [k5 39 (by omega) (by omega), fx 39 (by omega)]; exact y6
      · have adr : ∀ x, (x = 40 + 3 * k ∨ 40 ≤ x) → h5.1 x = h3.1 x := fun x hx => k5 x (by omega) (by omega)
        by_cases z : k = m
        · subst z
          rw [va_up_self, va_up_self, va_up_self, va_up_self, va_up_self, va_up_self]
          refine v2.kept (fun x hx => adr x ?_)
          rcases hx with rfl | rfl | rfl
          · exact Or.inl rfl
          · exact Or.inr pah.1
          · exact Or.inr pah.2
        · rw [va_up_ne _ _ z, va_up_ne _ _ z, va_up_ne _ _ z, va_up_ne _ _ z, va_up_ne _ _ z, va_up_ne _ _ z]
          obtain ⟨k1, k2, k5', k5'', k3, k4⟩ := y4.f hk
          obtain ⟨k6, k7⟩ := y4.2.2.2.2 k m hk m6
          obtain ⟨k8, -⟩ := y4.2.2.2.2 m k m6 hk
          obtain ⟨k9, k10⟩ := k7 z
          refine (y7 k hk).kept (fun x hx => ?_)
          rcases hx with rfl | rfl | rfl
          · rw [adr _ (Or.inl rfl)]
            exact v3 _ (by omega) (by omega) (Ne.symm (F3 k hk).1) (Ne.symm (F3 k hk).2)
          · rw [adr _ (Or.inr k1)]
            exact v3 _ k3 (k5' m m6).1 k9 k6
          · rw [adr _ (Or.inr k2)]
            exact v3 _ k4 (k5' m m6).2 (Ne.symm k8) k10
      · have := RM.w (cap := cap') (h := h2) (h' := h3) (pa := wp m) (ha := wh m) hR2 m6 hlen v1
        unfold RM at this ⊢
        rw [e25]
        exact this
      · rw [k5 k (by omega) (by omega), fx k (by omega)]
        exact hXF k hk
  cases hla : laF with
  | none =>
    rw [hla] at hlp x30 post
    have lt := hlp.trans (eq_true rfl)
    have ev : bV none = -1 := rfl
    by_cases p0 : pV o b = nI 0
    · have e2 := hres _ rfl
      rw [p0] at post e2
      rw [eq_true (rfl : nI 0 = nI 0)] at e2
      simp (disch := omega) only [mx_li, mx_ll, mx_la, mx_get, mx_s1, mx_s2, mx_tl, mx_nl, mx_ic, mx_op, mx_oc, mx_fd, mx_lg, mx_ls, mx_pd, mx_len, mx_isc, mx_ps, mx_ent, mx_rv, ↓reduceIte, List.length_cons, List.length_nil, Nat.reduceAdd, Nat.reduceLT, Nat.reduceEqDiff, Nat.reduceBEq, true_and, and_true, or_false, or_true, false_or, true_or, and_self, not_false_eq_true, not_true_eq_false, mob_g0, mob_g1, mob_g2, mob_g3, mob_g4, mob_g5, mob_g6, mob_g7, mob_g8, mob_g9, mob_g10, mob_g11, mob_g12, mob_g13, mob_g14, mob_g15, mob_g16, mob_g17, mob_g18, mob_g19, mob_g20, mob_g21, mob_g22, mob_g23, mob_g24, mob_g25, mob_g26, mob_g27, mob_g28, mob_g29, mob_g30, mob_g31, mob_g32, mob_s0, mob_s1, mob_s11, mob_s12, mob_s13, mob_s14, mob_s15, mob_s19, mob_s20, mob_s21, mob_s22, mob_s23, mob_s24, mob_s31, mob_len, xob_g0, xob_g1, xob_g2, xob_g3, xob_g4, xob_g5, xob_g6, xob_s3, xob_s4, xob_s5, xob_s6, xob_len, gob_g0, gob_g1, gob_g2, gob_g3, gob_g4, gob_g5, gob_g6, gob_g7, gob_g8, gob_g9, gob_g10, gob_g11, gob_g12, gob_g13, gob_g14, gob_g15, gob_g16, gob_g17, gob_s0, gob_s1, gob_s2, gob_s15, gob_s16, gob_s17, gob_len, sob_g0, sob_g1, sob_g2, sob_g3, sob_g4, sob_g5, sob_g6, sob_g7, sob_g8, sob_g9, sob_s5, sob_s6, sob_s7, sob_s8, sob_s9, sob_len, qob_g0, qob_g1, qob_g2, qob_g3, qob_g4, qob_g5, qob_s0, qob_s1, qob_s2, qob_s3, qob_s4, qob_s5, qob_len, wob_g0, wob_g1, wob_g2, wob_s0, wob_s1, wob_s2, wob_len, pob_g0, pob_g1, pob_g2, pob_g3, pob_g4, pob_s0, pob_s1, pob_s2, pob_s3, pob_s4, pob_len, n_lt, n_eq, n_lt0, n_0lt, n_eq0, n_cl, n_add, n_mul, n_l, n_eqm, n_ltm, n_mlt, n_m1, l_lt, l_eq, l_lt0, l_0lt, l_eq0, l_add, l_mul, l_i, g_lt, g_eq, g_gt, n_div, n_rem, l_div, l_mod, n01_0, n01_1, n_1e, n_0e1, ald_i, ald_o, ald_l, ald_z, ald_a, ast_i, ast_l, ast_z, ast_a, zI_t, zI_f, zI_ok, zI_eq0, r_X_seek_14, r_X_seek_16, r_X_seek_17, r_X_seek_18, r_X_seek_21, r_X_seek_24, r_X_seek_25, r_X_seek_26, r_X_seek_29, r_X_seek_32, r_X_seek_35, r_X_seek_36, r_X_seek_39, r_X_seek_42, r_X_seek_45, r_X_seek_46, r_X_seek_49, r_X_seek_50, r_X_seek_52, r_X_seek_54, r_X_seek_57, r_X_seek_58, r_X_seek_61, r_X_seek_62, x16, x30, lt, e2, up_1, up_up, mx_s1_0]
      exact post _
    · have p1 := pv01.resolve_left p0
      have e2 := hres _ rfl
      rw [p1] at post e2
      rw [show (nI 1 = nI 0) = False from eq_false (by decide)] at e2
      simp (disch := omega) only [mx_li, mx_ll, mx_la, mx_get, mx_s1, mx_s2, mx_tl, mx_nl, mx_ic, mx_op, mx_oc, mx_fd, mx_lg, mx_ls, mx_pd, mx_len, mx_isc, mx_ps, mx_ent, mx_rv, ↓reduceIte, List.length_cons, List.length_nil, Nat.reduceAdd, Nat.reduceLT, Nat.reduceEqDiff, Nat.reduceBEq, true_and, and_true, or_false, or_true, false_or, true_or, and_self, not_false_eq_true, not_true_eq_false, mob_g0, mob_g1, mob_g2, mob_g3, mob_g4, mob_g5, mob_g6, mob_g7, mob_g8, mob_g9, mob_g10, mob_g11, mob_g12, mob_g13, mob_g14, mob_g15, mob_g16, mob_g17, mob_g18, mob_g19, mob_g20, mob_g21, mob_g22, mob_g23, mob_g24, mob_g25, mob_g26, mob_g27, mob_g28, mob_g29, mob_g30, mob_g31, mob_g32, mob_s0, mob_s1, mob_s11, mob_s12, mob_s13, mob_s14, mob_s15, mob_s19, mob_s20, mob_s21, mob_s22, mob_s23, mob_s24, mob_s31, mob_len, xob_g0, xob_g1, xob_g2, xob_g3, xob_g4, xob_g5, xob_g6, xob_s3, xob_s4, xob_s5, xob_s6, xob_len, gob_g0, gob_g1, gob_g2, gob_g3, gob_g4, gob_g5, gob_g6, gob_g7, gob_g8, gob_g9, gob_g10, gob_g11, gob_g12, gob_g13, gob_g14, gob_g15, gob_g16, gob_g17, gob_s0, gob_s1, gob_s2, gob_s15, gob_s16, gob_s17, gob_len, sob_g0, sob_g1, sob_g2, sob_g3, sob_g4, sob_g5, sob_g6, sob_g7, sob_g8, sob_g9, sob_s5, sob_s6, sob_s7, sob_s8, sob_s9, sob_len, qob_g0, qob_g1, qob_g2, qob_g3, qob_g4, qob_g5, qob_s0, qob_s1, qob_s2, qob_s3, qob_s4, qob_s5, qob_len, wob_g0, wob_g1, wob_g2, wob_s0, wob_s1, wob_s2, wob_len, pob_g0, pob_g1, pob_g2, pob_g3, pob_g4, pob_s0, pob_s1, pob_s2, pob_s3, pob_s4, pob_len, n_lt, n_eq, n_lt0, n_0lt, n_eq0, n_cl, n_add, n_mul, n_l, n_eqm, n_ltm, n_mlt, n_m1, l_lt, l_eq, l_lt0, l_0lt, l_eq0, l_add, l_mul, l_i, g_lt, g_eq, g_gt, n_div, n_rem, l_div, l_mod, n01_0, n01_1, n_1e, n_0e1, ald_i, ald_o, ald_l, ald_z, ald_a, ast_i, ast_l, ast_z, ast_a, zI_t, zI_f, zI_ok, zI_eq0, r_X_seek_14, r_X_seek_16, r_X_seek_17, r_X_seek_18, r_X_seek_21, r_X_seek_24, r_X_seek_25, r_X_seek_26, r_X_seek_29, r_X_seek_32, r_X_seek_35, r_X_seek_36, r_X_seek_39, r_X_seek_42, r_X_seek_45, r_X_seek_46, r_X_seek_49, r_X_seek_50, r_X_seek_52, r_X_seek_54, r_X_seek_57, r_X_seek_58, r_X_seek_61, r_X_seek_62, x16, x30, lt, e2, up_1, up_up, mx_s1_0]
      exact post _
  | some k =>
    have kb := hinv.1 k hla
    rw [hla] at hlp x30 post
    have lt := hlp.trans (eq_false (by simp))
    have elv : laV (some k) = lN (kC k) := rfl
    have ebv : bV (some k) = lN (kC k / 60) := rfl
    rw [elv] at lt x30
    rw [ebv] at post
    by_cases p0 : pV o b = nI 0
    · have e2 := hres _ rfl
      rw [p0] at post e2
      rw [eq_true (rfl : nI 0 = nI 0)] at e2
      simp (disch := omega) only [mx_li, mx_ll, mx_la, mx_get, mx_s1, mx_s2, mx_tl, mx_nl, mx_ic, mx_op, mx_oc, mx_fd, mx_lg, mx_ls, mx_pd, mx_len, mx_isc, mx_ps, mx_ent, mx_rv, ↓reduceIte, List.length_cons, List.length_nil, Nat.reduceAdd, Nat.reduceLT, Nat.reduceEqDiff, Nat.reduceBEq, true_and, and_true, or_false, or_true, false_or, true_or, and_self, not_false_eq_true, not_true_eq_false, mob_g0, mob_g1, mob_g2, mob_g3, mob_g4, mob_g5, mob_g6, mob_g7, mob_g8, mob_g9, mob_g10, mob_g11, mob_g12, mob_g13, mob_g14, mob_g15, mob_g16, mob_g17, mob_g18, mob_g19, mob_g20, mob_g21, mob_g22, mob_g23, mob_g24, mob_g25, mob_g26, mob_g27, mob_g28, mob_g29, mob_g30, mob_g31, mob_g32, mob_s0, mob_s1, mob_s11, mob_s12, mob_s13, mob_s14, mob_s15, mob_s19, mob_s20, mob_s21, mob_s22, mob_s23, mob_s24, mob_s31, mob_len, xob_g0, xob_g1, xob_g2, xob_g3, xob_g4, xob_g5, xob_g6, xob_s3, xob_s4, xob_s5, xob_s6, xob_len, gob_g0, gob_g1, gob_g2, gob_g3, gob_g4, gob_g5, gob_g6, gob_g7, gob_g8, gob_g9, gob_g10, gob_g11, gob_g12, gob_g13, gob_g14, gob_g15, gob_g16, gob_g17, gob_s0, gob_s1, gob_s2, gob_s15, gob_s16, gob_s17, gob_len, sob_g0, sob_g1, sob_g2, sob_g3, sob_g4, sob_g5, sob_g6, sob_g7, sob_g8, sob_g9, sob_s5, sob_s6, sob_s7, sob_s8, sob_s9, sob_len, qob_g0, qob_g1, qob_g2, qob_g3, qob_g4, qob_g5, qob_s0, qob_s1, qob_s2, qob_s3, qob_s4, qob_s5, qob_len, wob_g0, wob_g1, wob_g2, wob_s0, wob_s1, wob_s2, wob_len, pob_g0, pob_g1, pob_g2, pob_g3, pob_g4, pob_s0, pob_s1, pob_s2, pob_s3, pob_s4, pob_len, n_lt, n_eq, n_lt0, n_0lt, n_eq0, n_cl, n_add, n_mul, n_l, n_eqm, n_ltm, n_mlt, n_m1, l_lt, l_eq, l_lt0, l_0lt, l_eq0, l_add, l_mul, l_i, g_lt, g_eq, g_gt, n_div, n_rem, l_div, l_mod, n01_0, n01_1, n_1e, n_0e1, ald_i, ald_o, ald_l, ald_z, ald_a, ast_i, ast_l, ast_z, ast_a, zI_t, zI_f, zI_ok, zI_eq0, r_X_seek_14, r_X_seek_16, r_X_seek_17, r_X_seek_18, r_X_seek_21, r_X_seek_24, r_X_seek_25, r_X_seek_26, r_X_seek_29, r_X_seek_32, r_X_seek_35, r_X_seek_36, r_X_seek_39, r_X_seek_42, r_X_seek_45, r_X_seek_46, r_X_seek_49, r_X_seek_50, r_X_seek_52, r_X_seek_54, r_X_seek_57, r_X_seek_58, r_X_seek_61, r_X_seek_62, x16, x30, e2, up_1, up_up, mx_s1_0]
      exact post _
    · have p1 := pv01.resolve_left p0
      have e2 := hres _ rfl
      rw [p1] at post e2
      rw [show (nI 1 = nI 0) = False from eq_false (by decide)] at e2
      simp (disch := omega) only [mx_li, mx_ll, mx_la, mx_get, mx_s1, mx_s2, mx_tl, mx_nl, mx_ic, mx_op, mx_oc, mx_fd, mx_lg, mx_ls, mx_pd, mx_len, mx_isc, mx_ps, mx_ent, mx_rv, ↓reduceIte, List.length_cons, List.length_nil, Nat.reduceAdd, Nat.reduceLT, Nat.reduceEqDiff, Nat.reduceBEq, true_and, and_true, or_false, or_true, false_or, true_or, and_self, not_false_eq_true, not_true_eq_false, mob_g0, mob_g1, mob_g2, mob_g3, mob_g4, mob_g5, mob_g6, mob_g7, mob_g8, mob_g9, mob_g10, mob_g11, mob_g12, mob_g13, mob_g14, mob_g15, mob_g16, mob_g17, mob_g18, mob_g19, mob_g20, mob_g21, mob_g22, mob_g23, mob_g24, mob_g25, mob_g26, mob_g27, mob_g28, mob_g29, mob_g30, mob_g31, mob_g32, mob_s0, mob_s1, mob_s11, mob_s12, mob_s13, mob_s14, mob_s15, mob_s19, mob_s20, mob_s21, mob_s22, mob_s23, mob_s24, mob_s31, mob_len, xob_g0, xob_g1, xob_g2, xob_g3, xob_g4, xob_g5, xob_g6, xob_s3, xob_s4, xob_s5, xob_s6, xob_len, gob_g0, gob_g1, gob_g2, gob_g3, gob_g4, gob_g5, gob_g6, gob_g7, gob_g8, gob_g9, gob_g10, gob_g11, gob_g12, gob_g13, gob_g14, gob_g15, gob_g16, gob_g17, gob_s0, gob_s1, gob_s2, gob_s15, gob_s16, gob_s17, gob_len, sob_g0, sob_g1, sob_g2, sob_g3, sob_g4, sob_g5, sob_g6, sob_g7, sob_g8, sob_g9, sob_s5, sob_s6, sob_s7, sob_s8, sob_s9, sob_len, qob_g0, qob_g1, qob_g2, qob_g3, qob_g4, qob_g5, qob_s0, qob_s1, qob_s2, qob_s3, qob_s4, qob_s5, qob_len, wob_g0, wob_g1, wob_g2, wob_s0, wob_s1, wob_s2, wob_len, pob_g0, pob_g1, pob_g2, pob_g3, pob_g4, pob_s0, pob_s1, pob_s2, pob_s3, pob_s4, pob_len, n_lt, n_eq, n_lt0, n_0lt, n_eq0, n_cl, n_add, n_mul, n_l, n_eqm, n_ltm, n_mlt, n_m1, l_lt, l_eq, l_lt0, l_0lt, l_eq0, l_add, l_mul, l_i, g_lt, g_eq, g_gt, n_div, n_rem, l_div, l_mod, n01_0, n01_1, n_1e, n_0e1, ald_i, ald_o, ald_l, ald_z, ald_a, ast_i, ast_l, ast_z, ast_a, zI_t, zI_f, zI_ok, zI_eq0, r_X_seek_14, r_X_seek_16, r_X_seek_17, r_X_seek_18, r_X_seek_21, r_X_seek_24, r_X_seek_25, r_X_seek_26, r_X_seek_29, r_X_seek_32, r_X_seek_35, r_X_seek_36, r_X_seek_39, r_X_seek_42, r_X_seek_45, r_X_seek_46, r_X_seek_49, r_X_seek_50, r_X_seek_52, r_X_seek_54, r_X_seek_57, r_X_seek_58, r_X_seek_61, r_X_seek_62, x16, x30, e2, up_1, up_up, mx_s1_0]
      exact post _
end SEK
