/-! THE LAW: what a step of both objects gives -/
theorem XSt.kept {h h' : mxH} {j : Nat} {s : stT} (hX : XSt h j s) (hF : M2 h h') : XSt h' j s := by
  obtain ⟨w, hh, gs, sh, m, N, bd, pv, fr, en, wl, wc, wd⟩ := s
  obtain ⟨qc, qr, qs, qh, cap, wp, wh, wcap, a, b⟩ := hX
  refine ⟨qc, qr, qs, qh, cap, wp, wh, wcap, a.kept hF, ?_⟩
  unfold RM at *
  rw [hF.2]
  exact b
theorem MSt.kept {h h' : mxH} {s : stT} (hM : MSt h s) (hF : XF h h') : MSt h' s := by
  obtain ⟨w, hh, gs, sh, m, N, bd, pv, fr, en, wl, wc, wd⟩ := s
  exact ME.kept hM hF
theorem STEP.goI {mX mM : Nat} {args : List Value} {h : mxH} {s : stT} {j : Nat} {K : Option Value → mxH → Prop} (hst : ∃ r : Int32, STEP mX mM args h s j (.int r)) (hM : MSt h s)
    (kk : ∀ (r : Int32) (h1 : mxH), XF h h1 → MSt h1 s → True → (∀ K' : Option Value → mxH → Prop, (∀ h2 s', OKS s' → XSt h2 (j + 1) s' → MSt h2 s' → h2.1 0 = h1.1 0 → K' (some (.int r)) h2) → mcl mx_P mM (.ref 58 :: args) h1 K') → K (some (.int r)) h1) : mcl mx_P mX (.ref 16 :: args) h K := by
  obtain ⟨r, s', ok, eX, eM⟩ := hst
  exact eX K (fun h1 X1 F1 => kk r h1 F1 (hM.kept F1) trivial (fun K' kk' => eM h1 K' (hM.kept F1) (fun h2 M2' F2 => kk' h2 s' ok (X1.kept F2) M2' (F2.1 0 (by omega)))))
theorem STEP.goL {mX mM : Nat} {args : List Value} {h : mxH} {s : stT} {j : Nat} {K : Option Value → mxH → Prop} (hst : ∃ r : Int64, STEP mX mM args h s j (.long r)) (hM : MSt h s)
    (kk : ∀ (r : Int64) (h1 : mxH), XF h h1 → MSt h1 s → True → (∀ K' : Option Value → mxH → Prop, (∀ h2 s', OKS s' → XSt h2 (j + 1) s' → MSt h2 s' → h2.1 0 = h1.1 0 → K' (some (.long r)) h2) → mcl mx_P mM (.ref 58 :: args) h1 K') → K (some (.long r)) h1) : mcl mx_P mX (.ref 16 :: args) h K := by
  obtain ⟨r, s', ok, eX, eM⟩ := hst
  exact eX K (fun h1 X1 F1 => kk r h1 F1 (hM.kept F1) trivial (fun K' kk' => eM h1 K' (hM.kept F1) (fun h2 M2' F2 => kk' h2 s' ok (X1.kept F2) M2' (F2.1 0 (by omega)))))
theorem i32_n (x : Int32) : ∃ k, x = nI k := ⟨x.toBitVec.toNat, by
  unfold nI
  apply Int32.toBitVec_inj.mp
  simp⟩
theorem and31 (x : Int32) : ∃ n, n < 32 ∧ x &&& nI 31 = nI n := by
  obtain ⟨k, rfl⟩ := i32_n x
  refine ⟨k &&& 31, ?_, nx_and k 31⟩
  have := @Nat.and_le_right k 31
  omega
theorem tt18 {n : Nat} (hn : n < 32) : mx_tt 0 [140, 193, 226, 269, 352, 455, 550, 583, 607, 621, 634, 727, 771, 854, 907, 950, 974, 987] 1000 (nI n) = [140, 193, 226, 269, 352, 455, 550, 583, 607, 621, 634, 727, 771, 854, 907, 950, 974, 987].getD n 1000 := by
  unfold mx_tt
  rw [nI_toInt (by omega), if_neg (by omega)]
  rfl
