/-! THE CLASS's SEARCH: openHeadings -/
theorem hz_and {d A : Nat} (hd : d < 16) (hA : A < 18) : (nI d + iZ ((A : Int) - 8)) &&& nI 15 = nI ((d + A + 8) % 16) := by
  have : ∀ d : Fin 16, ∀ A : Fin 18, (nI d.val + iZ ((A.val : Int) - 8)) &&& nI 15 = nI ((d.val + A.val + 8) % 16) := by decide +kernel
  exact this ⟨d, hd⟩ ⟨A, hA⟩
theorem hz_0 {A : Nat} (hA : A < 18) : (iZ ((A : Int) - 8) = 0) = (A = 8) := by
  have : ∀ A : Fin 18, (iZ ((A.val : Int) - 8) = 0) ↔ (A.val = 8) := by decide +kernel
  exact propext (this ⟨A, hA⟩)
theorem hz_lt {t A : Nat} (ht : t < 8) (hA : A < 18) : (nI t < iZ ((A : Int) - 8)) = (t + 8 < A) := by
  have : ∀ t : Fin 8, ∀ A : Fin 18, (nI t.val < iZ ((A.val : Int) - 8)) ↔ (t.val + 8 < A.val) := by decide +kernel
  exact propext (this ⟨t, ht⟩ ⟨A, hA⟩)
theorem hz_add (A q : Nat) : iZ ((A : Int) - 8) + nI q = iZ (((A + q : Nat) : Int) - 8) := by
  rw [← iZ_nat]
  unfold iZ
  rw [← Int32.ofInt_add]
  congr 1
  omega
theorem hz_low {t q : Nat} (ht : t < 8) (hq : q = 1 ∨ q = 2) : -(nI t - nI (t % q)) = iZ (((8 - (t - t % q) : Nat) : Int) - 8) := by
  rcases hq with rfl | rfl
  · have : ∀ t : Fin 8, -(nI t.val - nI (t.val % 1)) = iZ (((8 - (t.val - t.val % 1) : Nat) : Int) - 8) := by decide +kernel
    exact this ⟨t, ht⟩
  · have : ∀ t : Fin 8, -(nI t.val - nI (t.val % 2)) = iZ (((8 - (t.val - t.val % 2) : Nat) : Int) - 8) := by decide +kernel
    exact this ⟨t, ht⟩
theorem hz_m8 : (-8 : Int32) = iZ (((0 : Nat) : Int) - 8) := by decide
theorem dif_A {b d : Nat} (hb : b < 16) (hd : d < 16) : dif b d = if (b + 24 - d) % 16 < 8 then 8 - (b + 24 - d) % 16 else (b + 24 - d) % 16 - 8 := by
  have : ∀ b : Fin 16, ∀ d : Fin 16, dif b.val d.val = if (b.val + 24 - d.val) % 16 < 8 then 8 - (b.val + 24 - d.val) % 16 else (b.val + 24 - d.val) % 16 - 8 := by decide +kernel
  exact this ⟨b, hb⟩ ⟨d, hd⟩
def PA (r d A : Nat) (p : Nat) : Prop := lR p < r ∨ lR p = r ∧ (lH p = 16 ∨ lH p = d ∨ (lH p < 16 ∧ (lH p + 24 - d) % 16 < A))
section OPH
variable {qc qr qs qh cap : Nat} {gs : mG} {w hh fr en mo : Nat} {sh st ky : Nat → Nat} {lc : Int64} {K : Option Value → mxH → Prop} {l c r s : Nat}
set_option maxHeartbeats 4000000 in
theorem l_S_openH {h0 : mxH} {Q : Nat} (hB : GB gs) (hn : w * hh ≤ 144) (hmo : mo ≤ 8) (hst : ∀ p, st p ≤ 2) (hkT : kT (ky l) < 200000) (hkM : kM (ky l) < 200000) (hkC : kC (ky l) < 20000000000000) (hA : adqs qc qr qs qh) (vl : vld gs w hh fr mo l) (hH : HB gs w hh mo sh l c r s) (hb1 : brg gs (lC l) = false) (hb2 : brg gs c = false) (hQ : Q = if gs 9 0 = 1 then 2 else 1) {low : Int32}
    (kk : ∀ (h' : mxH), XD h' qc qr qs qh cap gs w hh fr mo (aps (rsF (fun p => lR p < r + 1) (ofs gs w hh fr mo sh ky l)) st) (apk (rsF (fun p => lR p < r + 1) (ofs gs w hh fr mo sh ky l)) st ky) → QG h0 h' qc qr qs qh → K none h') :
    ∀ (d A : Nat) (h : mxH) (T : mxL), 18 - A ≤ d → A < 18 → 8 - gs 9 2 ≤ A → (gs 9 0 = 1 → A % 2 = 0) → XS h w hh gs fr en mo sh lc → QG h0 h qc qr qs qh →
      XD h qc qr qs qh cap gs w hh fr mo (aps (rsF (PA r (lH l) A) (ofs gs w hh fr mo sh ky l)) st) (apk (rsF (PA r (lH l) A) (ofs gs w hh fr mo sh ky l)) st ky) →
      mw mx_P 48 246 (some (.ref 30) :: some (.int (nI (row gs mo l))) :: some (.int (nI c)) :: some (.int (nI r)) :: some (.int (nI s)) :: some (.int (nI l)) :: some (.int (nI (lC l))) :: some (.int (nI (lH l))) :: some (.long (lN (kC (ky l) + len (lH l) * unt gs (lC l)))) :: none :: some (.long (lN (ky l % 68719476736 + 1))) :: none :: some (.int (nI (row gs mo (lab c 0 r s)))) :: some (.int (nI (lab c 0 r s))) :: some (.long (lN (ky l % 68719476736 + 1 + 262144))) :: none :: some (.int (nI Q)) :: some (.int low) :: some (.int (nI (if gs 9 2 = 8 then 7 else gs 9 2))) :: some (.int (iZ ((A : Int) - 8))) :: T) [] h K := by
  have b92 := hB.2.2.2.2.2.2.2.2.2.2.2
  have b9 := hB.2.2.2.2.2.2.2.2.2.1
  have hd16 := hH.2.2.2.2.2.2.2.2
  obtain ⟨r3, s8, hc⟩ := hH.b hB hmo
  have hdl := vl.2.2.2.1 (by omega)
  have hev : gs 9 0 = 1 → lH l % 2 = 0 := by
    intro q
    unfold hdg at hdl
    rw [Bool.or_eq_true, decide_eq_true_eq, decide_eq_true_eq] at hdl
    omega
  generalize hhi : (if gs 9 2 = 8 then 7 else gs 9 2) = hi
  have hi8 : hi < 8 := by rw [← hhi]; split <;> omega
  have hit : hi ≤ gs 9 2 ∧ (gs 9 2 ≤ hi ∨ hi = 7) := by rw [← hhi]; split <;> omega
  have hQ2 : (gs 9 0 = 1 ∧ Q = 2) ∨ (gs 9 0 = 2 ∧ Q = 1) := by
    rcases b9 with q | q
    · left; rw [hQ, if_pos q]; exact ⟨q, rfl⟩
    · right; rw [hQ, if_neg (by omega)]; exact ⟨q, rfl⟩
  -- labels before l in this layer
  have prep : ∀ p, pre gs w hh fr mo sh l p → lR p = r → lH p = 16 ∨ lH p = lH l ∨ (lH p < 16 ∧ (gs 9 0 = 1 → (lH p + 24 - lH l) % 16 % 2 = 0) ∧ 8 - gs 9 2 ≤ (lH p + 24 - lH l) % 16 ∧ (lH p + 24 - lH l) % 16 ≤ 8 + gs 9 2) := by
    intro p hp _
    rcases hp.2.2.2.2.2.2.2.2.1 with z | z
    · obtain ⟨z1, z2, z3⟩ := z
      unfold fol at z3
      rw [Bool.or_eq_true, Bool.or_eq_true, decide_eq_true_eq, decide_eq_true_eq, Bool.and_eq_true, decide_eq_true_eq] at z3
      rcases z3 with (z3 | z3) | z3
      · exact Or.inl z3
      · exact Or.inr (Or.inl z3)
      · have q := z3.2
        rw [dif_A z1 hd16] at q
        refine Or.inr (Or.inr ⟨z1, fun e => ?_, ?_, ?_⟩)
        · unfold hdg at z2
          rw [Bool.or_eq_true, decide_eq_true_eq, decide_eq_true_eq] at z2
          have := hev e
          omega
        · split at q <;> omega
        · split at q <;> omega
    · exact Or.inl z.1
  intro d
  induction d with
  | zero => intro A h T h1 h2; omega
  | succ d ih =>
    intro A h T h1 h2 h3 h4 hS hG hD
    obtain ⟨a1, a2, a3, ⟨f4, a4, b4⟩, ⟨f5, a5, b5⟩, ⟨f6, a6, b6⟩⟩ := id hS
    obtain ⟨C0, R0, S0, H0, ct0, hQ0, -⟩ := id hD
    have q31 := hQ0.1
    rw [r_S_openHeadings_246]
    by_cases ex : hi + 8 < A
    · simp (disch := omega) only [mx_li, mx_ll, mx_la, mx_get, mx_s1, mx_s2, mx_tl, mx_nl, mx_ic, mx_op, mx_oc, mx_fd, mx_lg, mx_ls, mx_pd, mx_len, mx_isc, mx_ps, mx_ent, mx_rv, ↓reduceIte, List.length_cons, List.length_nil, Nat.reduceAdd, Nat.reduceLT, Nat.reduceEqDiff, Nat.reduceBEq, true_and, and_true, or_false, or_true, false_or, true_or, and_self, not_false_eq_true, not_true_eq_false, mob_g0, mob_g1, mob_g2, mob_g3, mob_g4, mob_g5, mob_g6, mob_g7, mob_g8, mob_g9, mob_g10, mob_g11, mob_g12, mob_g13, mob_g14, mob_g15, mob_g16, mob_g17, mob_g18, mob_g19, mob_g20, mob_g21, mob_g22, mob_g23, mob_g24, mob_g25, mob_g26, mob_g27, mob_g28, mob_g29, mob_g30, mob_g31, mob_g32, mob_s0, mob_s1, mob_s11, mob_s12, mob_s13, mob_s14, mob_s15, mob_s19, mob_s20, mob_s21, mob_s22, mob_s23, mob_s24, mob_s31, mob_len, xob_g0, xob_g1, xob_g2, xob_g3, xob_g4, xob_g5, xob_g6, xob_s3, xob_s4, xob_s5, xob_s6, xob_len, gob_g0, gob_g1, gob_g2, gob_g3, gob_g4, gob_g5, gob_g6, gob_g7, gob_g8, gob_g9, gob_g10, gob_g11, gob_g12, gob_g13, gob_g14, gob_g15, gob_g16, gob_g17, gob_s0, gob_s1, gob_s2, gob_s15, gob_s16, gob_s17, gob_len, sob_g0, sob_g1, sob_g2, sob_g3, sob_g4, sob_g5, sob_g6, sob_g7, sob_g8, sob_g9, sob_s5, sob_s6, sob_s7, sob_s8, sob_s9, sob_len, qob_g0, qob_g1, qob_g2, qob_g3, qob_g4, qob_g5, qob_s0, qob_s1, qob_s2, qob_s3, qob_s4, qob_s5, qob_len, wob_g0, wob_g1, wob_g2, wob_s0, wob_s1, wob_s2, wob_len, pob_g0, pob_g1, pob_g2, pob_g3, pob_g4, pob_s0, pob_s1, pob_s2, pob_s3, pob_s4, pob_len, n_lt, n_eq, n_lt0, n_0lt, n_eq0, n_cl, n_add, n_mul, n_l, n_eqm, n_ltm, n_mlt, n_m1, l_lt, l_eq, l_lt0, l_0lt, l_eq0, l_add, l_mul, l_i, g_lt, g_eq, g_gt, n_div, n_rem, l_div, l_mod, n01_0, n01_1, n_1e, n_0e1, ald_i, ald_o, ald_l, ald_z, ald_a, ast_i, ast_l, ast_z, ast_a, zI_t, zI_f, zI_ok, zI_eq0, r_S_openHeadings_0, r_S_openHeadings_1, r_S_openHeadings_4, r_S_openHeadings_5, r_S_openHeadings_8, r_S_openHeadings_10, r_S_openHeadings_12, r_S_openHeadings_15, r_S_openHeadings_16, r_S_openHeadings_18, r_S_openHeadings_20, r_S_openHeadings_23, r_S_openHeadings_25, r_S_openHeadings_26, r_S_openHeadings_29, r_S_openHeadings_32, r_S_openHeadings_33, r_S_openHeadings_34, r_S_openHeadings_37, r_S_openHeadings_39, r_S_openHeadings_40, r_S_openHeadings_41, r_S_openHeadings_42, r_S_openHeadings_45, r_S_openHeadings_47, r_S_openHeadings_48, r_S_openHeadings_49, r_S_openHeadings_50, r_S_openHeadings_52, r_S_openHeadings_53, r_S_openHeadings_56, r_S_openHeadings_57, r_S_openHeadings_60, r_S_openHeadings_61, r_S_openHeadings_62, r_S_openHeadings_64, r_S_openHeadings_65, r_S_openHeadings_66, r_S_openHeadings_67, r_S_openHeadings_68, r_S_openHeadings_70, r_S_openHeadings_73, r_S_openHeadings_75, r_S_openHeadings_76, r_S_openHeadings_77, r_S_openHeadings_78, r_S_openHeadings_80, r_S_openHeadings_83, r_S_openHeadings_85, r_S_openHeadings_86, r_S_openHeadings_87, r_S_openHeadings_90, r_S_openHeadings_93, r_S_openHeadings_94, r_S_openHeadings_97, r_S_openHeadings_99, r_S_openHeadings_101, r_S_openHeadings_102, r_S_openHeadings_105, r_S_openHeadings_106, r_S_openHeadings_107, r_S_openHeadings_109, r_S_openHeadings_111, r_S_openHeadings_113, r_S_openHeadings_116, r_S_openHeadings_117, r_S_openHeadings_120, r_S_openHeadings_121, r_S_openHeadings_124, r_S_openHeadings_126, r_S_openHeadings_128, r_S_openHeadings_129, r_S_openHeadings_132, r_S_openHeadings_133, r_S_openHeadings_134, r_S_openHeadings_136, r_S_openHeadings_138, r_S_openHeadings_140, r_S_openHeadings_142, r_S_openHeadings_144, r_S_openHeadings_145, r_S_openHeadings_146, r_S_openHeadings_149, r_S_openHeadings_150, r_S_openHeadings_153, r_S_openHeadings_155, r_S_openHeadings_158, r_S_openHeadings_161, r_S_openHeadings_162, r_S_openHeadings_165, r_S_openHeadings_166, r_S_openHeadings_169, r_S_openHeadings_172, r_S_openHeadings_173, r_S_openHeadings_175, r_S_openHeadings_178, r_S_openHeadings_179, r_S_openHeadings_181, r_S_openHeadings_182, r_S_openHeadings_185, r_S_openHeadings_188, r_S_openHeadings_190, r_S_openHeadings_191, r_S_openHeadings_194, r_S_openHeadings_197, r_S_openHeadings_199, r_S_openHeadings_202, r_S_openHeadings_204, r_S_openHeadings_207, r_S_openHeadings_208, r_S_openHeadings_211, r_S_openHeadings_214, r_S_openHeadings_215, r_S_openHeadings_218, r_S_openHeadings_221, r_S_openHeadings_223, r_S_openHeadings_224, r_S_openHeadings_225, r_S_openHeadings_226, r_S_openHeadings_228, r_S_openHeadings_229, r_S_openHeadings_232, r_S_openHeadings_235, r_S_openHeadings_237, r_S_openHeadings_240, r_S_openHeadings_242, r_S_openHeadings_244, r_S_openHeadings_248, r_S_openHeadings_250, r_S_openHeadings_253, r_S_openHeadings_255, r_S_openHeadings_257, r_S_openHeadings_258, r_S_openHeadings_260, r_S_openHeadings_261, r_S_openHeadings_263, r_S_openHeadings_265, r_S_openHeadings_268, r_S_openHeadings_269, r_S_openHeadings_272, r_S_openHeadings_274, r_S_openHeadings_276, r_S_openHeadings_277, r_S_openHeadings_280, r_S_openHeadings_281, r_S_openHeadings_282, r_S_openHeadings_284, r_S_openHeadings_286, r_S_openHeadings_288, r_S_openHeadings_290, r_S_openHeadings_292, r_S_openHeadings_293, r_S_openHeadings_294, r_S_openHeadings_297, r_S_openHeadings_299, r_S_openHeadings_301, r_S_openHeadings_302, r_S_openHeadings_304, r_S_openHeadings_307, hz_lt, ex]
      have e : rsF (PA r (lH l) A) (ofs gs w hh fr mo sh ky l) = rsF (fun p => lR p < r + 1) (ofs gs w hh fr mo sh ky l) := by
        refine rsF_cong (fun p k hk => ?_)
        have hp : pre gs w hh fr mo sh l p := Classical.byContradiction fun q => by rw [ofs_0 q] at hk; cases hk
        have := prep p hp
        unfold PA
        constructor
        · rintro (q | q)
          · omega
          · omega
        · intro q
          by_cases z : lR p = r
          · right
            refine ⟨z, ?_⟩
            rcases this z with y | y | y
            · exact Or.inl y
            · exact Or.inr (Or.inl y)
            · exact Or.inr (Or.inr ⟨y.1, by omega⟩)
          · left; omega
      rw [e] at hD
      exact kk h hD hG
    · by_cases e8 : A = 8
      · simp (disch := omega) only [mx_li, mx_ll, mx_la, mx_get, mx_s1, mx_s2, mx_tl, mx_nl, mx_ic, mx_op, mx_oc, mx_fd, mx_lg, mx_ls, mx_pd, mx_len, mx_isc, mx_ps, mx_ent, mx_rv, ↓reduceIte, List.length_cons, List.length_nil, Nat.reduceAdd, Nat.reduceLT, Nat.reduceEqDiff, Nat.reduceBEq, true_and, and_true, or_false, or_true, false_or, true_or, and_self, not_false_eq_true, not_true_eq_false, mob_g0, mob_g1, mob_g2, mob_g3, mob_g4, mob_g5, mob_g6, mob_g7, mob_g8, mob_g9, mob_g10, mob_g11, mob_g12, mob_g13, mob_g14, mob_g15, mob_g16, mob_g17, mob_g18, mob_g19, mob_g20, mob_g21, mob_g22, mob_g23, mob_g24, mob_g25, mob_g26, mob_g27, mob_g28, mob_g29, mob_g30, mob_g31, mob_g32, mob_s0, mob_s1, mob_s11, mob_s12, mob_s13, mob_s14, mob_s15, mob_s19, mob_s20, mob_s21, mob_s22, mob_s23, mob_s24, mob_s31, mob_len, xob_g0, xob_g1, xob_g2, xob_g3, xob_g4, xob_g5, xob_g6, xob_s3, xob_s4, xob_s5, xob_s6, xob_len, gob_g0, gob_g1, gob_g2, gob_g3, gob_g4, gob_g5, gob_g6, gob_g7, gob_g8, gob_g9, gob_g10, gob_g11, gob_g12, gob_g13, gob_g14, gob_g15, gob_g16, gob_g17, gob_s0, gob_s1, gob_s2, gob_s15, gob_s16, gob_s17, gob_len, sob_g0, sob_g1, sob_g2, sob_g3, sob_g4, sob_g5, sob_g6, sob_g7, sob_g8, sob_g9, sob_s5, sob_s6, sob_s7, sob_s8, sob_s9, sob_len, qob_g0, qob_g1, qob_g2, qob_g3, qob_g4, qob_g5, qob_s0, qob_s1, qob_s2, qob_s3, qob_s4, qob_s5, qob_len, wob_g0, wob_g1, wob_g2, wob_s0, wob_s1, wob_s2, wob_len, pob_g0, pob_g1, pob_g2, pob_g3, pob_g4, pob_s0, pob_s1, pob_s2, pob_s3, pob_s4, pob_len, n_lt, n_eq, n_lt0, n_0lt, n_eq0, n_cl, n_add, n_mul, n_l, n_eqm, n_ltm, n_mlt, n_m1, l_lt, l_eq, l_lt0, l_0lt, l_eq0, l_add, l_mul, l_i, g_lt, g_eq, g_gt, n_div, n_rem, l_div, l_mod, n01_0, n01_1, n_1e, n_0e1, ald_i, ald_o, ald_l, ald_z, ald_a, ast_i, ast_l, ast_z, ast_a, zI_t, zI_f, zI_ok, zI_eq0, r_S_openHeadings_0, r_S_openHeadings_1, r_S_openHeadings_4, r_S_openHeadings_5, r_S_openHeadings_8, r_S_openHeadings_10, r_S_openHeadings_12, r_S_openHeadings_15, r_S_openHeadings_16, r_S_openHeadings_18, r_S_openHeadings_20, r_S_openHeadings_23, r_S_openHeadings_25, r_S_openHeadings_26, r_S_openHeadings_29, r_S_openHeadings_32, r_S_openHeadings_33, r_S_openHeadings_34, r_S_openHeadings_37, r_S_openHeadings_39, r_S_openHeadings_40, r_S_openHeadings_41, r_S_openHeadings_42, r_S_openHeadings_45, r_S_openHeadings_47, r_S_openHeadings_48, r_S_openHeadings_49, r_S_openHeadings_50, r_S_openHeadings_52, r_S_openHeadings_53, r_S_openHeadings_56, r_S_openHeadings_57, r_S_openHeadings_60, r_S_openHeadings_61, r_S_openHeadings_62, r_S_openHeadings_64, r_S_openHeadings_65, r_S_openHeadings_66, r_S_openHeadings_67, r_S_openHeadings_68, r_S_openHeadings_70, r_S_openHeadings_73, r_S_openHeadings_75, r_S_openHeadings_76, r_S_openHeadings_77, r_S_openHeadings_78, r_S_openHeadings_80, r_S_openHeadings_83, r_S_openHeadings_85, r_S_openHeadings_86, r_S_openHeadings_87, r_S_openHeadings_90, r_S_openHeadings_93, r_S_openHeadings_94, r_S_openHeadings_97, r_S_openHeadings_99, r_S_openHeadings_101, r_S_openHeadings_102, r_S_openHeadings_105, r_S_openHeadings_106, r_S_openHeadings_107, r_S_openHeadings_109, r_S_openHeadings_111, r_S_openHeadings_113, r_S_openHeadings_116, r_S_openHeadings_117, r_S_openHeadings_120, r_S_openHeadings_121, r_S_openHeadings_124, r_S_openHeadings_126, r_S_openHeadings_128, r_S_openHeadings_129, r_S_openHeadings_132, r_S_openHeadings_133, r_S_openHeadings_134, r_S_openHeadings_136, r_S_openHeadings_138, r_S_openHeadings_140, r_S_openHeadings_142, r_S_openHeadings_144, r_S_openHeadings_145, r_S_openHeadings_146, r_S_openHeadings_149, r_S_openHeadings_150, r_S_openHeadings_153, r_S_openHeadings_155, r_S_openHeadings_158, r_S_openHeadings_161, r_S_openHeadings_162, r_S_openHeadings_165, r_S_openHeadings_166, r_S_openHeadings_169, r_S_openHeadings_172, r_S_openHeadings_173, r_S_openHeadings_175, r_S_openHeadings_178, r_S_openHeadings_179, r_S_openHeadings_181, r_S_openHeadings_182, r_S_openHeadings_185, r_S_openHeadings_188, r_S_openHeadings_190, r_S_openHeadings_191, r_S_openHeadings_194, r_S_openHeadings_197, r_S_openHeadings_199, r_S_openHeadings_202, r_S_openHeadings_204, r_S_openHeadings_207, r_S_openHeadings_208, r_S_openHeadings_211, r_S_openHeadings_214, r_S_openHeadings_215, r_S_openHeadings_218, r_S_openHeadings_221, r_S_openHeadings_223, r_S_openHeadings_224, r_S_openHeadings_225, r_S_openHeadings_226, r_S_openHeadings_228, r_S_openHeadings_229, r_S_openHeadings_232, r_S_openHeadings_235, r_S_openHeadings_237, r_S_openHeadings_240, r_S_openHeadings_242, r_S_openHeadings_244, r_S_openHeadings_248, r_S_openHeadings_250, r_S_openHeadings_253, r_S_openHeadings_255, r_S_openHeadings_257, r_S_openHeadings_258, r_S_openHeadings_260, r_S_openHeadings_261, r_S_openHeadings_263, r_S_openHeadings_265, r_S_openHeadings_268, r_S_openHeadings_269, r_S_openHeadings_272, r_S_openHeadings_274, r_S_openHeadings_276, r_S_openHeadings_277, r_S_openHeadings_280, r_S_openHeadings_281, r_S_openHeadings_282, r_S_openHeadings_284, r_S_openHeadings_286, r_S_openHeadings_288, r_S_openHeadings_290, r_S_openHeadings_292, r_S_openHeadings_293, r_S_openHeadings_294, r_S_openHeadings_297, r_S_openHeadings_299, r_S_openHeadings_301, r_S_openHeadings_302, r_S_openHeadings_304, r_S_openHeadings_307, hz_lt, hz_0, hz_and, hz_add, ex, e8, mx_s1_0]
        rw [e8] at hD h3
        have e : rsF (PA r (lH l) 8) (ofs gs w hh fr mo sh ky l) = rsF (PA r (lH l) (8 + Q)) (ofs gs w hh fr mo sh ky l) := by
          refine rsF_cong (fun p k hk => ?_)
          have hp : pre gs w hh fr mo sh l p := Classical.byContradiction fun q => by rw [ofs_0 q] at hk; cases hk
          have := prep p hp
          unfold PA
          constructor
          · rintro (q | q)
            · exact Or.inl q
            · exact Or.inr ⟨q.1, by omega⟩
          · rintro (q | q)
            · exact Or.inl q
            · refine Or.inr ⟨q.1, ?_⟩
              rcases this q.1 with y | y | y
              · omega
              · omega
              · omega
        rw [e] at hD
        refine ih (8 + Q) h _ (by omega) (by omega) (by omega) (fun q => by omega) hS hG hD
      · have hbb : (lH l + A + 8) % 16 < 16 := Nat.mod_lt _ (by omega)
        generalize hb : (lH l + A + 8) % 16 = b at hbb
        have hAb : (b + 24 - lH l) % 16 = A := by omega
        have hbl : b ≠ lH l := by omega
        have hf : fol gs b (lH l) c (lC l) = true := by
          unfold fol
          rw [hb1, hb2]
          have : dif b (lH l) ≤ gs 9 2 := by
            rw [dif_A hbb hd16, hAb]
            split <;> omega
          simp [this]
        have hdb : hdg gs b = true := by
          unfold hdg
          rw [Bool.or_eq_true, decide_eq_true_eq, decide_eq_true_eq]
          rcases b9 with q | q
          · right
            have := h4 q
            have := hev q
            omega
          · exact Or.inl q
        simp (disch := omega) only [mx_li, mx_ll, mx_la, mx_get, mx_s1, mx_s2, mx_tl, mx_nl, mx_ic, mx_op, mx_oc, mx_fd, mx_lg, mx_ls, mx_pd, mx_len, mx_isc, mx_ps, mx_ent, mx_rv, ↓reduceIte, List.length_cons, List.length_nil, Nat.reduceAdd, Nat.reduceLT, Nat.reduceEqDiff, Nat.reduceBEq, true_and, and_true, or_false, or_true, false_or, true_or, and_self, not_false_eq_true, not_true_eq_false, mob_g0, mob_g1, mob_g2, mob_g3, mob_g4, mob_g5, mob_g6, mob_g7, mob_g8, mob_g9, mob_g10, mob_g11, mob_g12, mob_g13, mob_g14, mob_g15, mob_g16, mob_g17, mob_g18, mob_g19, mob_g20, mob_g21, mob_g22, mob_g23, mob_g24, mob_g25, mob_g26, mob_g27, mob_g28, mob_g29, mob_g30, mob_g31, mob_g32, mob_s0, mob_s1, mob_s11, mob_s12, mob_s13, mob_s14, mob_s15, mob_s19, mob_s20, mob_s21, mob_s22, mob_s23, mob_s24, mob_s31, mob_len, xob_g0, xob_g1, xob_g2, xob_g3, xob_g4, xob_g5, xob_g6, xob_s3, xob_s4, xob_s5, xob_s6, xob_len, gob_g0, gob_g1, gob_g2, gob_g3, gob_g4, gob_g5, gob_g6, gob_g7, gob_g8, gob_g9, gob_g10, gob_g11, gob_g12, gob_g13, gob_g14, gob_g15, gob_g16, gob_g17, gob_s0, gob_s1, gob_s2, gob_s15, gob_s16, gob_s17, gob_len, sob_g0, sob_g1, sob_g2, sob_g3, sob_g4, sob_g5, sob_g6, sob_g7, sob_g8, sob_g9, sob_s5, sob_s6, sob_s7, sob_s8, sob_s9, sob_len, qob_g0, qob_g1, qob_g2, qob_g3, qob_g4, qob_g5, qob_s0, qob_s1, qob_s2, qob_s3, qob_s4, qob_s5, qob_len, wob_g0, wob_g1, wob_g2, wob_s0, wob_s1, wob_s2, wob_len, pob_g0, pob_g1, pob_g2, pob_g3, pob_g4, pob_s0, pob_s1, pob_s2, pob_s3, pob_s4, pob_len, n_lt, n_eq, n_lt0, n_0lt, n_eq0, n_cl, n_add, n_mul, n_l, n_eqm, n_ltm, n_mlt, n_m1, l_lt, l_eq, l_lt0, l_0lt, l_eq0, l_add, l_mul, l_i, g_lt, g_eq, g_gt, n_div, n_rem, l_div, l_mod, n01_0, n01_1, n_1e, n_0e1, ald_i, ald_o, ald_l, ald_z, ald_a, ast_i, ast_l, ast_z, ast_a, zI_t, zI_f, zI_ok, zI_eq0, r_S_openHeadings_0, r_S_openHeadings_1, r_S_openHeadings_4, r_S_openHeadings_5, r_S_openHeadings_8, r_S_openHeadings_10, r_S_openHeadings_12, r_S_openHeadings_15, r_S_openHeadings_16, r_S_openHeadings_18, r_S_openHeadings_20, r_S_openHeadings_23, r_S_openHeadings_25, r_S_openHeadings_26, r_S_openHeadings_29, r_S_openHeadings_32, r_S_openHeadings_33, r_S_openHeadings_34, r_S_openHeadings_37, r_S_openHeadings_39, r_S_openHeadings_40, r_S_openHeadings_41, r_S_openHeadings_42, r_S_openHeadings_45, r_S_openHeadings_47, r_S_openHeadings_48, r_S_openHeadings_49, r_S_openHeadings_50, r_S_openHeadings_52, r_S_openHeadings_53, r_S_openHeadings_56, r_S_openHeadings_57, r_S_openHeadings_60, r_S_openHeadings_61, r_S_openHeadings_62, r_S_openHeadings_64, r_S_openHeadings_65, r_S_openHeadings_66, r_S_openHeadings_67, r_S_openHeadings_68, r_S_openHeadings_70, r_S_openHeadings_73, r_S_openHeadings_75, r_S_openHeadings_76, r_S_openHeadings_77, r_S_openHeadings_78, r_S_openHeadings_80, r_S_openHeadings_83, r_S_openHeadings_85, r_S_openHeadings_86, r_S_openHeadings_87, r_S_openHeadings_90, r_S_openHeadings_93, r_S_openHeadings_94, r_S_openHeadings_97, r_S_openHeadings_99, r_S_openHeadings_101, r_S_openHeadings_102, r_S_openHeadings_105, r_S_openHeadings_106, r_S_openHeadings_107, r_S_openHeadings_109, r_S_openHeadings_111, r_S_openHeadings_113, r_S_openHeadings_116, r_S_openHeadings_117, r_S_openHeadings_120, r_S_openHeadings_121, r_S_openHeadings_124, r_S_openHeadings_126, r_S_openHeadings_128, r_S_openHeadings_129, r_S_openHeadings_132, r_S_openHeadings_133, r_S_openHeadings_134, r_S_openHeadings_136, r_S_openHeadings_138, r_S_openHeadings_140, r_S_openHeadings_142, r_S_openHeadings_144, r_S_openHeadings_145, r_S_openHeadings_146, r_S_openHeadings_149, r_S_openHeadings_150, r_S_openHeadings_153, r_S_openHeadings_155, r_S_openHeadings_158, r_S_openHeadings_161, r_S_openHeadings_162, r_S_openHeadings_165, r_S_openHeadings_166, r_S_openHeadings_169, r_S_openHeadings_172, r_S_openHeadings_173, r_S_openHeadings_175, r_S_openHeadings_178, r_S_openHeadings_179, r_S_openHeadings_181, r_S_openHeadings_182, r_S_openHeadings_185, r_S_openHeadings_188, r_S_openHeadings_190, r_S_openHeadings_191, r_S_openHeadings_194, r_S_openHeadings_197, r_S_openHeadings_199, r_S_openHeadings_202, r_S_openHeadings_204, r_S_openHeadings_207, r_S_openHeadings_208, r_S_openHeadings_211, r_S_openHeadings_214, r_S_openHeadings_215, r_S_openHeadings_218, r_S_openHeadings_221, r_S_openHeadings_223, r_S_openHeadings_224, r_S_openHeadings_225, r_S_openHeadings_226, r_S_openHeadings_228, r_S_openHeadings_229, r_S_openHeadings_232, r_S_openHeadings_235, r_S_openHeadings_237, r_S_openHeadings_240, r_S_openHeadings_242, r_S_openHeadings_244, r_S_openHeadings_248, r_S_openHeadings_250, r_S_openHeadings_253, r_S_openHeadings_255, r_S_openHeadings_257, r_S_openHeadings_258, r_S_openHeadings_260, r_S_openHeadings_261, r_S_openHeadings_263, r_S_openHeadings_265, r_S_openHeadings_268, r_S_openHeadings_269, r_S_openHeadings_272, r_S_openHeadings_274, r_S_openHeadings_276, r_S_openHeadings_277, r_S_openHeadings_280, r_S_openHeadings_281, r_S_openHeadings_282, r_S_openHeadings_284, r_S_openHeadings_286, r_S_openHeadings_288, r_S_openHeadings_290, r_S_openHeadings_292, r_S_openHeadings_293, r_S_openHeadings_294, r_S_openHeadings_297, r_S_openHeadings_299, r_S_openHeadings_301, r_S_openHeadings_302, r_S_openHeadings_304, r_S_openHeadings_307, hz_lt, hz_0, hz_and, hb, hz_add, ex, e8, mx_s1_0, a3, q31]
        have htb : (262144 : Nat) = tbit l (lab c b r s) * 262144 := by
          unfold tbit
          rw [lH_lab (by omega) r3 s8, if_pos ⟨by omega, hbl⟩]
        have kR := lR_lab (c := c) (d := b) (r := r) (s := s) (by omega) r3 s8
        have kH := lH_lab (c := c) (d := b) (r := r) (s := s) (by omega) r3 s8
        refine c_H_off (P' := PA r (lH l) (A + Q)) hB hn hmo hst hkT hkM hkC hH hD (Or.inl ⟨hbb, hdb, hf⟩) htb ?_ ?_ (fun h' x1 x2 => ?_)
        · unfold PA
          rw [kR, kH]
          omega
        · intro p hp
          have := prep p hp
          unfold PA
          constructor
          · rintro (q | q)
            · exact Or.inl (Or.inl q)
            · by_cases z : lH p < 16 ∧ (lH p + 24 - lH l) % 16 = A
              · right
                have e5 : lH p = b := by omega
                have := hH.of hp q.1
                rw [e5] at this
                exact this
              · left; right
                refine ⟨q.1, ?_⟩
                rcases this q.1 with y | y | y
                · omega
                · omega
                · omega
          · rintro (q | q)
            · rcases q with q | q
              · exact Or.inl q
              · exact Or.inr ⟨q.1, by omega⟩
            · rw [q, kR, kH]
              exact Or.inr ⟨rfl, by omega⟩
        · simp (disch := omega) only [mx_li, mx_ll, mx_la, mx_get, mx_s1, mx_s2, mx_tl, mx_nl, mx_ic, mx_op, mx_oc, mx_fd, mx_lg, mx_ls, mx_pd, mx_len, mx_isc, mx_ps, mx_ent, mx_rv, ↓reduceIte, List.length_cons, List.length_nil, Nat.reduceAdd, Nat.reduceLT, Nat.reduceEqDiff, Nat.reduceBEq, true_and, and_true, or_false, or_true, false_or, true_or, and_self, not_false_eq_true, not_true_eq_false, mob_g0, mob_g1, mob_g2, mob_g3, mob_g4, mob_g5, mob_g6, mob_g7, mob_g8, mob_g9, mob_g10, mob_g11, mob_g12, mob_g13, mob_g14, mob_g15, mob_g16, mob_g17, mob_g18, mob_g19, mob_g20, mob_g21, mob_g22, mob_g23, mob_g24, mob_g25, mob_g26, mob_g27, mob_g28, mob_g29, mob_g30, mob_g31, mob_g32, mob_s0, mob_s1, mob_s11, mob_s12, mob_s13, mob_s14, mob_s15, mob_s19, mob_s20, mob_s21, mob_s22, mob_s23, mob_s24, mob_s31, mob_len, xob_g0, xob_g1, xob_g2, xob_g3, xob_g4, xob_g5, xob_g6, xob_s3, xob_s4, xob_s5, xob_s6, xob_len, gob_g0, gob_g1, gob_g2, gob_g3, gob_g4, gob_g5, gob_g6, gob_g7, gob_g8, gob_g9, gob_g10, gob_g11, gob_g12, gob_g13, gob_g14, gob_g15, gob_g16, gob_g17, gob_s0, gob_s1, gob_s2, gob_s15, gob_s16, gob_s17, gob_len, sob_g0, sob_g1, sob_g2, sob_g3, sob_g4, sob_g5, sob_g6, sob_g7, sob_g8, sob_g9, sob_s5, sob_s6, sob_s7, sob_s8, sob_s9, sob_len, qob_g0, qob_g1, qob_g2, qob_g3, qob_g4, qob_g5, qob_s0, qob_s1, qob_s2, qob_s3, qob_s4, qob_s5, qob_len, wob_g0, wob_g1, wob_g2, wob_s0, wob_s1, wob_s2, wob_len, pob_g0, pob_g1, pob_g2, pob_g3, pob_g4, pob_s0, pob_s1, pob_s2, pob_s3, pob_s4, pob_len, n_lt, n_eq, n_lt0, n_0lt, n_eq0, n_cl, n_add, n_mul, n_l, n_eqm, n_ltm, n_mlt, n_m1, l_lt, l_eq, l_lt0, l_0lt, l_eq0, l_add, l_mul, l_i, g_lt, g_eq, g_gt, n_div, n_rem, l_div, l_mod, n01_0, n01_1, n_1e, n_0e1, ald_i, ald_o, ald_l, ald_z, ald_a, ast_i, ast_l, ast_z, ast_a, zI_t, zI_f, zI_ok, zI_eq0, r_S_openHeadings_0, r_S_openHeadings_1, r_S_openHeadings_4, r_S_openHeadings_5, r_S_openHeadings_8, r_S_openHeadings_10, r_S_openHeadings_12, r_S_openHeadings_15, r_S_openHeadings_16, r_S_openHeadings_18, r_S_openHeadings_20, r_S_openHeadings_23, r_S_openHeadings_25, r_S_openHeadings_26, r_S_openHeadings_29, r_S_openHeadings_32, r_S_openHeadings_33, r_S_openHeadings_34, r_S_openHeadings_37, r_S_openHeadings_39, r_S_openHeadings_40, r_S_openHeadings_41, r_S_openHeadings_42, r_S_openHeadings_45, r_S_openHeadings_47, r_S_openHeadings_48, r_S_openHeadings_49, r_S_openHeadings_50, r_S_openHeadings_52, r_S_openHeadings_53, r_S_openHeadings_56, r_S_openHeadings_57, r_S_openHeadings_60, r_S_openHeadings_61, r_S_openHeadings_62, r_S_openHeadings_64, r_S_openHeadings_65, r_S_openHeadings_66, r_S_openHeadings_67, r_S_openHeadings_68, r_S_openHeadings_70, r_S_openHeadings_73, r_S_openHeadings_75, r_S_openHeadings_76, r_S_openHeadings_77, r_S_openHeadings_78, r_S_openHeadings_80, r_S_openHeadings_83, r_S_openHeadings_85, r_S_openHeadings_86, r_S_openHeadings_87, r_S_openHeadings_90, r_S_openHeadings_93, r_S_openHeadings_94, r_S_openHeadings_97, r_S_openHeadings_99, r_S_openHeadings_101, r_S_openHeadings_102, r_S_openHeadings_105, r_S_openHeadings_106, r_S_openHeadings_107, r_S_openHeadings_109, r_S_openHeadings_111, r_S_openHeadings_113, r_S_openHeadings_116, r_S_openHeadings_117, r_S_openHeadings_120, r_S_openHeadings_121, r_S_openHeadings_124, r_S_openHeadings_126, r_S_openHeadings_128, r_S_openHeadings_129, r_S_openHeadings_132, r_S_openHeadings_133, r_S_openHeadings_134, r_S_openHeadings_136, r_S_openHeadings_138, r_S_openHeadings_140, r_S_openHeadings_142, r_S_openHeadings_144, r_S_openHeadings_145, r_S_openHeadings_146, r_S_openHeadings_149, r_S_openHeadings_150, r_S_openHeadings_153, r_S_openHeadings_155, r_S_openHeadings_158, r_S_openHeadings_161, r_S_openHeadings_162, r_S_openHeadings_165, r_S_openHeadings_166, r_S_openHeadings_169, r_S_openHeadings_172, r_S_openHeadings_173, r_S_openHeadings_175, r_S_openHeadings_178, r_S_openHeadings_179, r_S_openHeadings_181, r_S_openHeadings_182, r_S_openHeadings_185, r_S_openHeadings_188, r_S_openHeadings_190, r_S_openHeadings_191, r_S_openHeadings_194, r_S_openHeadings_197, r_S_openHeadings_199, r_S_openHeadings_202, r_S_openHeadings_204, r_S_openHeadings_207, r_S_openHeadings_208, r_S_openHeadings_211, r_S_openHeadings_214, r_S_openHeadings_215, r_S_openHeadings_218, r_S_openHeadings_221, r_S_openHeadings_223, r_S_openHeadings_224, r_S_openHeadings_225, r_S_openHeadings_226, r_S_openHeadings_228, r_S_openHeadings_229, r_S_openHeadings_232, r_S_openHeadings_235, r_S_openHeadings_237, r_S_openHeadings_240, r_S_openHeadings_242, r_S_openHeadings_244, r_S_openHeadings_248, r_S_openHeadings_250, r_S_openHeadings_253, r_S_openHeadings_255, r_S_openHeadings_257, r_S_openHeadings_258, r_S_openHeadings_260, r_S_openHeadings_261, r_S_openHeadings_263, r_S_openHeadings_265, r_S_openHeadings_268, r_S_openHeadings_269, r_S_openHeadings_272, r_S_openHeadings_274, r_S_openHeadings_276, r_S_openHeadings_277, r_S_openHeadings_280, r_S_openHeadings_281, r_S_openHeadings_282, r_S_openHeadings_284, r_S_openHeadings_286, r_S_openHeadings_288, r_S_openHeadings_290, r_S_openHeadings_292, r_S_openHeadings_293, r_S_openHeadings_294, r_S_openHeadings_297, r_S_openHeadings_299, r_S_openHeadings_301, r_S_openHeadings_302, r_S_openHeadings_304, r_S_openHeadings_307, hz_add]
          refine ih (A + Q) h' _ (by omega) (by omega) (by omega) (fun q => by have := h4 q; omega) (hS.q x2 hA) (hG.tr x2) x1
end OPH
