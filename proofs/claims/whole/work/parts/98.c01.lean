/-! OFFERS one by one; the class's rows of labels -/
def one (p0 k : Nat) (p : Nat) : Option Nat := if p = p0 then some k else none
noncomputable def rsF (P : Nat → Prop) (F : Nat → Option Nat) (p : Nat) : Option Nat := @ite (Option Nat) (P p) (Classical.propDecidable _) (F p) none
theorem rsF_1 {P : Nat → Prop} {F : Nat → Option Nat} {p : Nat} (h : P p) : rsF P F p = F p := by unfold rsF; rw [if_pos h]
theorem rsF_0 {P : Nat → Prop} {F : Nat → Option Nat} {p : Nat} (h : ¬ P p) : rsF P F p = none := by unfold rsF; rw [if_neg h]
theorem rsF_cong {P P' : Nat → Prop} {F : Nat → Option Nat} (h : ∀ p k, F p = some k → (P p ↔ P' p)) : rsF P F = rsF P' F := by
  funext p
  cases hf : F p with
  | none =>
    have z : ∀ Q : Nat → Prop, rsF Q F p = none := fun Q => by
      by_cases q : Q p
      · rw [rsF_1 q, hf]
      · rw [rsF_0 q]
    rw [z, z]
  | some k =>
    by_cases q : P p
    · rw [rsF_1 q, rsF_1 ((h p k hf).mp q)]
    · rw [rsF_0 q, rsF_0 (fun z => q ((h p k hf).mpr z))]
theorem rsF_all {P : Nat → Prop} {F : Nat → Option Nat} (h : ∀ p k, F p = some k → P p) : rsF P F = F := by
  funext p
  by_cases q : P p
  · rw [rsF_1 q]
  · rw [rsF_0 q]
    cases hf : F p with
    | none => rfl
    | some k => exact absurd (h p k hf) q
theorem rsF_none {P : Nat → Prop} {F : Nat → Option Nat} (h : ∀ p k, F p = some k → ¬ P p) (st ky : Nat → Nat) : aps (rsF P F) st = st ∧ apk (rsF P F) st ky = ky := by
  have z : ∀ p, rsF P F p = none := fun p => by
    by_cases q : P p
    · rw [rsF_1 q]
      cases hf : F p with
      | none => rfl
      | some k => exact absurd q (h p k hf)
    · rw [rsF_0 q]
  exact ⟨funext fun p => aps_0 (z p), funext fun p => apk_0 (z p)⟩
/-- one more offer -/
theorem rsF_more {P P' : Nat → Prop} {F : Nat → Option Nat} {p0 k : Nat} (h0 : ¬ P p0) (hk : F p0 = some k) (hP : ∀ p j, F p = some j → (P' p ↔ P p ∨ p = p0)) (st ky : Nat → Nat) (hst : ∀ p, st p ≤ 2) :
    aps (rsF P' F) st = aps (one p0 k) (aps (rsF P F) st) ∧ apk (rsF P' F) st ky = apk (one p0 k) (aps (rsF P F) st) (apk (rsF P F) st ky) := by
  have e0 : one p0 k p0 = some k := if_pos rfl
  have e1 : ∀ p, p ≠ p0 → one p0 k p = none := fun p hp => if_neg hp
  have r0 : rsF P F p0 = none := rsF_0 h0
  have r1 : rsF P' F p0 = some k := by rw [rsF_1 ((hP p0 k hk).mpr (Or.inr rfl)), hk]
  have r2 : ∀ p, p ≠ p0 → rsF P' F p = rsF P F p := fun p hp => by
    cases hf : F p with
    | none =>
      have z : ∀ Q : Nat → Prop, rsF Q F p = none := fun Q => by
        by_cases q : Q p
        · rw [rsF_1 q, hf]
        · rw [rsF_0 q]
      rw [z, z]
    | some j =>
      by_cases q : P p
      · rw [rsF_1 q, rsF_1 ((hP p j hf).mpr (Or.inl q))]
      · rw [rsF_0 q, rsF_0 (fun z => ((hP p j hf).mp z).elim q hp)]
  constructor
  · funext p
    by_cases e : p = p0
    · subst e
      rw [aps_1 r1, aps_1 e0, aps_0 r0]
    · rw [aps_0 (e1 p e)]
      unfold aps
      rw [r2 p e]
  · funext p
    by_cases e : p = p0
    · subst e
      rw [apk_1 r1, apk_1 e0, aps_0 r0, apk_0 r0]
    · rw [apk_0 (e1 p e)]
      unfold apk
      rw [r2 p e]
/-- where the rows of a cell begin -/
def lyr (gs : mG) (c : Nat) : Nat := if brg gs c = true then gs 3 c else if gs 2 c = 1 then 0 else 1
def bas (gs : mG) (mo : Nat) : Nat → Nat
  | 0 => 0
  | c + 1 => bas gs mo c + lyr gs c * 17 * (mo + 1)
def row (gs : mG) (mo p : Nat) : Nat := bas gs mo (lC p) + ((lR p - 1) * 17 + lH p) * (mo + 1) + lS p
section ROW
variable {gs : mG} {w hh fr mo : Nat}
theorem lyr_le (hB : GB gs) (c : Nat) : lyr gs c ≤ 3 := by
  have := hB.2.2.2.1 c
  unfold lyr
  split
  · exact this
  · split <;> omega
theorem bas_le (hB : GB gs) (hmo : mo ≤ 8) : ∀ c, bas gs mo c ≤ c * 459
  | 0 => Nat.le_refl _
  | c + 1 => by
    rw [bas]
    have a := bas_le hB hmo c
    have b : lyr gs c * 17 * (mo + 1) ≤ 51 * 9 := Nat.mul_le_mul (by have := lyr_le hB c; omega) (by omega)
    omega
theorem bas_mono {a b : Nat} (h : a ≤ b) : bas gs mo a ≤ bas gs mo b := by
  obtain ⟨d, rfl⟩ := Nat.le.dest h
  clear h
  induction d with
  | zero => exact Nat.le_refl _
  | succ d ih =>
    have : bas gs mo (a + (d + 1)) = bas gs mo (a + d) + lyr gs (a + d) * 17 * (mo + 1) := rfl
    omega
theorem vld_lyr {p : Nat} (hB : GB gs) (h : vld gs w hh fr mo p) : (lR p - 1) + 1 ≤ lyr gs (lC p) := by
  obtain ⟨v1, v2, v3, v4, v5, v6, v7⟩ := h
  unfold lyr
  cases hb : brg gs (lC p) with
  | true =>
    have := v5 hb
    rw [if_pos rfl]
    omega
  | false =>
    have := v6 hb
    rw [if_neg (by simp)]
    have b2 := hB.2.2.1 (lC p)
    have : gs 2 (lC p) ≠ 1 := by
      intro q
      unfold brg at hb
      unfold sht at v2
      simp [q] at hb v2
      omega
    rw [if_neg this]
    omega
theorem row_lt {p : Nat} (hB : GB gs) (h : vld gs w hh fr mo p) : row gs mo p < bas gs mo (lC p + 1) := by
  have a := vld_lyr hB h
  have b := lH_le p
  have c := h.2.2.2.2.2.2
  have d : ((lR p - 1) * 17 + lH p + 1) * (mo + 1) ≤ lyr gs (lC p) * 17 * (mo + 1) := Nat.mul_le_mul_right _ (by omega)
  rw [Nat.succ_mul] at d
  unfold row
  rw [bas]
  omega
theorem row_rc {p : Nat} (hB : GB gs) (h : vld gs w hh fr mo p) : row gs mo p < bas gs mo (w * hh) :=
  Nat.lt_of_lt_of_le (row_lt hB h) (bas_mono h.1)
theorem row_inj {p q : Nat} (hB : GB gs) (hp : vld gs w hh fr mo p) (hq : vld gs w hh fr mo q) (e : row gs mo p = row gs mo q) : p = q := by
  have a := row_lt hB hp
  have b := row_lt hB hq
  have c1 : lC p = lC q := by
    rcases Nat.lt_trichotomy (lC p) (lC q) with z | z | z
    · have m := bas_mono (gs := gs) (mo := mo) (show lC p + 1 ≤ lC q by omega)
      have : bas gs mo (lC q) ≤ row gs mo q := by unfold row; omega
      omega
    · exact z
    · have m := bas_mono (gs := gs) (mo := mo) (show lC q + 1 ≤ lC p by omega)
      have : bas gs mo (lC p) ≤ row gs mo p := by unfold row; omega
      omega
  have sp := hp.2.2.2.2.2.2
  have sq := hq.2.2.2.2.2.2
  have e2 : ((lR p - 1) * 17 + lH p) * (mo + 1) + lS p = ((lR q - 1) * 17 + lH q) * (mo + 1) + lS q := by
    unfold row at e
    rw [c1] at e
    omega
  have e3 : lS p = lS q := by
    have := congrArg (· % (mo + 1)) e2
    rw [Nat.mul_comm, Nat.mul_add_mod, Nat.mul_comm ((lR q - 1) * 17 + lH q), Nat.mul_add_mod, Nat.mod_eq_of_lt (by omega), Nat.mod_eq_of_lt (by omega)] at this
    exact this
  have e4 : (lR p - 1) * 17 + lH p = (lR q - 1) * 17 + lH q := by
    rw [e3] at e2
    exact Nat.eq_of_mul_eq_mul_right (Nat.succ_pos mo) (Nat.add_right_cancel e2)
  have h1 := lH_le p; have h2 := lH_le q
  refine lab_ext c1 (by omega) ?_ e3
  cases hb : brg gs (lC p) with
  | true =>
    have z1 := hp.2.2.2.2.1 hb
    have z2 := hq.2.2.2.2.1 (by rw [← c1]; exact hb)
    omega
  | false =>
    rw [hp.2.2.2.2.2.1 hb, hq.2.2.2.2.2.1 (by rw [← c1]; exact hb)]
end ROW
/-- the class's labels: by rows of the queue -/
def XD (h : mxH) (qc qr qs qh cap : Nat) (gs : mG) (w hh fr mo : Nat) (st ky : Nat → Nat) : Prop :=
  ∃ (C R S H : Nat → Nat) (ct : Nat), QQ h qc qr qs qh cap C R S H (bas gs mo (w * hh)) ct ∧ QI C R S H cap (bas gs mo (w * hh)) ct ∧ cap < 900000 ∧ (∀ p, st p ≠ 0 → vld gs w hh fr mo p) ∧ (∀ p, st p ≤ 2) ∧
  (∀ p, vld gs w hh fr mo p → (st p = 0 → S (row gs mo p) = 0) ∧ (st p = 1 → 2 ≤ S (row gs mo p)) ∧ (st p = 2 → S (row gs mo p) = 1) ∧ (st p ≠ 0 → C (row gs mo p) = kC (ky p) ∧ R (row gs mo p) = ky p % 68719476736 * 262144 + p)) ∧
  (∀ r, QOp (bas gs mo (w * hh)) S r → ∃ p, vld gs w hh fr mo p ∧ row gs mo p = r)
section XOFF
variable {h : mxH} {qc qr qs qh cap : Nat} {gs : mG} {w hh fr mo : Nat} {st ky : Nat → Nat} {K : Option Value → mxH → Prop}
theorem c_X_off {p0 k : Nat} (hB : GB gs) (hn : w * hh ≤ 144) (hmo : mo ≤ 8) (hD : XD h qc qr qs qh cap gs w hh fr mo st ky) (hp : vld gs w hh fr mo p0) (hk : kC k < 9223372036854775808) (hk2 : k % 68719476736 < 35184372088832)
    (kk : ∀ (h' : mxH), XD h' qc qr qs qh cap gs w hh fr mo (aps (one p0 k) st) (apk (one p0 k) st ky) → QG h h' qc qr qs qh → K none h') :
    mcl mx_P 63 [.ref 31, .int (nI (row gs mo p0)), .long (lN (kC k)), .long (lN (k % 68719476736)), .int (nI p0)] h K := by
  obtain ⟨C, R, S, H, ct, hQ, hI, hcap, hv, hs2, hR, hO⟩ := hD
  have hrc := row_rc hB hp
  have hp18 : ∀ q, vld gs w hh fr mo q → q < 88128 := fun q hq => lC_lt hq.1 hn
  obtain ⟨f0, f1, f2, f3⟩ := hR p0 hp
  have s0 := hs2 p0
  refine c_Q_offer hQ hI hrc hk hk2 (by have := hp18 p0 hp; omega) (hI.S_lt hrc hcap) (fun q hq hne => ?_) (fun h' C' R' S' H' ct' a1 a2 a3 a4 => ?_)
  · obtain ⟨p', v', r'⟩ := hO q hq
    have hs : st p' = 1 := by
      obtain ⟨g0, g1, g2, -⟩ := hR p' v'
      have := hs2 p'
      have := hq.2
      rw [r'] at g0 g2
      omega
    have := ((hR p' v').2.2.2 (by omega)).2
    rw [r'] at this
    rw [this]
    intro e
    have x1 := hp18 p' v'
    have x2 := hp18 p0 hp
    have : p' = p0 := by omega
    exact hne (by rw [← r', this])
  · obtain ⟨b1, b2, b3⟩ := a3
    -- the offer is taken in both or in neither
    have cnd : (S (row gs mo p0) = 0 ∨ 2 ≤ S (row gs mo p0) ∧ (kC k < C (row gs mo p0) ∨ kC k = C (row gs mo p0) ∧ k % 68719476736 * 262144 + p0 < R (row gs mo p0))) ↔ (st p0 = 0 ∨ st p0 = 1 ∧ k < ky p0) := by
      by_cases z0 : st p0 = 0
      · have := f0 z0
        constructor
        · intro _; exact Or.inl z0
        · intro _; exact Or.inl this
      · obtain ⟨g1, g2⟩ := f3 z0
        rw [g1, g2]
        by_cases z1 : st p0 = 1
        · have := f1 z1
          unfold kC
          constructor
          · rintro (q | ⟨-, q⟩)
            · omega
            · exact Or.inr ⟨z1, by omega⟩
          · rintro (q | ⟨-, q⟩)
            · omega
            · exact Or.inr ⟨this, by omega⟩
        · have := f2 (by omega)
          omega
    have e0 : one p0 k p0 = some k := if_pos rfl
    have e1 : ∀ p, p ≠ p0 → one p0 k p = none := fun p hp => if_neg hp
    refine kk h' ⟨C', R', S', H', ct', a1, a2, hcap, fun p q => ?_, fun p => ?_, fun p hvp => ?_, fun r hr => ?_⟩ a4
    · by_cases e : p = p0
      · rw [e]; exact hp
      · rw [aps_0 (e1 p e)] at q; exact hv p q
    · by_cases e : p = p0
      · rw [e, aps_1 e0]; split <;> omega
      · rw [aps_0 (e1 p e)]; exact hs2 p
    · by_cases e : p = p0
      · subst e
        rw [aps_1 e0, apk_1 e0]
        by_cases z : st p = 0 ∨ st p = 1 ∧ k < ky p
        · obtain ⟨y1, y2, y3⟩ := b2 (cnd.mpr z)
          rw [if_neg (by omega), if_pos z, y1, y2]
          exact ⟨fun q => by omega, fun _ => y3, fun q => by omega, fun _ => ⟨rfl, rfl⟩⟩
        · obtain ⟨y1, y2, y3⟩ := b3 (fun q => z (cnd.mp q))
          rw [if_neg z, y1, y2]
          by_cases z2 : st p = 2
          · have y4 := f2 z2
            rw [if_pos z2]
            exact ⟨fun q => by omega, fun q => by omega, fun q => by omega, fun _ => f3 (by omega)⟩
          · have y4 := f1 (by omega)
            rw [if_neg z2]
            exact ⟨fun q => by omega, fun q => by omega, fun q => by omega, fun _ => f3 (by omega)⟩
      · rw [aps_0 (e1 p e), apk_0 (e1 p e)]
        obtain ⟨y1, y2, y3⟩ := b1 (row gs mo p) (fun q => e (row_inj hB hvp hp q))
        obtain ⟨g0, g1, g2, g3⟩ := hR p hvp
        rw [y1, y2]
        have := hs2 p
        exact ⟨fun q => by have := g0 q; omega, fun q => by have := g1 q; omega, fun q => by have := g2 q; omega, g3⟩
    · by_cases e : r = row gs mo p0
      · exact ⟨p0, hp, e.symm⟩
      · obtain ⟨y1, y2, y3⟩ := b1 r e
        exact hO r ⟨hr.1, by have := hr.2; omega⟩
end XOFF
