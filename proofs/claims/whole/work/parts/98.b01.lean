/-! LABELS AND KEYS: a label 612 cell + 36 heading + 9 bridged + shared; a key (cost 2^18 + turns) 2^18 + moves -/
def lC (p : Nat) : Nat := p / 612
def lH (p : Nat) : Nat := p / 36 % 17
def lR (p : Nat) : Nat := p / 9 % 4
def lS (p : Nat) : Nat := p % 9
def lab (c d r s : Nat) : Nat := 612 * c + 36 * d + 9 * r + s
theorem lab_eta (p : Nat) : lab (lC p) (lH p) (lR p) (lS p) = p := by unfold lab lC lH lR lS; omega
theorem lC_lab {c d r s : Nat} (h1 : d ≤ 16) (h2 : r ≤ 3) (h3 : s ≤ 8) : lC (lab c d r s) = c := by unfold lC lab; omega
theorem lH_lab {c d r s : Nat} (h1 : d ≤ 16) (h2 : r ≤ 3) (h3 : s ≤ 8) : lH (lab c d r s) = d := by unfold lH lab; omega
theorem lR_lab {c d r s : Nat} (h1 : d ≤ 16) (h2 : r ≤ 3) (h3 : s ≤ 8) : lR (lab c d r s) = r := by unfold lR lab; omega
theorem lS_lab {c d r s : Nat} (h1 : d ≤ 16) (h2 : r ≤ 3) (h3 : s ≤ 8) : lS (lab c d r s) = s := by unfold lS lab; omega
theorem lH_le (p : Nat) : lH p ≤ 16 := by unfold lH; omega
theorem lR_le (p : Nat) : lR p ≤ 3 := by unfold lR; omega
theorem lS_le (p : Nat) : lS p ≤ 8 := by unfold lS; omega
theorem lab_ext {p q : Nat} (h1 : lC p = lC q) (h2 : lH p = lH q) (h3 : lR p = lR q) (h4 : lS p = lS q) : p = q := by
  rw [← lab_eta p, ← lab_eta q, h1, h2, h3, h4]
theorem lC_lt {p n : Nat} (h : lC p < n) (hn : n ≤ 144) : p < 88128 := by unfold lC at h; omega
def kC (k : Nat) : Nat := k / 68719476736
def kT (k : Nat) : Nat := k / 262144 % 262144
def kM (k : Nat) : Nat := k % 262144
theorem k_step {k L t : Nat} (h1 : kT k < 200000) (h2 : kM k < 200000) (ht : t ≤ 1) : kC (k + (L * 68719476736 + t * 262144 + 1)) = kC k + L ∧ kT (k + (L * 68719476736 + t * 262144 + 1)) = kT k + t ∧ kM (k + (L * 68719476736 + t * 262144 + 1)) = kM k + 1 := by
  unfold kC kT kM at *
  omega
theorem k_lt {a b : Nat} : a < b ↔ kC a < kC b ∨ kC a = kC b ∧ (kT a < kT b ∨ kT a = kT b ∧ kM a < kM b) := by
  unfold kC kT kM
  omega
theorem k_eq {a b : Nat} : a = b ↔ kC a = kC b ∧ kT a = kT b ∧ kM a = kM b := by
  unfold kC kT kM
  omega
def hdg (gs : mG) (b : Nat) : Bool := decide (gs 9 0 = 2) || decide (b % 2 = 0)
/-- p comes before l on a way -/
def pre (gs : mG) (w hh fr mo : Nat) (sh : Nat → Nat) (l p : Nat) : Prop :=
  nbr w hh (lC l) ((lH l + 8) % 16) = some (lC p) ∧ sht gs (lC p) = false ∧ stp gs (lC p) (lC l) = false ∧
  lS p = lS l + sh (lC l) ∧ lS p ≤ mo ∧ (brg gs (lC p) = true → 1 ≤ lR p ∧ lR p ≤ gs 3 (lC p)) ∧ (brg gs (lC p) = false → lR p = 0) ∧ (brg gs (lC l) = true → lR p + 1 = lR l) ∧
  ((lH p < 16 ∧ hdg gs (lH p) = true ∧ fol gs (lH p) (lH l) (lC p) (lC l) = true) ∨ (lH p = 16 ∧ lC p = fr)) ∧ lH l < 16
def tbit (l p : Nat) : Nat := if lH p ≠ 16 ∧ lH p ≠ lH l then 1 else 0
def stK (gs : mG) (l p : Nat) : Nat := len (lH l) * unt gs (lC l) * 68719476736 + tbit l p * 262144 + 1
theorem tbit_le (l p : Nat) : tbit l p ≤ 1 := by unfold tbit; split <;> omega
noncomputable def ofs (gs : mG) (w hh fr mo : Nat) (sh : Nat → Nat) (ky : Nat → Nat) (l : Nat) (p : Nat) : Option Nat := @ite (Option Nat) (pre gs w hh fr mo sh l p) (Classical.propDecidable _) (some (ky l + stK gs l p)) none
/-- labels behind offers -/
def aps (F : Nat → Option Nat) (st : Nat → Nat) (p : Nat) : Nat := match F p with
  | none => st p
  | some _ => if st p = 2 then 2 else 1
def apk (F : Nat → Option Nat) (st ky : Nat → Nat) (p : Nat) : Nat := match F p with
  | none => ky p
  | some k => if st p = 0 ∨ st p = 1 ∧ k < ky p then k else ky p
/-- the least waiting label -/
def leaP (st ky : Nat → Nat) (l : Nat) : Prop := st l = 1 ∧ ∀ p, st p = 1 → ky l < ky p ∨ ky l = ky p ∧ l ≤ p
theorem leaP.uq {st ky : Nat → Nat} {a b : Nat} (ha : leaP st ky a) (hb : leaP st ky b) : a = b := by
  have h1 := ha.2 b hb.1
  have h2 := hb.2 a ha.1
  omega
/-- the search: its answer (a label; none; none and spent), the last key, the labels -/
noncomputable def srch (gs : mG) (w hh fr mo : Nat) (sh : Nat → Nat) : Nat → (Nat → Nat) → (Nat → Nat) → Option Nat → (Option Nat × Bool) × Option Nat × (Nat → Nat) × (Nat → Nat)
  | 0, st, ky, la => ((none, @decide (∃ p, st p = 1) (Classical.propDecidable _)), la, st, ky)
  | n + 1, st, ky, la => @dite _ (∃ l, leaP st ky l) (Classical.propDecidable _) (fun h => if lH h.choose = 16 then ((some h.choose, false), some (ky h.choose), va_up st h.choose 2, ky) else srch gs w hh fr mo sh n (aps (ofs gs w hh fr mo sh ky h.choose) (va_up st h.choose 2)) (apk (ofs gs w hh fr mo sh ky h.choose) (va_up st h.choose 2) ky) (some (ky h.choose))) (fun _ => ((none, false), la, st, ky))
section SR
variable {gs : mG} {w hh fr en mo : Nat} {sh : Nat → Nat}
theorem srch_none {n : Nat} {st ky : Nat → Nat} {la : Option Nat} (h : ∀ p, st p ≠ 1) : srch gs w hh fr mo sh n st ky la = ((none, false), la, st, ky) := by
  cases n with
  | zero =>
    have : ¬ ∃ p, st p = 1 := fun ⟨p, q⟩ => h p q
    simp [srch, this]
  | succ n =>
    have : ¬ ∃ l, leaP st ky l := fun ⟨p, q⟩ => h p q.1
    simp [srch, this]
theorem srch_spent {st ky : Nat → Nat} {la : Option Nat} {l : Nat} (h : st l = 1) : srch gs w hh fr mo sh 0 st ky la = ((none, true), la, st, ky) := by
  have : ∃ p, st p = 1 := ⟨l, h⟩
  simp [srch, this]
theorem srch_goal {n : Nat} {st ky : Nat → Nat} {la : Option Nat} {l : Nat} (h : leaP st ky l) (h16 : lH l = 16) : srch gs w hh fr mo sh (n + 1) st ky la = ((some l, false), some (ky l), va_up st l 2, ky) := by
  have e : ∃ l, leaP st ky l := ⟨l, h⟩
  have e2 : e.choose = l := e.choose_spec.uq h
  rw [srch, dif_pos e, if_pos (by rw [e2]; exact h16), e2]
theorem srch_pop {n : Nat} {st ky : Nat → Nat} {la : Option Nat} {l : Nat} (h : leaP st ky l) (h16 : lH l ≠ 16) : srch gs w hh fr mo sh (n + 1) st ky la = srch gs w hh fr mo sh n (aps (ofs gs w hh fr mo sh ky l) (va_up st l 2)) (apk (ofs gs w hh fr mo sh ky l) (va_up st l 2) ky) (some (ky l)) := by
  have e : ∃ l, leaP st ky l := ⟨l, h⟩
  have e2 : e.choose = l := e.choose_spec.uq h
  rw [srch, dif_pos e, if_neg (by rw [e2]; exact h16), e2]
/-- a label that can be -/
def vld (gs : mG) (w hh fr mo : Nat) (p : Nat) : Prop := lC p < w * hh ∧ sht gs (lC p) = false ∧ (lH p = 16 → lC p = fr) ∧ (lH p ≠ 16 → hdg gs (lH p) = true) ∧ (brg gs (lC p) = true → 1 ≤ lR p ∧ lR p ≤ gs 3 (lC p)) ∧ (brg gs (lC p) = false → lR p = 0) ∧ lS p ≤ mo
theorem pre.vld {l p : Nat} (h : pre gs w hh fr mo sh l p) : vld gs w hh fr mo p := by
  obtain ⟨h1, h2, h3, h4, h5, h6, h7, h8, h9, h10⟩ := h
  refine ⟨nbr_lt h1, h2, fun q => ?_, fun q => ?_, h6, h7, h5⟩
  · rcases h9 with z | z
    · omega
    · exact z.2
  · rcases h9 with z | z
    · exact z.2.1
    · omega
/-- the label of the end -/
def isE (gs : mG) (en p : Nat) : Prop := lC p = en ∧ lH p < 16 ∧ lR p = 0 ∧ lS p = 0 ∧ hdg gs (lH p) = true
/-- what holds of the labels when n are closed -/
def SI (gs : mG) (w hh fr en mo : Nat) (sh : Nat → Nat) (n : Nat) (st ky : Nat → Nat) : Prop :=
  (∀ p, st p ≤ 2) ∧ (∀ p, st p ≠ 0 → vld gs w hh fr mo p ∧ kM (ky p) ≤ n ∧ kT (ky p) ≤ n ∧ kC (ky p) ≤ n * 132157080) ∧
  (∀ p q, st p = 2 → st q = 1 → ky p ≤ ky q) ∧
  (∀ l p, st l = 2 → pre gs w hh fr mo sh l p → st p ≠ 0 ∧ ky p ≤ ky l + stK gs l p) ∧
  (∀ p, st p ≠ 0 → (ky p = 0 ∧ isE gs en p) ∨ ∃ l, st l = 2 ∧ pre gs w hh fr mo sh l p ∧ ky p = ky l + stK gs l p) ∧
  (∀ p, st p = 2 → lH p ≠ 16)
theorem stK_le (hB : GB gs) (l : Nat) : len (lH l) * unt gs (lC l) ≤ 132157080 := Nat.mul_le_mul (len_lt _) (unt_lt hB _)
theorem aps_0 {F : Nat → Option Nat} {st : Nat → Nat} {p : Nat} (h : F p = none) : aps F st p = st p := by unfold aps; rw [h]
theorem aps_1 {F : Nat → Option Nat} {st : Nat → Nat} {p k : Nat} (h : F p = some k) : aps F st p = if st p = 2 then 2 else 1 := by unfold aps; rw [h]
theorem apk_0 {F : Nat → Option Nat} {st ky : Nat → Nat} {p : Nat} (h : F p = none) : apk F st ky p = ky p := by unfold apk; rw [h]
theorem apk_1 {F : Nat → Option Nat} {st ky : Nat → Nat} {p k : Nat} (h : F p = some k) : apk F st ky p = if st p = 0 ∨ st p = 1 ∧ k < ky p then k else ky p := by unfold apk; rw [h]
theorem ofs_0 {ky : Nat → Nat} {l p : Nat} (h : ¬ pre gs w hh fr mo sh l p) : ofs gs w hh fr mo sh ky l p = none := by unfold ofs; rw [if_neg h]
theorem ofs_1 {ky : Nat → Nat} {l p : Nat} (h : pre gs w hh fr mo sh l p) : ofs gs w hh fr mo sh ky l p = some (ky l + stK gs l p) := by unfold ofs; rw [if_pos h]
/-- closing a label and offering those before it -/
theorem SI.pop {n l : Nat} {st ky : Nat → Nat} (hB : GB gs) (hn : n < 100000) (hI : SI gs w hh fr en mo sh n st ky) (hl : leaP st ky l) (h16 : lH l ≠ 16) :
    SI gs w hh fr en mo sh (n + 1) (aps (ofs gs w hh fr mo sh ky l) (va_up st l 2)) (apk (ofs gs w hh fr mo sh ky l) (va_up st l 2) ky) := by
  obtain ⟨i1, i2, i3, i4, i5, i6⟩ := hI
  obtain ⟨l1, l2⟩ := hl
  have sl : va_up st l 2 l = 2 := va_up_self _ _ _
  have sn : ∀ p, p ≠ l → va_up st l 2 p = st p := fun p hp => va_up_ne _ _ hp
  have s2 : ∀ p, va_up st l 2 p = 2 → p = l ∨ st p = 2 := fun p hp => by
    by_cases e : p = l
    · exact Or.inl e
    · rw [sn p e] at hp; exact Or.inr hp
  have bl := (i2 l (by omega)).2
  -- what becomes of one label
  have key : ∀ p, (aps (ofs gs w hh fr mo sh ky l) (va_up st l 2) p = va_up st l 2 p ∧ apk (ofs gs w hh fr mo sh ky l) (va_up st l 2) ky p = ky p ∧ (pre gs w hh fr mo sh l p → (va_up st l 2 p = 2 ∨ va_up st l 2 p = 1 ∧ ky p ≤ ky l + stK gs l p))) ∨ (pre gs w hh fr mo sh l p ∧ p ≠ l ∧ st p ≠ 2 ∧ aps (ofs gs w hh fr mo sh ky l) (va_up st l 2) p = 1 ∧ apk (ofs gs w hh fr mo sh ky l) (va_up st l 2) ky p = ky l + stK gs l p ∧ (st p = 1 → ky l + stK gs l p < ky p)) := by
    intro p
    by_cases hp : pre gs w hh fr mo sh l p
    · have e := ofs_1 (ky := ky) hp
      rw [aps_1 e, apk_1 e]
      have b := i1 p
      by_cases pl : p = l
      · subst pl
        left
        rw [sl]
        exact ⟨by simp, by simp, fun _ => Or.inl rfl⟩
      · rw [sn p pl]
        by_cases c2 : st p = 2
        · left; rw [c2]; exact ⟨by simp, by simp, fun _ => Or.inl rfl⟩
        · by_cases c0 : st p = 0
          · right; rw [c0]; exact ⟨hp, pl, by omega, by simp, by simp, by omega⟩
          · have c1 : st p = 1 := by omega
            by_cases c3 : ky l + stK gs l p < ky p
            · right; rw [c1]; exact ⟨hp, pl, by omega, by simp, by simp [c3], fun _ => c3⟩
            · left; rw [c1]; exact ⟨by simp, by simp [c3], fun _ => Or.inr ⟨rfl, by omega⟩⟩
    · left
      have e := ofs_0 (ky := ky) hp
      exact ⟨aps_0 e, apk_0 e, fun q => absurd q hp⟩
  have stp2 : ∀ p, kM (ky l + stK gs l p) = kM (ky l) + 1 ∧ kT (ky l + stK gs l p) ≤ kT (ky l) + 1 ∧ kC (ky l + stK gs l p) = kC (ky l) + len (lH l) * unt gs (lC l) := by
    intro p
    have q := k_step (k := ky l) (L := len (lH l) * unt gs (lC l)) (t := tbit l p) (by omega) (by omega) (tbit_le l p)
    have q2 := tbit_le l p
    unfold stK
    omega
  have hLL := stK_le hB l
  have cl : ∀ p, aps (ofs gs w hh fr mo sh ky l) (va_up st l 2) p = 2 → (p = l ∨ st p = 2) ∧ apk (ofs gs w hh fr mo sh ky l) (va_up st l 2) ky p = ky p := by
    intro p hp
    rcases key p with ⟨a, b, -⟩ | ⟨-, -, -, a, -⟩
    · rw [a] at hp; exact ⟨s2 p hp, b⟩
    · omega
  have clk : ∀ p, (p = l ∨ st p = 2) → ky p ≤ ky l := by
    intro p hp
    rcases hp with rfl | hp
    · exact Nat.le_refl _
    · exact i3 p l hp l1
  have cls : ∀ p, (p = l ∨ st p = 2) → aps (ofs gs w hh fr mo sh ky l) (va_up st l 2) p = 2 ∧ apk (ofs gs w hh fr mo sh ky l) (va_up st l 2) ky p = ky p := by
    intro p hp
    rcases key p with ⟨a, b, -⟩ | ⟨-, a, a2, -, -⟩
    · refine ⟨?_, b⟩
      rw [a]
      rcases hp with rfl | hp
      · exact sl
      · by_cases e : p = l
        · rw [e]; exact sl
        · rw [sn p e]; exact hp
    · rcases hp with hp | hp
      · exact absurd hp a
      · exact absurd hp a2
  refine ⟨fun p => ?_, fun p hp => ?_, fun p q hp hq => ?_, fun l' p hl' hp => ?_, fun p hp => ?_, fun p hp => ?_⟩
  · rcases key p with ⟨a, -⟩ | ⟨-, -, -, a, -⟩
    · rw [a]
      by_cases e : p = l
      · rw [e, sl]; omega
      · rw [sn p e]; exact i1 p
    · omega
  · rcases key p with ⟨a, b, -⟩ | ⟨a0, -, -, -, b, -⟩
    · rw [b]
      rw [a] at hp
      have : st p ≠ 0 := by
        by_cases e : p = l
        · rw [e]; omega
        · rw [sn p e] at hp; exact hp
      obtain ⟨j1, j2, j3, j4⟩ := i2 p this
      exact ⟨j1, by omega, by omega, Nat.le_trans j4 (Nat.mul_le_mul_right _ (Nat.le_succ n))⟩
    · rw [b]
      have q := stp2 p
      exact ⟨a0.vld, by omega, by omega, by rw [q.2.2, Nat.succ_mul]; exact Nat.add_le_add bl.2.2 hLL⟩
  · obtain ⟨c1, c2⟩ := cl p hp
    rw [c2]
    have c3 := clk p c1
    rcases key q with ⟨a, b, -⟩ | ⟨-, -, -, -, b, -⟩
    · rw [b]
      rw [a] at hq
      have e : q ≠ l := fun e => by rw [e, sl] at hq; omega
      rw [sn q e] at hq
      have := l2 q hq
      omega
    · rw [b]; omega
  · obtain ⟨c1, c2⟩ := cl l' hl'
    rw [c2]
    rcases c1 with e | c1
    · subst e
      rcases key p with ⟨a, b, c⟩ | ⟨-, -, -, a, b, -⟩
      · rw [a, b]
        rcases c hp with c | c
        · have := clk p (s2 p c)
          refine ⟨by omega, by omega⟩
        · exact ⟨by omega, c.2⟩
      · rw [a, b]; exact ⟨by omega, Nat.le_refl _⟩
    · obtain ⟨j1, j2⟩ := i4 l' p c1 hp
      rcases key p with ⟨a, b, c⟩ | ⟨-, -, a0, a, b, c⟩
      · rw [a, b]
        refine ⟨?_, j2⟩
        by_cases e : p = l
        · rw [e, sl]; omega
        · rw [sn p e]; exact j1
      · rw [a, b]
        have := i1 p
        have := c (by omega)
        exact ⟨by omega, by omega⟩
  · rcases key p with ⟨a, b, -⟩ | ⟨a0, -, -, -, b, -⟩
    · rw [b]
      rw [a] at hp
      have : st p ≠ 0 := by
        by_cases e : p = l
        · rw [e]; omega
        · rw [sn p e] at hp; exact hp
      rcases i5 p this with j | ⟨l', j1, j2, j3⟩
      · exact Or.inl j
      · obtain ⟨k1, k2⟩ := cls l' (Or.inr j1)
        exact Or.inr ⟨l', k1, j2, by rw [k2]; exact j3⟩
    · obtain ⟨k1, k2⟩ := cls l (Or.inl rfl)
      exact Or.inr ⟨l, k1, a0, by rw [b, k2]⟩
  · obtain ⟨c1, c2⟩ := cl p hp
    rcases c1 with e | c1
    · rw [e]; exact h16
    · exact i6 p c1
end SR
