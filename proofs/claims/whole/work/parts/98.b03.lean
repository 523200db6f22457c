/-! THE WAY IS SHORT; how a search begins and ends -/
section WB
variable {gs : mG} {w hh fr en mo : Nat} {sh st ky : Nat → Nat}
/-- along a way the number of bridged cells is a matter of cell and heading -/
theorem GI.rdet {g : Nat} (hB : GB gs) (hw : 0 < w) (hfr : brg gs fr = false) (hG : GI gs w hh fr en mo sh g st ky) : ∀ i j, i ≤ kM (ky g) → j ≤ kM (ky g) → lC (wy gs w hh sh st ky g i) = lC (wy gs w hh sh st ky g j) → lH (wy gs w hh sh st ky g i) = lH (wy gs w hh sh st ky g j) → lR (wy gs w hh sh st ky g i) = lR (wy gs w hh sh st ky g j) := by
  have va : ∀ i, i ≤ kM (ky g) → vld gs w hh fr mo (wy gs w hh sh st ky g i) := fun i hi => (hG.2.1 _ (by rw [(hG.way hB hw i hi).1]; omega)).1
  intro i
  induction i with
  | zero =>
    intro j hi hj hc hh'
    have h16 : lH (wy gs w hh sh st ky g 0) = 16 := hG.2.2.2.2.2.2.2
    have j0 : j = 0 := by
      by_cases z : j = 0
      · exact z
      · have := (hG.way hB hw j hj).2.2 (by omega)
        omega
    rw [j0]
  | succ i ih =>
    intro j hi hj hc hh'
    cases hb : brg gs (lC (wy gs w hh sh st ky g (i + 1))) with
    | false =>
      rw [(va _ hi).2.2.2.2.2.1 hb, (va _ hj).2.2.2.2.2.1 (by rw [← hc]; exact hb)]
    | true =>
      have hlt := (hG.way hB hw (i + 1) hi).2.2 (by omega)
      obtain ⟨j, rfl⟩ : ∃ q, j = q + 1 := by
        cases j with
        | zero =>
          have h16 : lH (wy gs w hh sh st ky g 0) = 16 := hG.2.2.2.2.2.2.2
          omega
        | succ q => exact ⟨q, rfl⟩
      obtain ⟨-, p1, -⟩ := hG.step hB hw (k := i) (by omega)
      obtain ⟨-, p2, -⟩ := hG.step hB hw (k := j) (by omega)
      have vi := va i (by omega)
      have vj := va j (by omega)
      generalize wy gs w hh sh st ky g (i + 1) = li at *
      generalize wy gs w hh sh st ky g (j + 1) = lj at *
      obtain ⟨a1, a2, a3, a4, a5, a6, a7, a8, a9, a10⟩ := p1
      obtain ⟨b1, b2, b3, b4, b5, b6, b7, b8, b9, b10⟩ := p2
      have e1 := a8 hb
      have e2 := b8 (by rw [← hc]; exact hb)
      have ec : lC (wy gs w hh sh st ky g i) = lC (wy gs w hh sh st ky g j) := by
        have z := a1
        rw [hc, hh', b1] at z
        exact (Option.some.inj z).symm
      have ih' := ih j (by omega) (by omega) ec
      generalize wy gs w hh sh st ky g i = pi at *
      generalize wy gs w hh sh st ky g j = pj at *
      cases hbp : brg gs (lC pi) with
      | false =>
        have z1 := a7 hbp
        have z2 := b7 (by rw [← ec]; exact hbp)
        omega
      | true =>
        have hne : lC pi ≠ fr := fun z => by rw [z, hfr] at hbp; cases hbp
        have g1 : lH pi = lH li := by
          rcases a9 with z | z
          · have z3 := z.2.2
            unfold fol at z3
            simp [hb, hbp] at z3
            omega
          · exact absurd z.2 hne
        have g2 : lH pj = lH lj := by
          rcases b9 with z | z
          · have z3 := z.2.2
            unfold fol at z3
            rw [← ec, hbp] at z3
            simp at z3
            omega
          · exact absurd (ec.trans z.2) hne
        have := ih' (by omega)
        omega
/-- a label with fewer shared cells to come -/
def lsub (p d : Nat) : Nat := lab (lC p) (lH p) (lR p) (lS p - d)
theorem lsub_f (p d : Nat) : lC (lsub p d) = lC p ∧ lH (lsub p d) = lH p ∧ lR (lsub p d) = lR p ∧ lS (lsub p d) = lS p - d := by
  have h1 := lH_le p; have h2 := lR_le p; have h3 := lS_le p
  unfold lsub
  exact ⟨lC_lab h1 h2 (by omega), lH_lab h1 h2 (by omega), lR_lab h1 h2 (by omega), lS_lab h1 h2 (by omega)⟩
theorem pre.sub {l p d : Nat} (h : pre gs w hh fr mo sh l p) (hd : d ≤ lS l) : pre gs w hh fr mo sh (lsub l d) (lsub p d) := by
  obtain ⟨l1, l2, l3, l4⟩ := lsub_f l d
  obtain ⟨p1, p2, p3, p4⟩ := lsub_f p d
  obtain ⟨h1, h2, h3, h4, h5, h6, h7, h8, h9, h10⟩ := h
  unfold pre
  rw [l1, l2, l3, l4, p1, p2, p3, p4]
  exact ⟨h1, h2, h3, by omega, by omega, h6, h7, h8, h9, h10⟩
theorem stK_sub (l p d : Nat) : stK gs (lsub l d) (lsub p d) = stK gs l p := by
  obtain ⟨l1, l2, l3, l4⟩ := lsub_f l d
  obtain ⟨p1, p2, p3, p4⟩ := lsub_f p d
  unfold stK tbit
  rw [l1, l2, p2]
theorem stK_pos (l p : Nat) : 0 < stK gs l p := by unfold stK; omega
theorem GI.inj {g : Nat} (hB : GB gs) (hw : 0 < w) (hfr : brg gs fr = false) (hG : GI gs w hh fr en mo sh g st ky) {i j : Nat} (hij : i < j) (hj : j ≤ kM (ky g)) (hc : lC (wy gs w hh sh st ky g i) = lC (wy gs w hh sh st ky g j)) (hh' : lH (wy gs w hh sh st ky g i) = lH (wy gs w hh sh st ky g j)) : False := by
  have hr := hG.rdet hB hw hfr i j (by omega) hj hc hh'
  have dec : ∀ k d, k + d ≤ kM (ky g) → lS (wy gs w hh sh st ky g (k + d)) ≤ lS (wy gs w hh sh st ky g k) ∧ ky (wy gs w hh sh st ky g (k + d)) + d ≤ ky (wy gs w hh sh st ky g k) := by
    intro k d
    induction d with
    | zero => intro _; exact ⟨Nat.le_refl _, Nat.le_refl _⟩
    | succ d ih =>
      intro hk
      obtain ⟨a, b⟩ := ih (by omega)
      obtain ⟨-, p1, p2⟩ := hG.step hB hw (k := k + d) (by omega)
      have q := stK_pos (gs := gs) (wy gs w hh sh st ky g (k + d + 1)) (wy gs w hh sh st ky g (k + d))
      have q2 := p1.2.2.2.1
      refine ⟨?_, ?_⟩
      · show lS (wy gs w hh sh st ky g (k + d + 1)) ≤ _
        omega
      · show ky (wy gs w hh sh st ky g (k + d + 1)) + (d + 1) ≤ _
        omega
  obtain ⟨d1, d2⟩ := dec i (j - i) (by omega)
  rw [show i + (j - i) = j by omega] at d1 d2
  generalize hδ : lS (wy gs w hh sh st ky g i) - lS (wy gs w hh sh st ky g j) = δ
  have ei : lsub (wy gs w hh sh st ky g i) δ = wy gs w hh sh st ky g j := by
    obtain ⟨l1, l2, l3, l4⟩ := lsub_f (wy gs w hh sh st ky g i) δ
    exact lab_ext (l1.trans hc) (l2.trans hh') (l3.trans hr) (by omega)
  have key : ∀ t, t ≤ i → st (lsub (wy gs w hh sh st ky g (i - t)) δ) = 2 ∧ ky (lsub (wy gs w hh sh st ky g (i - t)) δ) < ky (wy gs w hh sh st ky g (i - t)) := by
    intro t
    induction t with
    | zero =>
      intro _
      rw [Nat.sub_zero, ei]
      exact ⟨(hG.way hB hw j hj).1, by omega⟩
    | succ t ih =>
      intro ht
      obtain ⟨a, b⟩ := ih (by omega)
      have es : i - t = (i - (t + 1)) + 1 := by omega
      rw [es] at a b
      generalize hk : i - (t + 1) = k at *
      obtain ⟨-, p1, p2⟩ := hG.step hB hw (k := k) (by omega)
      have q1 := (dec (k + 1) (i - (k + 1)) (by omega)).1
      rw [show k + 1 + (i - (k + 1)) = i by omega] at q1
      have q2 := p1.sub (d := δ) (by omega)
      obtain ⟨c1, c2⟩ := hG.2.2.1 _ _ a q2
      rw [stK_sub] at c2
      refine ⟨?_, by omega⟩
      have q3 := hG.1 (lsub (wy gs w hh sh st ky g k) δ)
      by_cases z : st (lsub (wy gs w hh sh st ky g k) δ) = 1
      · have q4 := hG.2.2.2.2.1 _ z
        have q5 := (dec 0 k (by omega)).2
        rw [Nat.zero_add] at q5
        have q6 : wy gs w hh sh st ky g 0 = g := rfl
        rw [q6] at q5
        omega
      · omega
  obtain ⟨a, b⟩ := key i (Nat.le_refl _)
  rw [Nat.sub_self] at a b
  have q6 : wy gs w hh sh st ky g 0 = g := rfl
  rw [q6] at a b
  have := hG.2.2.2.2.2.1 _ a (by rw [(lsub_f g δ).2.1]; exact hG.2.2.2.2.2.2.2)
  rw [this] at b
  omega
theorem GI.short {g : Nat} (hB : GB gs) (hw : 0 < w) (hn : w * hh ≤ 144) (hfr : brg gs fr = false) (hG : GI gs w hh fr en mo sh g st ky) : kM (ky g) ≤ 2304 := by
  refine pig 2304 (kM (ky g)) (fun k => 16 * lC (wy gs w hh sh st ky g (k + 1)) + lH (wy gs w hh sh st ky g (k + 1))) (fun k hk => ?_) (fun i j hi hj e => ?_)
  · obtain ⟨a, b, c⟩ := hG.way hB hw (k + 1) (by omega)
    have := (hG.2.1 _ (by rw [a]; omega)).1.1
    have := c (by omega)
    omega
  · have a := (hG.way hB hw (i + 1) (by omega)).2.2 (by omega)
    have b := (hG.way hB hw (j + 1) (by omega)).2.2 (by omega)
    have e1 : lC (wy gs w hh sh st ky g (i + 1)) = lC (wy gs w hh sh st ky g (j + 1)) := by omega
    have e2 : lH (wy gs w hh sh st ky g (i + 1)) = lH (wy gs w hh sh st ky g (j + 1)) := by omega
    by_cases z : i < j
    · exact (hG.inj hB hw hfr (by omega) (by omega) e1 e2).elim
    · by_cases z2 : j < i
      · exact (hG.inj hB hw hfr (by omega) (by omega) e1.symm e2.symm).elim
      · omega
/-- the offers at the start -/
noncomputable def of0 (gs : mG) (en : Nat) (p : Nat) : Option Nat := @ite (Option Nat) (isE gs en p) (Classical.propDecidable _) (some 0) none
noncomputable def st0 (gs : mG) (en : Nat) : Nat → Nat := aps (of0 gs en) (fun _ => 0)
noncomputable def ky0 (gs : mG) (en : Nat) : Nat → Nat := apk (of0 gs en) (fun _ => 0) (fun _ => 0)
theorem ky0_0 (en p : Nat) : ky0 gs en p = 0 := by
  unfold ky0 apk of0
  by_cases h : isE gs en p
  · rw [if_pos h]; simp
  · rw [if_neg h]
theorem st0_c (en p : Nat) : (isE gs en p ∧ st0 gs en p = 1) ∨ (¬ isE gs en p ∧ st0 gs en p = 0) := by
  unfold st0 aps of0
  by_cases h : isE gs en p
  · rw [if_pos h]; simp [h]
  · rw [if_neg h]; simp [h]
theorem SI.start (hen : en < w * hh) (hb : gs 2 en = 0) : SI gs w hh fr en mo sh 0 (st0 gs en) (ky0 gs en) := by
  have hs : sht gs en = false := by unfold sht; simp [hb]
  have hr : brg gs en = false := by unfold brg; simp [hb]
  refine ⟨fun p => ?_, fun p hp => ?_, fun p q hp hq => ?_, fun l p hl hp => ?_, fun p hp => ?_, fun p hp => ?_⟩
  · rcases st0_c (gs := gs) en p with z | z <;> omega
  · rcases st0_c (gs := gs) en p with z | z
    · obtain ⟨⟨e1, e2, e3, e4, e5⟩, -⟩ := z
      rw [ky0_0]
      refine ⟨⟨by omega, by rw [e1]; exact hs, by omega, fun _ => e5, (by rw [e1, hr]; intro q; cases q), fun _ => e3, by omega⟩, by decide, by decide, by decide⟩
    · omega
  · rw [ky0_0, ky0_0]; omega
  · rcases st0_c (gs := gs) en l with z | z <;> omega
  · rcases st0_c (gs := gs) en p with z | z
    · exact Or.inl ⟨ky0_0 en p, z.1⟩
    · omega
  · rcases st0_c (gs := gs) en p with z | z <;> omega
/-- there is a least one -/
theorem lea_ex {st ky : Nat → Nat} {N p : Nat} (hN : ∀ q, st q = 1 → q < N) (hp : st p = 1) : ∃ l, leaP st ky l := by
  obtain ⟨k, ⟨q, h1, h2⟩, h3⟩ := pk_least (fun k => ∃ q, st q = 1 ∧ ky q * N + q = k) ⟨_, p, hp, rfl⟩
  refine ⟨q, h1, fun r hr => ?_⟩
  have a := hN q h1
  have b := hN r hr
  have c : ¬ ky r * N + r < k := fun z => h3 _ z ⟨r, hr, rfl⟩
  by_cases e : ky q < ky r
  · exact Or.inl e
  · right
    by_cases e2 : ky r < ky q
    · have : (ky r + 1) * N ≤ ky q * N := Nat.mul_le_mul_right _ e2
      rw [Nat.succ_mul] at this
      omega
    · have : ky q = ky r := by omega
      rw [this] at h2
      exact ⟨this, by omega⟩
/-- what a search comes to -/
theorem srch_inv (hB : GB gs) (hn : w * hh ≤ 144) : ∀ (n k : Nat) (st ky : Nat → Nat) (la : Option Nat), SI gs w hh fr en mo sh k st ky → k + n ≤ 100000 → (∀ q, la = some q → kC q ≤ 100000 * 132157080) →
    ∀ o b la' st' ky', srch gs w hh fr mo sh n st ky la = ((o, b), la', st', ky') → (∀ q, la' = some q → kC q ≤ 100000 * 132157080) ∧ ∀ g, o = some g → GI gs w hh fr en mo sh g st' ky' := by
  intro n
  induction n with
  | zero =>
    intro k st ky la hI hk hla o b la' st' ky' h
    rw [srch] at h
    injection h with h1 h2
    injection h1 with h3 h4
    injection h2 with h5 h6
    subst h3 h5
    exact ⟨hla, fun g hg => by cases hg⟩
  | succ n ih =>
    intro k st ky la hI hk hla o b la' st' ky' h
    by_cases e : ∃ p, st p = 1
    · obtain ⟨p, hp⟩ := e
      obtain ⟨l, hl⟩ := lea_ex (ky := ky) (N := 88128) (fun q hq => lC_lt (hI.2.1 q (by omega)).1.1 hn) hp
      have bl := (hI.2.1 l (by rw [hl.1]; omega)).2.2.2
      have bl' : kC (ky l) ≤ 100000 * 132157080 := Nat.le_trans bl (Nat.mul_le_mul_right _ (by omega))
      by_cases h16 : lH l = 16
      · rw [srch_goal hl h16] at h
        injection h with h1 h2
        injection h1 with h3 h4
        injection h2 with h5 h6
        injection h6 with h7 h8
        subst h3 h5 h7 h8
        refine ⟨fun q hq => ?_, fun g hg => ?_⟩
        · cases hq; exact bl'
        · cases hg; exact hI.goal (by omega) hl h16
      · rw [srch_pop hl h16] at h
        exact ih (k + 1) _ _ _ (hI.pop hB (by omega) hl h16) (by omega) (fun q hq => by cases hq; exact bl') o b la' st' ky' h
    · rw [srch_none (fun p hp => e ⟨p, hp⟩)] at h
      injection h with h1 h2
      injection h1 with h3 h4
      injection h2 with h5 h6
      subst h3 h5
      exact ⟨hla, fun g hg => by cases hg⟩
end WB
