/-! THE WAY THAT A SEARCH FINDS -/
theorem dxl_rev {d : Nat} (hd : d < 16) : dxl.getD ((d + 8) % 16) 0 = - dxl.getD d 0 := by
  have : ∀ d : Fin 16, dxl.getD ((d.val + 8) % 16) 0 = - dxl.getD d.val 0 := by decide +kernel
  exact this ⟨d, hd⟩
theorem dyl_rev {d : Nat} (hd : d < 16) : dyl.getD ((d + 8) % 16) 0 = - dyl.getD d 0 := by
  have : ∀ d : Fin 16, dyl.getD ((d.val + 8) % 16) 0 = - dyl.getD d.val 0 := by decide +kernel
  exact this ⟨d, hd⟩
theorem nbr_rev {w hh c d n : Nat} (hd : d < 16) (hw : 0 < w) (hc : c < w * hh) (h : nbr w hh c d = some n) : nbr w hh n ((d + 8) % 16) = some c := by
  unfold nbr at h
  split at h
  · next e =>
    obtain ⟨e1, e2, e3, e4⟩ := e
    have hn := (Option.some.inj h).symm
    have hcw : c % w < w := Nat.mod_lt _ hw
    have hch : c / w < hh := by
      rw [Nat.div_lt_iff_lt_mul hw, Nat.mul_comm]
      exact hc
    generalize hX : (c % w : Int) + dxl.getD d 0 = X at *
    generalize hY : (c / w : Int) + dyl.getD d 0 = Y at *
    have m1 : n % w = X.toNat := by
      rw [hn, Nat.mul_comm, Nat.mul_add_mod]
      exact Nat.mod_eq_of_lt (by omega)
    have m2 : n / w = Y.toNat := by
      rw [hn, Nat.mul_comm, Nat.mul_add_div hw, Nat.div_eq_of_lt (by omega)]
      omega
    unfold nbr
    have g1 : ((n : Int) % (w : Int)) = X := by
      rw [← Int.natCast_emod, m1]; omega
    have g2 : ((n : Int) / (w : Int)) = Y := by
      rw [← Int.natCast_ediv, m2]; omega
    have g3 : ((c : Int) % (w : Int)) = ((c % w : Nat) : Int) := (Int.natCast_emod _ _).symm
    have g4 : ((c : Int) / (w : Int)) = ((c / w : Nat) : Int) := (Int.natCast_ediv _ _).symm
    rw [g1, g2, dxl_rev hd, dyl_rev hd]
    rw [g3] at hX
    rw [g4] at hY
    have x1 : X + - dxl.getD d 0 = ((c % w : Nat) : Int) := by omega
    have y1 : Y + - dyl.getD d 0 = ((c / w : Nat) : Int) := by omega
    rw [x1, y1, if_pos ⟨Int.natCast_nonneg _, Int.ofNat_lt.mpr hcw, Int.natCast_nonneg _, Int.ofNat_lt.mpr hch⟩]
    congr 1
    have := Nat.div_add_mod c w
    rw [Int.toNat_natCast, Int.toNat_natCast, Nat.mul_comm]
    exact this
  · cases h
theorem mod8 {d : Nat} (hd : d < 16) : ((d + 8) % 16 + 8) % 16 = d := by omega
def nxl (gs : mG) (w hh : Nat) (sh : Nat → Nat) (p d : Nat) : Option Nat := match mvf gs w hh (lC p) (lH p) d with
  | none => none
  | some n => if brg gs n = true ∧ ¬ lR p < gs 3 n then none else if lS p < sh n then none else some (lab n d (if brg gs n = true then lR p + 1 else 0) (lS p - sh n))
def cnd (gs : mG) (w hh : Nat) (sh st ky : Nat → Nat) (p d : Nat) : Option Nat := match nxl gs w hh sh p d with
  | none => none
  | some l => if st l = 2 ∧ ky l + stK gs l p = ky p then some l else none
def bst (gs : mG) (w hh : Nat) (sh st ky : Nat → Nat) (p : Nat) : Nat → Option Nat
  | 0 => none
  | d + 1 => match cnd gs w hh sh st ky p d with
    | none => bst gs w hh sh st ky p d
    | some l => match bst gs w hh sh st ky p d with
      | none => some l
      | some b => if lC l < lC b then some l else some b
def wy (gs : mG) (w hh : Nat) (sh st ky : Nat → Nat) (g : Nat) : Nat → Nat
  | 0 => g
  | k + 1 => (bst gs w hh sh st ky (wy gs w hh sh st ky g k) 16).getD 0
section WY
variable {gs : mG} {w hh fr en mo : Nat} {sh st ky : Nat → Nat}
theorem nxl_pre {p d l : Nat} (hB : GB gs) (hw : 0 < w) (hd : d < 16) (hp : vld gs w hh fr mo p) (hl : nxl gs w hh sh p d = some l) : pre gs w hh fr mo sh l p ∧ lH l = d ∧ vld gs w hh fr mo l := by
  obtain ⟨v1, v2, v3, v4, v5, v6, v7⟩ := hp
  unfold nxl at hl
  cases hm : mvf gs w hh (lC p) (lH p) d with
  | none => rw [hm] at hl; cases hl
  | some n =>
    rw [hm] at hl
    dsimp only at hl
    split at hl
    · cases hl
    · next c1 =>
      split at hl
      · cases hl
      · next c2 =>
        have he := (Option.some.inj hl).symm
        unfold mvf at hm
        split at hm
        · cases hm
        · next c3 =>
          cases hq : nbr w hh (lC p) d with
          | none => rw [hq] at hm; cases hm
          | some n' =>
            rw [hq] at hm
            dsimp only at hm
            split at hm
            · cases hm
            · next c4 =>
              have b3 := hB.2.2.2.1 n
              have b9 := hB.2.2.2.2.2.2.2.2.2.1
              have hnn : n' = n := by
                split at hm
                · exact Option.some.inj hm
                · split at hm
                  · exact Option.some.inj hm
                  · cases hm
              subst hnn
              have sp := lS_le p
              have rr : (if brg gs n' = true then lR p + 1 else 0) ≤ 3 := by
                split
                · next z => have : lR p < gs 3 n' := Decidable.byContradiction fun q => c1 ⟨z, q⟩
                            omega
                · omega
              have kC' : lC l = n' := by rw [he]; exact lC_lab (by omega) rr (by omega)
              have kH' : lH l = d := by rw [he]; exact lH_lab (by omega) rr (by omega)
              have kR' : lR l = (if brg gs n' = true then lR p + 1 else 0) := by rw [he]; exact lR_lab (by omega) rr (by omega)
              have kS' : lS l = lS p - sh n' := by rw [he]; exact lS_lab (by omega) rr (by omega)
              have hs : sht gs n' = false ∧ stp gs (lC p) n' = false := by
                constructor
                · cases z : sht gs n' with
                  | false => rfl
                  | true => exact absurd (Or.inl z) c4
                · cases z : stp gs (lC p) n' with
                  | false => rfl
                  | true => exact absurd (Or.inr z) c4
              have hdd : hdg gs d = true := by
                unfold hdg
                rw [Bool.or_eq_true, decide_eq_true_eq, decide_eq_true_eq]
                rcases b9 with z | z
                · right
                  exact Decidable.byContradiction fun q => c3 ⟨z, q⟩
                · exact Or.inl z
              refine ⟨⟨?_, v2, ?_, ?_, v7, v5, v6, ?_, ?_, ?_⟩, kH', ⟨?_, ?_, ?_, ?_, ?_, ?_, ?_⟩⟩
              · rw [kC', kH']; exact nbr_rev hd hw v1 hq
              · rw [kC']; exact hs.2
              · rw [kC', kS']; omega
              · rw [kC', kR']; intro z; rw [if_pos z]
              · by_cases z : lH p = 16
                · exact Or.inr ⟨z, v3 z⟩
                · left
                  refine ⟨by have := lH_le p; omega, v4 z, ?_⟩
                  rw [kC', kH']
                  unfold fol
                  split at hm
                  · next c5 =>
                    rcases c5 with c5 | c5
                    · exact absurd c5 z
                    · simp [c5]
                  · split at hm
                    · next c6 => simp [c6.1, c6.2.1, c6.2.2]
                    · cases hm
              · omega
              · rw [kC']; exact nbr_lt hq
              · rw [kC']; exact hs.1
              · rw [kH']; omega
              · rw [kH']; exact fun _ => hdd
              · rw [kC', kR']
                intro z
                rw [if_pos z]
                have : lR p < gs 3 n' := Decidable.byContradiction fun q => c1 ⟨z, q⟩
                omega
              · rw [kC', kR']
                intro z
                rw [z]
                rfl
              · omega
theorem pre_nxl {p l : Nat} (hw : 0 < w) (h : pre gs w hh fr mo sh l p) (hl : vld gs w hh fr mo l) : nxl gs w hh sh p (lH l) = some l := by
  obtain ⟨h1, h2, h3, h4, h5, h6, h7, h8, h9, h10⟩ := h
  obtain ⟨v1, v2, v3, v4, v5, v6, v7⟩ := hl
  have hq := nbr_rev (d := (lH l + 8) % 16) (by omega) hw v1 h1
  rw [mod8 h10] at hq
  have hd := v4 (by omega)
  have e1 : ¬ (gs 9 0 = 1 ∧ lH l % 2 ≠ 0) := by
    unfold hdg at hd
    rw [Bool.or_eq_true, decide_eq_true_eq, decide_eq_true_eq] at hd
    omega
  have hm : mvf gs w hh (lC p) (lH p) (lH l) = some (lC l) := by
    unfold mvf
    rw [if_neg e1, hq]
    dsimp only
    rw [if_neg (by rw [v2, h3]; simp)]
    by_cases c : lH p = 16 ∨ lH p = lH l
    · rw [if_pos c]
    · rw [if_neg c]
      rcases h9 with z | z
      · have z3 := z.2.2
        unfold fol at z3
        have c1 : ¬ lH p = 16 := fun q => c (Or.inl q)
        have c2 : ¬ lH p = lH l := fun q => c (Or.inr q)
        simp [c1, c2] at z3
        rw [if_pos ⟨z3.2, z3.1.1, z3.1.2⟩]
      · exact absurd (Or.inl z.1) c
  unfold nxl
  rw [hm]
  dsimp only
  rw [if_neg, if_neg]
  · congr 1
    refine Eq.trans ?_ (lab_eta l)
    have e2 : (if brg gs (lC l) = true then lR p + 1 else 0) = lR l := by
      cases z : brg gs (lC l) with
      | true => exact h8 z
      | false => exact (v6 z).symm
    rw [e2, show lS p - sh (lC l) = lS l by omega]
  · omega
  · rintro ⟨z1, z2⟩
    have := v5 z1
    have := h8 z1
    omega
theorem cnd_some {p d l : Nat} (h : cnd gs w hh sh st ky p d = some l) : nxl gs w hh sh p d = some l ∧ st l = 2 ∧ ky l + stK gs l p = ky p := by
  unfold cnd at h
  cases hq : nxl gs w hh sh p d with
  | none => rw [hq] at h; cases h
  | some l' =>
    rw [hq] at h
    dsimp only at h
    split at h
    · next c => cases h; exact ⟨rfl, c⟩
    · cases h
theorem bst_some {p : Nat} : ∀ {n l : Nat}, bst gs w hh sh st ky p n = some l → ∃ d, d < n ∧ cnd gs w hh sh st ky p d = some l
  | 0, l, h => by cases h
  | n + 1, l, h => by
    rw [bst] at h
    cases hc : cnd gs w hh sh st ky p n with
    | none =>
      rw [hc] at h
      obtain ⟨d, a, b⟩ := bst_some h
      exact ⟨d, by omega, b⟩
    | some l' =>
      rw [hc] at h
      dsimp only at h
      cases hb : bst gs w hh sh st ky p n with
      | none =>
        rw [hb] at h
        cases h
        exact ⟨n, by omega, hc⟩
      | some b =>
        rw [hb] at h
        dsimp only at h
        split at h
        · cases h; exact ⟨n, by omega, hc⟩
        · cases h
          obtain ⟨d, a, b⟩ := bst_some hb
          exact ⟨d, by omega, b⟩
theorem bst_ex {p d l : Nat} (h : cnd gs w hh sh st ky p d = some l) : ∀ n, d < n → ∃ b, bst gs w hh sh st ky p n = some b
  | 0, q => by omega
  | n + 1, q => by
    rw [bst]
    cases hc : cnd gs w hh sh st ky p n with
    | none =>
      have : d ≠ n := fun e => by rw [e, hc] at h; cases h
      exact bst_ex h n (by omega)
    | some l' =>
      cases hb : bst gs w hh sh st ky p n with
      | none => exact ⟨l', rfl⟩
      | some b =>
        dsimp only
        split
        · exact ⟨_, rfl⟩
        · exact ⟨_, rfl⟩
/-- what holds of the labels when the goal is closed -/
def GI (gs : mG) (w hh fr en mo : Nat) (sh : Nat → Nat) (g : Nat) (st ky : Nat → Nat) : Prop :=
  (∀ p, st p ≤ 2) ∧ (∀ p, st p ≠ 0 → vld gs w hh fr mo p ∧ kM (ky p) ≤ 100000 ∧ kT (ky p) ≤ 100000 ∧ kC (ky p) ≤ 100000 * 132157080) ∧
  (∀ l p, st l = 2 → pre gs w hh fr mo sh l p → st p ≠ 0 ∧ ky p ≤ ky l + stK gs l p) ∧
  (∀ p, st p ≠ 0 → (ky p = 0 ∧ isE gs en p) ∨ ∃ l, st l = 2 ∧ pre gs w hh fr mo sh l p ∧ ky p = ky l + stK gs l p) ∧
  (∀ q, st q = 1 → ky g ≤ ky q) ∧ (∀ p, st p = 2 → lH p = 16 → p = g) ∧ st g = 2 ∧ lH g = 16
theorem SI.goal {n g : Nat} (hI : SI gs w hh fr en mo sh n st ky) (hn : n ≤ 100000) (hl : leaP st ky g) (h16 : lH g = 16) : GI gs w hh fr en mo sh g (va_up st g 2) ky := by
  obtain ⟨i1, i2, i3, i4, i5, i6⟩ := hI
  obtain ⟨l1, l2⟩ := hl
  have sl : va_up st g 2 g = 2 := va_up_self _ _ _
  have sn : ∀ p, p ≠ g → va_up st g 2 p = st p := fun p hp => va_up_ne _ _ hp
  have s0 : ∀ p, va_up st g 2 p ≠ 0 → st p ≠ 0 := fun p hp => by
    by_cases e : p = g
    · rw [e]; omega
    · rw [sn p e] at hp; exact hp
  have s0' : ∀ p, st p ≠ 0 → va_up st g 2 p ≠ 0 := fun p hp => by
    by_cases e : p = g
    · rw [e, sl]; omega
    · rw [sn p e]; exact hp
  refine ⟨fun p => ?_, fun p hp => ?_, fun l p hl hp => ?_, fun p hp => ?_, fun q hq => ?_, fun p hp h => ?_, sl, h16⟩
  · by_cases e : p = g
    · rw [e, sl]; omega
    · rw [sn p e]; exact i1 p
  · obtain ⟨a, b, c, d⟩ := i2 p (s0 p hp)
    exact ⟨a, by omega, by omega, Nat.le_trans d (Nat.mul_le_mul_right _ hn)⟩
  · have e : l ≠ g := fun e => by have := hp.2.2.2.2.2.2.2.2.2; rw [e] at this; omega
    rw [sn l e] at hl
    obtain ⟨a, b⟩ := i4 l p hl hp
    exact ⟨s0' p a, b⟩
  · rcases i5 p (s0 p hp) with j | ⟨l, a, b, c⟩
    · exact Or.inl j
    · have e : l ≠ g := fun e => by rw [e] at a; omega
      exact Or.inr ⟨l, by rw [sn l e]; exact a, b, c⟩
  · have e : q ≠ g := fun e => by rw [e, sl] at hq; omega
    rw [sn q e] at hq
    have := l2 q hq
    omega
  · by_cases e : p = g
    · exact e
    · rw [sn p e] at hp
      exact absurd h (i6 p hp)
theorem kM_0 {k : Nat} (h : k = 0) : kM k = 0 := by rw [h]; rfl
/-- one step on the way -/
theorem GI.next {g p : Nat} (hB : GB gs) (hw : 0 < w) (hG : GI gs w hh fr en mo sh g st ky) (hp : st p = 2) (hm : 0 < kM (ky p)) : ∃ l, bst gs w hh sh st ky p 16 = some l ∧ st l = 2 ∧ pre gs w hh fr mo sh l p ∧ ky p = ky l + stK gs l p ∧ kM (ky p) = kM (ky l) + 1 ∧ lH l < 16 ∧ vld gs w hh fr mo l := by
  obtain ⟨i1, i2, i3, i4, i5, i6, i7, i8⟩ := hG
  have vp := (i2 p (by omega)).1
  rcases i4 p (by omega) with j | ⟨l, a, b, c⟩
  · rw [kM_0 j.1] at hm; omega
  · have vl := (i2 l (by omega)).1
    have hn := pre_nxl hw b vl
    have hc : cnd gs w hh sh st ky p (lH l) = some l := by
      unfold cnd
      rw [hn]
      dsimp only
      rw [if_pos ⟨a, c.symm⟩]
    obtain ⟨l', hb⟩ := bst_ex hc 16 b.2.2.2.2.2.2.2.2.2
    obtain ⟨d, hd, hc'⟩ := bst_some hb
    obtain ⟨n1, n2, n3⟩ := cnd_some hc'
    obtain ⟨p1, p2, p3⟩ := nxl_pre hB hw hd vp n1
    refine ⟨l', hb, n2, p1, n3.symm, ?_, by omega, p3⟩
    have q := i2 l' (by omega)
    have := (k_step (k := ky l') (L := len (lH l') * unt gs (lC l')) (t := tbit l' p) (by omega) (by omega) (tbit_le _ _)).2.2
    rw [← n3]
    exact this
theorem GI.way {g : Nat} (hB : GB gs) (hw : 0 < w) (hG : GI gs w hh fr en mo sh g st ky) : ∀ k, k ≤ kM (ky g) → st (wy gs w hh sh st ky g k) = 2 ∧ kM (ky (wy gs w hh sh st ky g k)) + k = kM (ky g) ∧ (0 < k → lH (wy gs w hh sh st ky g k) < 16)
  | 0, _ => ⟨hG.2.2.2.2.2.2.1, rfl, fun q => by omega⟩
  | k + 1, hk => by
    obtain ⟨a, b, -⟩ := GI.way hB hw hG k (by omega)
    obtain ⟨l, n1, n2, n3, n4, n5, n6, n7⟩ := hG.next hB hw a (by omega)
    have e : wy gs w hh sh st ky g (k + 1) = l := by rw [wy, n1]; rfl
    rw [e]
    exact ⟨n2, by omega, fun _ => n6⟩
theorem GI.step {g : Nat} (hB : GB gs) (hw : 0 < w) (hG : GI gs w hh fr en mo sh g st ky) {k : Nat} (hk : k < kM (ky g)) : bst gs w hh sh st ky (wy gs w hh sh st ky g k) 16 = some (wy gs w hh sh st ky g (k + 1)) ∧ pre gs w hh fr mo sh (wy gs w hh sh st ky g (k + 1)) (wy gs w hh sh st ky g k) ∧ ky (wy gs w hh sh st ky g k) = ky (wy gs w hh sh st ky g (k + 1)) + stK gs (wy gs w hh sh st ky g (k + 1)) (wy gs w hh sh st ky g k) := by
  obtain ⟨a, b, -⟩ := hG.way hB hw k (by omega)
  obtain ⟨l, n1, n2, n3, n4, n5, n6, n7⟩ := hG.next hB hw a (by omega)
  have e : wy gs w hh sh st ky g (k + 1) = l := by rw [wy, n1]; rfl
  rw [e]
  exact ⟨n1, n3, n4⟩
theorem GI.end {g : Nat} (hB : GB gs) (hw : 0 < w) (hG : GI gs w hh fr en mo sh g st ky) : lC (wy gs w hh sh st ky g (kM (ky g))) = en := by
  obtain ⟨a, b, -⟩ := hG.way hB hw (kM (ky g)) (Nat.le_refl _)
  rcases hG.2.2.2.1 _ (by rw [a]; omega) with j | ⟨l, c, d, e⟩
  · exact j.2.1
  · have q := hG.2.1 l (by omega)
    have := (k_step (k := ky l) (L := len (lH l) * unt gs (lC l)) (t := tbit l (wy gs w hh sh st ky g (kM (ky g)))) (by omega) (by omega) (tbit_le _ _)).2.2
    have e2 : kM (ky (wy gs w hh sh st ky g (kM (ky g)))) = kM (ky l) + 1 := by rw [e]; exact this
    omega
end WY
