/-! WRITES TO THE GROUND: both sides -/
theorem gsu_s (gs : mG) (f i v : Nat) : gsu gs f i v f i = v := by unfold gsu; rw [if_pos ⟨rfl, rfl⟩]
theorem gsu_f (gs : mG) {f g : Nat} (i v j : Nat) (h : g ≠ f) : gsu gs f i v g j = gs g j := by unfold gsu; rw [if_neg (fun q => h q.1)]
theorem gsu_i (gs : mG) (f : Nat) {i j : Nat} (v : Nat) (h : j ≠ i) : gsu gs f i v f j = gs f j := by unfold gsu; rw [if_neg (fun q => h q.2)]
theorem gsu_fun (gs : mG) (f i v : Nat) : (fun c => nI (gsu gs f i v f c)) = va_up (fun c => nI (gs f c)) i (nI v) := by
  funext c
  by_cases e : c = i
  · subst e; rw [va_up_self, gsu_s]
  · rw [va_up_ne _ _ e, gsu_i _ _ _ e]
/-- the bounds stay -/
theorem GB.put {gs : mG} (hB : GB gs) {f i v : Nat} (h : (f = 0 ∧ v ≤ 999) ∨ (f = 1 ∧ v ≤ 9999) ∨ (f = 2 ∧ v ≤ 1) ∨ (f = 3 ∧ v ≤ 3) ∨ (f = 4 ∧ v ≤ 9999) ∨ (f = 5 ∧ v ≤ 7) ∨ (f = 6 ∧ v ≤ 3) ∨ (f = 7 ∧ v ≤ 999) ∨ (f = 8 ∧ v ≤ 1200)) : GB (gsu gs f i v) := by
  obtain ⟨b0, b1, b2, b3, b4, b5, b6, b7, b8, b9, b10, b11⟩ := hB
  have hf : f ≠ 9 := by omega
  have key : ∀ g j B, (∀ j, gs g j ≤ B) → (f = g → v ≤ B) → gsu gs f i v g j ≤ B := by
    intro g j B q1 q2
    unfold gsu
    split
    · next e => exact q2 e.1.symm
    · exact q1 j
  refine ⟨fun j => key 0 j _ b0 (by omega), fun j => key 1 j _ b1 (by omega), fun j => key 2 j _ b2 (by omega), fun j => key 3 j _ b3 (by omega), fun j => key 4 j _ b4 (by omega), fun j => key 5 j _ b5 (by omega), fun j => key 6 j _ b6 (by omega), fun j => key 7 j _ b7 (by omega), fun j => key 8 j _ b8 (by omega), ?_, ?_, ?_⟩
  · rw [gsu_f _ _ _ _ (by omega)]; exact b9
  · rw [gsu_f _ _ _ _ (by omega)]; exact b10
  · rw [gsu_f _ _ _ _ (by omega)]; exact b11
/-- cells that are not among the ground's may change -/
theorem XG.kept {h h' : mxH} {w hh : Nat} {gs : mG} (hX : XG h w hh gs) (hk : ∀ k, 17 ≤ k → k ≤ 29 → h'.1 k = h.1 k) : XG h' w hh gs := by
  obtain ⟨x17, x18, x19, x20, x21, x22, x23, x24, x25, x26, x27, x28, x29⟩ := hX
  refine ⟨?_, ?_, ?_, ?_, ?_, ?_, ?_, ?_, ?_, ?_, ?_, ?_, ?_⟩ <;> (rw [hk _ (by decide) (by decide)]; assumption)
theorem MG.kept {h h' : mxH} {w hh : Nat} {gs : mG} (hM : MG h w hh gs) (hk : ∀ k, 58 ≤ k → k ≤ 67 → h'.1 k = h.1 k) : MG h' w hh gs := by
  obtain ⟨⟨fd, hd, nd, bd, pv, fr, en, sm, sz, x58⟩, x59, x60, x61, x62, x63, x64, x65, x66, x67⟩ := hM
  refine ⟨⟨fd, hd, nd, bd, pv, fr, en, sm, sz, ?_⟩, ?_, ?_, ?_, ?_, ?_, ?_, ?_, ?_, ?_⟩ <;> (rw [hk _ (by decide) (by decide)]; assumption)
