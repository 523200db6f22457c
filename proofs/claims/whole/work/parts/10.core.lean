/-! A SMALL MACHINE OVER NUMBERED CELLS: rows (one an instruction) that say what a step does to locals, stack and numbered cells; runs of it; what a run comes to ('mw', 'mcl'), as equations. -/
abbrev mxC : Type := (Nat × vp_A) ⊕ (Nat × List Value)
abbrev mxH : Type := (Nat → mxC) × Nat × Nat
abbrev mxL : Type := List (Option Value)
abbrev mxO : Type := Option ((Nat × mxL × List Value × mxH) ⊕ (Option Value ⊕ (Nat × List Value × Nat × List Value)))
abbrev mxI : Type := mxL → List Value → mxH → mxO
abbrev mxP : Type := Nat → Nat → Option mxI
def mx_nx (pc : Nat) (ls : mxL) (st : List Value) (h : mxH) : mxO := some (.inl (pc, ls, st, h))
def mx_rt (v : Option Value) : mxO := some (.inr (.inl v))
def mx_cl (m : Nat) (as : List Value) (pc : Nat) (st : List Value) : mxO := some (.inr (.inr (m, as, pc, st)))
/-- the locals at a call's start -/
def mx_ent : List Value → mxL
  | [] => []
  | .long x :: l => some (.long x) :: none :: mx_ent l
  | .double x :: l => some (.double x) :: none :: mx_ent l
  | v :: l => some v :: mx_ent l
def mx_ps : Option Value → List Value → List Value
  | none, st => st
  | some v, st => v :: st
def mx_run (P : mxP) : Nat → Nat → Nat → mxL → List Value → mxH → Option (Option Value × mxH)
  | 0, _, _, _, _, _ => none
  | n + 1, m, pc, ls, st, h => match P m pc with
    | none => none
    | some r => match r ls st h with
      | none => none
      | some (.inl (pc', ls', st', h')) => mx_run P n m pc' ls' st' h'
      | some (.inr (.inl v)) => some (v, h)
      | some (.inr (.inr (m', as, pc', st'))) => match mx_run P n m' 0 (mx_ent as) [] h with
        | none => none
        | some (v, h') => mx_run P n m pc' ls (mx_ps v st') h'
theorem mx_run_mono (P : mxP) : ∀ (n m pc : Nat) (ls : mxL) (st : List Value) (h : mxH) (q : Option Value × mxH), mx_run P n m pc ls st h = some q → mx_run P (n + 1) m pc ls st h = some q
  | 0, m, pc, ls, st, h, q, e => by simp [mx_run] at e
  | n + 1, m, pc, ls, st, h, q, e => by
    rw [mx_run] at e ⊢
    cases hp : P m pc with
    | none => rw [hp] at e; exact e
    | some r =>
      rw [hp] at e
      dsimp only at e ⊢
      cases ho : r ls st h with
      | none => rw [ho] at e; exact e
      | some o =>
        rw [ho] at e
        obtain ⟨pc', ls', st', h'⟩ | v | ⟨m', as, pc', st'⟩ := o
        · exact mx_run_mono P n m pc' ls' st' h' q e
        · exact e
        · dsimp only at e ⊢
          cases hc : mx_run P n m' 0 (mx_ent as) [] h with
          | none => rw [hc] at e; cases e
          | some w =>
            rw [hc] at e
            rw [mx_run_mono P n m' 0 (mx_ent as) [] h w hc]
            exact mx_run_mono P n m pc' ls (mx_ps w.1 st') w.2 q e
theorem mx_run_le {P : mxP} {m pc : Nat} {ls : mxL} {st : List Value} {h : mxH} {q : Option Value × mxH} {a : Nat} : ∀ b, mx_run P a m pc ls st h = some q → a ≤ b → mx_run P b m pc ls st h = some q := by
  intro b e hb
  obtain ⟨k, rfl⟩ := Nat.le.dest hb
  induction k with
  | zero => exact e
  | succ k ih => exact mx_run_mono P _ m pc ls st h q (ih (Nat.le_add_right _ _))
theorem mx_run_det {P : mxP} {m pc : Nat} {ls : mxL} {st : List Value} {h : mxH} {q r : Option Value × mxH} {a b : Nat} (e : mx_run P a m pc ls st h = some q) (f : mx_run P b m pc ls st h = some r) : q = r := by
  have e' := mx_run_le (max a b) e (Nat.le_max_left _ _)
  have f' := mx_run_le (max a b) f (Nat.le_max_right _ _)
  exact Option.some.inj (e'.symm.trans f')
section MW
variable (P : mxP)
/-- the run from here ends, with an answer and cells of which Q holds -/
def mw (m pc : Nat) (ls : mxL) (st : List Value) (h : mxH) (Q : Option Value → mxH → Prop) : Prop := ∃ n v h', mx_run P n m pc ls st h = some (v, h') ∧ Q v h'
def mcl (m : Nat) (as : List Value) (h : mxH) (Q : Option Value → mxH → Prop) : Prop := mw P m 0 (mx_ent as) [] h Q
def mwo (m : Nat) (ls : mxL) (h : mxH) (Q : Option Value → mxH → Prop) : mxO → Prop
  | none => False
  | some (.inl (pc', ls', st', h')) => mw P m pc' ls' st' h' Q
  | some (.inr (.inl v)) => Q v h
  | some (.inr (.inr (m', as, pc', st'))) => mcl P m' as h (fun v h' => mw P m pc' ls (mx_ps v st') h' Q)
theorem mw_row {m pc : Nat} {r : mxI} (hr : P m pc = some r) (ls : mxL) (st : List Value) (h : mxH) (Q : Option Value → mxH → Prop) : mw P m pc ls st h Q ↔ mwo P m ls h Q (r ls st h) := by
  constructor
  · rintro ⟨n, v, h', e, q⟩
    cases n with
    | zero => simp [mx_run] at e
    | succ n =>
      rw [mx_run, hr] at e
      dsimp only at e
      cases ho : r ls st h with
      | none => rw [ho] at e; cases e
      | some o =>
        rw [ho] at e
        obtain ⟨pc', ls', st', h2⟩ | v2 | ⟨m', as, pc', st'⟩ := o
        · exact ⟨n, v, h', e, q⟩
        · cases e; exact q
        · dsimp only at e
          cases hc : mx_run P n m' 0 (mx_ent as) [] h with
          | none => rw [hc] at e; cases e
          | some w => rw [hc] at e; exact ⟨n, w.1, w.2, hc, n, v, h', e, q⟩
  · intro e
    cases ho : r ls st h with
    | none => rw [ho] at e; exact e.elim
    | some o =>
      rw [ho] at e
      obtain ⟨pc', ls', st', h2⟩ | v2 | ⟨m', as, pc', st'⟩ := o
      · obtain ⟨n, v, h', e, q⟩ := e
        exact ⟨n + 1, v, h', by rw [mx_run, hr]; dsimp only; rw [ho]; exact e, q⟩
      · exact ⟨1, v2, h, by rw [mx_run, hr]; dsimp only; rw [ho], e⟩
      · obtain ⟨n, w1, w2, hc, k, v, h', e, q⟩ := e
        have hc' := mx_run_le (max n k) hc (Nat.le_max_left _ _)
        have e' := mx_run_le (max n k) e (Nat.le_max_right _ _)
        exact ⟨max n k + 1, v, h', by rw [mx_run, hr]; dsimp only; rw [ho]; dsimp only; rw [hc']; exact e', q⟩
theorem mw_mono {m pc : Nat} {ls : mxL} {st : List Value} {h : mxH} {Q Q' : Option Value → mxH → Prop} (e : mw P m pc ls st h Q) (f : ∀ v h', Q v h' → Q' v h') : mw P m pc ls st h Q' := by
  obtain ⟨n, v, h', a, b⟩ := e
  exact ⟨n, v, h', a, f v h' b⟩
theorem mcl_mono {m : Nat} {as : List Value} {h : mxH} {Q Q' : Option Value → mxH → Prop} (e : mcl P m as h Q) (f : ∀ v h', Q v h' → Q' v h') : mcl P m as h Q' := mw_mono P e f
/-- a call whose answer and cells are known, as an equation -/
theorem mcl_eq {m : Nat} {as : List Value} {h h1 : mxH} {v1 : Option Value} (e : mcl P m as h (fun v h' => v = v1 ∧ h' = h1)) (Q : Option Value → mxH → Prop) : mcl P m as h Q ↔ Q v1 h1 := by
  obtain ⟨n, v, h', a, rfl, rfl⟩ := e
  constructor
  · rintro ⟨k, w, g, b, q⟩
    cases mx_run_det a b
    exact q
  · exact fun q => ⟨n, _, _, a, q⟩
theorem mw_eq {m pc : Nat} {ls : mxL} {st : List Value} {h h1 : mxH} {v1 : Option Value} (e : mw P m pc ls st h (fun v h' => v = v1 ∧ h' = h1)) (Q : Option Value → mxH → Prop) : mw P m pc ls st h Q ↔ Q v1 h1 := by
  obtain ⟨n, v, h', a, rfl, rfl⟩ := e
  constructor
  · rintro ⟨k, w, g, b, q⟩
    cases mx_run_det a b
    exact q
  · exact fun q => ⟨n, _, _, a, q⟩
end MW
