/-! HEAPS, pure: hp the row of labels, sp where each label lies, n how many, op which labels are in it, lt the order -/
def ordl (lt : Nat → Nat → Prop) : Prop := (∀ a b, lt a b → ¬ lt b a) ∧ ∀ a b c, ¬ lt a b → ¬ lt b c → ¬ lt a c
def hHP (lt : Nat → Nat → Prop) (op : Nat → Prop) (hp sp : Nat → Nat) (n : Nat) : Prop :=
  (∀ i, i < n → op (hp i) ∧ sp (hp i) = i) ∧ (∀ e, op e → ∃ i, i < n ∧ hp i = e) ∧ ∀ i, 0 < i → i < n → ¬ lt (hp i) (hp ((i - 1) / 2))
/-- all but the place k, which is to take x -/
def hMe (op : Nat → Prop) (hp sp : Nat → Nat) (n k x : Nat) : Prop :=
  k < n ∧ op x ∧ (∀ i, i < n → i ≠ k → op (hp i) ∧ sp (hp i) = i ∧ hp i ≠ x) ∧ ∀ e, op e → e = x ∨ ∃ i, i < n ∧ i ≠ k ∧ hp i = e
def hRi (lt : Nat → Nat → Prop) (op : Nat → Prop) (hp sp : Nat → Nat) (n k x : Nat) : Prop :=
  hMe op hp sp n k x ∧ (∀ i, 0 < i → i < n → i ≠ k → (i - 1) / 2 ≠ k → ¬ lt (hp i) (hp ((i - 1) / 2))) ∧
  ∀ i, 0 < i → i < n → (i - 1) / 2 = k → ¬ lt (hp i) x ∧ (0 < k → ¬ lt (hp i) (hp ((k - 1) / 2)))
def hSi (lt : Nat → Nat → Prop) (op : Nat → Prop) (hp sp : Nat → Nat) (n k x : Nat) : Prop :=
  hMe op hp sp n k x ∧ (∀ i, 0 < i → i < n → i ≠ k → (i - 1) / 2 ≠ k → ¬ lt (hp i) (hp ((i - 1) / 2))) ∧
  (∀ i, 0 < i → i < n → (i - 1) / 2 = k → 0 < k → ¬ lt (hp i) (hp ((k - 1) / 2))) ∧ (0 < k → ¬ lt x (hp ((k - 1) / 2)))
theorem hMe.move {op : Nat → Prop} {hp sp : Nat → Nat} {n k x j : Nat} (h : hMe op hp sp n k x) (hj : j < n) (hjk : j ≠ k) : hMe op (va_up hp k (hp j)) (va_up sp (hp j) k) n j x := by
  obtain ⟨h1, h2, h3, h4⟩ := h
  have inj : ∀ i, i < n → i ≠ k → hp i = hp j → i = j := fun i a b e => by
    rw [← (h3 i a b).2.1, ← (h3 j hj hjk).2.1, e]
  refine ⟨hj, h2, fun i hi hij => ?_, fun e he => ?_⟩
  · by_cases ik : i = k
    · subst ik
      rw [va_up_self, va_up_self]
      exact ⟨(h3 j hj hjk).1, rfl, (h3 j hj hjk).2.2⟩
    · rw [va_up_ne _ _ ik]
      refine ⟨(h3 i hi ik).1, ?_, (h3 i hi ik).2.2⟩
      rw [va_up_ne _ _ (fun e => hij (inj i hi ik e))]
      exact (h3 i hi ik).2.1
  · rcases h4 e he with e1 | ⟨i, a, b, c⟩
    · exact Or.inl e1
    · right
      by_cases ij : i = j
      · subst ij
        exact ⟨k, h1, fun q => hjk q.symm, by rw [va_up_self]; exact c⟩
      · exact ⟨i, a, ij, by rw [va_up_ne _ _ b]; exact c⟩
theorem hMe.done {lt : Nat → Nat → Prop} {op : Nat → Prop} {hp sp : Nat → Nat} {n k x : Nat} (h : hMe op hp sp n k x) (ho : ∀ i, 0 < i → i < n → ¬ lt (va_up hp k x i) (va_up hp k x ((i - 1) / 2))) : hHP lt op (va_up hp k x) (va_up sp x k) n := by
  obtain ⟨h1, h2, h3, h4⟩ := h
  refine ⟨fun i hi => ?_, fun e he => ?_, ho⟩
  · by_cases ik : i = k
    · subst ik
      rw [va_up_self, va_up_self]
      exact ⟨h2, rfl⟩
    · rw [va_up_ne _ _ ik, va_up_ne _ _ (h3 i hi ik).2.2]
      exact ⟨(h3 i hi ik).1, (h3 i hi ik).2.1⟩
  · rcases h4 e he with e1 | ⟨i, a, b, c⟩
    · exact ⟨k, h1, by rw [va_up_self, e1]⟩
    · exact ⟨i, a, by rw [va_up_ne _ _ b]; exact c⟩
theorem hRi.step {lt : Nat → Nat → Prop} {op : Nat → Prop} {hp sp : Nat → Nat} {n k x : Nat} (hO : ordl lt) (h : hRi lt op hp sp n k x) (hk : 0 < k) (hl : lt x (hp ((k - 1) / 2))) :
    hRi lt op (va_up hp k (hp ((k - 1) / 2))) (va_up sp (hp ((k - 1) / 2)) k) n ((k - 1) / 2) x := by
  obtain ⟨hm, h1, h2⟩ := h
  have hkn := hm.1
  have hpk : (k - 1) / 2 < k := by omega
  refine ⟨hm.move (by omega) (by omega), fun i a b c d => ?_, fun i a b c => ?_⟩
  · by_cases ik : i = k
    · subst ik; exact absurd rfl d
    · rw [va_up_ne _ _ ik]
      by_cases pk : (i - 1) / 2 = k
      · rw [pk, va_up_self]
        exact (h2 i a b pk).2 hk
      · rw [va_up_ne _ _ pk]
        exact h1 i a b ik pk
  · have pp : 0 < (k - 1) / 2 → ¬ lt (hp ((k - 1) / 2)) (hp (((k - 1) / 2 - 1) / 2)) := fun q => h1 _ q (by omega) (by omega) (by omega)
    by_cases ik : i = k
    · subst ik
      rw [va_up_self]
      refine ⟨hO.1 _ _ hl, fun q => ?_⟩
      rw [va_up_ne _ _ (by omega)]
      exact pp q
    · rw [va_up_ne _ _ ik]
      have q1 : ¬ lt (hp i) (hp ((k - 1) / 2)) := by
        have := h1 i a b ik (by omega)
        rw [c] at this
        exact this
      refine ⟨fun q => ?_, fun q => ?_⟩
      · exact hO.2 x (hp i) (hp ((k - 1) / 2)) (hO.1 _ _ q) q1 hl
      · rw [va_up_ne _ _ (by omega)]
        exact hO.2 _ _ _ q1 (pp q)
theorem hRi.done {lt : Nat → Nat → Prop} {op : Nat → Prop} {hp sp : Nat → Nat} {n k x : Nat} (h : hRi lt op hp sp n k x) (hk : k = 0 ∨ ¬ lt x (hp ((k - 1) / 2))) : hHP lt op (va_up hp k x) (va_up sp x k) n := by
  obtain ⟨hm, h1, h2⟩ := h
  refine hm.done (fun i a b => ?_)
  by_cases ik : i = k
  · subst ik
    rw [va_up_self, va_up_ne _ _ (by omega)]
    rcases hk with q | q
    · omega
    · exact q
  · rw [va_up_ne _ _ ik]
    by_cases pk : (i - 1) / 2 = k
    · rw [pk, va_up_self]
      exact (h2 i a b pk).1
    · rw [va_up_ne _ _ pk]
      exact h1 i a b ik pk
theorem hSi.step {lt : Nat → Nat → Prop} {op : Nat → Prop} {hp sp : Nat → Nat} {n k x c : Nat} (hO : ordl lt) (h : hSi lt op hp sp n k x) (hc : c < n) (hc0 : 0 < c) (hck : (c - 1) / 2 = k) (hs : ∀ i, 0 < i → i < n → (i - 1) / 2 = k → ¬ lt (hp i) (hp c)) (hl : lt (hp c) x) :
    hSi lt op (va_up hp k (hp c)) (va_up sp (hp c) k) n c x := by
  obtain ⟨hm, h1, h2, h3⟩ := h
  have hkn := hm.1
  refine ⟨hm.move hc (by omega), fun i a b d e => ?_, fun i a b d e => ?_, fun _ => ?_⟩
  · by_cases ik : i = k
    · subst ik
      rw [va_up_self, va_up_ne _ _ (by omega)]
      exact h2 c hc0 hc hck a
    · rw [va_up_ne _ _ ik]
      by_cases pk : (i - 1) / 2 = k
      · rw [pk, va_up_self]
        exact hs i a b pk
      · rw [va_up_ne _ _ pk]
        exact h1 i a b ik pk
  · rw [va_up_ne _ _ (by omega), hck, va_up_self]
    have := h1 i a b (by omega) (by omega)
    rw [d] at this
    exact this
  · rw [hck, va_up_self]
    exact hO.1 _ _ hl
theorem hSi.done {lt : Nat → Nat → Prop} {op : Nat → Prop} {hp sp : Nat → Nat} {n k x : Nat} (h : hSi lt op hp sp n k x) (hk : ∀ i, 0 < i → i < n → (i - 1) / 2 = k → ¬ lt (hp i) x) : hHP lt op (va_up hp k x) (va_up sp x k) n := by
  obtain ⟨hm, h1, h2, h3⟩ := h
  refine hm.done (fun i a b => ?_)
  by_cases ik : i = k
  · subst ik
    rw [va_up_self, va_up_ne _ _ (by omega)]
    exact h3 a
  · rw [va_up_ne _ _ ik]
    by_cases pk : (i - 1) / 2 = k
    · rw [pk, va_up_self]
      exact hk i a b pk
    · rw [va_up_ne _ _ pk]
      exact h1 i a b ik pk
theorem hHP.root {lt : Nat → Nat → Prop} {op : Nat → Prop} {hp sp : Nat → Nat} {n : Nat} (hO : ordl lt) (h : hHP lt op hp sp n) : ∀ e, op e → ¬ lt e (hp 0) := by
  have key : ∀ i, i < n → ¬ lt (hp i) (hp 0) := by
    intro i
    induction i using Nat.strongRecOn with
    | ind i ih =>
      intro hi
      by_cases i0 : i = 0
      · subst i0
        exact fun q => hO.1 _ _ q q
      · exact hO.2 _ _ _ (h.2.2 i (by omega) hi) (ih ((i - 1) / 2) (by omega) (by omega))
  intro e he
  obtain ⟨i, a, b⟩ := h.2.1 e he
  rw [← b]
  exact key i a
/-- a new label at the end -/
theorem hHP.ins {lt lt' : Nat → Nat → Prop} {op op' : Nat → Prop} {hp sp : Nat → Nat} {n x : Nat} (h : hHP lt op hp sp n) (hx : ¬ op x) (ho : ∀ e, op' e ↔ op e ∨ e = x) (hl : ∀ a b, op a → op b → ¬ lt a b → ¬ lt' a b) : hRi lt' op' hp sp (n + 1) n x := by
  obtain ⟨h1, h2, h3⟩ := h
  refine ⟨⟨by omega, (ho x).mpr (Or.inr rfl), fun i a b => ?_, fun e he => ?_⟩, fun i a b c d => ?_, fun i a b c => by omega⟩
  · have hi := h1 i (by omega)
    exact ⟨(ho _).mpr (Or.inl hi.1), hi.2, fun q => hx (q ▸ hi.1)⟩
  · rcases (ho e).mp he with q | q
    · obtain ⟨i, a, b⟩ := h2 e q
      exact Or.inr ⟨i, by omega, by omega, b⟩
    · exact Or.inl q
  · exact hl _ _ (h1 i (by omega)).1 (h1 _ (by omega)).1 (h3 i a (by omega))
/-- a label whose key has become less -/
theorem hHP.dec {lt lt' : Nat → Nat → Prop} {op : Nat → Prop} {hp sp : Nat → Nat} {n k x : Nat} (hO : ordl lt) (h : hHP lt op hp sp n) (hk : k < n) (hx : hp k = x) (hl : ∀ a b, op a → op b → a ≠ x → b ≠ x → ¬ lt a b → ¬ lt' a b) (hd : ∀ a, op a → a ≠ x → ¬ lt a x → ¬ lt' a x) : hRi lt' op hp sp n k x := by
  obtain ⟨h1, h2, h3⟩ := h
  have ne : ∀ i, i < n → i ≠ k → hp i ≠ x := fun i a b q => b (by rw [← (h1 i a).2, ← (h1 k hk).2, q, hx])
  refine ⟨⟨hk, by rw [← hx]; exact (h1 k hk).1, fun i a b => ⟨(h1 i a).1, (h1 i a).2, ne i a b⟩, fun e he => ?_⟩, fun i a b c d => ?_, fun i a b c => ?_⟩
  · obtain ⟨i, a, b⟩ := h2 e he
    by_cases ik : i = k
    · subst ik; exact Or.inl (b.symm.trans hx)
    · exact Or.inr ⟨i, a, ik, b⟩
  · exact hl _ _ (h1 i b).1 (h1 _ (by omega)).1 (ne i b c) (ne _ (by omega) d) (h3 i a b)
  · have q := h3 i a b
    rw [c, hx] at q
    refine ⟨hd _ (h1 i b).1 (ne i b (by omega)) q, fun k0 => ?_⟩
    have q2 := h3 k k0 hk
    rw [hx] at q2
    exact hl _ _ (h1 i b).1 (h1 _ (by omega)).1 (ne i b (by omega)) (ne _ (by omega) (by omega)) (hO.2 _ _ _ q q2)
/-- the least is taken away; the last is to sink from the top -/
theorem hHP.take {lt : Nat → Nat → Prop} {op op' : Nat → Prop} {hp sp : Nat → Nat} {n : Nat} (h : hHP lt op hp sp (n + 1)) (ho : ∀ e, op' e ↔ op e ∧ e ≠ hp 0) (hn : 0 < n) : hSi lt op' hp sp n 0 (hp n) := by
  obtain ⟨h1, h2, h3⟩ := h
  have inj : ∀ i j, i < n + 1 → j < n + 1 → hp i = hp j → i = j := fun i j a b e => by rw [← (h1 i a).2, ← (h1 j b).2, e]
  refine ⟨⟨hn, (ho _).mpr ⟨(h1 n (by omega)).1, fun q => by have := inj n 0 (by omega) (by omega) q; omega⟩, fun i a b => ⟨(ho _).mpr ⟨(h1 i (by omega)).1, fun q => b (inj i 0 (by omega) (by omega) q)⟩, (h1 i (by omega)).2, fun q => by have := inj i n (by omega) (by omega) q; omega⟩, fun e he => ?_⟩, fun i a b c d => h3 i a (by omega), fun i a b c d => by omega, fun q => by omega⟩
  obtain ⟨q1, q2⟩ := (ho e).mp he
  obtain ⟨i, a, b⟩ := h2 e q1
  by_cases i_n : i = n
  · subst i_n; exact Or.inl b.symm
  · exact Or.inr ⟨i, by omega, fun q => q2 (by rw [← b, q]), b⟩
theorem hHP.take0 {lt : Nat → Nat → Prop} {op op' : Nat → Prop} {hp sp : Nat → Nat} (h : hHP lt op hp sp 1) (ho : ∀ e, op' e ↔ op e ∧ e ≠ hp 0) : hHP lt op' hp sp 0 := by
  refine ⟨fun i a => by omega, fun e he => ?_, fun i a b => by omega⟩
  obtain ⟨q1, q2⟩ := (ho e).mp he
  obtain ⟨i, a, b⟩ := h.2.1 e q1
  have : i = 0 := by omega
  subst this
  exact absurd b.symm q2
theorem hHP.nil {lt : Nat → Nat → Prop} {op : Nat → Prop} {hp sp : Nat → Nat} (h : ∀ e, ¬ op e) : hHP lt op hp sp 0 := ⟨fun i a => by omega, fun e he => absurd he (h e), fun i a b => by omega⟩
