/-! THE SMALL MACHINE AND THE REAL ONE: how numbered cells lie in the heap; what it is for a row to be true of an instruction. -/
/-- heap at the law's start, class numbers and slots, class of each kind of array, addresses of the old arrays, their cells, the classes, types of the kinds, words on nest mates, static fields -/
abbrev mxG : Type := Heap × va_G × (Nat → ClassId) × (Nat → Nat) × (Nat → mxC) × List vw_C × (Nat → Option FieldType) × List Cond × List (String × String × String × Nat)
abbrev gH (G : mxG) : Heap := G.1
abbrev gD (G : mxG) : va_G := G.2.1
abbrev gK (G : mxG) : Nat → ClassId := G.2.2.1
abbrev gO (G : mxG) : Nat → Nat := G.2.2.2.1
abbrev gC (G : mxG) : Nat → mxC := G.2.2.2.2.1
abbrev gL (G : mxG) : List vw_C := G.2.2.2.2.2.1
abbrev gT (G : mxG) : Nat → Option FieldType := G.2.2.2.2.2.2.1
abbrev gN (G : mxG) : List Cond := G.2.2.2.2.2.2.2.1
abbrev gZ (G : mxG) : List (String × String × String × Nat) := G.2.2.2.2.2.2.2.2
def mx_no : mxC := .inr (999, [])
def mx_a (G : mxG) (k : Nat) : Nat := if k < 16 then gO G k else (gH G).size + (k - 16)
def mx_v (G : mxG) : Value → Value
  | .ref k => .ref (mx_a G k)
  | v => v
abbrev mxK : Type := (Nat → Int32) ⊕ (Nat → Int64) ⊕ (Nat → UInt32) ⊕ (Nat → UInt64) ⊕ (Nat → Option Nat)
def mx_k (G : mxG) : mxK → mxK
  | .inr (.inr (.inr (.inr f))) => .inr (.inr (.inr (.inr (fun j => (f j).map (mx_a G)))))
  | x => x
def mx_at (G : mxG) (k : Nat) (c : mxC) (H : Heap) : Prop := match c with
  | .inl a => (∃ ty, gT G a.1 = some ty) ∧ H[mx_a G k]? = some (vp_cell (gK G a.1) (a.2.1, mx_k G a.2.2))
  | .inr o => ∃ r : vw_C, (gL G)[o.1]? = some r ∧ t_OB (mx_a G k) ((gD G).1 o.1) r.2.2 ((gD G).2 o.1) H (vp_V (o.2.map (mx_v G)))
/-- the heap holds the numbered cells, and what was there before -/
def mx_R (G : mxG) (h : mxH) (H : Heap) : Prop := H.size + 16 = (gH G).size + h.2.1 ∧ 16 ≤ h.2.1 ∧ (∀ q, q < (gH G).size → H[q]? = (gH G)[q]?) ∧ (∀ k, k < 16 → h.1 k = gC G k) ∧ (∀ k, h.2.1 ≤ k → h.1 k = mx_no) ∧ ∀ k, 16 ≤ k → k < h.2.1 → mx_at G k (h.1 k) H
def mx_nw (w : Cond) : Prop := (∃ a i x h, w = .methodLinkNest a i x h) ∨ (∃ a i b n d h, w = .fieldLinkNest a i b n d h) ∨ ∃ C, w = .arrayOver (.object C)
theorem mx_nw.warm {w : Cond} (hw : mx_nw w) {s U : State} (hW : s.WarmedH U.vm) (h : va_Nw w s) : va_Nw w U := by
  rcases hw with ⟨a, i, x, hh, rfl⟩ | ⟨a, i, b, n, d, hh, rfl⟩ | ⟨C, rfl⟩
  · exact va_Nw.warmM hW h
  · exact va_Nw.warmF hW h
  · exact va_AO.moved hW.alike h
theorem mx_nw.same {w : Cond} (hw : mx_nw w) {s U : State} (hv : s.vm = U.vm) (h : va_Nw w s) : va_Nw w U := by
  rcases hw with ⟨a, i, x, hh, rfl⟩ | ⟨a, i, b, n, d, hh, rfl⟩ | ⟨C, rfl⟩
  · exact va_Nw.same rfl hv h
  · exact va_Nw.same rfl hv h
  · exact va_AO.moved (by rw [hv]; exact Vm.Alike.refl U.vm) h
/-- the tables, and the old arrays -/
def mx_E (G : mxG) (U : State) : Prop := va_K (gD G) (gL G) [] U ∧ (gL G).length ≤ 900 ∧ (∀ k ty, gT G k = some ty → ArrOfT U (gK G k) ty ∧ va_RA U (gK G k) ty) ∧ gT G 9 = none ∧
  (∀ k, k < 16 → gC G k = mx_no ∨ ∃ (L : Nat) (xs : Nat → Int32), gC G k = .inl (9, L, .inl xs) ∧ va_T .int (gO G k) L (fun j => .int (xs j)) (fun q => (gH G).size ≤ q) U (gH G)) ∧
  (∀ w ∈ gN G, mx_nw w ∧ va_Nw w U) ∧ ∀ q ∈ gZ G, va_Z q.1 q.2.1 q.2.2.1 (.ref (gO G q.2.2.2)) (fun q => (gH G).size ≤ q) U (gH G)
theorem mx_E.warm {G : mxG} {s U : State} (hW : s.WarmedH U.vm) (h : mx_E G s) : mx_E G U := by
  obtain ⟨h1, h2, h3, h3', h4, h5, h6⟩ := h
  refine ⟨va_K.moved hW.alike h1, h2, fun k ty hk => ⟨arrOfT_moved hW.alike (h3 k ty hk).1, (h3 k ty hk).2.moved hW.alike⟩, h3', fun k hk => ?_, fun w hw => ?_, fun q hq => va_Z.moved hW.alike (h6 q hq)⟩
  · rcases h4 k hk with e | ⟨L, xs, e, t⟩
    · exact Or.inl e
    · exact Or.inr ⟨L, xs, e, t.moved hW.alike⟩
  · exact ⟨(h5 w hw).1, (h5 w hw).1.warm hW (h5 w hw).2⟩
theorem mx_E.calling {G : mxG} {U : State} {g : JFrame} {mk : MethodId} {a : Array Value} (h : mx_E G U) : mx_E G (U.calling g mk a) := by
  obtain ⟨h1, h2, h3, h3', h4, h5, h6⟩ := h
  have hA : U.vm.Alike (U.calling g mk a).vm := Vm.Alike.refl U.vm
  refine ⟨va_K.moved hA h1, h2, fun k ty hk => ⟨arrOfT_moved hA (h3 k ty hk).1, (h3 k ty hk).2.moved hA⟩, h3', fun k hk => ?_, fun w hw => ?_, fun q hq => va_Z.moved hA (h6 q hq)⟩
  · rcases h4 k hk with e | ⟨L, xs, e, t⟩
    · exact Or.inl e
    · exact Or.inr ⟨L, xs, e, t.moved hA⟩
  · exact ⟨(h5 w hw).1, (h5 w hw).1.same (U := U.calling g mk a) (s := U) rfl (h5 w hw).2⟩
theorem mx_v_cat (G : mxG) (v : Value) : (mx_v G v).category = v.category := by cases v <;> rfl
/-- locals -/
def mx_prs (G : mxG) : Nat → mxL → List (Nat × Value)
  | _, [] => []
  | k, none :: l => mx_prs G (k + 1) l
  | k, some v :: l => (k, mx_v G v) :: mx_prs G (k + 1) l
theorem mx_prs_mem (G : mxG) : ∀ (l : mxL) (k j : Nat) (w : Value), (j, w) ∈ mx_prs G k l ↔ ∃ v, k ≤ j ∧ mx_get l (j - k) = some v ∧ w = mx_v G v
  | [], k, j, w => by simp [mx_prs, mx_get]
  | none :: l, k, j, w => by
    rw [mx_prs, mx_prs_mem G l (k + 1) j w]
    constructor
    · rintro ⟨v, h1, h2, h3⟩
      refine ⟨v, by omega, ?_, h3⟩
      rw [show j - k = (j - (k + 1)) + 1 by omega]
      exact h2
    · rintro ⟨v, h1, h2, h3⟩
      by_cases e : j = k
      · subst e
        rw [Nat.sub_self] at h2
        cases h2
      · refine ⟨v, by omega, ?_, h3⟩
        rw [show j - k = (j - (k + 1)) + 1 by omega] at h2
        exact h2
  | some x :: l, k, j, w => by
    rw [mx_prs, List.mem_cons, mx_prs_mem G l (k + 1) j w]
    constructor
    · rintro (e | ⟨v, h1, h2, h3⟩)
      · cases e
        exact ⟨x, Nat.le_refl _, by rw [Nat.sub_self]; rfl, rfl⟩
      · refine ⟨v, by omega, ?_, h3⟩
        rw [show j - k = (j - (k + 1)) + 1 by omega]
        exact h2
    · rintro ⟨v, h1, h2, h3⟩
      by_cases e : j = k
      · subst e
        rw [Nat.sub_self] at h2
        cases h2
        exact Or.inl (by rw [h3])
      · refine Or.inr ⟨v, by omega, ?_, h3⟩
        rw [show j - k = (j - (k + 1)) + 1 by omega] at h2
        exact h2
theorem mx_get_s1 (v : Value) : ∀ (l : mxL) (i j : Nat), mx_get (mx_s1 l i v) j = if j = i then some v else if j + 1 = i then mx_nl (mx_get l j) else mx_get l j
  | [], 0, 0 => rfl
  | [], 0, j + 1 => by simp [mx_s1, mx_get]
  | [], i + 1, 0 => by
    by_cases e : i = 0 <;> simp [mx_s1, mx_get, mx_nl, e]
  | [], i + 1, j + 1 => by
    show mx_get (mx_s1 [] i v) j = _
    rw [mx_get_s1 v [] i j]
    simp [mx_get, mx_nl]
  | a :: l, 0, 0 => by simp [mx_s1, mx_get]
  | a :: l, 0, j + 1 => by simp [mx_s1, mx_get]
  | a :: l, 1, 0 => by simp [mx_s1, mx_get]
  | a :: l, 1, j + 1 => by
    rw [mx_s1, mx_get, mx_get_s1 v l 0 j]
    simp [mx_get]
  | a :: l, i + 2, 0 => by simp [mx_s1, mx_get]
  | a :: l, i + 2, j + 1 => by
    rw [mx_s1, mx_get, mx_get_s1 v l (i + 1) j]
    simp [mx_get]
theorem mx_get_tl : ∀ (l : mxL) (j : Nat), mx_get (mx_tl l) j = if j = 0 then none else mx_get l j
  | [], 0 => rfl
  | [], j + 1 => by simp [mx_tl, mx_get]
  | a :: l, 0 => rfl
  | a :: l, j + 1 => by simp [mx_tl, mx_get]
theorem mx_get_s2 (v : Value) : ∀ (l : mxL) (i j : Nat), mx_get (mx_s2 l i v) j = if j = i then some v else if j = i + 1 then none else if j + 1 = i then mx_nl (mx_get l j) else mx_get l j
  | [], 0, 0 => rfl
  | [], 0, j + 1 => by simp [mx_s2, mx_get]
  | [], i + 1, 0 => by
    by_cases e : i = 0 <;> simp [mx_s2, mx_get, mx_nl, e]
  | [], i + 1, j + 1 => by
    show mx_get (mx_s2 [] i v) j = _
    rw [mx_get_s2 v [] i j]
    simp [mx_get, mx_nl]
  | a :: l, 0, 0 => by simp [mx_s2, mx_get]
  | a :: l, 0, j + 1 => by
    rw [mx_s2, mx_get, mx_get_tl]
    simp [mx_get]
  | a :: l, 1, 0 => by simp [mx_s2, mx_get]
  | a :: l, 1, j + 1 => by
    rw [mx_s2, mx_get, mx_get_s2 v l 0 j]
    simp [mx_get]
  | a :: l, i + 2, 0 => by simp [mx_s2, mx_get]
  | a :: l, i + 2, j + 1 => by
    rw [mx_s2, mx_get, mx_get_s2 v l (i + 1) j]
    simp [mx_get]
theorem mx_nl_some {x : Option Value} {w : Value} (h : mx_nl x = some w) : x = some w ∧ ¬ w.category = 2 := by
  cases x with
  | none => cases h
  | some v => cases v <;> first | (cases h; done) | (cases h; exact ⟨rfl, by decide⟩) | (cases h; exact ⟨rfl, by simp [Value.category]⟩)
def mx_Lr (G : mxG) (nL : Nat) (ls : mxL) (lr : Array Slot) : Prop := lv_has lr nL (mx_prs G 0 ls)
theorem mx_Lr.at {G : mxG} {nL : Nat} {ls : mxL} {lr : Array Slot} (h : mx_Lr G nL ls lr) {i : Nat} {v : Value} (e : mx_get ls i = some v) : lr[i]? = some (.val (mx_v G v)) :=
  h.2.2 (i, mx_v G v) ((mx_prs_mem G ls 0 i _).mpr ⟨v, Nat.zero_le _, e, rfl⟩)
theorem mx_Lr.s1 {G : mxG} {nL : Nat} {ls : mxL} {lr : Array Slot} {i : Nat} {v : Value} (h : lv_has lr nL ((i, mx_v G v) :: (mx_prs G 0 ls).filter (fun q => !(q.1 == i) && !(q.1 + 1 == i && q.2.category == 2)))) : mx_Lr G nL (mx_s1 ls i v) lr := by
  refine ⟨h.1, h.2.1, fun q hq => h.2.2 q ?_⟩
  obtain ⟨j, w⟩ := q
  obtain ⟨u, -, h2, rfl⟩ := (mx_prs_mem G _ 0 j w).mp hq
  rw [Nat.sub_zero, mx_get_s1] at h2
  by_cases e : j = i
  · subst e
    rw [if_pos rfl] at h2
    cases h2
    exact List.mem_cons_self
  · rw [if_neg e] at h2
    refine List.mem_cons_of_mem _ (List.mem_filter.mpr ?_)
    by_cases e2 : j + 1 = i
    · rw [if_pos e2] at h2
      obtain ⟨a, b⟩ := mx_nl_some h2
      exact ⟨(mx_prs_mem G ls 0 j _).mpr ⟨u, Nat.zero_le _, a, rfl⟩, by simp [e, mx_v_cat, b]⟩
    · rw [if_neg e2] at h2
      exact ⟨(mx_prs_mem G ls 0 j _).mpr ⟨u, Nat.zero_le _, h2, rfl⟩, by simp [e, e2]⟩
theorem mx_Lr.s2 {G : mxG} {nL : Nat} {ls : mxL} {lr : Array Slot} {i : Nat} {v : Value} (h : lv_has lr nL ((i, mx_v G v) :: (mx_prs G 0 ls).filter (fun q => !(q.1 == i) && (!(q.1 == i + 1) && !(q.1 + 1 == i && q.2.category == 2))))) : mx_Lr G nL (mx_s2 ls i v) lr := by
  refine ⟨h.1, h.2.1, fun q hq => h.2.2 q ?_⟩
  obtain ⟨j, w⟩ := q
  obtain ⟨u, -, h2, rfl⟩ := (mx_prs_mem G _ 0 j w).mp hq
  rw [Nat.sub_zero, mx_get_s2] at h2
  by_cases e : j = i
  · subst e
    rw [if_pos rfl] at h2
    cases h2
    exact List.mem_cons_self
  · rw [if_neg e] at h2
    refine List.mem_cons_of_mem _ (List.mem_filter.mpr ?_)
    by_cases e3 : j = i + 1
    · rw [if_pos e3] at h2
      cases h2
    · rw [if_neg e3] at h2
      by_cases e2 : j + 1 = i
      · rw [if_pos e2] at h2
        obtain ⟨a, b⟩ := mx_nl_some h2
        exact ⟨(mx_prs_mem G ls 0 j _).mpr ⟨u, Nat.zero_le _, a, rfl⟩, by simp [e, e3, mx_v_cat, b]⟩
      · rw [if_neg e2] at h2
        exact ⟨(mx_prs_mem G ls 0 j _).mpr ⟨u, Nat.zero_le _, h2, rfl⟩, by simp [e, e2, e3]⟩
/-- a method: its name, bytes, locals, answer, frames below it, words of locals below it -/
abbrev mxM : Type := MethodName × ByteArray × Nat × Option FieldType × Nat × Nat
abbrev qY (M : mxM) : MethodName := M.1
abbrev qB (M : mxM) : ByteArray := M.2.1
abbrev qL (M : mxM) : Nat := M.2.2.1
abbrev qR (M : mxM) : Option FieldType := M.2.2.2.1
abbrev qF (M : mxM) : Nat := M.2.2.2.2.1
abbrev qW (M : mxM) : Nat := M.2.2.2.2.2
def mx_Ctx (G : mxG) (Ws : List Cond) (M : mxM) (p : Program) (R : Room) (s : State) (m : MethodId) (args : Array Value) (meth : Method) (c : Code) : Prop :=
  p.tables.exec = Jvm.exec ∧ c.code = qB M ∧ c.maxLocals = qL M ∧ s.vm.findClass (qY M).cls = some m.cls ∧ (∀ w ∈ Ws, w.before args s = true) ∧ ((qY M).name = "<init>" → meth.name = "<init>") ∧ mx_E G s ∧ qF M ≤ R.frames ∧ qW M ≤ R.locals
def mx_F (G : mxG) (locs : List Loc) : Prop := ∀ q ∈ locs, (gH G).size ≤ q.base
/-- a step that is true of the machine -/
def mx_Go (G : mxG) (Ws : List Cond) (M : mxM) (pc : Nat) (ls : mxL) (st : List Value) (h : mxH) (pc' : Nat) (ls' : mxL) (st' : List Value) (h' : mxH) : Prop :=
  ∃ dc ds : Nat, h'.2.1 = h.2.1 + dc ∧ h'.2.2 = h.2.2 + ds ∧ ∀ (p : Program) (l : Launch) (e : Env) (R : Room) (s : State) (m : MethodId) (args : Array Value) (below : List Frame) (meth : Method) (c : Code) (H : Heap) (locs : List Loc) (cells slots : Nat) (Q : State → Prop) (lr : Array Slot),
    mx_Ctx G Ws M p R s m args meth c → mx_R G h H → mx_Lr G (qL M) ls lr → mx_F G locs → cells + dc ≤ R.cells → slots + ds ≤ R.slots →
    (∀ (H' : Heap) (locs' : List Loc) (lr' : Array Slot), mx_R G h' H' → mx_Lr G (qL M) ls' lr' → mx_F G locs' → W p l e R s m args below meth c H' locs' (cells + dc) (slots + ds) Q (F0 m pc' lr' (st'.map (mx_v G)))) →
    W p l e R s m args below meth c H locs cells slots Q (F0 m pc lr (st.map (mx_v G)))
def mx_Re (M : mxM) (pc : Nat) (st : List Value) (v : Option Value) : Prop :=
  (st = [] ∧ v = none ∧ decode (qB M) pc = .ok (.return_, 1) ∧ qR M = none) ∨
  (∃ x : Int32, st = [.int x] ∧ v = some (.int x) ∧ decode (qB M) pc = .ok (.ireturn, 1) ∧ qR M = some .int) ∨
  (∃ x : Int32, (x = 0 ∨ x = 1) ∧ st = [.int x] ∧ v = some (.int x) ∧ decode (qB M) pc = .ok (.ireturn, 1) ∧ qR M = some .boolean) ∨
  (∃ x : Int64, st = [.long x] ∧ v = some (.long x) ∧ decode (qB M) pc = .ok (.lreturn, 1) ∧ qR M = some .long) ∨
  (∃ (x : Value) (rt : FieldType), (x = .null ∨ ∃ a, x = .ref a) ∧ ((∃ n, rt = .object n) ∨ ∃ t, rt = .array t) ∧ st = [x] ∧ v = some x ∧ decode (qB M) pc = .ok (.areturn, 1) ∧ qR M = some rt)
def mx_ws (Ws : List Cond) (M : mxM) : List Cond := .code (qY M) (qB M) (qL M) (qR M) :: Ws
def mx_Ca (G : mxG) (Ws : List Cond) (MT : Nat → Option mxM) (M : mxM) (pc : Nat) (ls : mxL) (st : List Value) (h : mxH) (j : Nat) (as : List Value) (pc' : Nat) (st' : List Value) : Prop :=
  ∃ M' : mxM, MT j = some M' ∧ pc' = pc + 3 ∧ (mx_ent as).length ≤ qL M' ∧ ∀ (p : Program) (l : Launch) (e : Env) (R : Room) (s : State) (m : MethodId) (args : Array Value) (below : List Frame) (meth : Method) (c : Code) (H : Heap) (locs : List Loc) (cells slots mc ms : Nat) (lr : Array Slot)
    (Pc : Array Value → State → Prop) (Qc : Array Value → State → Outcome → State → Prop) (free : Addr → Prop),
    mx_Ctx G Ws M p R s m args meth c → mx_R G h H → mx_Lr G (qL M) ls lr → Met l (qY M') (mx_ws Ws M') { frames := qF M', cells := mc, slots := ms, locals := qW M' } Pc Qc mc ms free → FrameBlind Pc →
    (∀ U : State, U.heap = H → s.WarmedH U.vm → Pc (as.map (mx_v G)).toArray U) → cells + mc ≤ R.cells ∧ slots + ms ≤ R.slots →
    va_Run p l e R s m args below meth c H locs cells slots mc ms (F0 m pc lr (st.map (mx_v G))) (st'.map (mx_v G)) (Qc (as.map (mx_v G)).toArray) free
/-- a row that is true of the instruction at pc -/
def mx_O (G : mxG) (Ws : List Cond) (MT : Nat → Option mxM) (M : mxM) (pc : Nat) (ls : mxL) (st : List Value) (h : mxH) : ((Nat × mxL × List Value × mxH) ⊕ (Option Value ⊕ (Nat × List Value × Nat × List Value))) → Prop
  | .inl (pc', ls', st', h') => mx_Go G Ws M pc ls st h pc' ls' st' h'
  | .inr (.inl v) => mx_Re M pc st v
  | .inr (.inr (j, as, pc', st')) => mx_Ca G Ws MT M pc ls st h j as pc' st'
def mx_Ok (G : mxG) (Ws : List Cond) (MT : Nat → Option mxM) (M : mxM) (pc : Nat) (r : mxI) : Prop := ∀ (ls : mxL) (st : List Value) (h : mxH) (o : (Nat × mxL × List Value × mxH) ⊕ (Option Value ⊕ (Nat × List Value × Nat × List Value))), r ls st h = some o → mx_O G Ws MT M pc ls st h o
