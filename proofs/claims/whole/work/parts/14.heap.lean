/-! FIELDS, ARRAYS, NEW CELLS -/
theorem mx_lg_eq : ∀ (l : List Value) (k : Nat), mx_lg l k = l[k]?
  | [], k => by simp [mx_lg]
  | a :: l, 0 => by simp [mx_lg]
  | a :: l, k + 1 => by rw [mx_lg, mx_lg_eq l k, List.getElem?_cons_succ]
theorem mx_ls_eq (v : Value) : ∀ (l : List Value) (k : Nat), mx_ls l k v = l.set k v
  | [], k => by simp [mx_ls]
  | a :: l, 0 => by simp [mx_ls]
  | a :: l, k + 1 => by rw [mx_ls, mx_ls_eq v l k, List.set_cons_succ]
theorem mx_a_new (G : mxG) {k : Nat} (h : 16 ≤ k) : mx_a G k = (gH G).size + (k - 16) := by unfold mx_a; rw [if_neg (by omega)]
theorem mx_a_ne (G : mxG) {j k : Nat} (hj : 16 ≤ j) (hk : 16 ≤ k) (h : j ≠ k) : mx_a G j ≠ mx_a G k := by
  rw [mx_a_new G hj, mx_a_new G hk]; omega
theorem mx_at.kept {G : mxG} {k : Nat} {c : mxC} {H H1 : Heap} (h : mx_at G k c H) (hq : H1[mx_a G k]? = H[mx_a G k]?) : mx_at G k c H1 := by
  cases c with
  | inl x => exact ⟨h.1, hq.trans h.2⟩
  | inr o =>
    obtain ⟨r, h1, h2⟩ := h
    exact ⟨r, h1, h2.kept hq⟩
theorem mx_R.put {G : mxG} {h : mxH} {H H1 : Heap} {k : Nat} {c : mxC} (hR : mx_R G h H) (h1 : 16 ≤ k) (h2 : k < h.2.1) (hz : H1.size = H.size) (ho : ∀ q, q ≠ mx_a G k → H1[q]? = H[q]?) (hc : mx_at G k c H1) : mx_R G (mx_up h k c) H1 := by
  obtain ⟨r1, r2, r3, r4, r5, r6⟩ := hR
  refine ⟨by rw [hz]; exact r1, r2, fun q hq => ?_, fun j hj => ?_, fun j hj => ?_, fun j hj1 hj2 => ?_⟩
  · rw [ho q (by rw [mx_a_new G h1]; omega)]
    exact r3 q hq
  · show va_up h.1 k c j = _
    rw [va_up_ne _ _ (by omega)]
    exact r4 j hj
  · show va_up h.1 k c j = _
    have hj' : h.2.1 ≤ j := hj
    rw [va_up_ne _ _ (by omega)]
    exact r5 j hj
  · show mx_at G j (va_up h.1 k c j) H1
    by_cases e : j = k
    · subst e
      rw [va_up_self]
      exact hc
    · rw [va_up_ne _ _ e]
      exact (r6 j hj1 hj2).kept (ho _ (mx_a_ne G hj1 h1 e))
theorem mx_R.push {G : mxG} {h : mxH} {H H1 : Heap} {c : mxC} {w : Nat} (hR : mx_R G h H) (hz : H1.size = H.size + 1) (ho : ∀ q, q < H.size → H1[q]? = H[q]?) (hc : mx_at G h.2.1 c H1) : mx_R G (mx_mk h c w) H1 := by
  obtain ⟨r1, r2, r3, r4, r5, r6⟩ := hR
  refine ⟨by show H1.size + 16 = _ + (h.2.1 + 1); omega, by show 16 ≤ h.2.1 + 1; omega, fun q hq => ?_, fun j hj => ?_, fun j hj => ?_, fun j hj1 hj2 => ?_⟩
  · rw [ho q (by omega)]
    exact r3 q hq
  · show va_up h.1 h.2.1 c j = _
    rw [va_up_ne _ _ (by omega)]
    exact r4 j hj
  · show va_up h.1 h.2.1 c j = _
    have hj' : h.2.1 + 1 ≤ j := hj
    rw [va_up_ne _ _ (by omega)]
    exact r5 j (by omega)
  · show mx_at G j (va_up h.1 h.2.1 c j) H1
    have hj' : j < h.2.1 + 1 := hj2
    by_cases e : j = h.2.1
    · subst e
      rw [va_up_self]
      exact hc
    · rw [va_up_ne _ _ e]
      exact (r6 j hj1 (by omega)).kept (ho _ (by rw [mx_a_new G hj1]; omega))
theorem mx_R.new {G : mxG} {h : mxH} {H : Heap} (hR : mx_R G h H) : mx_a G h.2.1 = H.size := by
  rw [mx_a_new G hR.2.1]
  have := hR.1
  have := hR.2.1
  omega
theorem mx_R.obj {G : mxG} {s : State} {h : mxH} {H : Heap} {k ci : Nat} {fs : List Value} (hE : mx_E G s) (hR : mx_R G h H) (e : h.1 k = .inr (ci, fs)) (hci : ci < 900) : 16 ≤ k ∧ k < h.2.1 ∧ mx_at G k (.inr (ci, fs)) H := by
  have hne : (Sum.inr (ci, fs) : mxC) ≠ mx_no := by
    intro q
    have : ci = 999 := congrArg Prod.fst (Sum.inr.inj q)
    omega
  by_cases h1 : k < 16
  · have h2 := hR.2.2.2.1 k h1
    rw [e] at h2
    rcases hE.2.2.2.2.1 k h1 with q | ⟨L, xs, q, -⟩
    · exact absurd (h2.trans q) hne
    · rw [q] at h2; cases h2
  · by_cases h2 : h.2.1 ≤ k
    · exact absurd (e.symm.trans (hR.2.2.2.2.1 k h2)) hne
    · refine ⟨by omega, by omega, ?_⟩
      rw [← e]
      exact hR.2.2.2.2.2 k (by omega) (by omega)
theorem mx_R.arr {G : mxG} {s : State} {h : mxH} {H : Heap} {k : Nat} {a : Nat × vp_A} (hE : mx_E G s) (hR : mx_R G h H) (e : h.1 k = .inl a) (hci : a.1 ≠ 9) : 16 ≤ k ∧ k < h.2.1 ∧ mx_at G k (.inl a) H := by
  by_cases h1 : k < 16
  · have h2 := hR.2.2.2.1 k h1
    rw [e] at h2
    rcases hE.2.2.2.2.1 k h1 with q | ⟨L, xs, q, -⟩
    · rw [q] at h2; cases h2
    · rw [q] at h2
      have := Sum.inl.inj h2
      rw [this] at hci
      exact absurd rfl hci
  · by_cases h2 : h.2.1 ≤ k
    · have := e.symm.trans (hR.2.2.2.2.1 k h2)
      cases this
    · refine ⟨by omega, by omega, ?_⟩
      rw [← e]
      exact hR.2.2.2.2.2 k (by omega) (by omega)
theorem mx_R.old {G : mxG} {s : State} {h : mxH} {H : Heap} {k : Nat} {b : vp_A} (hE : mx_E G s) (hR : mx_R G h H) (e : h.1 k = .inl (9, b)) : ∃ (L : Nat) (xs : Nat → Int32), b = (L, .inl xs) ∧ va_T .int (mx_a G k) L (fun j => .int (xs j)) (fun q => (gH G).size ≤ q) s H := by
  by_cases h1 : k < 16
  · have h2 := hR.2.2.2.1 k h1
    rw [e] at h2
    rcases hE.2.2.2.2.1 k h1 with q | ⟨L, xs, q, t⟩
    · rw [q] at h2; cases h2
    · rw [q] at h2
      refine ⟨L, xs, congrArg Prod.snd (Sum.inl.inj h2), ?_⟩
      have ha : mx_a G k = gO G k := by unfold mx_a; rw [if_pos h1]
      rw [ha]
      exact t.kept (fun a h3 h4 => hR.2.2.1 a h3)
  · by_cases h2 : h.2.1 ≤ k
    · have := e.symm.trans (hR.2.2.2.2.1 k h2)
      cases this
    · have h3 := hR.2.2.2.2.2 k (by omega) (by omega)
      rw [e] at h3
      obtain ⟨ty, hty⟩ := h3.1
      rw [hE.2.2.2.1] at hty
      cases hty
/-- a class: its number, name, fields and their types -/
def mx_Cl (G : mxG) (Ws : List Cond) (ci : Nat) (C : String) (T : u_T) (N : Nat) (ty : Nat → FieldType) : Prop := (gL G)[ci]? = some (C, T, N) ∧ ci < 900 ∧ (∀ w ∈ u_ws C T N, w ∈ Ws) ∧ (∀ k, k < N → parseFieldDescriptor (T k).2.2.1 = some (ty k)) ∧ ∀ a, a < N → ∀ b, b < N → a ≠ b → (T a).2.1 ≠ (T b).2.1
theorem mx_fd_some {ci k : Nat} {c : mxC} {v : Value} (h : mx_fd ci k c = some v) : ∃ fs, c = .inr (ci, fs) ∧ fs[k]? = some v := by
  unfold mx_fd at h
  split at h
  · next c' fs =>
    split at h
    · next e =>
      subst e
      exact ⟨fs, rfl, by rw [← mx_lg_eq]; exact h⟩
    · cases h
  · cases h
set_option maxHeartbeats 1000000 in
theorem ok_getf {G : mxG} {Ws : List Cond} {MT : Nat → Option mxM} {M : mxM} {pc : Nat} {i ci k N : Nat} {C : String} {T : u_T} {ty : Nat → FieldType} (d : decode (qB M) pc = .ok (.getfield i, 3)) (hc : mx_Cl G Ws ci C T N ty) (hk : k < N) (hw : Cond.fieldLink (qY M).cls i (T k).1 (T k).2.1 (T k).2.2.1 ∈ Ws) : mx_Ok G Ws MT M pc (o_getf ci k (pc + 3)) := by
  intro ls st h o ho
  unfold o_getf at ho
  split at ho
  · next a st =>
    split at ho
    · next v hf =>
      have e := Option.some.inj ho
      subst e
      obtain ⟨fs, e1, e2⟩ := mx_fd_some hf
      refine mx_pureC (fun p l e R s m args below meth c H locs cells slots Q lr hC hR hF hl kk => ?_)
      obtain ⟨hx, hb, hml, hown, hts, hnm, hE, -⟩ := hC
      obtain ⟨-, -, r, hr, cell, q1, q2, q3, q4⟩ := mx_R.obj hE hR e1 hc.2.1
      cases hr.symm.trans hc.1
      obtain ⟨hS, hfc, kC, hkC, hkind⟩ := hE.1.1 ci _ hc.1
      obtain ⟨cf, kf, fi, f, hi, hsl⟩ := hS k hk
      refine W.getf hx hb hown (hts _ hw) hi (u_facts hfc hkC (u_lays hts hc.2.2.1 hk) hi).1 q1 (by rw [q3]; exact fun h => by cases h) (v := mx_v G v) ?_ rfl rfl d kk
      rw [hsl, q4 k hk]
      simp [vp_V, e2]
    · cases ho
  · cases ho
def mx_tk : Nat → FieldType → Bool
  | 0, .int => true
  | 1, .long => true
  | 2, .boolean => true
  | 3, .object _ => true
  | 3, .array _ => true
  | _, _ => false
theorem mx_ty_fits {G : mxG} {t : Nat} {ty : FieldType} {v : Value} (h : mx_tk t ty = true) (hv : mx_ty t v = true) : narrow ty (mx_v G v) = mx_v G v ∧ fits ty (mx_v G v) = true := by
  unfold mx_tk at h
  split at h
  · cases v <;> first | exact ⟨rfl, rfl⟩ | cases hv
  · cases v <;> first | exact ⟨rfl, rfl⟩ | cases hv
  · cases v with
    | int x =>
      have hx : (x == 0 || x == 1) = true := hv
      refine ⟨?_, hx⟩
      have hx' : x = 0 ∨ x = 1 := by simpa using hx
      rcases hx' with rfl | rfl <;> rfl
    | _ => cases hv
  · cases v <;> first | exact ⟨rfl, rfl⟩ | cases hv
  · cases v <;> first | exact ⟨rfl, rfl⟩ | cases hv
  · cases h
theorem mx_pd_some {ci k : Nat} {c c' : mxC} {v : Value} (h : mx_pd ci k v c = some c') : ∃ fs, c = .inr (ci, fs) ∧ k < fs.length ∧ c' = .inr (ci, fs.set k v) := by
  unfold mx_pd at h
  split at h
  · next c2 fs =>
    split at h
    · next e =>
      subst e
      split at h
      · next hl => exact ⟨fs, rfl, hl, by rw [← mx_ls_eq]; exact (Option.some.inj h).symm⟩
      · cases h
    · cases h
  · cases h
theorem mx_F.snoc {G : mxG} {locs : List Loc} (h : mx_F G locs) {a i : Nat} (ha : (gH G).size ≤ a) : mx_F G (locs ++ [⟨a, i⟩]) := by
  intro q hq
  rcases List.mem_append.mp hq with h1 | h1
  · exact h q h1
  · rw [List.mem_singleton.mp h1]; exact ha
theorem mx_a_ge (G : mxG) {k : Nat} (h : 16 ≤ k) : (gH G).size ≤ mx_a G k := by rw [mx_a_new G h]; omega
set_option maxHeartbeats 1000000 in
theorem ok_putf {G : mxG} {Ws : List Cond} {MT : Nat → Option mxM} {M : mxM} {pc : Nat} {i ci k t N : Nat} {C : String} {T : u_T} {ty : Nat → FieldType} (d : decode (qB M) pc = .ok (.putfield i, 3)) (hc : mx_Cl G Ws ci C T N ty) (hk : k < N) (hw : Cond.fieldLink (qY M).cls i (T k).1 (T k).2.1 (T k).2.2.1 ∈ Ws) (ht : mx_tk t (ty k) = true) (hfin : (T k).2.2.2 = false ∨ ((T k).2.2.2 = true ∧ (qY M).name = "<init>" ∧ (T k).1 = (qY M).cls)) : mx_Ok G Ws MT M pc (o_putf ci k t (pc + 3)) := by
  intro ls st h o ho
  unfold o_putf at ho
  split at ho
  · next v a st =>
    split at ho
    · next hv =>
      split at ho
      · next c' hp =>
        have e := Option.some.inj ho
        subst e
        obtain ⟨fs, e1, hl, rfl⟩ := mx_pd_some hp
        refine ⟨0, 0, rfl, rfl, fun p l e R s m args below meth c H locs cells slots Q lr hC hR hL hF _ _ kk => ?_⟩
        obtain ⟨hx, hb, hml, hown, hts, hnm, hE, -⟩ := hC
        obtain ⟨g1, g2, r, hr, cell, q1, q2, q3, q4⟩ := mx_R.obj hE hR e1 hc.2.1
        cases hr.symm.trans hc.1
        have hap := va_apart (own := (qY M).cls) hts hc.2.2.1 ty hc.2.2.2.1 hc.2.2.2.2 hE.1 hc.1
        obtain ⟨hS, hfc, kC, hkC, hkind⟩ := hE.1.1 ci _ hc.1
        obtain ⟨cf, kf, fi, f, hi, hsl⟩ := hS k hk
        obtain ⟨n1, n2⟩ := mx_ty_fits (G := G) ht hv
        have hst := (u_facts hfc hkC (u_lays hts hc.2.2.1 hk) hi).1
        have fin : ∀ H' : Heap, H'[mx_a G a]? = some (cell.setSlot f.slot (mx_v G v)) → H'.size = H.size → (∀ q, q ≠ mx_a G a → H'[q]? = H[q]?) → W p l e R s m args below meth c H' (locs ++ [⟨mx_a G a, f.slot⟩]) cells slots Q (F0 m (pc + 3) lr (st.map (mx_v G))) := by
          intro H' f1 f2 f3
          rw [hsl] at f1
          refine kk H' _ lr (hR.put g1 g2 f2 f3 ⟨(C, T, N), hc.1, ?_⟩) hL (hF.snoc (mx_a_ge G g1))
          refine t_OB.to (V := updV (vp_V (fs.map (mx_v G))) k (mx_v G v)) ⟨_, f1, q2, q3, t_set q4 hap hk _⟩ (fun j _ => ?_)
          rw [List.map_set]
          exact vp_updV_set (by rw [List.length_map]; exact hl) _ j
        have hlay := hts _ (hc.2.2.1 _ (u_in_lay hk))
        unfold u_lay at hlay
        rcases hfin with hf | ⟨hf, hi1, hi2⟩
        · rw [if_neg (by rw [hf]; decide)] at hlay
          have h6 := u_store hfc hkC hkind hlay hi (hc.2.2.2.1 k hk) n1 n2
          exact W.putK hx hb (f := f) ⟨hown, hts _ hw, ⟨_, _, _, hi⟩, hst⟩ (by rw [q2]; exact h6) q1 q3 (by rw [hsl]; exact k2_hasslot (q4 k hk)) rfl rfl d fin
        · rw [if_pos hf] at hlay
          have hcf : m.cls = cf := by
            obtain ⟨_, _, c', _, _, _, -, -, hf', -, -, -, hown2, -⟩ := Cond.laysFinal_spec hlay
            have e1 : c' = cf := by have := hi.symm.trans hf'; simp at this; exact this.1.symm
            rw [hi2] at hown2
            rw [← e1]; exact Option.some.inj (hown.symm.trans hown2)
          have h6 := u_fits hfc hkC hkind (Or.inr hlay) hi (hc.2.2.2.1 k hk) n1 n2
          exact W.putFinK hx hb hown (hts _ hw) hi hst hcf (hnm hi1) (by rw [q2]; exact h6) q1 q3 (by rw [hsl]; exact k2_hasslot (q4 k hk)) rfl rfl d fin
      · cases ho
    · cases ho
  · cases ho
/-- what an array holds at a place -/
def mx_cv : mxK → Nat → Value
  | .inl f, j => .int (f j)
  | .inr (.inl f), j => .long (f j)
  | .inr (.inr (.inl f)), j => .float (f j)
  | .inr (.inr (.inr (.inl f))), j => .double (f j)
  | .inr (.inr (.inr (.inr f))), j => va_rf (f j)
theorem mx_cell_v (cA : ClassId) (n : Nat) (x : mxK) : vp_cell cA (n, x) = arrV cA n (mx_cv x) := by
  obtain f | f | f | f | f := x <;> rfl
theorem mx_rv_v (G : mxG) (o : Option Nat) : mx_v G (mx_rv o) = va_rf (o.map (mx_a G)) := by cases o <;> rfl
theorem mx_ald_some {G : mxG} {kn : Nat} {i : Int32} {c : mxC} {v : Value} (h : mx_ald kn i c = some v) : ∃ (k n : Nat) (x : mxK), c = .inl (k, n, x) ∧ (k = kn ∨ k = 9 ∧ kn = 0) ∧ ¬ (i < 0 ∨ n ≤ i.toNatClampNeg) ∧ mx_v G v = mx_cv (mx_k G x) i.toNatClampNeg := by
  unfold mx_ald at h
  split at h
  · next k n f =>
    split at h
    · next e => exact ⟨k, n, .inl f, rfl, e.1, e.2, by rw [← Option.some.inj h]; rfl⟩
    · cases h
  · next k n f =>
    split at h
    · next e => exact ⟨k, n, .inr (.inl f), rfl, Or.inl e.1, e.2, by rw [← Option.some.inj h]; rfl⟩
    · cases h
  · next k n f =>
    split at h
    · next e => exact ⟨k, n, .inr (.inr (.inr (.inr f))), rfl, Or.inl e.1, e.2, by rw [← Option.some.inj h, mx_rv_v]; rfl⟩
    · cases h
  · cases h
section ALD
variable {G : mxG} {Ws : List Cond} {MT : Nat → Option mxM} {M : mxM} {pc : Nat}
theorem mx_read {s : State} {h : mxH} {H : Heap} {kn a : Nat} {i : Int32} {v : Value} {ty : FieldType} (hE : mx_E G s) (hR : mx_R G h H) (hT : gT G kn = some ty) (h9 : kn ≠ 9) (h0 : kn = 0 → ty = .int) (hv : mx_ald kn i (h.1 a) = some v) :
    ∃ cell : Cell, H[mx_a G a]? = some cell ∧ s.isArrayOf cell ty ∧ cell.vm ≠ .unknown ∧ ¬ (i < 0 ∨ cell.slots.size ≤ i.toNatClampNeg) ∧ cell.slots[i.toNatClampNeg]? = some (mx_v G v) := by
  obtain ⟨k, n, x, e1, e2, e3, e4⟩ := mx_ald_some (G := G) hv
  have hlt : i.toNatClampNeg < n := Nat.not_le.mp fun q => e3 (Or.inr q)
  rcases e2 with rfl | ⟨rfl, rfl⟩
  · obtain ⟨g1, g2, g3, g4⟩ := mx_R.arr hE hR e1 h9
    rw [mx_cell_v] at g4
    exact ⟨_, g4, (hE.2.2.1 k ty hT).1 n _, (fun q => by cases q), by rw [arrV_size]; exact e3, by rw [arrV_read _ _ hlt, e4]⟩
  · obtain ⟨L, xs, e5, cell, t1, t2, t3, t4, t5, t6, t7⟩ := mx_R.old hE hR e1
    cases e5
    rw [h0 rfl]
    exact ⟨cell, t1, t2, t3, fun q => by rcases q with q | q; exact e3 (Or.inl q); exact absurd (Nat.lt_of_lt_of_le hlt t4) (Nat.not_lt.mpr q), by rw [t6 _ hlt, e4]; rfl⟩
theorem ok_iald (d : decode (qB M) pc = .ok (.iaload, 1)) (hT : gT G 0 = some .int) : mx_Ok G Ws MT M pc (o_ald 0 (pc + 1)) := by
  intro ls st h o ho
  unfold o_ald at ho
  split at ho
  · split at ho
    · next v hv =>
      have e := Option.some.inj ho
      subst e
      refine mx_pureC (fun p l e R s m args below meth c H locs cells slots Q lr hC hR hF hl kk => ?_)
      obtain ⟨cell, c1, c2, c3, c4, c5⟩ := mx_read hC.2.2.2.2.2.2.1 hR hT (by decide) (fun _ => rfl) hv
      exact W.iald hC.1 hC.2.1 c1 c2 c3 c4 c5 rfl rfl d kk
    · cases ho
  · cases ho
theorem ok_lald (d : decode (qB M) pc = .ok (.laload, 1)) (hT : gT G 1 = some .long) : mx_Ok G Ws MT M pc (o_ald 1 (pc + 1)) := by
  intro ls st h o ho
  unfold o_ald at ho
  split at ho
  · split at ho
    · next v hv =>
      have e := Option.some.inj ho
      subst e
      refine mx_pureC (fun p l e R s m args below meth c H locs cells slots Q lr hC hR hF hl kk => ?_)
      obtain ⟨cell, c1, c2, c3, c4, c5⟩ := mx_read hC.2.2.2.2.2.2.1 hR hT (by decide) (fun q => by cases q) hv
      exact W.lald hC.1 hC.2.1 c1 c2 c3 c4 c5 rfl rfl d kk
    · cases ho
  · cases ho
theorem ok_zald (d : decode (qB M) pc = .ok (.baload, 1)) (hT : gT G 2 = some .boolean) : mx_Ok G Ws MT M pc (o_ald 2 (pc + 1)) := by
  intro ls st h o ho
  unfold o_ald at ho
  split at ho
  · split at ho
    · next v hv =>
      have e := Option.some.inj ho
      subst e
      refine mx_pureC (fun p l e R s m args below meth c H locs cells slots Q lr hC hR hF hl kk => ?_)
      obtain ⟨cell, c1, c2, c3, c4, c5⟩ := mx_read hC.2.2.2.2.2.2.1 hR hT (by decide) (fun q => by cases q) hv
      exact W.zald hC.1 hC.2.1 c1 c2 c3 c4 c5 rfl rfl d kk
    · cases ho
  · cases ho
theorem ok_aald {kn : Nat} {C : String} (d : decode (qB M) pc = .ok (.aaload, 1)) (hT : gT G kn = some (.object C)) (h9 : 3 ≤ kn ∧ kn ≠ 9) : mx_Ok G Ws MT M pc (o_ald kn (pc + 1)) := by
  intro ls st h o ho
  unfold o_ald at ho
  split at ho
  · split at ho
    · next v hv =>
      have e := Option.some.inj ho
      subst e
      refine mx_pureC (fun p l e R s m args below meth c H locs cells slots Q lr hC hR hF hl kk => ?_)
      obtain ⟨cell, c1, c2, c3, c4, c5⟩ := mx_read hC.2.2.2.2.2.2.1 hR hT h9.2 (fun q => absurd h9.1 (by omega)) hv
      exact W.aald hC.1 hC.2.1 c1 c2 rfl c3 c4 c5 rfl rfl d kk
    · cases ho
  · cases ho
theorem ok_alen (d : decode (qB M) pc = .ok (.arraylength, 1)) : mx_Ok G Ws MT M pc (o_alen (pc + 1)) := by
  intro ls st h o ho
  unfold o_alen at ho
  split at ho
  · next a st =>
    split at ho
    · next v hv =>
      have e := Option.some.inj ho
      subst e
      refine mx_pureC (fun p l e R s m args below meth c H locs cells slots Q lr hC hR hF hl kk => ?_)
      have hE := hC.2.2.2.2.2.2.1
      cases hc : h.1 a with
      | inr y => rw [hc] at hv; cases hv
      | inl y =>
        obtain ⟨k, n, x⟩ := y
        rw [hc] at hv
        have hv' : Value.int (nI n) = v := Option.some.inj hv
        subst hv'
        by_cases h9 : k = 9
        · subst h9
          obtain ⟨L, xs, e5, cell, t1, t2, t3, t4, t5, t6, t7⟩ := mx_R.old hE hR hc
          cases e5
          exact W.alen (n := nI n) hC.1 hC.2.1 t1 t2 t5 rfl rfl d kk
        · obtain ⟨g1, g2, ⟨ty, hty⟩, g4⟩ := mx_R.arr hE hR hc h9
          rw [mx_cell_v] at g4
          exact W.alen (n := nI n) hC.1 hC.2.1 g4 ((hE.2.2.1 k ty hty).1 n _) (by rw [arrV_size]; rfl) rfl rfl d kk
    · cases ho
  · cases ho
theorem mx_ast_some {kn : Nat} {i : Int32} {c c' : mxC} {v : Value} (h : mx_ast kn i v c = some c') : ∃ (n : Nat) (x x' : mxK), c = .inl (kn, n, x) ∧ ¬ (i < 0 ∨ n ≤ i.toNatClampNeg) ∧ c' = .inl (kn, n, x') ∧ ∀ cA, (arrV cA n (mx_cv (mx_k G x))).setSlot i.toNatClampNeg (mx_v G v) = vp_cell cA (n, mx_k G x') := by
  unfold mx_ast at h
  split at h
  · next x k n f =>
    split at h
    · next e =>
      obtain ⟨rfl, e2⟩ := e
      refine ⟨n, .inl f, .inl (va_up f i.toNatClampNeg x), rfl, e2, (Option.some.inj h).symm, fun cA => ?_⟩
      rw [arrV_store, mx_cell_v]
      congr 1
      funext q
      by_cases hq : q = i.toNatClampNeg
      · subst hq; simp [updV, mx_cv, mx_k, va_up, mx_v]
      · simp [updV, mx_cv, mx_k, va_up, hq]
    · cases h
  · next x k n f =>
    split at h
    · next e =>
      obtain ⟨rfl, e2⟩ := e
      refine ⟨n, .inr (.inl f), .inr (.inl (va_up f i.toNatClampNeg x)), rfl, e2, (Option.some.inj h).symm, fun cA => ?_⟩
      rw [arrV_store, mx_cell_v]
      congr 1
      funext q
      by_cases hq : q = i.toNatClampNeg
      · subst hq; simp [updV, mx_cv, mx_k, va_up, mx_v]
      · simp [updV, mx_cv, mx_k, va_up, hq]
    · cases h
  · next x k n f =>
    split at h
    · next e =>
      obtain ⟨rfl, e2⟩ := e
      refine ⟨n, .inr (.inr (.inr (.inr f))), .inr (.inr (.inr (.inr (va_up f i.toNatClampNeg (some x))))), rfl, e2, (Option.some.inj h).symm, fun cA => ?_⟩
      rw [arrV_store, mx_cell_v]
      congr 1
      funext q
      by_cases hq : q = i.toNatClampNeg
      · subst hq; simp [updV, mx_cv, mx_k, va_up, mx_v, va_rf]
      · simp [updV, mx_cv, mx_k, va_up, hq]
    · cases h
  · cases h
/-- a store into an array: what the machine's own law must give -/
theorem mx_store {kn a : Nat} {i : Int32} {v : Value} {ls : mxL} {st st' : List Value} {h : mxH} {c' : mxC} {ty : FieldType} {pc' : Nat} (hT : gT G kn = some ty) (h9 : kn ≠ 9) (hv : mx_ast kn i v (h.1 a) = some c')
    (k : ∀ (p : Program) (l : Launch) (e : Env) (R : Room) (s : State) (m : MethodId) (args : Array Value) (below : List Frame) (meth : Method) (c : Code) (H : Heap) (locs : List Loc) (cells slots : Nat) (Q : State → Prop) (lr : Array Slot) (cell : Cell),
      mx_Ctx G Ws M p R s m args meth c → mx_R G h H → H[mx_a G a]? = some cell → s.isArrayOf cell ty → cell.vm = .none → cell.cls = gK G kn → ¬ (i < 0 ∨ cell.slots.size ≤ i.toNatClampNeg) →
      (∀ H' : Heap, H'[mx_a G a]? = some (cell.setSlot i.toNatClampNeg (mx_v G v)) → H'.size = H.size → (∀ q, q ≠ mx_a G a → H'[q]? = H[q]?) → W p l e R s m args below meth c H' (locs ++ [⟨mx_a G a, i.toNatClampNeg⟩]) cells slots Q (F0 m pc' lr (st'.map (mx_v G)))) →
      W p l e R s m args below meth c H locs cells slots Q (F0 m pc lr (st.map (mx_v G)))) : mx_Go G Ws M pc ls st h pc' ls st' (mx_up h a c') := by
  obtain ⟨n, x, x', e1, e2, rfl, e4⟩ := mx_ast_some (G := G) hv
  refine ⟨0, 0, rfl, rfl, fun p l e R s m args below meth c H locs cells slots Q lr hC hR hL hF _ _ kk => ?_⟩
  have hE := hC.2.2.2.2.2.2.1
  obtain ⟨g1, g2, hty, g4⟩ := mx_R.arr hE hR e1 h9
  rw [mx_cell_v] at g4
  refine k p l e R s m args below meth c H locs cells slots Q lr _ hC hR g4 ((hE.2.2.1 kn ty hT).1 n _) rfl rfl (by rw [arrV_size]; exact e2) (fun H' f1 f2 f3 => ?_)
  exact kk H' _ lr (hR.put g1 g2 f2 f3 ⟨hty, by rw [f1]; exact congrArg some (e4 _)⟩) hL (hF.snoc (mx_a_ge G g1))
theorem ok_iast (d : decode (qB M) pc = .ok (.iastore, 1)) (hT : gT G 0 = some .int) : mx_Ok G Ws MT M pc (o_ast 0 0 (pc + 1)) := by
  intro ls st h o ho
  unfold o_ast at ho
  split at ho
  · next v i a st =>
    split at ho
    · next ht =>
      split at ho
      · next c' hv =>
        have e := Option.some.inj ho
        subst e
        cases v with
        | int x => exact mx_store hT (by decide) hv (fun p l e R s m args below meth c H locs cells slots Q lr cell hC hR c1 c2 c3 c4 c5 kk => W.iast hC.1 hC.2.1 c1 c2 (by rw [c3]; exact fun q => by cases q) c5 rfl rfl d kk)
        | _ => cases ht
      · cases ho
    · cases ho
  · cases ho
theorem ok_last (d : decode (qB M) pc = .ok (.lastore, 1)) (hT : gT G 1 = some .long) : mx_Ok G Ws MT M pc (o_ast 1 1 (pc + 1)) := by
  intro ls st h o ho
  unfold o_ast at ho
  split at ho
  · next v i a st =>
    split at ho
    · next ht =>
      split at ho
      · next c' hv =>
        have e := Option.some.inj ho
        subst e
        cases v with
        | long x => exact mx_store hT (by decide) hv (fun p l e R s m args below meth c H locs cells slots Q lr cell hC hR c1 c2 c3 c4 c5 kk => W.last hC.1 hC.2.1 c1 c2 (by rw [c3]; exact fun q => by cases q) c5 rfl rfl d kk)
        | _ => cases ht
      · cases ho
    · cases ho
  · cases ho
theorem ok_zast (d : decode (qB M) pc = .ok (.bastore, 1)) (hT : gT G 2 = some .boolean) : mx_Ok G Ws MT M pc (o_ast 2 2 (pc + 1)) := by
  intro ls st h o ho
  unfold o_ast at ho
  split at ho
  · next v i a st =>
    split at ho
    · next ht =>
      split at ho
      · next c' hv =>
        have e := Option.some.inj ho
        subst e
        cases v with
        | int x =>
          have hn := (mx_ty_fits (G := G) (t := 2) (ty := .boolean) (v := .int x) rfl ht).1
          exact mx_store hT (by decide) hv (fun p l e R s m args below meth c H locs cells slots Q lr cell hC hR c1 c2 c3 c4 c5 kk => W.zast hC.1 hC.2.1 c1 c2 (by rw [c3]; exact fun q => by cases q) c5 rfl rfl d (fun H' f1 => kk H' (by rw [f1]; exact congrArg (fun z => some (cell.setSlot i.toNatClampNeg z)) hn)))
        | _ => cases ht
      · cases ho
    · cases ho
  · cases ho
theorem ok_aast {kn ci N : Nat} {C : String} {T : u_T} {ty : Nat → FieldType} (d : decode (qB M) pc = .ok (.aastore, 1)) (hc : mx_Cl G Ws ci C T N ty) (hT : gT G kn = some (.object C)) (h9 : kn ≠ 9) : mx_Ok G Ws MT M pc (o_aast kn ci (pc + 1)) := by
  intro ls st h o ho
  unfold o_aast at ho
  split at ho
  · next x i a st =>
    split at ho
    · next ht =>
      split at ho
      · next c' hv =>
        have e := Option.some.inj ho
        subst e
        refine mx_store hT h9 hv (fun p l e R s m args below meth c H locs cells slots Q lr cell hC hR c1 c2 c3 c4 c5 kk => ?_)
        have hE := hC.2.2.2.2.2.2.1
        obtain ⟨fs, hfs⟩ : ∃ fs, h.1 x = .inr (ci, fs) := by
          cases hx : h.1 x with
          | inl y => rw [hx] at ht; cases ht
          | inr y =>
            rw [hx] at ht
            have hy : y.1 = ci := by simpa [mx_isc] using ht
            exact ⟨y.2, by rw [← hy]⟩
        obtain ⟨-, -, r, hr, cv, q1, q2, q3, q4⟩ := mx_R.obj hE hR hfs hc.2.1
        obtain ⟨kA, comp, k1, k2, k3, -⟩ := (hE.2.2.1 kn _ hT).2
        have hcls := (hE.1.1 ci _ hc.1).2
        have hcomp : comp = (gD G).1 ci := Option.some.inj (k3.symm.trans hcls.1)
        subst hcomp
        obtain ⟨kC, hkC, hkd⟩ := hcls.2
        exact W.aast hC.1 hC.2.1 c1 (fun q h => by rw [c3] at h; cases h) (by rw [c3]; exact fun q => by cases q) (by rw [c4]; exact k1) k2 rfl hkC ⟨fun q => c5 (Or.inl q), Nat.not_le.mp fun q => c5 (Or.inr q)⟩ q1 (fun q h => by rw [q3] at h; cases h) (by rw [q2]; exact hkC) (by rw [q2]; exact va_assign hcls) rfl rfl d kk
      · cases ho
    · cases ho
  · cases ho
end ALD
section NEW
variable {G : mxG} {Ws : List Cond} {MT : Nat → Option mxM} {M : mxM} {pc : Nat}
theorem mx_plain {G : mxG} : ∀ {fs : List Value}, fs.all (fun v => match v with | .ref _ => false | _ => true) = true → fs.map (mx_v G) = fs
  | [], _ => rfl
  | v :: l, h => by
    rw [List.all_cons, Bool.and_eq_true] at h
    rw [List.map_cons, mx_plain h.2]
    cases v <;> first | rfl | (cases h.1)
theorem ok_new {i ci N : Nat} {C : String} {T : u_T} {ty : Nat → FieldType} {fs : List Value} (d : decode (qB M) pc = .ok (.new i, 3)) (hc : mx_Cl G Ws ci C T N ty) (hw1 : Cond.classLink (qY M).cls i C ∈ Ws) (hw2 : Cond.instantiable C N ∈ Ws) (hw3 : Cond.initialized C ∈ Ws) (hl : fs.length = N) (hfs : ∀ j, j < N → defaultValue (ty j) = vp_V fs j) (hp : fs.all (fun v => match v with | .ref _ => false | _ => true) = true) : mx_Ok G Ws MT M pc (o_new ci fs (pc + 3)) := by
  intro ls st h o ho
  have e := Option.some.inj ho
  subst e
  refine ⟨1, fs.length, rfl, rfl, fun p l e R s m args below meth c H locs cells slots Q lr hC hR hL hF h1 h2 kk => ?_⟩
  obtain ⟨hx, hb, hml, hown, hts, hnm, hE, -⟩ := hC
  have hKn := hE.1.1 ci _ hc.1
  have hnew := hR.new
  subst hl
  refine W.newcK hx hb hown (hts _ hw1) (hts _ hw2) (hts _ hw3) rfl d h1 h2 hKn.2.1 rfl fun H1 kC hkC e1 z1 o1 => ?_
  have hR' : mx_R G (mx_mk h (.inr (ci, fs)) fs.length) H1 := by
    refine hR.push z1 o1 ⟨_, hc.1, ?_⟩
    rw [hnew, mx_plain hp]
    exact (u_born ty hts hc.2.2.1 hKn hkC e1 hc.2.2.2.1).to hfs
  have k2 := kk H1 locs lr hR' hL hF
  rw [List.map_cons, show mx_v G (.ref h.2.1) = .ref H.size by rw [← hnew]; rfl] at k2
  exact k2
theorem mx_newa {kn : Nat} {x : Int32} {ls : mxL} {st : List Value} {h : mxH} {ln : Nat} {z : Value} (hT : ∃ ty, gT G kn = some ty) (hz : ∀ cA n, vp_cell cA (n, mx_k G (if kn = 1 then .inr (.inl (fun _ => 0)) else if kn ≤ 2 then .inl (fun _ => 0) else .inr (.inr (.inr (.inr (fun _ => none)))))) = arrV cA n (fun _ => z))
    (k : ∀ (p : Program) (l : Launch) (e : Env) (R : Room) (s : State) (m : MethodId) (args : Array Value) (below : List Frame) (meth : Method) (c : Code) (H : Heap) (locs : List Loc) (cells slots : Nat) (Q : State → Prop) (lr : Array Slot),
      mx_Ctx G Ws M p R s m args meth c → mx_R G h H → cells + 1 ≤ R.cells → slots + x.toNatClampNeg ≤ R.slots → (∀ H' : Heap, H'[H.size]? = some (arrV (gK G kn) x.toNatClampNeg (fun _ => z)) → H'.size = H.size + 1 → (∀ q, q < H.size → H'[q]? = H[q]?) → W p l e R s m args below meth c H' locs (cells + 1) (slots + x.toNatClampNeg) Q (F0 m (pc + ln) lr (.ref H.size :: st.map (mx_v G)))) →
      W p l e R s m args below meth c H locs cells slots Q (F0 m pc lr ((.int x :: st).map (mx_v G)))) :
    mx_Go G Ws M pc ls (.int x :: st) h (pc + ln) ls (.ref h.2.1 :: st) (mx_mk h (mx_ar0 kn x.toNatClampNeg) x.toNatClampNeg) := by
  refine ⟨1, x.toNatClampNeg, rfl, rfl, fun p l e R s m args below meth c H locs cells slots Q lr hC hR hL hF h1 h2 kk => ?_⟩
  have hnew := hR.new
  refine k p l e R s m args below meth c H locs cells slots Q lr hC hR h1 h2 (fun H' e1 z1 o1 => ?_)
  have hR' : mx_R G (mx_mk h (mx_ar0 kn x.toNatClampNeg) x.toNatClampNeg) H' := by
    refine hR.push z1 o1 ⟨hT, ?_⟩
    rw [hnew, e1]
    exact congrArg some (hz (gK G kn) x.toNatClampNeg).symm
  have k2 := kk H' locs lr hR' hL hF
  rw [List.map_cons, show mx_v G (.ref h.2.1) = .ref H.size by rw [← hnew]; rfl] at k2
  exact k2
theorem mx_newK {kn : Nat} {atype : ArrayType} {ty : FieldType} {z : Value} (d : decode (qB M) pc = .ok (.newarray atype, 2)) (hty : newarray.typeOf atype = ty) (hb : componentBytes ty ≤ 8) (hw : Cond.arrayClass ty ∈ Ws) (hT : gT G kn = some ty) (hra : ∀ (U : State) (cA : ClassId), va_RA U cA ty → U.vm.findClass ("[" ++ ty.toString) = some cA) (hd : defaultValue ty = z)
    (hz : ∀ cA n, vp_cell cA (n, mx_k G (if kn = 1 then .inr (.inl (fun _ => 0)) else if kn ≤ 2 then .inl (fun _ => 0) else .inr (.inr (.inr (.inr (fun _ => none)))))) = arrV cA n (fun _ => z)) : mx_Ok G Ws MT M pc (o_newa kn (pc + 2)) := by
  intro ls st h o ho
  unfold o_newa at ho
  split at ho
  · next x st =>
    split at ho
    · cases ho
    · next hx =>
      have e := Option.some.inj ho
      subst e
      refine mx_newa ⟨ty, hT⟩ hz (fun p l e R s m args below meth c H locs cells slots Q lr hC hR h1 h2 kk => ?_)
      have hlt : ¬ 50000000 < x.toNatClampNeg := fun q => hx (Or.inr q)
      have hbytes : x.toNatClampNeg * componentBytes (newarray.typeOf atype) ≤ 536870912 := by
        rw [hty]
        exact Nat.le_trans (Nat.mul_le_mul (Nat.not_lt.mp hlt) hb) (by decide)
      refine va_newaK hC.1 hC.2.1 (by rw [hty]; exact hC.2.2.2.2.1 _ hw) rfl d rfl (fun q => hx (Or.inl q)) rfl hbytes h1 h2 rfl (fun H' cA e1 z1 o1 hA hN => ?_)
      rw [hty] at e1 hN
      rw [hd] at e1
      have hcA : cA = gK G kn := Option.some.inj (hN.symm.trans (hra s _ (hC.2.2.2.2.2.2.1.2.2.1 kn ty hT).2))
      rw [hcA] at e1
      exact kk H' e1 z1 o1
  · cases ho
theorem ok_newi (d : decode (qB M) pc = .ok (.newarray .int, 2)) (hw : Cond.arrayClass .int ∈ Ws) (hT : gT G 0 = some .int) : mx_Ok G Ws MT M pc (o_newa 0 (pc + 2)) := mx_newK d rfl (by decide) hw hT (fun _ _ h => h) rfl (fun _ _ => rfl)
theorem ok_newl (d : decode (qB M) pc = .ok (.newarray .long, 2)) (hw : Cond.arrayClass .long ∈ Ws) (hT : gT G 1 = some .long) : mx_Ok G Ws MT M pc (o_newa 1 (pc + 2)) := mx_newK d rfl (by decide) hw hT (fun _ _ h => h) rfl (fun _ _ => rfl)
theorem ok_newz (d : decode (qB M) pc = .ok (.newarray .boolean, 2)) (hw : Cond.arrayClass .boolean ∈ Ws) (hT : gT G 2 = some .boolean) : mx_Ok G Ws MT M pc (o_newa 2 (pc + 2)) := mx_newK d rfl (by decide) hw hT (fun _ _ h => h) rfl (fun _ _ => rfl)
theorem ok_anew {kn i : Nat} {C : String} (d : decode (qB M) pc = .ok (.anewarray i, 3)) (hw : Cond.classLink (qY M).cls i C ∈ Ws) (ho : Cond.arrayOver (.object C) ∈ gN G) (hT : gT G kn = some (.object C)) (h3 : 3 ≤ kn) : mx_Ok G Ws MT M pc (o_newa kn (pc + 3)) := by
  intro ls st h o hq
  unfold o_newa at hq
  split at hq
  · next x st =>
    split at hq
    · cases hq
    · next hx =>
      have e := Option.some.inj hq
      subst e
      have hz : ∀ cA n, vp_cell cA (n, mx_k G (if kn = 1 then .inr (.inl (fun _ => 0)) else if kn ≤ 2 then .inl (fun _ => 0) else .inr (.inr (.inr (.inr (fun _ => none)))))) = arrV cA n (fun _ => .null) := by
        intro cA n
        rw [if_neg (by omega), if_neg (by omega)]
        rfl
      refine mx_newa ⟨_, hT⟩ hz (fun p l e R s m args below meth c H locs cells slots Q lr hC hR h1 h2 kk => ?_)
      have hlt : ¬ 50000000 < x.toNatClampNeg := fun q => hx (Or.inr q)
      have hE := hC.2.2.2.2.2.2.1
      refine W.anew hC.1 hC.2.1 hC.2.2.2.1 (hC.2.2.2.2.1 _ hw) (va_AO.use (hE.2.2.2.2.2.1 _ ho).2) rfl d rfl (fun q => hx (Or.inl q)) (by omega) h1 h2 fun cA kA comp f1 f2 f3 f4 => ?_
      obtain ⟨kA', comp', k1, k2, k3, k4⟩ := (hE.2.2.1 kn _ hT).2
      have hcA : cA = gK G kn := Option.some.inj (f1.symm.trans k4)
      rw [arrV_new, hcA]
      refine kk _ ?_ ?_ ?_
      · rw [Array.getElem?_push_size]
      · rw [Array.size_push]
      · intro q hq
        rw [Array.getElem?_push, if_neg (Nat.ne_of_lt hq)]
  · cases hq
theorem ok_oin {i : Nat} (d : decode (qB M) pc = .ok (.invokespecial i, 3)) (hw1 : Cond.methodLink (qY M).cls i Lib.objectInit ∈ Ws) (hw2 : Cond.instanceMethod Lib.objectInit ∈ Ws) (hw3 : Cond.code Lib.objectInit ⟨#[0xb1]⟩ 1 none ∈ Ws) (hf : 1 ≤ qF M) (hl : 12 ≤ qW M) : mx_Ok G Ws MT M pc (o_oin (pc + 3)) := by
  intro ls st h o ho
  unfold o_oin at ho
  split at ho
  · have e := Option.some.inj ho
    subst e
    refine mx_pureC (fun p l e R s m args below meth c H locs cells slots Q lr hC hR hF hL kk => ?_)
    obtain ⟨hx, hb, hml, hown, hts, hnm, hE, hf2, hl2⟩ := hC
    exact W.objInit hx hb hown (hts _ hw1) (hts _ hw2) (hts _ hw3) rfl (by rw [hml]; exact hL.1) rfl d (Nat.le_trans hf hf2) (Nat.le_trans hl hl2) kk
  · cases ho
end NEW
