/-! FROM THE SMALL MACHINE TO THE CLAIM -/
theorem mx_inst_0 : Cond.instantiable "CorridorCells" 7 ∈ mx_W := w_13
theorem mx_inst_1 : Cond.instantiable "CorridorCells$Ground" 18 ∈ mx_W := w_21
theorem mx_inst_2 : Cond.instantiable "CorridorCells$Search" 10 ∈ mx_W := w_118
theorem mx_inst_3 : Cond.instantiable "CorridorCells$LabelQueue" 6 ∈ mx_W := w_124
theorem mx_inst_4 : Cond.instantiable "CorridorCells$Way" 3 ∈ mx_W := w_184
theorem mx_inst_5 : Cond.instantiable "CorridorCellsModel" 33 ∈ mx_W := w_596
theorem mx_inst_6 : Cond.instantiable "CorridorCells$Span" 5 ∈ mx_W := w_496
theorem mx_ac_int : Cond.arrayClass .int ∈ mx_W := w_114
theorem mx_ac_long : Cond.arrayClass .long ∈ mx_W := w_116
theorem mx_ac_boolean : Cond.arrayClass .boolean ∈ mx_W := w_115
theorem mx_ls_1 : Cond.laysStatic "CorridorCells" "DX" "[I" ∈ lw_tbl := by decide +kernel
theorem mx_ls_2 : Cond.laysStatic "CorridorCells" "DY" "[I" ∈ lw_tbl := by decide +kernel
theorem mx_ls_3 : Cond.laysStatic "CorridorCells" "LENGTHS" "[I" ∈ lw_tbl := by decide +kernel
theorem mx_ns_nw : ∀ w ∈ mx_ns, mx_nw w := by
  intro w hw
  simp only [mx_ns, List.mem_cons, List.not_mem_nil, or_false] at hw
  rcases hw with rfl | rfl | rfl | rfl | rfl | rfl | rfl | rfl | rfl <;> first | exact Or.inl ⟨_, _, _, _, rfl⟩ | exact Or.inr (Or.inl ⟨_, _, _, _, _, _, rfl⟩) | exact Or.inr (Or.inr ⟨_, rfl⟩)
theorem mx_nw_of {w : Cond} (hw : mx_nw w) {args : Array Value} {s : State} (h : w.before args s = true) : va_Nw w s := by
  rcases hw with ⟨a, i, x, hh, rfl⟩ | ⟨a, i, b, n, d, hh, rfl⟩ | ⟨C, rfl⟩
  · exact va_Nw.of rfl h
  · exact va_Nw.of rfl h
  · exact h
theorem mx_allP {G : mxG} (hG : mx_GG G) : ∀ j M pc r, mx_MT j = some M → mx_P j pc = some r → mx_Ok G mx_W mx_MT M pc r := by
  intro j M pc r hM hP
  exact mx_allk hG j M hM pc r hP
def ar_1 : List Int32 := [1, 2, 1, 1, 0, (-1), (-1), (-2), (-1), (-2), (-1), (-1), 0, 1, 1, 2]
def ar_2 : List Int32 := [0, 1, 1, 2, 1, 2, 1, 1, 0, (-1), (-1), (-2), (-1), (-2), (-1), (-1)]
def ar_3 : List Int32 := [10, 22, 14, 22, 10, 22, 14, 22, 10, 22, 14, 22, 10, 22, 14, 22]
def mx_oc0 (L : Nat) (xs : Nat → Int32) : Nat → mxC := fun k => if k = 0 then .inl (9, L, .inl xs) else if k = 1 then .inl (9, 16, .inl (fun j => ar_1.getD j 0)) else if k = 2 then .inl (9, 16, .inl (fun j => ar_2.getD j 0)) else if k = 3 then .inl (9, 16, .inl (fun j => ar_3.getD j 0)) else mx_no
def mx_h0 (L : Nat) (xs : Nat → Int32) : mxH := (mx_oc0 L xs, 16, 0)
/-- what is to be shown of the small machine -/
def mx_Pure : Prop := ∀ (L : Nat) (xs : Nat → Int32), L ≤ 3586 → mw mx_P 0 0 (mx_ent [.ref 0]) [] (mx_h0 L xs) (fun v h' => v = some (.int 1) ∧ h'.2.1 ≤ 600016 ∧ h'.2.2 ≤ 7302250)
theorem mx_st1 {args : Array Value} {s : State} (hgv : (Jvm.Cond.and given_1 narrow_1).before args s = true) : ∃ t : Nat, (Term.static "CorridorCells" "DX" "[I").eval args s none [] s = some (.ref t) ∧ va_T .int t 16 (fun j => .int (ar_1.getD j 0)) (fun q => s.heap.size ≤ q) s s.heap := by
  have hs := flat_of_before _ hgv
  refine va_Tof (tm := .static "CorridorCells" "DX" "[I") (by decide) (hs _ (by decide +kernel)) (va_eqt (hs _ (by decide +kernel))) (fun j hj => ?_) (fun a ha => Nat.not_le.mpr ha)
  match j, hj with
  | 0, _ => exact va_eqt (z := 1) (hs _ (by decide +kernel))
  | 1, _ => exact va_eqt (z := 2) (hs _ (by decide +kernel))
  | 2, _ => exact va_eqt (z := 1) (hs _ (by decide +kernel))
  | 3, _ => exact va_eqt (z := 1) (hs _ (by decide +kernel))
  | 4, _ => exact va_eqt (z := 0) (hs _ (by decide +kernel))
  | 5, _ => exact va_eqt (z := (-1)) (hs _ (by decide +kernel))
  | 6, _ => exact va_eqt (z := (-1)) (hs _ (by decide +kernel))
  | 7, _ => exact va_eqt (z := (-2)) (hs _ (by decide +kernel))
  | 8, _ => exact va_eqt (z := (-1)) (hs _ (by decide +kernel))
  | 9, _ => exact va_eqt (z := (-2)) (hs _ (by decide +kernel))
  | 10, _ => exact va_eqt (z := (-1)) (hs _ (by decide +kernel))
  | 11, _ => exact va_eqt (z := (-1)) (hs _ (by decide +kernel))
  | 12, _ => exact va_eqt (z := 0) (hs _ (by decide +kernel))
  | 13, _ => exact va_eqt (z := 1) (hs _ (by decide +kernel))
  | 14, _ => exact va_eqt (z := 1) (hs _ (by decide +kernel))
  | 15, _ => exact va_eqt (z := 2) (hs _ (by decide +kernel))
  | k + 16, h => exact absurd h (by omega)
theorem mx_st2 {args : Array Value} {s : State} (hgv : (Jvm.Cond.and given_1 narrow_1).before args s = true) : ∃ t : Nat, (Term.static "CorridorCells" "DY" "[I").eval args s none [] s = some (.ref t) ∧ va_T .int t 16 (fun j => .int (ar_2.getD j 0)) (fun q => s.heap.size ≤ q) s s.heap := by
  have hs := flat_of_before _ hgv
  refine va_Tof (tm := .static "CorridorCells" "DY" "[I") (by decide) (hs _ (by decide +kernel)) (va_eqt (hs _ (by decide +kernel))) (fun j hj => ?_) (fun a ha => Nat.not_le.mpr ha)
  match j, hj with
  | 0, _ => exact va_eqt (z := 0) (hs _ (by decide +kernel))
  | 1, _ => exact va_eqt (z := 1) (hs _ (by decide +kernel))
  | 2, _ => exact va_eqt (z := 1) (hs _ (by decide +kernel))
  | 3, _ => exact va_eqt (z := 2) (hs _ (by decide +kernel))
  | 4, _ => exact va_eqt (z := 1) (hs _ (by decide +kernel))
  | 5, _ => exact va_eqt (z := 2) (hs _ (by decide +kernel))
  | 6, _ => exact va_eqt (z := 1) (hs _ (by decide +kernel))
  | 7, _ => exact va_eqt (z := 1) (hs _ (by decide +kernel))
  | 8, _ => exact va_eqt (z := 0) (hs _ (by decide +kernel))
  | 9, _ => exact va_eqt (z := (-1)) (hs _ (by decide +kernel))
  | 10, _ => exact va_eqt (z := (-1)) (hs _ (by decide +kernel))
  | 11, _ => exact va_eqt (z := (-2)) (hs _ (by decide +kernel))
  | 12, _ => exact va_eqt (z := (-1)) (hs _ (by decide +kernel))
  | 13, _ => exact va_eqt (z := (-2)) (hs _ (by decide +kernel))
  | 14, _ => exact va_eqt (z := (-1)) (hs _ (by decide +kernel))
  | 15, _ => exact va_eqt (z := (-1)) (hs _ (by decide +kernel))
  | k + 16, h => exact absurd h (by omega)
theorem mx_st3 {args : Array Value} {s : State} (hgv : (Jvm.Cond.and given_1 narrow_1).before args s = true) : ∃ t : Nat, (Term.static "CorridorCells" "LENGTHS" "[I").eval args s none [] s = some (.ref t) ∧ va_T .int t 16 (fun j => .int (ar_3.getD j 0)) (fun q => s.heap.size ≤ q) s s.heap := by
  have hs := flat_of_before _ hgv
  refine va_Tof (tm := .static "CorridorCells" "LENGTHS" "[I") (by decide) (hs _ (by decide +kernel)) (va_eqt (hs _ (by decide +kernel))) (fun j hj => ?_) (fun a ha => Nat.not_le.mpr ha)
  match j, hj with
  | 0, _ => exact va_eqt (z := 10) (hs _ (by decide +kernel))
  | 1, _ => exact va_eqt (z := 22) (hs _ (by decide +kernel))
  | 2, _ => exact va_eqt (z := 14) (hs _ (by decide +kernel))
  | 3, _ => exact va_eqt (z := 22) (hs _ (by decide +kernel))
  | 4, _ => exact va_eqt (z := 10) (hs _ (by decide +kernel))
  | 5, _ => exact va_eqt (z := 22) (hs _ (by decide +kernel))
  | 6, _ => exact va_eqt (z := 14) (hs _ (by decide +kernel))
  | 7, _ => exact va_eqt (z := 22) (hs _ (by decide +kernel))
  | 8, _ => exact va_eqt (z := 10) (hs _ (by decide +kernel))
  | 9, _ => exact va_eqt (z := 22) (hs _ (by decide +kernel))
  | 10, _ => exact va_eqt (z := 14) (hs _ (by decide +kernel))
  | 11, _ => exact va_eqt (z := 22) (hs _ (by decide +kernel))
  | 12, _ => exact va_eqt (z := 10) (hs _ (by decide +kernel))
  | 13, _ => exact va_eqt (z := 22) (hs _ (by decide +kernel))
  | 14, _ => exact va_eqt (z := 14) (hs _ (by decide +kernel))
  | 15, _ => exact va_eqt (z := 22) (hs _ (by decide +kernel))
  | k + 16, h => exact absurd h (by omega)
theorem mx_arrK {args : Array Value} {s : State} {ty : FieldType} (h : (Cond.arrayClass ty).before args s = true) (hr : ∀ cA : ClassId, s.vm.findClass ("[" ++ ty.toString) = some cA → va_RA s cA ty) : ∃ cA : ClassId, ArrOfT s cA ty ∧ va_RA s cA ty := by
  obtain ⟨cA, kA, comp, h1, h2, h3⟩ := Cond.arrayClass_spec h
  exact ⟨cA, fun n z => ⟨fun k h => (by cases h), kA, h2, comp, h3⟩, hr cA h1⟩
theorem mx_arrO {args : Array Value} {s : State} {C : String} (h : (Cond.arrayOver (.object C)).before args s = true) : ∃ cA : ClassId, ArrOfT s cA (.object C) ∧ va_RA s cA (.object C) := by
  obtain ⟨comp, cA, kA, h1, h2, h3, h4, h5⟩ := Cond.arrayOver_spec h
  exact ⟨cA, fun n z => ⟨fun k h => (by cases h), kA, h3, comp, h4⟩, kA, comp, h3, h4, h1, h5⟩
set_option maxHeartbeats 4000000 in
set_option maxRecDepth 100000 in
/-- THE LAW, from its entry, out of the small machine -/
theorem whole_start_of (HP : mx_Pure) {p : Program} {e : Env} {s : State} {m : MethodId} {below : List Frame} {meth : Method} {c : Code} (l : Launch) {b L : Nat} {xs : Nat → Int32} (hL : L ≤ 3586) (C0 : lw_At p s m meth c b L xs) : W p l e room_1 s m #[Value.ref b] below meth c s.heap [] 0 0 (lw_Z below #[Value.ref b] s) (entryFrame m ([Value.ref b] : List Value).toArray 4) := by
  obtain ⟨hx, hb, hr, hml, hown, hts, hX, hbl, hlocks, hgv⟩ := C0
  have htw : ∀ w ∈ mx_W, w.before #[Value.ref b] s = true := fun w hw => hts w (mx_W_in hw)
  obtain ⟨c0, iS0, hK0⟩ := u_known (C := "CorridorCells") (T := TT_0) (N := 7) (n := 7) htw tw_0 (htw _ (mx_inst_0))
  obtain ⟨c1, iS1, hK1⟩ := u_known (C := "CorridorCells$Ground") (T := TT_1) (N := 18) (n := 18) htw tw_1 (htw _ (mx_inst_1))
  obtain ⟨c2, iS2, hK2⟩ := u_known (C := "CorridorCells$Search") (T := TT_2) (N := 10) (n := 10) htw tw_2 (htw _ (mx_inst_2))
  obtain ⟨c3, iS3, hK3⟩ := u_known (C := "CorridorCells$LabelQueue") (T := TT_3) (N := 6) (n := 6) htw tw_3 (htw _ (mx_inst_3))
  obtain ⟨c4, iS4, hK4⟩ := u_known (C := "CorridorCells$Way") (T := TT_4) (N := 3) (n := 3) htw tw_4 (htw _ (mx_inst_4))
  obtain ⟨c5, iS5, hK5⟩ := u_known (C := "CorridorCellsModel") (T := TT_5) (N := 33) (n := 33) htw tw_5 (htw _ (mx_inst_5))
  obtain ⟨c6, iS6, hK6⟩ := u_known (C := "CorridorCells$Span") (T := TT_6) (N := 5) (n := 5) htw tw_6 (htw _ (mx_inst_6))
  obtain ⟨a0, hA0, hB0⟩ := mx_arrK (ty := .int) (htw _ mx_ac_int) (fun _ h => h)
  obtain ⟨a1, hA1, hB1⟩ := mx_arrK (ty := .long) (htw _ mx_ac_long) (fun _ h => h)
  obtain ⟨a2, hA2, hB2⟩ := mx_arrK (ty := .boolean) (htw _ mx_ac_boolean) (fun _ h => h)
  obtain ⟨a3, hA3, hB3⟩ := mx_arrO (C := "CorridorCells$Way") (hts _ (mx_ns_in _ (by decide +kernel)))
  obtain ⟨t1, hv1, hT1⟩ := mx_st1 hgv
  obtain ⟨t2, hv2, hT2⟩ := mx_st2 hgv
  obtain ⟨t3, hv3, hT3⟩ := mx_st3 hgv
  have hZ1 : va_Z "CorridorCells" "DX" "[I" (.ref t1) (fun q => s.heap.size ≤ q) s s.heap := va_Zof (hts _ mx_ls_1) (htw _ w_1) hv1 (fun a ha => Nat.not_le.mpr ha)
  have hZ2 : va_Z "CorridorCells" "DY" "[I" (.ref t2) (fun q => s.heap.size ≤ q) s s.heap := va_Zof (hts _ mx_ls_2) (htw _ w_1) hv2 (fun a ha => Nat.not_le.mpr ha)
  have hZ3 : va_Z "CorridorCells" "LENGTHS" "[I" (.ref t3) (fun q => s.heap.size ≤ q) s s.heap := va_Zof (hts _ mx_ls_3) (htw _ w_1) hv3 (fun a ha => Nat.not_le.mpr ha)
  obtain ⟨G, hG⟩ : ∃ G : mxG, G = (s.heap, (fun k => if k = 0 then c0 else if k = 1 then c1 else if k = 2 then c2 else if k = 3 then c3 else if k = 4 then c4 else if k = 5 then c5 else c6, fun k => if k = 0 then iS0 else if k = 1 then iS1 else if k = 2 then iS2 else if k = 3 then iS3 else if k = 4 then iS4 else if k = 5 then iS5 else iS6), fun k => if k = 0 then a0 else if k = 1 then a1 else if k = 2 then a2 else a3, fun k => if k = 0 then b else if k = 1 then t1 else if k = 2 then t2 else t3, mx_oc0 L xs, mx_cl_, mx_kt, mx_ns, mx_zs) := ⟨_, rfl⟩
  have hGG : mx_GG G := by rw [hG]; exact ⟨rfl, rfl, rfl, rfl⟩
  have hTX : va_T .int b L (fun j => .int (xs j)) (fun q => s.heap.size ≤ q) s s.heap := by
    obtain ⟨scr, h1, h2, h3, h4, h5⟩ := hX
    exact ⟨scr, h1, h2, h3, Nat.le_of_eq h4.symm, by rw [h4], h5, Nat.not_le.mpr hbl⟩
  have hE : mx_E G s := by
    rw [hG]
    refine ⟨⟨?_, fun k q h => by simp at h⟩, (by show mx_cl_.length ≤ 900; decide), ?_, rfl, ?_, fun w hw => ⟨mx_ns_nw w hw, ?_⟩, ?_⟩
    · intro k q hq
      match k, hq with
      | 0, hq => cases hq; exact hK0
      | 1, hq => cases hq; exact hK1
      | 2, hq => cases hq; exact hK2
      | 3, hq => cases hq; exact hK3
      | 4, hq => cases hq; exact hK4
      | 5, hq => cases hq; exact hK5
      | 6, hq => cases hq; exact hK6
      | k + 7, hq => simp [gL, mx_cl_] at hq
    · intro k ty hk
      match k, hk with
      | 0, hk => cases hk; exact ⟨hA0, hB0⟩
      | 1, hk => cases hk; exact ⟨hA1, hB1⟩
      | 2, hk => cases hk; exact ⟨hA2, hB2⟩
      | 3, hk => cases hk; exact ⟨hA3, hB3⟩
      | k + 4, hk => cases hk
    · intro k hk
      match k, hk with
      | 0, _ => exact Or.inr ⟨L, xs, rfl, hTX⟩
      | 1, _ => exact Or.inr ⟨16, _, rfl, hT1⟩
      | 2, _ => exact Or.inr ⟨16, _, rfl, hT2⟩
      | 3, _ => exact Or.inr ⟨16, _, rfl, hT3⟩
      | k + 4, _ => exact Or.inl rfl
    · exact mx_nw_of (mx_ns_nw w hw) (hts w (mx_ns_in w hw))
    · intro q hq
      have hq' : q ∈ mx_zs := hq
      simp only [mx_zs, List.mem_cons, List.not_mem_nil, or_false] at hq'
      rcases hq' with rfl | rfl | rfl
      · exact hZ1
      · exact hZ2
      · exact hZ3
  have hR : mx_R G (mx_h0 L xs) s.heap := by
    rw [hG]
    refine ⟨rfl, Nat.le_refl _, fun _ _ => rfl, fun _ _ => rfl, fun k hk => ?_, fun k h1 h2 => absurd h1 (Nat.not_le.mpr h2)⟩
    have hk' : 16 ≤ k := hk
    show mx_oc0 L xs k = mx_no
    unfold mx_oc0
    rw [if_neg (by omega), if_neg (by omega), if_neg (by omega), if_neg (by omega)]
  obtain ⟨n, v, h', hrun, hv, hz1, hz2⟩ := HP L xs hL
  subst hv
  obtain ⟨dc, ds, e1, e2, hW⟩ := mx_sound (G := G) (Ws := mx_W) (MT := mx_MT) (P := mx_P) (mx_allP hGG) mx_allq n 0 q_L_law 0 _ _ _ _ _ mt_L_law hrun
  have hl := lv_entry ([Value.ref 0].map (mx_v G)) (n := 4) (by rw [mx_ent_len]; decide)
  have hargs : ([Value.ref 0].map (mx_v G)) = [Value.ref b] := by rw [hG]; rfl
  rw [← mx_ent_prs G [Value.ref 0] 0] at hl
  rw [hargs] at hl
  rw [lg_entry_eq]
  have hgH : gH G = s.heap := by rw [hG]
  have f1 : (mx_h0 L xs).2.1 = 16 := rfl
  have f2 : (mx_h0 L xs).2.2 = 0 := rfl
  refine hW p l e room_1 s m #[Value.ref b] below meth c s.heap [] 0 0 _ _ ⟨hx, hb, hml, hown, htw, (fun h => absurd h (by decide)), hE, by decide, by decide⟩ hR hl (fun q hq => by cases hq) (by show 0 + dc ≤ 600000; omega) (by show 0 + ds ≤ 7302250; omega) (fun H' locs' lr' pc' st' r1 r2 r3 => ?_)
  rcases r3 with ⟨-, h2, -⟩ | ⟨x, -, h2, -, h3⟩ | ⟨x, -, rfl, h2, d, -⟩ | ⟨x, -, h2, -⟩ | ⟨x, rt, hx2, -, -, h2, -⟩
  · cases h2
  · cases h3
  · have hx1 : x = 1 := by injection h2 with h2; injection h2 with h2; exact h2.symm
    subst hx1
    refine va_forget (fun q hq => ?_) ?_
    · have := r2 q hq
      rw [hgH] at this
      exact this
    · exact W.widen (k := 600000) (n := 7302250) (by omega) (by omega) (lw_ret hx hb hr hlocks d)
  · cases h2
  · rcases hx2 with rfl | ⟨a, rfl⟩ <;> cases h2
