/-! CALLS, AND THE WHOLE: a run of the small machine is a run of the real one -/
theorem mx_cs_sum (G : mxG) : ∀ (l : List Value), ((l.map (mx_v G)).map fun v => v.category).sum = mx_cs l
  | [] => rfl
  | v :: l => by rw [List.map_cons, List.map_cons, List.sum_cons, mx_cs_sum G l, mx_v_cat]; rfl
def mx_Good (Ws : List Cond) : Prop := ∀ w ∈ Ws, (w.onTables && w.keeps) = true ∨ ∃ ty, w = .arrayClass ty
theorem mx_GoodIn {Ws : List Cond} {M : mxM} (hg : mx_Good Ws) (hc : Cond.code (qY M) (qB M) (qL M) (qR M) ∈ Ws) : GoodIn Ws (mx_ws Ws M) := by
  intro w hw
  rcases List.mem_cons.mp hw with rfl | h
  · exact ⟨hc, hg _ hc⟩
  · exact ⟨h, hg _ h⟩
/-- a method that may be called, of k arguments -/
def mx_Mk (Ws : List Cond) (M : mxM) (k : Nat) : Prop := Cond.code (qY M) (qB M) (qL M) (qR M) ∈ Ws ∧ Cond.initialized (qY M).cls ∈ Ws ∧ ((qY M).cls ≠ "java/lang/invoke/MethodHandle" ∧ (qY M).cls ≠ "java/lang/invoke/VarHandle") ∧ (parseMethodDescriptor (qY M).desc).map (fun d => d.parameters.length) = some k
theorem mx_Mk.par {Ws : List Cond} {M : mxM} {k : Nat} (h : mx_Mk Ws M k) : ∀ sig, parseMethodDescriptor (qY M).desc = some sig → k = sig.parameters.length := by
  intro sig e
  have h2 := h.2.2.2
  rw [e] at h2
  exact (Option.some.inj h2).symm
section CALLS
variable {G : mxG} {Ws : List Cond} {MT : Nat → Option mxM} {M : mxM} {pc : Nat}
set_option maxHeartbeats 1000000 in
theorem ok_cs {i j k : Nat} {M' : mxM} (hg : mx_Good Ws) (d : decode (qB M) pc = .ok (.invokestatic i, 3)) (hM : MT j = some M') (hk : mx_Mk Ws M' k) (hl : Cond.methodLink (qY M).cls i (qY M') ∈ Ws) (hs : Cond.static (qY M') ∈ Ws) (hf : qF M' + 1 ≤ qF M) (hw : 8 + (qL M' + 11) + qW M' ≤ qW M) : mx_Ok G Ws MT M pc (o_cs j k (qL M') (pc + 3)) := by
  intro ls st h o ho
  unfold o_cs at ho
  split at ho
  · next hq =>
    have e := Option.some.inj ho
    subst e
    refine ⟨M', hM, rfl, hq.2, fun p l e R s m args below meth c H locs cells slots mc ms lr Pc Qc free hC hR hL hMet hbl hPc hroom => ?_⟩
    obtain ⟨hx, hb, hml, hown, hts, hnm, hE, hF, hW⟩ := hC
    refine va_runS (As := ((st.take k).reverse).map (mx_v G)) (n := k) (index := i) (nL := qL M) (own := (qY M).cls) (Ts := Ws) (bytes := qB M') (maxL := qL M') (ret := qR M') ⟨hx, hb, hml, hown, hts⟩ hMet ⟨⟨rfl, rfl, Nat.le_trans hf hF, Nat.le_trans hw hW, pay_in hts (mx_GoodIn hg hk.1), List.mem_cons_self, hts _ hk.1, hts _ hk.2.1, hk.2.2.1, hk.par, hts _ hl⟩, hts _ hs⟩ ⟨hbl, hPc⟩ rfl ?_ hL.1 ?_ ?_ d hroom
    · have := hq.1.1
      rw [List.length_map, List.length_reverse, List.length_take]; omega
    · show st.map (mx_v G) = _
      rw [← List.map_reverse, List.reverse_reverse, ← List.map_append, List.take_append_drop]
    · exact lv_room (by rw [mx_cs_sum]; exact hq.1.2)
  · cases ho
set_option maxHeartbeats 1000000 in
theorem ok_csN {i j k : Nat} {M' : mxM} {host : String} (hg : mx_Good Ws) (d : decode (qB M) pc = .ok (.invokestatic i, 3)) (hM : MT j = some M') (hk : mx_Mk Ws M' k) (hl : Cond.methodLinkNest (qY M).cls i (qY M') host ∈ gN G) (hs : Cond.static (qY M') ∈ Ws) (hf : qF M' + 1 ≤ qF M) (hw : 8 + (qL M' + 11) + qW M' ≤ qW M) : mx_Ok G Ws MT M pc (o_cs j k (qL M') (pc + 3)) := by
  intro ls st h o ho
  unfold o_cs at ho
  split at ho
  · next hq =>
    have e := Option.some.inj ho
    subst e
    refine ⟨M', hM, rfl, hq.2, fun p l e R s m args below meth c H locs cells slots mc ms lr Pc Qc free hC hR hL hMet hbl hPc hroom => ?_⟩
    obtain ⟨hx, hb, hml, hown, hts, hnm, hE, hF, hW⟩ := hC
    refine va_runSN (As := ((st.take k).reverse).map (mx_v G)) (n := k) (index := i) (nL := qL M) (own := (qY M).cls) (host := host) (Ts := Ws) (bytes := qB M') (maxL := qL M') (ret := qR M') ⟨hx, hb, hml, hown, hts⟩ hMet ⟨⟨⟨rfl, rfl, Nat.le_trans hf hF, Nat.le_trans hw hW, pay_in hts (mx_GoodIn hg hk.1), List.mem_cons_self⟩, hts _ hk.1, hts _ hk.2.1, hk.2.2.1, hk.par, va_Nw.use rfl (hE.2.2.2.2.2.1 _ hl).2⟩, hts _ hs, trivial⟩ ⟨hbl, hPc⟩ rfl ?_ hL.1 ?_ ?_ d hroom
    · have := hq.1.1
      rw [List.length_map, List.length_reverse, List.length_take]; omega
    · show st.map (mx_v G) = _
      rw [← List.map_reverse, List.reverse_reverse, ← List.map_append, List.take_append_drop]
    · exact lv_room (by rw [mx_cs_sum]; exact hq.1.2)
  · cases ho
theorem mx_cv_some {j ci k w n : Nat} {ls : mxL} {st : List Value} {h : mxH} {o : (Nat × mxL × List Value × mxH) ⊕ (Option Value ⊕ (Nat × List Value × Nat × List Value))} (ho : o_cv j ci k w n ls st h = some o) : ∃ (a : Nat) (t r fs : List Value), st = t ++ .ref a :: r ∧ t.length = k ∧ mx_cs r ≤ 8 ∧ (mx_ent (.ref a :: t.reverse)).length ≤ w ∧ h.1 a = .inr (ci, fs) ∧ o = .inr (.inr (j, .ref a :: t.reverse, n, r)) := by
  unfold o_cv at ho
  split at ho
  · next hq =>
    obtain ⟨⟨⟨q1, q2⟩, q3⟩, q4⟩ := hq
    have e := Option.some.inj ho
    subst e
    cases hd : st.drop k with
    | nil => rw [hd] at q4; cases q4
    | cons x r =>
      rw [hd] at q4
      cases x with
      | ref a =>
        have hst : st = st.take k ++ .ref a :: r := by rw [← hd, List.take_append_drop]
        have hlen : (st.take k).length = k := by rw [List.length_take]; omega
        generalize ht : st.take k = t at hst hlen
        have hl2 : (t ++ [Value.ref a]).length = k + 1 := by rw [List.length_append, hlen]; rfl
        have e0 : st = (t ++ [Value.ref a]) ++ r := by rw [hst]; simp
        have e2 : st.take (k + 1) = t ++ [Value.ref a] := by rw [e0, ← hl2]; exact List.take_left
        have e3 : st.drop (k + 1) = r := by rw [e0, ← hl2]; exact List.drop_left
        have hr : mx_cs r ≤ 8 := by rw [← e3]; exact q2
        have e4 : (st.take (k + 1)).reverse = .ref a :: t.reverse := by rw [e2, List.reverse_append]; rfl
        rw [e4] at q3
        have hcl : ∃ fs, h.1 a = .inr (ci, fs) := by
          have q5 : mx_isc ci (h.1 a) = true := q4
          cases hx : h.1 a with
          | inl y => rw [hx] at q5; cases q5
          | inr y =>
            rw [hx] at q5
            have hy : y.1 = ci := by simpa [mx_isc] using q5
            exact ⟨y.2, by rw [← hy]⟩
        obtain ⟨fs, hfs⟩ := hcl
        exact ⟨a, t, r, fs, hst, hlen, hr, q3, hfs, by rw [e4, e3]⟩
      | _ => cases q4
  · cases ho
set_option maxHeartbeats 1000000 in
theorem ok_cv {i j k ci N : Nat} {M' : mxM} {C : String} {T : u_T} {ty : Nat → FieldType} (hg : mx_Good Ws) (hc : mx_Cl G Ws ci C T N ty) (d : decode (qB M) pc = .ok (.invokevirtual i, 3)) (hM : MT j = some M') (hk : mx_Mk Ws M' k) (hl : Cond.methodLink (qY M).cls i (qY M') ∈ Ws) (hs : Cond.instanceMethod (qY M') ∈ Ws) (hse : Cond.selects C (qY M') (qY M') ∈ Ws) (hf : qF M' + 1 ≤ qF M) (hw : 8 + (qL M' + 11) + qW M' ≤ qW M) : mx_Ok G Ws MT M pc (o_cv j ci k (qL M') (pc + 3)) := by
  intro ls st h o ho
  obtain ⟨a, t, r, fs, rfl, h1, h2, h3, h4, rfl⟩ := mx_cv_some ho
  refine ⟨M', hM, rfl, h3, fun p l e R s m args below meth c H locs cells slots mc ms lr Pc Qc free hC hR hL hMet hbl hPc hroom => ?_⟩
  obtain ⟨hx, hb, hml, hown, hts, hnm, hE, hF, hW⟩ := hC
  obtain ⟨-, -, r0, hr0, cell, q1, q2, q3, q4⟩ := mx_R.obj hE hR h4 hc.2.1
  have hrec : ∃ cellB : Cell, H[mx_a G a]? = some cellB ∧ cellB.vm.isStatics = false ∧ s.vm.findClass C = some cellB.cls := ⟨cell, q1, by rw [q3]; rfl, by rw [q2]; exact (hE.1.1 ci _ hc.1).2.1⟩
  refine va_runV (As := (t.reverse).map (mx_v G)) (b := mx_a G a) (C := C) (n := k) (index := i) (nL := qL M) (own := (qY M).cls) (Ts := Ws) (bytes := qB M') (maxL := qL M') (ret := qR M') ⟨hx, hb, hml, hown, hts⟩ hMet ⟨⟨rfl, rfl, Nat.le_trans hf hF, Nat.le_trans hw hW, pay_in hts (mx_GoodIn hg hk.1), List.mem_cons_self, hts _ hk.1, hts _ hk.2.1, hk.2.2.1, hk.par, hts _ hl⟩, hts _ hs, hts _ hse⟩ ⟨hbl, hrec, hPc⟩ rfl ?_ hL.1 ?_ ?_ d hroom
  · rw [List.length_map, List.length_reverse]; exact h1
  · show (t ++ .ref a :: r).map (mx_v G) = _
    rw [← List.map_reverse, List.reverse_reverse, List.map_append]
    rfl
  · exact lv_room (by rw [mx_cs_sum]; exact h2)
set_option maxHeartbeats 1000000 in
theorem ok_cvN {i j k ci N : Nat} {M' : mxM} {C host : String} {T : u_T} {ty : Nat → FieldType} (hg : mx_Good Ws) (hc : mx_Cl G Ws ci C T N ty) (d : decode (qB M) pc = .ok (.invokevirtual i, 3)) (hM : MT j = some M') (hk : mx_Mk Ws M' k) (hl : Cond.methodLinkNest (qY M).cls i (qY M') host ∈ gN G) (hs : Cond.instanceMethod (qY M') ∈ Ws) (hse : Cond.selects C (qY M') (qY M') ∈ Ws) (hf : qF M' + 1 ≤ qF M) (hw : 8 + (qL M' + 11) + qW M' ≤ qW M) : mx_Ok G Ws MT M pc (o_cv j ci k (qL M') (pc + 3)) := by
  intro ls st h o ho
  obtain ⟨a, t, r, fs, rfl, h1, h2, h3, h4, rfl⟩ := mx_cv_some ho
  refine ⟨M', hM, rfl, h3, fun p l e R s m args below meth c H locs cells slots mc ms lr Pc Qc free hC hR hL hMet hbl hPc hroom => ?_⟩
  obtain ⟨hx, hb, hml, hown, hts, hnm, hE, hF, hW⟩ := hC
  obtain ⟨-, -, r0, hr0, cell, q1, q2, q3, q4⟩ := mx_R.obj hE hR h4 hc.2.1
  have hrec : ∃ cellB : Cell, H[mx_a G a]? = some cellB ∧ cellB.vm.isStatics = false ∧ s.vm.findClass C = some cellB.cls := ⟨cell, q1, by rw [q3]; rfl, by rw [q2]; exact (hE.1.1 ci _ hc.1).2.1⟩
  refine va_runVN (As := (t.reverse).map (mx_v G)) (b := mx_a G a) (C := C) (host := host) (n := k) (index := i) (nL := qL M) (own := (qY M).cls) (Ts := Ws) (bytes := qB M') (maxL := qL M') (ret := qR M') ⟨hx, hb, hml, hown, hts⟩ hMet ⟨⟨⟨rfl, rfl, Nat.le_trans hf hF, Nat.le_trans hw hW, pay_in hts (mx_GoodIn hg hk.1), List.mem_cons_self⟩, hts _ hk.1, hts _ hk.2.1, hk.2.2.1, hk.par, va_Nw.use rfl (hE.2.2.2.2.2.1 _ hl).2⟩, hts _ hs, hts _ hse⟩ ⟨hbl, hrec, hPc⟩ rfl ?_ hL.1 ?_ ?_ d hroom
  · rw [List.length_map, List.length_reverse]; exact h1
  · show (t ++ .ref a :: r).map (mx_v G) = _
    rw [← List.map_reverse, List.reverse_reverse, List.map_append]
    rfl
  · exact lv_room (by rw [mx_cs_sum]; exact h2)
set_option maxHeartbeats 1000000 in
theorem ok_ci {i j k ci : Nat} {M' : mxM} (hg : mx_Good Ws) (d : decode (qB M) pc = .ok (.invokespecial i, 3)) (hM : MT j = some M') (hk : mx_Mk Ws M' k) (hr : qR M' = none) (hn : (qY M').name = "<init>") (hl : Cond.methodLink (qY M).cls i (qY M') ∈ Ws) (hs : Cond.instanceMethod (qY M') ∈ Ws) (hf : qF M' + 1 ≤ qF M) (hw : 8 + (qL M' + 11) + qW M' ≤ qW M) : mx_Ok G Ws MT M pc (o_cv j ci k (qL M') (pc + 3)) := by
  intro ls st h o ho
  obtain ⟨a, t, r, fs, rfl, h1, h2, h3, h4, rfl⟩ := mx_cv_some ho
  refine ⟨M', hM, rfl, h3, fun p l e R s m args below meth c H locs cells slots mc ms lr Pc Qc free hC hR hL hMet hbl hPc hroom => ?_⟩
  obtain ⟨hx, hb, hml, hown, hts, hnm, hE, hF, hW⟩ := hC
  have hcode := hk.1
  rw [hr] at hcode
  refine va_runI (As := (t.reverse).map (mx_v G)) (b := mx_a G a) (n := k) (index := i) (nL := qL M) (own := (qY M).cls) (Ts := Ws) (bytes := qB M') (maxL := qL M') ⟨hx, hb, hml, hown, hts⟩ hMet ⟨⟨rfl, rfl, Nat.le_trans hf hF, Nat.le_trans hw hW, pay_in hts (mx_GoodIn hg hk.1), by rw [← hr]; exact List.mem_cons_self, hts _ hcode, hts _ hk.2.1, hk.2.2.1, hk.par, hts _ hl⟩, hn, hts _ hs⟩ ⟨hbl, hPc⟩ rfl ?_ hL.1 ?_ ?_ d hroom
  · rw [List.length_map, List.length_reverse]; exact h1
  · show (t ++ .ref a :: r).map (mx_v G) = _
    rw [← List.map_reverse, List.reverse_reverse, List.map_append]
    rfl
  · exact lv_room (by rw [mx_cs_sum]; exact h2)
set_option maxHeartbeats 1000000 in
theorem ok_ciN {i j k ci : Nat} {M' : mxM} {host : String} (hg : mx_Good Ws) (d : decode (qB M) pc = .ok (.invokespecial i, 3)) (hM : MT j = some M') (hk : mx_Mk Ws M' k) (hr : qR M' = none) (hn : (qY M').name = "<init>") (hl : Cond.methodLinkNest (qY M).cls i (qY M') host ∈ gN G) (hs : Cond.instanceMethod (qY M') ∈ Ws) (hf : qF M' + 1 ≤ qF M) (hw : 8 + (qL M' + 11) + qW M' ≤ qW M) : mx_Ok G Ws MT M pc (o_cv j ci k (qL M') (pc + 3)) := by
  intro ls st h o ho
  obtain ⟨a, t, r, fs, rfl, h1, h2, h3, h4, rfl⟩ := mx_cv_some ho
  refine ⟨M', hM, rfl, h3, fun p l e R s m args below meth c H locs cells slots mc ms lr Pc Qc free hC hR hL hMet hbl hPc hroom => ?_⟩
  obtain ⟨hx, hb, hml, hown, hts, hnm, hE, hF, hW⟩ := hC
  have hcode := hk.1
  rw [hr] at hcode
  refine va_runIN (As := (t.reverse).map (mx_v G)) (b := mx_a G a) (host := host) (n := k) (index := i) (nL := qL M) (own := (qY M).cls) (Ts := Ws) (bytes := qB M') (maxL := qL M') ⟨hx, hb, hml, hown, hts⟩ hMet ⟨⟨⟨rfl, rfl, Nat.le_trans hf hF, Nat.le_trans hw hW, pay_in hts (mx_GoodIn hg hk.1), by rw [← hr]; exact List.mem_cons_self⟩, hts _ hcode, hts _ hk.2.1, hk.2.2.1, hk.par, va_Nw.use rfl (hE.2.2.2.2.2.1 _ hl).2⟩, hn, hts _ hs⟩ ⟨hbl, hPc⟩ rfl ?_ hL.1 ?_ ?_ d hroom
  · rw [List.length_map, List.length_reverse]; exact h1
  · show (t ++ .ref a :: r).map (mx_v G) = _
    rw [← List.map_reverse, List.reverse_reverse, List.map_append]
    rfl
  · exact lv_room (by rw [mx_cs_sum]; exact h2)
end CALLS
theorem mx_ent_len (G : mxG) : ∀ (as : List Value), (lg_sl (as.map (mx_v G))).length = (mx_ent as).length
  | [] => rfl
  | v :: l => by
    have h := mx_ent_len G l
    unfold lg_sl at h ⊢
    rw [List.map_cons, List.flatMap_cons, List.length_append, h]
    cases v <;> simp [mx_ent, mx_v, Value.category] <;> omega
theorem mx_ent_prs (G : mxG) : ∀ (as : List Value) (k : Nat), mx_prs G k (mx_ent as) = lv_args k (as.map (mx_v G))
  | [], k => rfl
  | v :: l, k => by
    rw [List.map_cons, lv_args]
    cases v <;> simp [mx_ent, mx_prs, mx_v, Value.category, mx_ent_prs G l]
/-- from a place: what a run is worth to the real machine -/
def mx_Wk (G : mxG) (Ws : List Cond) (M : mxM) (pc : Nat) (ls : mxL) (st : List Value) (h h' : mxH) (v : Option Value) (dc ds : Nat) : Prop :=
  ∀ (p : Program) (l : Launch) (e : Env) (R : Room) (s : State) (m : MethodId) (args : Array Value) (below : List Frame) (meth : Method) (c : Code) (H : Heap) (locs : List Loc) (cells slots : Nat) (Q : State → Prop) (lr : Array Slot),
    mx_Ctx G Ws M p R s m args meth c → mx_R G h H → mx_Lr G (qL M) ls lr → mx_F G locs → cells + dc ≤ R.cells → slots + ds ≤ R.slots →
    (∀ (H' : Heap) (locs' : List Loc) (lr' : Array Slot) (pc' : Nat) (st' : List Value), mx_R G h' H' → mx_F G locs' → mx_Re M pc' st' v → W p l e R s m args below meth c H' locs' (cells + dc) (slots + ds) Q (F0 m pc' lr' (st'.map (mx_v G)))) →
    W p l e R s m args below meth c H locs cells slots Q (F0 m pc lr (st.map (mx_v G)))
set_option maxHeartbeats 2000000 in
theorem mx_met {G : mxG} {Ws : List Cond} {M : mxM} {as : List Value} {h h' : mxH} {v : Option Value} {dc ds : Nat} (hy : plainFor (qY M) = true) (hlen : (mx_ent as).length ≤ qL M) (K : mx_Wk G Ws M 0 (mx_ent as) [] h h' v dc ds) (l : Launch) :
    Met l (qY M) (mx_ws Ws M) { frames := qF M, cells := dc, slots := ds, locals := qW M } (fun a U => a = (as.map (mx_v G)).toArray ∧ mx_R G h U.heap ∧ mx_E G U) (fun _ _ o t => o = .returned (v.map (mx_v G)) ∧ mx_R G h' t.heap) dc ds (fun q => (gH G).size ≤ q) := by
  refine va_MetF (cc := qB M) (maxL := qL M) (ret := qR M) (ws' := Ws) hy rfl ?_
  intro p e s m args below meth c s₁ B hml hv
  obtain ⟨rfl, hR, hE⟩ := hv
  have hts := atoms_spec (ws := mx_ws Ws M) B.pre
  have hlocks := B.notSynchronized
  have hl := lv_entry (as.map (mx_v G)) (n := qL M) (by rw [mx_ent_len]; exact hlen)
  rw [lg_entry_eq]
  rw [← mx_ent_prs G as 0] at hl
  refine K p l e _ s m _ below meth c s.heap [] 0 0 _ _ ⟨B.exec, B.bytes, hml, findClass_of_methodNamed B.named, fun w hw => hts w (List.mem_cons_of_mem _ hw), (fun hi => (name_of_methodNamed B.named B.method).1.trans hi), hE, Nat.le_refl _, Nat.le_refl _⟩ hR hl (fun q hq => by cases hq) (by rw [Nat.zero_add]; exact Nat.le_refl _) (by rw [Nat.zero_add]; exact Nat.le_refl _) (fun H' locs' lr' pc' st' r1 r2 r3 => ?_)
  rw [Nat.zero_add, Nat.zero_add]
  rcases r3 with ⟨rfl, rfl, d, hr⟩ | ⟨x, rfl, rfl, d, hr⟩ | ⟨x, hx, rfl, rfl, d, hr⟩ | ⟨x, rfl, rfl, d, hr⟩ | ⟨x, rt, hx, hrt, rfl, rfl, d, hr⟩
  · exact W.vret B.exec B.bytes (B.returns.trans hr) (fun t ht _ => ⟨rfl, by rw [ht]; exact r1⟩) r2 d
  · exact W.iret B.exec B.bytes (B.returns.trans hr) (fun t ht _ => ⟨rfl, by rw [ht]; exact r1⟩) r2 d
  · exact W.zret B.exec B.bytes (B.returns.trans hr) (by rcases hx with rfl | rfl <;> rfl) (fun t ht _ => ⟨rfl, by rw [ht]; exact r1⟩) r2 d
  · exact W.lret B.exec B.bytes (B.returns.trans hr) (fun t ht _ => ⟨rfl, by rw [ht]; exact r1⟩) r2 d
  · refine W.aret B.exec B.bytes (B.returns.trans hr) hrt ?_ (fun t ht _ => ⟨rfl, by rw [ht]; exact r1⟩) r2 d
    rcases hx with rfl | ⟨a, rfl⟩
    · exact Or.inl rfl
    · exact Or.inr ⟨_, rfl⟩
set_option maxHeartbeats 2000000 in
theorem mx_sound {G : mxG} {Ws : List Cond} {MT : Nat → Option mxM} {P : mxP} (hP : ∀ j M pc r, MT j = some M → P j pc = some r → mx_Ok G Ws MT M pc r) (hMT : ∀ j M, MT j = some M → plainFor (qY M) = true) :
    ∀ (n j : Nat) (M : mxM) (pc : Nat) (ls : mxL) (st : List Value) (h h' : mxH) (v : Option Value), MT j = some M → mx_run P n j pc ls st h = some (v, h') → ∃ dc ds : Nat, h'.2.1 = h.2.1 + dc ∧ h'.2.2 = h.2.2 + ds ∧ mx_Wk G Ws M pc ls st h h' v dc ds := by
  intro n
  induction n with
  | zero => intro j M pc ls st h h' v hM e; simp [mx_run] at e
  | succ n ih =>
    intro j M pc ls st h h' v hM e
    rw [mx_run] at e
    cases hp : P j pc with
    | none => rw [hp] at e; cases e
    | some r =>
      rw [hp] at e
      dsimp only at e
      cases ho : r ls st h with
      | none => rw [ho] at e; cases e
      | some o =>
        rw [ho] at e
        have hok := hP j M pc r hM hp ls st h o ho
        obtain ⟨pc1, ls1, st1, h1⟩ | v1 | ⟨j1, as, pc1, st1⟩ := o
        · obtain ⟨dc1, ds1, a1, b1, g1⟩ := hok
          obtain ⟨dc2, ds2, a2, b2, g2⟩ := ih j M pc1 ls1 st1 h1 h' v hM e
          refine ⟨dc1 + dc2, ds1 + ds2, by omega, by omega, ?_⟩
          intro p l e R s m args below meth c H locs cells slots Q lr hC hR hL hF k1 k2 kk
          refine g1 p l e R s m args below meth c H locs cells slots Q lr hC hR hL hF (by omega) (by omega) (fun H2 locs2 lr2 r1 r2 r3 => ?_)
          refine g2 p l e R s m args below meth c H2 locs2 (cells + dc1) (slots + ds1) Q lr2 hC r1 r2 r3 (by omega) (by omega) (fun H3 locs3 lr3 pc3 st3 t1 t2 t3 => ?_)
          rw [Nat.add_assoc, Nat.add_assoc]
          exact kk H3 locs3 lr3 pc3 st3 t1 t2 t3
        · cases e
          refine ⟨0, 0, rfl, rfl, ?_⟩
          intro p l e R s m args below meth c H locs cells slots Q lr hC hR hL hF k1 k2 kk
          exact kk H locs lr pc st hR hF hok
        · dsimp only at e
          obtain ⟨M1, hM1, rfl, hlen, hcall⟩ := hok
          cases hc : mx_run P n j1 0 (mx_ent as) [] h with
          | none => rw [hc] at e; cases e
          | some w =>
            obtain ⟨v1, h1⟩ := w
            rw [hc] at e
            dsimp only at e
            obtain ⟨dc1, ds1, a1, b1, g1⟩ := ih j1 M1 0 (mx_ent as) [] h h1 v1 hM1 hc
            obtain ⟨dc2, ds2, a2, b2, g2⟩ := ih j M (pc + 3) ls (mx_ps v1 st1) h1 h' v hM e
            refine ⟨dc1 + dc2, ds1 + ds2, by omega, by omega, ?_⟩
            intro p l e R s m args below meth c H locs cells slots Q lr hC hR hL hF k1 k2 kk T hT X
            have hmet := mx_met (hMT j1 M1 hM1) hlen g1 l
            have hrun := hcall p l e R s m args below meth c H locs cells slots dc1 ds1 lr _ _ _ hC hR hL hmet (fun a U g mk q => ⟨q.1, q.2.1, q.2.2.calling⟩) (fun U hU hW => ⟨rfl, by rw [hU]; exact hR, hC.2.2.2.2.2.2.1.warm hW⟩) ⟨by omega, by omega⟩
            obtain ⟨vv, st₀, t, T', L, z0, X', hL', e1, e2, ⟨q1, q2⟩, go⟩ := hrun T hT X
            have hvv : vv = v1.map (mx_v G) := Outcome.returned.inj q1
            subst hvv
            have w2 := g2 p l e R s m args below meth c T'.heap (locs ++ L) (cells + dc1) (slots + ds1) Q lr hC (by rw [e1]; exact q2) hL (fun q hq => by
              rcases List.mem_append.mp hq with z | z
              · exact hF q z
              · exact hL' q z) (by omega) (by omega) (fun H3 locs3 lr3 pc3 st3 t1 t2 t3 => by
              rw [Nat.add_assoc, Nat.add_assoc]
              exact kk H3 locs3 lr3 pc3 st3 t1 t2 t3)
            obtain ⟨t2, s1, s2⟩ := w2 T' rfl X'
            refine ⟨t2, go t2 ?_, s2⟩
            have hst : (mx_ps v1 st1).map (mx_v G) = (v1.map (mx_v G)).toList ++ st1.map (mx_v G) := by cases v1 <;> rfl
            rw [hst] at s1
            exact s1
