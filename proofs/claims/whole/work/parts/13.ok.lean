/-! EACH KIND OF ROW IS TRUE OF ITS INSTRUCTION -/
theorem mx_pure {G : mxG} {Ws : List Cond} {M : mxM} {pc : Nat} {ls : mxL} {st : List Value} {h : mxH} {pc' : Nat} {st' : List Value}
    (k : ∀ (p : Program) (l : Launch) (e : Env) (R : Room) (s : State) (m : MethodId) (args : Array Value) (below : List Frame) (meth : Method) (c : Code) (H : Heap) (locs : List Loc) (cells slots : Nat) (Q : State → Prop) (lr : Array Slot),
      p.tables.exec = Jvm.exec → c.code = qB M → mx_Lr G (qL M) ls lr → W p l e R s m args below meth c H locs cells slots Q (F0 m pc' lr (st'.map (mx_v G))) → W p l e R s m args below meth c H locs cells slots Q (F0 m pc lr (st.map (mx_v G)))) :
    mx_Go G Ws M pc ls st h pc' ls st' h :=
  ⟨0, 0, rfl, rfl, fun p l e R s m args below meth c H locs cells slots Q lr hC hR hL hF _ _ kk => k p l e R s m args below meth c H locs cells slots Q lr hC.1 hC.2.1 hL (kk H locs lr hR hL hF)⟩
/-- the same, with the context -/
theorem mx_pureC {G : mxG} {Ws : List Cond} {M : mxM} {pc : Nat} {ls : mxL} {st : List Value} {h : mxH} {pc' : Nat} {st' : List Value}
    (k : ∀ (p : Program) (l : Launch) (e : Env) (R : Room) (s : State) (m : MethodId) (args : Array Value) (below : List Frame) (meth : Method) (c : Code) (H : Heap) (locs : List Loc) (cells slots : Nat) (Q : State → Prop) (lr : Array Slot),
      mx_Ctx G Ws M p R s m args meth c → mx_R G h H → mx_F G locs → mx_Lr G (qL M) ls lr → W p l e R s m args below meth c H locs cells slots Q (F0 m pc' lr (st'.map (mx_v G))) → W p l e R s m args below meth c H locs cells slots Q (F0 m pc lr (st.map (mx_v G)))) :
    mx_Go G Ws M pc ls st h pc' ls st' h :=
  ⟨0, 0, rfl, rfl, fun p l e R s m args below meth c H locs cells slots Q lr hC hR hL hF _ _ kk => k p l e R s m args below meth c H locs cells slots Q lr hC hR hF hL (kk H locs lr hR hL hF)⟩
theorem ok_iadd {G : mxG} {Ws : List Cond} {MT : Nat → Option mxM} {M : mxM} {pc : Nat} (d : decode (qB M) pc = .ok (.iadd, 1))  : mx_Ok G Ws MT M pc (o_ii (fun x y => x + y) (pc + 1)) := by
  intro ls st h o ho
  unfold o_ii at ho
  split at ho
  · have e := Option.some.inj ho
    subst e
    exact mx_pure (fun p l e R s m args below meth c H locs cells slots Q lr hx hb hl k => lv_iadd hx hb d k)
  · cases ho
theorem ok_isub {G : mxG} {Ws : List Cond} {MT : Nat → Option mxM} {M : mxM} {pc : Nat} (d : decode (qB M) pc = .ok (.isub, 1))  : mx_Ok G Ws MT M pc (o_ii (fun x y => x - y) (pc + 1)) := by
  intro ls st h o ho
  unfold o_ii at ho
  split at ho
  · have e := Option.some.inj ho
    subst e
    exact mx_pure (fun p l e R s m args below meth c H locs cells slots Q lr hx hb hl k => lv_isub hx hb d k)
  · cases ho
theorem ok_imul {G : mxG} {Ws : List Cond} {MT : Nat → Option mxM} {M : mxM} {pc : Nat} (d : decode (qB M) pc = .ok (.imul, 1))  : mx_Ok G Ws MT M pc (o_ii (fun x y => x * y) (pc + 1)) := by
  intro ls st h o ho
  unfold o_ii at ho
  split at ho
  · have e := Option.some.inj ho
    subst e
    exact mx_pure (fun p l e R s m args below meth c H locs cells slots Q lr hx hb hl k => lv_imul hx hb d k)
  · cases ho
theorem ok_iand {G : mxG} {Ws : List Cond} {MT : Nat → Option mxM} {M : mxM} {pc : Nat} (d : decode (qB M) pc = .ok (.iand, 1))  : mx_Ok G Ws MT M pc (o_ii (fun x y => x &&& y) (pc + 1)) := by
  intro ls st h o ho
  unfold o_ii at ho
  split at ho
  · have e := Option.some.inj ho
    subst e
    exact mx_pure (fun p l e R s m args below meth c H locs cells slots Q lr hx hb hl k => lv_iand hx hb d k)
  · cases ho
theorem ok_ior {G : mxG} {Ws : List Cond} {MT : Nat → Option mxM} {M : mxM} {pc : Nat} (d : decode (qB M) pc = .ok (.ior, 1))  : mx_Ok G Ws MT M pc (o_ii (fun x y => x ||| y) (pc + 1)) := by
  intro ls st h o ho
  unfold o_ii at ho
  split at ho
  · have e := Option.some.inj ho
    subst e
    exact mx_pure (fun p l e R s m args below meth c H locs cells slots Q lr hx hb hl k => lv_ior hx hb d k)
  · cases ho
theorem ok_ixor {G : mxG} {Ws : List Cond} {MT : Nat → Option mxM} {M : mxM} {pc : Nat} (d : decode (qB M) pc = .ok (.ixor, 1))  : mx_Ok G Ws MT M pc (o_ii (fun x y => x ^^^ y) (pc + 1)) := by
  intro ls st h o ho
  unfold o_ii at ho
  split at ho
  · have e := Option.some.inj ho
    subst e
    exact mx_pure (fun p l e R s m args below meth c H locs cells slots Q lr hx hb hl k => lv_ixor hx hb d k)
  · cases ho
theorem ok_ishl {G : mxG} {Ws : List Cond} {MT : Nat → Option mxM} {M : mxM} {pc : Nat} (d : decode (qB M) pc = .ok (.ishl, 1))  : mx_Ok G Ws MT M pc (o_ii (fun x y => x <<< (y &&& 31)) (pc + 1)) := by
  intro ls st h o ho
  unfold o_ii at ho
  split at ho
  · have e := Option.some.inj ho
    subst e
    exact mx_pure (fun p l e R s m args below meth c H locs cells slots Q lr hx hb hl k => lv_ishl hx hb d k)
  · cases ho
theorem ok_ishr {G : mxG} {Ws : List Cond} {MT : Nat → Option mxM} {M : mxM} {pc : Nat} (d : decode (qB M) pc = .ok (.ishr, 1))  : mx_Ok G Ws MT M pc (o_ii (fun x y => x >>> (y &&& 31)) (pc + 1)) := by
  intro ls st h o ho
  unfold o_ii at ho
  split at ho
  · have e := Option.some.inj ho
    subst e
    exact mx_pure (fun p l e R s m args below meth c H locs cells slots Q lr hx hb hl k => lv_ishr hx hb d k)
  · cases ho
theorem ok_iushr {G : mxG} {Ws : List Cond} {MT : Nat → Option mxM} {M : mxM} {pc : Nat} (d : decode (qB M) pc = .ok (.iushr, 1))  : mx_Ok G Ws MT M pc (o_ii (fun x y => (x.toUInt32 >>> (y.toUInt32 &&& Int32.toUInt32 31)).toInt32) (pc + 1)) := by
  intro ls st h o ho
  unfold o_ii at ho
  split at ho
  · have e := Option.some.inj ho
    subst e
    exact mx_pure (fun p l e R s m args below meth c H locs cells slots Q lr hx hb hl k => lv_iushr hx hb d rfl k)
  · cases ho
theorem ok_idiv {G : mxG} {Ws : List Cond} {MT : Nat → Option mxM} {M : mxM} {pc : Nat} (d : decode (qB M) pc = .ok (.idiv, 1))  : mx_Ok G Ws MT M pc (o_iid (fun x y => x / y) (pc + 1)) := by
  intro ls st h o ho
  unfold o_iid at ho
  split at ho
  · split at ho
    · cases ho
    · next hne =>
      have e := Option.some.inj ho
      subst e
      exact mx_pure (fun p l e R s m args below meth c H locs cells slots Q lr hx hb hl k => lv_idiv hx hb d hne k)
  · cases ho
theorem ok_irem {G : mxG} {Ws : List Cond} {MT : Nat → Option mxM} {M : mxM} {pc : Nat} (d : decode (qB M) pc = .ok (.irem, 1))  : mx_Ok G Ws MT M pc (o_iid (fun x y => x - x / y * y) (pc + 1)) := by
  intro ls st h o ho
  unfold o_iid at ho
  split at ho
  · split at ho
    · cases ho
    · next hne =>
      have e := Option.some.inj ho
      subst e
      exact mx_pure (fun p l e R s m args below meth c H locs cells slots Q lr hx hb hl k => lv_irem hx hb d hne k)
  · cases ho
theorem ok_ineg {G : mxG} {Ws : List Cond} {MT : Nat → Option mxM} {M : mxM} {pc : Nat} (d : decode (qB M) pc = .ok (.ineg, 1))  : mx_Ok G Ws MT M pc (o_i (fun x => -x) (pc + 1)) := by
  intro ls st h o ho
  unfold o_i at ho
  split at ho
  · have e := Option.some.inj ho
    subst e
    exact mx_pure (fun p l e R s m args below meth c H locs cells slots Q lr hx hb hl k => lv_ineg hx hb d k)
  · cases ho
theorem ok_i2l {G : mxG} {Ws : List Cond} {MT : Nat → Option mxM} {M : mxM} {pc : Nat} (d : decode (qB M) pc = .ok (.i2l, 1))  : mx_Ok G Ws MT M pc (o_il (fun x => x.toInt64) (pc + 1)) := by
  intro ls st h o ho
  unfold o_il at ho
  split at ho
  · have e := Option.some.inj ho
    subst e
    exact mx_pure (fun p l e R s m args below meth c H locs cells slots Q lr hx hb hl k => lv_i2l hx hb d rfl k)
  · cases ho
theorem ok_l2i {G : mxG} {Ws : List Cond} {MT : Nat → Option mxM} {M : mxM} {pc : Nat} (d : decode (qB M) pc = .ok (.l2i, 1))  : mx_Ok G Ws MT M pc (o_li (fun x => x.toInt32) (pc + 1)) := by
  intro ls st h o ho
  unfold o_li at ho
  split at ho
  · have e := Option.some.inj ho
    subst e
    exact mx_pure (fun p l e R s m args below meth c H locs cells slots Q lr hx hb hl k => lv_l2i hx hb d rfl k)
  · cases ho
theorem ok_ladd {G : mxG} {Ws : List Cond} {MT : Nat → Option mxM} {M : mxM} {pc : Nat} (d : decode (qB M) pc = .ok (.ladd, 1))  : mx_Ok G Ws MT M pc (o_ll (fun x y => x + y) (pc + 1)) := by
  intro ls st h o ho
  unfold o_ll at ho
  split at ho
  · have e := Option.some.inj ho
    subst e
    exact mx_pure (fun p l e R s m args below meth c H locs cells slots Q lr hx hb hl k => lv_ladd hx hb d k)
  · cases ho
theorem ok_lsub {G : mxG} {Ws : List Cond} {MT : Nat → Option mxM} {M : mxM} {pc : Nat} (d : decode (qB M) pc = .ok (.lsub, 1))  : mx_Ok G Ws MT M pc (o_ll (fun x y => x - y) (pc + 1)) := by
  intro ls st h o ho
  unfold o_ll at ho
  split at ho
  · have e := Option.some.inj ho
    subst e
    exact mx_pure (fun p l e R s m args below meth c H locs cells slots Q lr hx hb hl k => lv_lsub hx hb d k)
  · cases ho
theorem ok_lmul {G : mxG} {Ws : List Cond} {MT : Nat → Option mxM} {M : mxM} {pc : Nat} (d : decode (qB M) pc = .ok (.lmul, 1))  : mx_Ok G Ws MT M pc (o_ll (fun x y => x * y) (pc + 1)) := by
  intro ls st h o ho
  unfold o_ll at ho
  split at ho
  · have e := Option.some.inj ho
    subst e
    exact mx_pure (fun p l e R s m args below meth c H locs cells slots Q lr hx hb hl k => lv_lmul hx hb d k)
  · cases ho
theorem ok_land {G : mxG} {Ws : List Cond} {MT : Nat → Option mxM} {M : mxM} {pc : Nat} (d : decode (qB M) pc = .ok (.land, 1))  : mx_Ok G Ws MT M pc (o_ll (fun x y => x &&& y) (pc + 1)) := by
  intro ls st h o ho
  unfold o_ll at ho
  split at ho
  · have e := Option.some.inj ho
    subst e
    exact mx_pure (fun p l e R s m args below meth c H locs cells slots Q lr hx hb hl k => lv_land hx hb d k)
  · cases ho
theorem ok_lor {G : mxG} {Ws : List Cond} {MT : Nat → Option mxM} {M : mxM} {pc : Nat} (d : decode (qB M) pc = .ok (.lor, 1))  : mx_Ok G Ws MT M pc (o_ll (fun x y => x ||| y) (pc + 1)) := by
  intro ls st h o ho
  unfold o_ll at ho
  split at ho
  · have e := Option.some.inj ho
    subst e
    exact mx_pure (fun p l e R s m args below meth c H locs cells slots Q lr hx hb hl k => lv_lor hx hb d k)
  · cases ho
theorem ok_lxor {G : mxG} {Ws : List Cond} {MT : Nat → Option mxM} {M : mxM} {pc : Nat} (d : decode (qB M) pc = .ok (.lxor, 1))  : mx_Ok G Ws MT M pc (o_ll (fun x y => x ^^^ y) (pc + 1)) := by
  intro ls st h o ho
  unfold o_ll at ho
  split at ho
  · have e := Option.some.inj ho
    subst e
    exact mx_pure (fun p l e R s m args below meth c H locs cells slots Q lr hx hb hl k => lv_lxor hx hb d k)
  · cases ho
theorem ok_ldiv {G : mxG} {Ws : List Cond} {MT : Nat → Option mxM} {M : mxM} {pc : Nat} (d : decode (qB M) pc = .ok (.ldiv, 1))  : mx_Ok G Ws MT M pc (o_lld (fun x y => x / y) (pc + 1)) := by
  intro ls st h o ho
  unfold o_lld at ho
  split at ho
  · split at ho
    · cases ho
    · next hne =>
      have e := Option.some.inj ho
      subst e
      exact mx_pure (fun p l e R s m args below meth c H locs cells slots Q lr hx hb hl k => lv_ldiv hx hb d hne k)
  · cases ho
theorem ok_lrem {G : mxG} {Ws : List Cond} {MT : Nat → Option mxM} {M : mxM} {pc : Nat} (d : decode (qB M) pc = .ok (.lrem, 1))  : mx_Ok G Ws MT M pc (o_lld (fun x y => x - x / y * y) (pc + 1)) := by
  intro ls st h o ho
  unfold o_lld at ho
  split at ho
  · split at ho
    · cases ho
    · next hne =>
      have e := Option.some.inj ho
      subst e
      exact mx_pure (fun p l e R s m args below meth c H locs cells slots Q lr hx hb hl k => lv_lrem hx hb d hne k)
  · cases ho
theorem ok_lneg {G : mxG} {Ws : List Cond} {MT : Nat → Option mxM} {M : mxM} {pc : Nat} (d : decode (qB M) pc = .ok (.lneg, 1))  : mx_Ok G Ws MT M pc (o_l (fun x => -x) (pc + 1)) := by
  intro ls st h o ho
  unfold o_l at ho
  split at ho
  · have e := Option.some.inj ho
    subst e
    exact mx_pure (fun p l e R s m args below meth c H locs cells slots Q lr hx hb hl k => lv_lneg hx hb d k)
  · cases ho
theorem ok_lshl {G : mxG} {Ws : List Cond} {MT : Nat → Option mxM} {M : mxM} {pc : Nat} (d : decode (qB M) pc = .ok (.lshl, 1))  : mx_Ok G Ws MT M pc (o_lil (fun x y => x <<< (y.toInt64 &&& 63)) (pc + 1)) := by
  intro ls st h o ho
  unfold o_lil at ho
  split at ho
  · have e := Option.some.inj ho
    subst e
    exact mx_pure (fun p l e R s m args below meth c H locs cells slots Q lr hx hb hl k => lv_lshl hx hb d rfl k)
  · cases ho
theorem ok_lshr {G : mxG} {Ws : List Cond} {MT : Nat → Option mxM} {M : mxM} {pc : Nat} (d : decode (qB M) pc = .ok (.lshr, 1))  : mx_Ok G Ws MT M pc (o_lil (fun x y => x >>> (y.toInt64 &&& 63)) (pc + 1)) := by
  intro ls st h o ho
  unfold o_lil at ho
  split at ho
  · have e := Option.some.inj ho
    subst e
    exact mx_pure (fun p l e R s m args below meth c H locs cells slots Q lr hx hb hl k => lv_lshr hx hb d rfl k)
  · cases ho
theorem ok_lushr {G : mxG} {Ws : List Cond} {MT : Nat → Option mxM} {M : mxM} {pc : Nat} (d : decode (qB M) pc = .ok (.lushr, 1))  : mx_Ok G Ws MT M pc (o_lil (fun x y => (x.toUInt64 >>> (y.toInt64.toUInt64 &&& Int64.toUInt64 63)).toInt64) (pc + 1)) := by
  intro ls st h o ho
  unfold o_lil at ho
  split at ho
  · have e := Option.some.inj ho
    subst e
    exact mx_pure (fun p l e R s m args below meth c H locs cells slots Q lr hx hb hl k => lv_lushr hx hb d rfl k)
  · cases ho
theorem ok_lcmp {G : mxG} {Ws : List Cond} {MT : Nat → Option mxM} {M : mxM} {pc : Nat} (d : decode (qB M) pc = .ok (.lcmp, 1))  : mx_Ok G Ws MT M pc (o_lli (fun x y => lg_cmp x y) (pc + 1)) := by
  intro ls st h o ho
  unfold o_lli at ho
  split at ho
  · have e := Option.some.inj ho
    subst e
    exact mx_pure (fun p l e R s m args below meth c H locs cells slots Q lr hx hb hl k => W.lcmp hx hb d k)
  · cases ho
theorem ok_iconst {G : mxG} {Ws : List Cond} {MT : Nat → Option mxM} {M : mxM} {pc : Nat} {n : Int} {v : Int32} (hv : Int32.ofInt n = v) (d : decode (qB M) pc = .ok (.iconst n, 1)) : mx_Ok G Ws MT M pc (o_push (.int v) (pc + 1)) := by
  intro ls st h o ho
  have e := Option.some.inj ho
  subst e
  exact mx_pure (fun p l e R s m args below meth c H locs cells slots Q lr hx hb hl k => lv_iconst hx hb d hv k)
theorem ok_bipush {G : mxG} {Ws : List Cond} {MT : Nat → Option mxM} {M : mxM} {pc : Nat} {n : Int} {v : Int32} (hv : (Int8.ofInt n).toInt32 = v) (d : decode (qB M) pc = .ok (.bipush n, 2)) : mx_Ok G Ws MT M pc (o_push (.int v) (pc + 2)) := by
  intro ls st h o ho
  have e := Option.some.inj ho
  subst e
  exact mx_pure (fun p l e R s m args below meth c H locs cells slots Q lr hx hb hl k => lv_bipush hx hb d hv k)
theorem ok_sipush {G : mxG} {Ws : List Cond} {MT : Nat → Option mxM} {M : mxM} {pc : Nat} {n : Int} {v : Int32} (hv : (Int16.ofInt n).toInt32 = v) (d : decode (qB M) pc = .ok (.sipush n, 3)) : mx_Ok G Ws MT M pc (o_push (.int v) (pc + 3)) := by
  intro ls st h o ho
  have e := Option.some.inj ho
  subst e
  exact mx_pure (fun p l e R s m args below meth c H locs cells slots Q lr hx hb hl k => lv_sipush hx hb d hv k)
theorem ok_lconst {G : mxG} {Ws : List Cond} {MT : Nat → Option mxM} {M : mxM} {pc : Nat} {n : Fin 2} {v : Int64} (hv : Int64.ofNat (n : Nat) = v) (d : decode (qB M) pc = .ok (.lconst n, 1)) : mx_Ok G Ws MT M pc (o_push (.long v) (pc + 1)) := by
  intro ls st h o ho
  have e := Option.some.inj ho
  subst e
  exact mx_pure (fun p l e R s m args below meth c H locs cells slots Q lr hx hb hl k => lv_lconst hx hb d hv k)
theorem ok_null {G : mxG} {Ws : List Cond} {MT : Nat → Option mxM} {M : mxM} {pc : Nat}  (d : decode (qB M) pc = .ok (.aconst_null, 1)) : mx_Ok G Ws MT M pc (o_push (.null) (pc + 1)) := by
  intro ls st h o ho
  have e := Option.some.inj ho
  subst e
  exact mx_pure (fun p l e R s m args below meth c H locs cells slots Q lr hx hb hl k => lv_null hx hb d k)
theorem ok_ldc {G : mxG} {Ws : List Cond} {MT : Nat → Option mxM} {M : mxM} {pc : Nat} {i : Nat} {v : Int32} (d : decode (qB M) pc = .ok (.ldc i, 2)) (hw : Cond.constant (qY M).cls i v ∈ Ws) : mx_Ok G Ws MT M pc (o_push (.int v) (pc + 2)) := by
  intro ls st h o ho
  have e := Option.some.inj ho
  subst e
  exact mx_pureC (fun p l e R s m args below meth c H locs cells slots Q lr hC hR hF hl k => lv_ldc hC.1 hC.2.1 hC.2.2.2.1 (hC.2.2.2.2.1 _ hw) d k)
theorem ok_ldcw {G : mxG} {Ws : List Cond} {MT : Nat → Option mxM} {M : mxM} {pc : Nat} {i : Nat} {v : Int32} (d : decode (qB M) pc = .ok (.ldc_w i, 3)) (hw : Cond.constant (qY M).cls i v ∈ Ws) : mx_Ok G Ws MT M pc (o_push (.int v) (pc + 3)) := by
  intro ls st h o ho
  have e := Option.some.inj ho
  subst e
  exact mx_pureC (fun p l e R s m args below meth c H locs cells slots Q lr hC hR hF hl k => lv_ldcw hC.1 hC.2.1 hC.2.2.2.1 (hC.2.2.2.2.1 _ hw) d k)
theorem ok_ldc2 {G : mxG} {Ws : List Cond} {MT : Nat → Option mxM} {M : mxM} {pc : Nat} {i : Nat} {v : Int64} (d : decode (qB M) pc = .ok (.ldc2_w i, 3)) (hw : Cond.constantLong (qY M).cls i v ∈ Ws) : mx_Ok G Ws MT M pc (o_push (.long v) (pc + 3)) := by
  intro ls st h o ho
  have e := Option.some.inj ho
  subst e
  exact mx_pureC (fun p l e R s m args below meth c H locs cells slots Q lr hC hR hF hl k => lv_ldc2 hC.1 hC.2.1 hC.2.2.2.1 (hC.2.2.2.2.1 _ hw) d k)
theorem ok_gets {G : mxG} {Ws : List Cond} {MT : Nat → Option mxM} {M : mxM} {pc : Nat} {i k : Nat} {C nm ds : String} (d : decode (qB M) pc = .ok (.getstatic i, 3)) (hk : k < 16) (hz : (C, nm, ds, k) ∈ gZ G) (hw : Cond.fieldLink (qY M).cls i C nm ds ∈ Ws) : mx_Ok G Ws MT M pc (o_push (.ref k) (pc + 3)) := by
  intro ls st h o ho
  have e := Option.some.inj ho
  subst e
  refine mx_pureC (fun p l e R s m args below meth c H locs cells slots Q lr hC hR hF hl kk => ?_)
  obtain ⟨cf, kf, fi, f, a, cell, h1, h2, h3, h4, h5, h6, h7, h8⟩ := hC.2.2.2.2.2.2.1.2.2.2.2.2.2 _ hz
  have ha : mx_a G k = gO G k := by unfold mx_a; rw [if_pos hk]
  refine W.gets (v := .ref (gO G k)) hC.1 hC.2.1 hC.2.2.2.1 (hC.2.2.2.2.1 _ hw) h1 h2 h3 h4 (by rw [hR.2.2.1 a (Nat.not_le.mp h8)]; exact h5) (fun e => by rw [e] at h6; cases h6) h7 rfl d ?_
  rw [← ha]
  exact kk
theorem ok_getsN {G : mxG} {Ws : List Cond} {MT : Nat → Option mxM} {M : mxM} {pc : Nat} {i k : Nat} {C nm ds host : String} (d : decode (qB M) pc = .ok (.getstatic i, 3)) (hk : k < 16) (hz : (C, nm, ds, k) ∈ gZ G) (hw : Cond.fieldLinkNest (qY M).cls i C nm ds host ∈ gN G) : mx_Ok G Ws MT M pc (o_push (.ref k) (pc + 3)) := by
  intro ls st h o ho
  have e := Option.some.inj ho
  subst e
  refine mx_pureC (fun p l e R s m args below meth c H locs cells slots Q lr hC hR hF hl kk => ?_)
  have hE := hC.2.2.2.2.2.2.1
  obtain ⟨cf, kf, fi, f, a, cell, h1, h2, h3, h4, h5, h6, h7, h8⟩ := hE.2.2.2.2.2.2 _ hz
  have ha : mx_a G k = gO G k := by unfold mx_a; rw [if_pos hk]
  refine va_WgetsN (v := .ref (gO G k)) hC.1 hC.2.1 hC.2.2.2.1 (va_Nw.use rfl (hE.2.2.2.2.2.1 _ hw).2) h1 h2 h3 h4 (by rw [hR.2.2.1 a (Nat.not_le.mp h8)]; exact h5) (fun e => by rw [e] at h6; cases h6) h7 rfl d ?_
  rw [← ha]
  exact kk
theorem ok_iload_n {G : mxG} {Ws : List Cond} {MT : Nat → Option mxM} {M : mxM} {pc : Nat} {n : Fin 4} {i : Nat} (hi : (n : Nat) = i) (d : decode (qB M) pc = .ok (.iload_n n, 1)) : mx_Ok G Ws MT M pc (o_ldi i (pc + 1)) := by
  intro ls st h o ho
  unfold o_ldi at ho
  split at ho
  · next hg =>
    have e := Option.some.inj ho
    subst e
    exact mx_pure (fun p l e R s m args below meth c H locs cells slots Q lr hx hb hl k => lv_iload_n hx hb d hi (hl.at hg) k)
  · cases ho
theorem ok_iload {G : mxG} {Ws : List Cond} {MT : Nat → Option mxM} {M : mxM} {pc : Nat} {i : Nat} (d : decode (qB M) pc = .ok (.iload i, 2)) : mx_Ok G Ws MT M pc (o_ldi i (pc + 2)) := by
  intro ls st h o ho
  unfold o_ldi at ho
  split at ho
  · next hg =>
    have e := Option.some.inj ho
    subst e
    exact mx_pure (fun p l e R s m args below meth c H locs cells slots Q lr hx hb hl k => lv_iload hx hb d (hl.at hg) k)
  · cases ho
theorem ok_lload_n {G : mxG} {Ws : List Cond} {MT : Nat → Option mxM} {M : mxM} {pc : Nat} {n : Fin 4} {i : Nat} (hi : (n : Nat) = i) (d : decode (qB M) pc = .ok (.lload_n n, 1)) : mx_Ok G Ws MT M pc (o_ldl i (pc + 1)) := by
  intro ls st h o ho
  unfold o_ldl at ho
  split at ho
  · next hg =>
    have e := Option.some.inj ho
    subst e
    exact mx_pure (fun p l e R s m args below meth c H locs cells slots Q lr hx hb hl k => lv_lload_n hx hb d hi (hl.at hg) k)
  · cases ho
theorem ok_lload {G : mxG} {Ws : List Cond} {MT : Nat → Option mxM} {M : mxM} {pc : Nat} {i : Nat} (d : decode (qB M) pc = .ok (.lload i, 2)) : mx_Ok G Ws MT M pc (o_ldl i (pc + 2)) := by
  intro ls st h o ho
  unfold o_ldl at ho
  split at ho
  · next hg =>
    have e := Option.some.inj ho
    subst e
    exact mx_pure (fun p l e R s m args below meth c H locs cells slots Q lr hx hb hl k => lv_lload hx hb d (hl.at hg) k)
  · cases ho
theorem ok_aload_n {G : mxG} {Ws : List Cond} {MT : Nat → Option mxM} {M : mxM} {pc : Nat} {n : Fin 4} {i : Nat} (hi : (n : Nat) = i) (d : decode (qB M) pc = .ok (.aload_n n, 1)) : mx_Ok G Ws MT M pc (o_lda i (pc + 1)) := by
  intro ls st h o ho
  unfold o_lda at ho
  split at ho
  · next hg =>
    have e := Option.some.inj ho
    subst e
    exact mx_pure (fun p l e R s m args below meth c H locs cells slots Q lr hx hb hl k => lv_aload_n hx hb d hi (hl.at hg) k)
  · next hg =>
    have e := Option.some.inj ho
    subst e
    exact mx_pure (fun p l e R s m args below meth c H locs cells slots Q lr hx hb hl k => lv_aload_nN hx hb d hi (hl.at hg) k)
  · cases ho
theorem ok_aload {G : mxG} {Ws : List Cond} {MT : Nat → Option mxM} {M : mxM} {pc : Nat} {i : Nat} (d : decode (qB M) pc = .ok (.aload i, 2)) : mx_Ok G Ws MT M pc (o_lda i (pc + 2)) := by
  intro ls st h o ho
  unfold o_lda at ho
  split at ho
  · next hg =>
    have e := Option.some.inj ho
    subst e
    exact mx_pure (fun p l e R s m args below meth c H locs cells slots Q lr hx hb hl k => lv_aload hx hb d (hl.at hg) k)
  · next hg =>
    have e := Option.some.inj ho
    subst e
    exact mx_pure (fun p l e R s m args below meth c H locs cells slots Q lr hx hb hl k => lv_aloadN hx hb d (hl.at hg) k)
  · cases ho
theorem mx_sto {G : mxG} {Ws : List Cond} {M : mxM} {pc : Nat} {ls : mxL} {st : List Value} {h : mxH} {pc' : Nat} {ls' : mxL} {st' : List Value}
    (k : ∀ (p : Program) (l : Launch) (e : Env) (R : Room) (s : State) (m : MethodId) (args : Array Value) (below : List Frame) (meth : Method) (c : Code) (H : Heap) (locs : List Loc) (cells slots : Nat) (Q : State → Prop) (lr : Array Slot),
      p.tables.exec = Jvm.exec → c.code = qB M → mx_Lr G (qL M) ls lr → (∀ lr', mx_Lr G (qL M) ls' lr' → W p l e R s m args below meth c H locs cells slots Q (F0 m pc' lr' (st'.map (mx_v G)))) → W p l e R s m args below meth c H locs cells slots Q (F0 m pc lr (st.map (mx_v G)))) :
    mx_Go G Ws M pc ls st h pc' ls' st' h :=
  ⟨0, 0, rfl, rfl, fun p l e R s m args below meth c H locs cells slots Q lr hC hR hL hF _ _ kk => k p l e R s m args below meth c H locs cells slots Q lr hC.1 hC.2.1 hL (fun lr' h' => kk H locs lr' hR h' hF)⟩
theorem ok_istore_n {G : mxG} {Ws : List Cond} {MT : Nat → Option mxM} {M : mxM} {pc : Nat} {n : Fin 4} {i : Nat} (hi : (n : Nat) = i) (d : decode (qB M) pc = .ok (.istore_n n, 1)) (hn : i < qL M) : mx_Ok G Ws MT M pc (o_sti i (pc + 1)) := by
  intro ls st h o ho
  unfold o_sti at ho
  split at ho
  · have e := Option.some.inj ho
    subst e
    exact mx_sto (fun p l e R s m args below meth c H locs cells slots Q lr hx hb hl k => lv_istore_n hx hb d hi hl hn rfl (fun lr' h' => k lr' (mx_Lr.s1 h')))
  · cases ho
theorem ok_istore {G : mxG} {Ws : List Cond} {MT : Nat → Option mxM} {M : mxM} {pc : Nat} {i : Nat} (d : decode (qB M) pc = .ok (.istore i, 2)) (hn : i < qL M) : mx_Ok G Ws MT M pc (o_sti i (pc + 2)) := by
  intro ls st h o ho
  unfold o_sti at ho
  split at ho
  · have e := Option.some.inj ho
    subst e
    exact mx_sto (fun p l e R s m args below meth c H locs cells slots Q lr hx hb hl k => lv_istore hx hb d hl hn rfl (fun lr' h' => k lr' (mx_Lr.s1 h')))
  · cases ho
theorem ok_lstore_n {G : mxG} {Ws : List Cond} {MT : Nat → Option mxM} {M : mxM} {pc : Nat} {n : Fin 4} {i : Nat} (hi : (n : Nat) = i) (d : decode (qB M) pc = .ok (.lstore_n n, 1)) (hn : i + 1 < qL M) : mx_Ok G Ws MT M pc (o_stl i (pc + 1)) := by
  intro ls st h o ho
  unfold o_stl at ho
  split at ho
  · have e := Option.some.inj ho
    subst e
    exact mx_sto (fun p l e R s m args below meth c H locs cells slots Q lr hx hb hl k => lv_lstore_n hx hb d hi hl hn rfl (fun lr' h' => k lr' (mx_Lr.s2 h')))
  · cases ho
theorem ok_lstore {G : mxG} {Ws : List Cond} {MT : Nat → Option mxM} {M : mxM} {pc : Nat} {i : Nat} (d : decode (qB M) pc = .ok (.lstore i, 2)) (hn : i + 1 < qL M) : mx_Ok G Ws MT M pc (o_stl i (pc + 2)) := by
  intro ls st h o ho
  unfold o_stl at ho
  split at ho
  · have e := Option.some.inj ho
    subst e
    exact mx_sto (fun p l e R s m args below meth c H locs cells slots Q lr hx hb hl k => lv_lstore hx hb d hl hn rfl (fun lr' h' => k lr' (mx_Lr.s2 h')))
  · cases ho
theorem ok_astore_n {G : mxG} {Ws : List Cond} {MT : Nat → Option mxM} {M : mxM} {pc : Nat} {n : Fin 4} {i : Nat} (hi : (n : Nat) = i) (d : decode (qB M) pc = .ok (.astore_n n, 1)) (hn : i < qL M) : mx_Ok G Ws MT M pc (o_sta i (pc + 1)) := by
  intro ls st h o ho
  unfold o_sta at ho
  split at ho
  · have e := Option.some.inj ho
    subst e
    exact mx_sto (fun p l e R s m args below meth c H locs cells slots Q lr hx hb hl k => lv_astore_n hx hb d hi hl hn rfl (fun lr' h' => k lr' (mx_Lr.s1 (v := .ref _) h')))
  · have e := Option.some.inj ho
    subst e
    exact mx_sto (fun p l e R s m args below meth c H locs cells slots Q lr hx hb hl k => lv_astore_nN hx hb d hi hl hn rfl (fun lr' h' => k lr' (mx_Lr.s1 (v := .null) h')))
  · cases ho
theorem ok_astore {G : mxG} {Ws : List Cond} {MT : Nat → Option mxM} {M : mxM} {pc : Nat} {i : Nat} (d : decode (qB M) pc = .ok (.astore i, 2)) (hn : i < qL M) : mx_Ok G Ws MT M pc (o_sta i (pc + 2)) := by
  intro ls st h o ho
  unfold o_sta at ho
  split at ho
  · have e := Option.some.inj ho
    subst e
    exact mx_sto (fun p l e R s m args below meth c H locs cells slots Q lr hx hb hl k => lv_astore hx hb d hl hn rfl (fun lr' h' => k lr' (mx_Lr.s1 (v := .ref _) h')))
  · have e := Option.some.inj ho
    subst e
    exact mx_sto (fun p l e R s m args below meth c H locs cells slots Q lr hx hb hl k => lv_astoreN hx hb d hl hn rfl (fun lr' h' => k lr' (mx_Lr.s1 (v := .null) h')))
  · cases ho
theorem ok_iinc {G : mxG} {Ws : List Cond} {MT : Nat → Option mxM} {M : mxM} {pc : Nat} {i : Nat} {n : Int} {z : Int32} (d : decode (qB M) pc = .ok (.iinc i n, 3)) (hz : Int32.ofInt n = z) (hn : i < qL M) : mx_Ok G Ws MT M pc (o_inc i z (pc + 3)) := by
  intro ls st h o ho
  unfold o_inc at ho
  split at ho
  · next x hg =>
    have e := Option.some.inj ho
    subst e
    refine mx_sto (fun p l e R s m args below meth c H locs cells slots Q lr hx hb hl k => ?_)
    obtain ⟨j, hj⟩ := List.getElem?_of_mem ((mx_prs_mem G ls 0 i (.int x)).mpr ⟨.int x, Nat.zero_le _, hg, rfl⟩)
    exact lv_iinc (v := x + z) hx hb d hl hj (by rw [hz]) hn rfl (fun lr' h' => k lr' (mx_Lr.s1 (v := .int (x + z)) h'))
  · cases ho
theorem ok_dup {G : mxG} {Ws : List Cond} {MT : Nat → Option mxM} {M : mxM} {pc : Nat} (d : decode (qB M) pc = .ok (.dup, 1)) : mx_Ok G Ws MT M pc (o_dup (pc + 1)) := by
  intro ls st h o ho
  unfold o_dup at ho
  split at ho
  · split at ho
    · next hc =>
      have e := Option.some.inj ho
      subst e
      exact mx_pure (fun p l e R s m args below meth c H locs cells slots Q lr hx hb hl k => lv_dup hx hb d ((mx_v_cat G _).trans hc) k)
    · cases ho
  · cases ho
theorem ok_pop {G : mxG} {Ws : List Cond} {MT : Nat → Option mxM} {M : mxM} {pc : Nat} (d : decode (qB M) pc = .ok (.pop, 1)) : mx_Ok G Ws MT M pc (o_pop (pc + 1)) := by
  intro ls st h o ho
  unfold o_pop at ho
  split at ho
  · split at ho
    · next hc =>
      have e := Option.some.inj ho
      subst e
      exact mx_pure (fun p l e R s m args below meth c H locs cells slots Q lr hx hb hl k => lv_pop hx hb d ((mx_v_cat G _).trans hc) k)
    · cases ho
  · cases ho
theorem ok_dup_x1 {G : mxG} {Ws : List Cond} {MT : Nat → Option mxM} {M : mxM} {pc : Nat} (d : decode (qB M) pc = .ok (.dup_x1, 1)) : mx_Ok G Ws MT M pc (o_dup_x1 (pc + 1)) := by
  intro ls st h o ho
  unfold o_dup_x1 at ho
  split at ho
  · split at ho
    · next hc =>
      have e := Option.some.inj ho
      subst e
      exact mx_pure (fun p l e R s m args below meth c H locs cells slots Q lr hx hb hl k => lv_dup_x1 hx hb d ((mx_v_cat G _).trans hc.1) ((mx_v_cat G _).trans hc.2) k)
    · cases ho
  · cases ho
theorem ok_dup_x2 {G : mxG} {Ws : List Cond} {MT : Nat → Option mxM} {M : mxM} {pc : Nat} (d : decode (qB M) pc = .ok (.dup_x2, 1)) : mx_Ok G Ws MT M pc (o_dup_x2 (pc + 1)) := by
  intro ls st h o ho
  unfold o_dup_x2 at ho
  split at ho
  · split at ho
    · next hc =>
      have e := Option.some.inj ho
      subst e
      exact mx_pure (fun p l e R s m args below meth c H locs cells slots Q lr hx hb hl k => lv_dup_x2 hx hb d ((mx_v_cat G _).trans hc.1) ((mx_v_cat G _).trans hc.2.1) ((mx_v_cat G _).trans hc.2.2) k)
    · cases ho
  · cases ho
theorem ok_dup2 {G : mxG} {Ws : List Cond} {MT : Nat → Option mxM} {M : mxM} {pc : Nat} (d : decode (qB M) pc = .ok (.dup2, 1)) : mx_Ok G Ws MT M pc (o_dup2 (pc + 1)) := by
  intro ls st h o ho
  unfold o_dup2 at ho
  split at ho
  · split at ho
    · next hc =>
      have e := Option.some.inj ho
      subst e
      exact mx_pure (fun p l e R s m args below meth c H locs cells slots Q lr hx hb hl k => lv_dup2_11 hx hb d ((mx_v_cat G _).trans hc.1) ((mx_v_cat G _).trans hc.2) k)
    · cases ho
  · cases ho
theorem ok_dup2L {G : mxG} {Ws : List Cond} {MT : Nat → Option mxM} {M : mxM} {pc : Nat} (d : decode (qB M) pc = .ok (.dup2, 1)) : mx_Ok G Ws MT M pc (o_dup2L (pc + 1)) := by
  intro ls st h o ho
  unfold o_dup2L at ho
  split at ho
  · split at ho
    · next hc =>
      have e := Option.some.inj ho
      subst e
      exact mx_pure (fun p l e R s m args below meth c H locs cells slots Q lr hx hb hl k => lv_dup2_2 hx hb d ((mx_v_cat G _).trans hc) k)
    · cases ho
  · cases ho
theorem ok_pop2L {G : mxG} {Ws : List Cond} {MT : Nat → Option mxM} {M : mxM} {pc : Nat} (d : decode (qB M) pc = .ok (.pop2, 1)) : mx_Ok G Ws MT M pc (o_pop2L (pc + 1)) := by
  intro ls st h o ho
  unfold o_pop2L at ho
  split at ho
  · split at ho
    · next hc =>
      have e := Option.some.inj ho
      subst e
      exact mx_pure (fun p l e R s m args below meth c H locs cells slots Q lr hx hb hl k => lv_pop2_2 hx hb d ((mx_v_cat G _).trans hc) k)
    · cases ho
  · cases ho
theorem ok_dup2_x1L {G : mxG} {Ws : List Cond} {MT : Nat → Option mxM} {M : mxM} {pc : Nat} (d : decode (qB M) pc = .ok (.dup2_x1, 1)) : mx_Ok G Ws MT M pc (o_dup2_x1L (pc + 1)) := by
  intro ls st h o ho
  unfold o_dup2_x1L at ho
  split at ho
  · split at ho
    · next hc =>
      have e := Option.some.inj ho
      subst e
      exact mx_pure (fun p l e R s m args below meth c H locs cells slots Q lr hx hb hl k => lv_dup2_x1_2 hx hb d ((mx_v_cat G _).trans hc.1) ((mx_v_cat G _).trans hc.2) k)
    · cases ho
  · cases ho
theorem ok_dup2_x2L {G : mxG} {Ws : List Cond} {MT : Nat → Option mxM} {M : mxM} {pc : Nat} (d : decode (qB M) pc = .ok (.dup2_x2, 1)) : mx_Ok G Ws MT M pc (o_dup2_x2L (pc + 1)) := by
  intro ls st h o ho
  unfold o_dup2_x2L at ho
  split at ho
  · split at ho
    · next hc =>
      have e := Option.some.inj ho
      subst e
      exact mx_pure (fun p l e R s m args below meth c H locs cells slots Q lr hx hb hl k => lv_dup2_x2_2 hx hb d ((mx_v_cat G _).trans hc.1) ((mx_v_cat G _).trans hc.2.1) ((mx_v_cat G _).trans hc.2.2) k)
    · cases ho
  · cases ho
theorem ok_ifeq {G : mxG} {Ws : List Cond} {MT : Nat → Option mxM} {M : mxM} {pc : Nat} {off : Int} {t : Nat} (d : decode (qB M) pc = .ok (.ifCond .eq off, 3)) (ht : (pc : Int) + off = (t : Int)) : mx_Ok G Ws MT M pc (o_ifeq t (pc + 3)) := by
  intro ls st h o ho
  unfold o_ifeq at ho
  split at ho
  · split at ho
    · next hc =>
      have e := Option.some.inj ho
      subst e
      exact mx_pure (fun p l e R s m args below meth c H locs cells slots Q lr hx hb hl k => lv_if_eq hx hb d ht (fun _ => k) (fun q => absurd hc q))
    · next hc =>
      have e := Option.some.inj ho
      subst e
      exact mx_pure (fun p l e R s m args below meth c H locs cells slots Q lr hx hb hl k => lv_if_eq hx hb d ht (fun q => absurd q hc) (fun _ => k))
  · cases ho
theorem ok_ifne {G : mxG} {Ws : List Cond} {MT : Nat → Option mxM} {M : mxM} {pc : Nat} {off : Int} {t : Nat} (d : decode (qB M) pc = .ok (.ifCond .ne off, 3)) (ht : (pc : Int) + off = (t : Int)) : mx_Ok G Ws MT M pc (o_ifne t (pc + 3)) := by
  intro ls st h o ho
  unfold o_ifne at ho
  split at ho
  · split at ho
    · next hc =>
      have e := Option.some.inj ho
      subst e
      exact mx_pure (fun p l e R s m args below meth c H locs cells slots Q lr hx hb hl k => lv_if_ne hx hb d ht (fun q => absurd hc q) (fun _ => k))
    · next hc =>
      have e := Option.some.inj ho
      subst e
      exact mx_pure (fun p l e R s m args below meth c H locs cells slots Q lr hx hb hl k => lv_if_ne hx hb d ht (fun _ => k) (fun q => absurd q hc))
  · cases ho
theorem ok_iflt {G : mxG} {Ws : List Cond} {MT : Nat → Option mxM} {M : mxM} {pc : Nat} {off : Int} {t : Nat} (d : decode (qB M) pc = .ok (.ifCond .lt off, 3)) (ht : (pc : Int) + off = (t : Int)) : mx_Ok G Ws MT M pc (o_iflt t (pc + 3)) := by
  intro ls st h o ho
  unfold o_iflt at ho
  split at ho
  · split at ho
    · next hc =>
      have e := Option.some.inj ho
      subst e
      exact mx_pure (fun p l e R s m args below meth c H locs cells slots Q lr hx hb hl k => lv_if_lt hx hb d ht (fun _ => k) (fun q => absurd hc q))
    · next hc =>
      have e := Option.some.inj ho
      subst e
      exact mx_pure (fun p l e R s m args below meth c H locs cells slots Q lr hx hb hl k => lv_if_lt hx hb d ht (fun q => absurd q hc) (fun _ => k))
  · cases ho
theorem ok_ifge {G : mxG} {Ws : List Cond} {MT : Nat → Option mxM} {M : mxM} {pc : Nat} {off : Int} {t : Nat} (d : decode (qB M) pc = .ok (.ifCond .ge off, 3)) (ht : (pc : Int) + off = (t : Int)) : mx_Ok G Ws MT M pc (o_ifge t (pc + 3)) := by
  intro ls st h o ho
  unfold o_ifge at ho
  split at ho
  · split at ho
    · next hc =>
      have e := Option.some.inj ho
      subst e
      exact mx_pure (fun p l e R s m args below meth c H locs cells slots Q lr hx hb hl k => lv_if_ge hx hb d ht (fun q => absurd hc (Int32.not_lt.mpr q)) (fun _ => k))
    · next hc =>
      have e := Option.some.inj ho
      subst e
      exact mx_pure (fun p l e R s m args below meth c H locs cells slots Q lr hx hb hl k => lv_if_ge hx hb d ht (fun _ => k) (fun q => absurd (Int32.not_lt.mp hc) q))
  · cases ho
theorem ok_ifgt {G : mxG} {Ws : List Cond} {MT : Nat → Option mxM} {M : mxM} {pc : Nat} {off : Int} {t : Nat} (d : decode (qB M) pc = .ok (.ifCond .gt off, 3)) (ht : (pc : Int) + off = (t : Int)) : mx_Ok G Ws MT M pc (o_ifgt t (pc + 3)) := by
  intro ls st h o ho
  unfold o_ifgt at ho
  split at ho
  · split at ho
    · next hc =>
      have e := Option.some.inj ho
      subst e
      exact mx_pure (fun p l e R s m args below meth c H locs cells slots Q lr hx hb hl k => lv_if_gt hx hb d ht (fun _ => k) (fun q => absurd hc q))
    · next hc =>
      have e := Option.some.inj ho
      subst e
      exact mx_pure (fun p l e R s m args below meth c H locs cells slots Q lr hx hb hl k => lv_if_gt hx hb d ht (fun q => absurd q hc) (fun _ => k))
  · cases ho
theorem ok_ifle {G : mxG} {Ws : List Cond} {MT : Nat → Option mxM} {M : mxM} {pc : Nat} {off : Int} {t : Nat} (d : decode (qB M) pc = .ok (.ifCond .le off, 3)) (ht : (pc : Int) + off = (t : Int)) : mx_Ok G Ws MT M pc (o_ifle t (pc + 3)) := by
  intro ls st h o ho
  unfold o_ifle at ho
  split at ho
  · split at ho
    · next hc =>
      have e := Option.some.inj ho
      subst e
      exact mx_pure (fun p l e R s m args below meth c H locs cells slots Q lr hx hb hl k => lv_if_le hx hb d ht (fun q => absurd hc (Int32.not_lt.mpr q)) (fun _ => k))
    · next hc =>
      have e := Option.some.inj ho
      subst e
      exact mx_pure (fun p l e R s m args below meth c H locs cells slots Q lr hx hb hl k => lv_if_le hx hb d ht (fun _ => k) (fun q => absurd (Int32.not_lt.mp hc) q))
  · cases ho
theorem ok_iceq {G : mxG} {Ws : List Cond} {MT : Nat → Option mxM} {M : mxM} {pc : Nat} {off : Int} {t : Nat} (d : decode (qB M) pc = .ok (.if_icmp .eq off, 3)) (ht : (pc : Int) + off = (t : Int)) : mx_Ok G Ws MT M pc (o_iceq t (pc + 3)) := by
  intro ls st h o ho
  unfold o_iceq at ho
  split at ho
  · split at ho
    · next hc =>
      have e := Option.some.inj ho
      subst e
      exact mx_pure (fun p l e R s m args below meth c H locs cells slots Q lr hx hb hl k => lv_icmp_eq hx hb d ht (fun _ => k) (fun q => absurd hc q))
    · next hc =>
      have e := Option.some.inj ho
      subst e
      exact mx_pure (fun p l e R s m args below meth c H locs cells slots Q lr hx hb hl k => lv_icmp_eq hx hb d ht (fun q => absurd q hc) (fun _ => k))
  · cases ho
theorem ok_icne {G : mxG} {Ws : List Cond} {MT : Nat → Option mxM} {M : mxM} {pc : Nat} {off : Int} {t : Nat} (d : decode (qB M) pc = .ok (.if_icmp .ne off, 3)) (ht : (pc : Int) + off = (t : Int)) : mx_Ok G Ws MT M pc (o_icne t (pc + 3)) := by
  intro ls st h o ho
  unfold o_icne at ho
  split at ho
  · split at ho
    · next hc =>
      have e := Option.some.inj ho
      subst e
      exact mx_pure (fun p l e R s m args below meth c H locs cells slots Q lr hx hb hl k => lv_icmp_ne hx hb d ht (fun q => absurd hc q) (fun _ => k))
    · next hc =>
      have e := Option.some.inj ho
      subst e
      exact mx_pure (fun p l e R s m args below meth c H locs cells slots Q lr hx hb hl k => lv_icmp_ne hx hb d ht (fun _ => k) (fun q => absurd q hc))
  · cases ho
theorem ok_iclt {G : mxG} {Ws : List Cond} {MT : Nat → Option mxM} {M : mxM} {pc : Nat} {off : Int} {t : Nat} (d : decode (qB M) pc = .ok (.if_icmp .lt off, 3)) (ht : (pc : Int) + off = (t : Int)) : mx_Ok G Ws MT M pc (o_iclt t (pc + 3)) := by
  intro ls st h o ho
  unfold o_iclt at ho
  split at ho
  · split at ho
    · next hc =>
      have e := Option.some.inj ho
      subst e
      exact mx_pure (fun p l e R s m args below meth c H locs cells slots Q lr hx hb hl k => lv_icmp_lt hx hb d ht (fun _ => k) (fun q => absurd hc q))
    · next hc =>
      have e := Option.some.inj ho
      subst e
      exact mx_pure (fun p l e R s m args below meth c H locs cells slots Q lr hx hb hl k => lv_icmp_lt hx hb d ht (fun q => absurd q hc) (fun _ => k))
  · cases ho
theorem ok_icge {G : mxG} {Ws : List Cond} {MT : Nat → Option mxM} {M : mxM} {pc : Nat} {off : Int} {t : Nat} (d : decode (qB M) pc = .ok (.if_icmp .ge off, 3)) (ht : (pc : Int) + off = (t : Int)) : mx_Ok G Ws MT M pc (o_icge t (pc + 3)) := by
  intro ls st h o ho
  unfold o_icge at ho
  split at ho
  · split at ho
    · next hc =>
      have e := Option.some.inj ho
      subst e
      exact mx_pure (fun p l e R s m args below meth c H locs cells slots Q lr hx hb hl k => lv_icmp_ge hx hb d ht (fun q => absurd hc (Int32.not_lt.mpr q)) (fun _ => k))
    · next hc =>
      have e := Option.some.inj ho
      subst e
      exact mx_pure (fun p l e R s m args below meth c H locs cells slots Q lr hx hb hl k => lv_icmp_ge hx hb d ht (fun _ => k) (fun q => absurd (Int32.not_lt.mp hc) q))
  · cases ho
theorem ok_icgt {G : mxG} {Ws : List Cond} {MT : Nat → Option mxM} {M : mxM} {pc : Nat} {off : Int} {t : Nat} (d : decode (qB M) pc = .ok (.if_icmp .gt off, 3)) (ht : (pc : Int) + off = (t : Int)) : mx_Ok G Ws MT M pc (o_icgt t (pc + 3)) := by
  intro ls st h o ho
  unfold o_icgt at ho
  split at ho
  · split at ho
    · next hc =>
      have e := Option.some.inj ho
      subst e
      exact mx_pure (fun p l e R s m args below meth c H locs cells slots Q lr hx hb hl k => lv_icmp_gt hx hb d ht (fun _ => k) (fun q => absurd hc q))
    · next hc =>
      have e := Option.some.inj ho
      subst e
      exact mx_pure (fun p l e R s m args below meth c H locs cells slots Q lr hx hb hl k => lv_icmp_gt hx hb d ht (fun q => absurd q hc) (fun _ => k))
  · cases ho
theorem ok_icle {G : mxG} {Ws : List Cond} {MT : Nat → Option mxM} {M : mxM} {pc : Nat} {off : Int} {t : Nat} (d : decode (qB M) pc = .ok (.if_icmp .le off, 3)) (ht : (pc : Int) + off = (t : Int)) : mx_Ok G Ws MT M pc (o_icle t (pc + 3)) := by
  intro ls st h o ho
  unfold o_icle at ho
  split at ho
  · split at ho
    · next hc =>
      have e := Option.some.inj ho
      subst e
      exact mx_pure (fun p l e R s m args below meth c H locs cells slots Q lr hx hb hl k => lv_icmp_le hx hb d ht (fun q => absurd hc (Int32.not_lt.mpr q)) (fun _ => k))
    · next hc =>
      have e := Option.some.inj ho
      subst e
      exact mx_pure (fun p l e R s m args below meth c H locs cells slots Q lr hx hb hl k => lv_icmp_le hx hb d ht (fun _ => k) (fun q => absurd (Int32.not_lt.mp hc) q))
  · cases ho
theorem ok_goto {G : mxG} {Ws : List Cond} {MT : Nat → Option mxM} {M : mxM} {pc : Nat} {off : Int} {t : Nat} (d : decode (qB M) pc = .ok (.goto off, 3)) (ht : (pc : Int) + off = (t : Int)) : mx_Ok G Ws MT M pc (o_goto t) := by
  intro ls st h o ho
  have e := Option.some.inj ho
  subst e
  exact mx_pure (fun p l e R s m args below meth c H locs cells slots Q lr hx hb hl k => lv_goto hx hb d ht k)
theorem ok_ifnull {G : mxG} {Ws : List Cond} {MT : Nat → Option mxM} {M : mxM} {pc : Nat} {off : Int} {t : Nat} (d : decode (qB M) pc = .ok (.ifnull off, 3)) (ht : (pc : Int) + off = (t : Int)) : mx_Ok G Ws MT M pc (o_nul t (pc + 3)) := by
  intro ls st h o ho
  unfold o_nul at ho
  split at ho
  · have e := Option.some.inj ho
    subst e
    exact mx_pure (fun p l e R s m args below meth c H locs cells slots Q lr hx hb hl k => lv_ifnullN hx hb d ht k)
  · have e := Option.some.inj ho
    subst e
    exact mx_pure (fun p l e R s m args below meth c H locs cells slots Q lr hx hb hl k => lv_ifnull hx hb d k)
  · cases ho
theorem ok_ifnonnull {G : mxG} {Ws : List Cond} {MT : Nat → Option mxM} {M : mxM} {pc : Nat} {off : Int} {t : Nat} (d : decode (qB M) pc = .ok (.ifnonnull off, 3)) (ht : (pc : Int) + off = (t : Int)) : mx_Ok G Ws MT M pc (o_nnul t (pc + 3)) := by
  intro ls st h o ho
  unfold o_nnul at ho
  split at ho
  · have e := Option.some.inj ho
    subst e
    exact mx_pure (fun p l e R s m args below meth c H locs cells slots Q lr hx hb hl k => lv_ifnonnullN hx hb d k)
  · have e := Option.some.inj ho
    subst e
    exact mx_pure (fun p l e R s m args below meth c H locs cells slots Q lr hx hb hl k => lv_ifnonnull hx hb d ht k)
  · cases ho
theorem ok_tsw {G : mxG} {Ws : List Cond} {MT : Nat → Option mxM} {M : mxM} {pc : Nat} {dflt lo hi : Int} {offs : Array Int} {len : Nat} {ts : List Nat} {df : Nat} (d : decode (qB M) pc = .ok (.tableswitch dflt lo hi offs, len)) (hd : (pc : Int) + dflt = (df : Int)) (hn : hi = lo + (ts.length : Int) - 1) (ho : offs.toList.map (fun o => (pc : Int) + o) = ts.map (fun t : Nat => (t : Int))) : mx_Ok G Ws MT M pc (o_tsw lo ts df) := by
  intro ls st h o hq
  unfold o_tsw at hq
  split at hq
  · next x st =>
    have e := Option.some.inj hq
    subst e
    refine mx_pure (fun p l e R s m args below meth c H locs cells slots Q lr hx hb hl k => ?_)
    by_cases h1 : x.toInt < lo
    · have e1 : mx_tt lo ts df x = df := by unfold mx_tt; rw [if_pos h1]
      rw [e1] at k
      exact lv_tableOut hx hb d (Or.inl h1) hd k
    · by_cases h2 : hi < x.toInt
      · have e1 : mx_tt lo ts df x = df := by
          unfold mx_tt
          rw [if_neg h1, List.getD_eq_getElem?_getD, List.getElem?_eq_none (by omega)]
          rfl
        rw [e1] at k
        exact lv_tableOut hx hb d (Or.inr h2) hd k
      · have hlt : (x.toInt - lo).toNat < ts.length := by omega
        have e1 : mx_tt lo ts df x = ts[(x.toInt - lo).toNat] := by
          unfold mx_tt
          rw [if_neg h1, List.getD_eq_getElem?_getD, List.getElem?_eq_getElem hlt]
          rfl
        rw [e1] at k
        have hm : (offs.toList.map (fun o => (pc : Int) + o))[(x.toInt - lo).toNat]? = some ((ts[(x.toInt - lo).toNat] : Nat) : Int) := by
          rw [ho, List.getElem?_map, List.getElem?_eq_getElem hlt]
          rfl
        rw [List.getElem?_map] at hm
        cases hoo : offs.toList[(x.toInt - lo).toNat]? with
        | none => rw [hoo] at hm; cases hm
        | some off =>
          rw [hoo] at hm
          have hm2 : (pc : Int) + off = ((ts[(x.toInt - lo).toNat] : Nat) : Int) := Option.some.inj hm
          exact lv_tableIn hx hb d h1 h2 (by rw [← Array.getElem?_toList]; exact hoo) hm2 k
  · cases hq
theorem mx_lt_off {x : Int32} {pc df : Nat} {dflt : Int} (hd : (pc : Int) + dflt = (df : Int)) : ∀ (ps : List (Int × Int)) (ts : List (Int × Nat)), ps.map (fun q => (q.1, (pc : Int) + q.2)) = ts.map (fun q => (q.1, (q.2 : Int))) → (pc : Int) + Op.lookupswitch.offset ps dflt x.toInt = (mx_lt ts df x : Int)
  | [], [], _ => by
    show (pc : Int) + Op.lookupswitch.offset [] dflt x.toInt = (df : Int)
    rw [show Op.lookupswitch.offset [] dflt x.toInt = dflt from rfl]
    exact hd
  | [], _ :: _, e => by simp at e
  | _ :: _, [], e => by simp at e
  | (a, b) :: ps, (u, v) :: ts, e => by
    simp only [List.map_cons, List.cons.injEq, Prod.mk.injEq] at e
    obtain ⟨⟨rfl, e2⟩, e3⟩ := e
    rw [Op.lookupswitch.offset_cons]
    unfold mx_lt
    by_cases hc : x.toInt = a
    · rw [if_pos hc, if_pos hc.symm]
      exact e2
    · rw [if_neg hc, if_neg (fun q => hc q.symm)]
      exact mx_lt_off hd ps ts e3
theorem ok_lsw {G : mxG} {Ws : List Cond} {MT : Nat → Option mxM} {M : mxM} {pc : Nat} {dflt : Int} {ps : Array (Int × Int)} {len : Nat} {ts : List (Int × Nat)} {df : Nat} (d : decode (qB M) pc = .ok (.lookupswitch dflt ps, len)) (hp : (ps.toList.zip (ps.toList.drop 1)).all (fun (a, next) => a.1 < next.1) = true) (hd : (pc : Int) + dflt = (df : Int)) (ho : ps.toList.map (fun q => (q.1, (pc : Int) + q.2)) = ts.map (fun q => (q.1, (q.2 : Int)))) : mx_Ok G Ws MT M pc (o_lsw ts df) := by
  intro ls st h o hq
  unfold o_lsw at hq
  split at hq
  · have e := Option.some.inj hq
    subst e
    exact mx_pure (fun p l e R s m args below meth c H locs cells slots Q lr hx hb hl k => lv_lookup hx hb d hp rfl (mx_lt_off hd _ _ ho) k)
  · cases hq
theorem ok_return {G : mxG} {Ws : List Cond} {MT : Nat → Option mxM} {M : mxM} {pc : Nat} (d : decode (qB M) pc = .ok (.return_, 1)) (hr : qR M = none) : mx_Ok G Ws MT M pc o_ret := by
  intro ls st h o ho
  unfold o_ret at ho
  split at ho
  · have e := Option.some.inj ho
    subst e
    exact Or.inl ⟨rfl, rfl, d, hr⟩
  · cases ho
theorem ok_ireturn {G : mxG} {Ws : List Cond} {MT : Nat → Option mxM} {M : mxM} {pc : Nat} (d : decode (qB M) pc = .ok (.ireturn, 1)) (hr : qR M = some .int) : mx_Ok G Ws MT M pc o_reti := by
  intro ls st h o ho
  unfold o_reti at ho
  split at ho
  · next x =>
    have e := Option.some.inj ho
    subst e
    exact Or.inr (Or.inl ⟨x, rfl, rfl, d, hr⟩)
  · cases ho
theorem ok_zreturn {G : mxG} {Ws : List Cond} {MT : Nat → Option mxM} {M : mxM} {pc : Nat} (d : decode (qB M) pc = .ok (.ireturn, 1)) (hr : qR M = some .boolean) : mx_Ok G Ws MT M pc o_retz := by
  intro ls st h o ho
  unfold o_retz at ho
  split at ho
  · next x =>
    split at ho
    · next hc =>
      have e := Option.some.inj ho
      subst e
      exact Or.inr (Or.inr (Or.inl ⟨x, hc, rfl, rfl, d, hr⟩))
    · cases ho
  · cases ho
theorem ok_lreturn {G : mxG} {Ws : List Cond} {MT : Nat → Option mxM} {M : mxM} {pc : Nat} (d : decode (qB M) pc = .ok (.lreturn, 1)) (hr : qR M = some .long) : mx_Ok G Ws MT M pc o_retl := by
  intro ls st h o ho
  unfold o_retl at ho
  split at ho
  · next x =>
    have e := Option.some.inj ho
    subst e
    exact Or.inr (Or.inr (Or.inr (Or.inl ⟨x, rfl, rfl, d, hr⟩)))
  · cases ho
theorem ok_areturn {G : mxG} {Ws : List Cond} {MT : Nat → Option mxM} {M : mxM} {pc : Nat} {rt : FieldType} (d : decode (qB M) pc = .ok (.areturn, 1)) (hr : qR M = some rt) (ht : (∃ n, rt = .object n) ∨ ∃ t, rt = .array t) : mx_Ok G Ws MT M pc o_reta := by
  intro ls st h o ho
  unfold o_reta at ho
  split at ho
  · next x =>
    have e := Option.some.inj ho
    subst e
    exact Or.inr (Or.inr (Or.inr (Or.inr ⟨_, rt, Or.inr ⟨x, rfl⟩, ht, rfl, rfl, d, hr⟩)))
  · have e := Option.some.inj ho
    subst e
    exact Or.inr (Or.inr (Or.inr (Or.inr ⟨_, rt, Or.inl rfl, ht, rfl, rfl, d, hr⟩)))
  · cases ho
