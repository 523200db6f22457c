/-! THE ROWS: what each kind of instruction does; n is the place behind it, t the place that a branch goes to. -/
def mx_up (h : mxH) (k : Nat) (c : mxC) : mxH := (va_up h.1 k c, h.2.1, h.2.2)
def mx_mk (h : mxH) (c : mxC) (w : Nat) : mxH := (va_up h.1 h.2.1 c, h.2.1 + 1, h.2.2 + w)
def mx_get : mxL → Nat → Option Value
  | [], _ => none
  | a :: _, 0 => a
  | _ :: l, n + 1 => mx_get l n
def mx_nl : Option Value → Option Value
  | some (.long _) => none
  | some (.double _) => none
  | x => x
/-- storing a value of one place -/
def mx_s1 : mxL → Nat → Value → mxL
  | [], 0, v => [some v]
  | [], n + 1, v => none :: mx_s1 [] n v
  | _ :: l, 0, v => some v :: l
  | a :: l, 1, v => mx_nl a :: mx_s1 l 0 v
  | a :: l, n + 2, v => a :: mx_s1 l (n + 1) v
def mx_tl : mxL → mxL
  | [] => []
  | _ :: l => none :: l
/-- storing a value of two places -/
def mx_s2 : mxL → Nat → Value → mxL
  | [], 0, v => [some v]
  | [], n + 1, v => none :: mx_s2 [] n v
  | _ :: l, 0, v => some v :: mx_tl l
  | a :: l, 1, v => mx_nl a :: mx_s2 l 0 v
  | a :: l, n + 2, v => a :: mx_s2 l (n + 1) v
def mx_lg : List Value → Nat → Option Value
  | [], _ => none
  | a :: _, 0 => some a
  | _ :: l, n + 1 => mx_lg l n
def mx_ls : List Value → Nat → Value → List Value
  | [], _, _ => []
  | _ :: l, 0, v => v :: l
  | a :: l, n + 1, v => a :: mx_ls l n v
def o_push (v : Value) (n : Nat) : mxI := fun ls st h => mx_nx n ls (v :: st) h
def o_ldi (i n : Nat) : mxI := fun ls st h => match mx_get ls i with
  | some (.int x) => mx_nx n ls (.int x :: st) h
  | _ => none
def o_ldl (i n : Nat) : mxI := fun ls st h => match mx_get ls i with
  | some (.long x) => mx_nx n ls (.long x :: st) h
  | _ => none
def o_lda (i n : Nat) : mxI := fun ls st h => match mx_get ls i with
  | some (.ref x) => mx_nx n ls (.ref x :: st) h
  | some .null => mx_nx n ls (.null :: st) h
  | _ => none
/-- what a load goes on with -/
def mx_li : Option Value → (Value → Prop) → Prop
  | some (.int x), K => K (.int x)
  | _, _ => False
def mx_ll : Option Value → (Value → Prop) → Prop
  | some (.long x), K => K (.long x)
  | _, _ => False
def mx_la : Option Value → (Value → Prop) → Prop
  | some (.ref x), K => K (.ref x)
  | some .null, K => K .null
  | _, _ => False
def o_sti (i n : Nat) : mxI := fun ls st h => match st with
  | .int x :: st => mx_nx n (mx_s1 ls i (.int x)) st h
  | _ => none
def o_stl (i n : Nat) : mxI := fun ls st h => match st with
  | .long x :: st => mx_nx n (mx_s2 ls i (.long x)) st h
  | _ => none
def o_sta (i n : Nat) : mxI := fun ls st h => match st with
  | .ref x :: st => mx_nx n (mx_s1 ls i (.ref x)) st h
  | .null :: st => mx_nx n (mx_s1 ls i .null) st h
  | _ => none
def o_inc (i : Nat) (k : Int32) (n : Nat) : mxI := fun ls st h => match mx_get ls i with
  | some (.int x) => mx_nx n (mx_s1 ls i (.int (x + k))) st h
  | _ => none
def mx_ic : Option Value → Int32 → (Value → Prop) → Prop
  | some (.int x), k, K => K (.int (x + k))
  | _, _, _ => False
def o_ii (f : Int32 → Int32 → Int32) (n : Nat) : mxI := fun ls st h => match st with
  | .int y :: .int x :: st => mx_nx n ls (.int (f x y) :: st) h
  | _ => none
def o_iid (f : Int32 → Int32 → Int32) (n : Nat) : mxI := fun ls st h => match st with
  | .int y :: .int x :: st => if y = 0 then none else mx_nx n ls (.int (f x y) :: st) h
  | _ => none
def o_i (f : Int32 → Int32) (n : Nat) : mxI := fun ls st h => match st with
  | .int x :: st => mx_nx n ls (.int (f x) :: st) h
  | _ => none
def o_il (f : Int32 → Int64) (n : Nat) : mxI := fun ls st h => match st with
  | .int x :: st => mx_nx n ls (.long (f x) :: st) h
  | _ => none
def o_li (f : Int64 → Int32) (n : Nat) : mxI := fun ls st h => match st with
  | .long x :: st => mx_nx n ls (.int (f x) :: st) h
  | _ => none
def o_ll (f : Int64 → Int64 → Int64) (n : Nat) : mxI := fun ls st h => match st with
  | .long y :: .long x :: st => mx_nx n ls (.long (f x y) :: st) h
  | _ => none
def o_lld (f : Int64 → Int64 → Int64) (n : Nat) : mxI := fun ls st h => match st with
  | .long y :: .long x :: st => if y = 0 then none else mx_nx n ls (.long (f x y) :: st) h
  | _ => none
def o_l (f : Int64 → Int64) (n : Nat) : mxI := fun ls st h => match st with
  | .long x :: st => mx_nx n ls (.long (f x) :: st) h
  | _ => none
def o_lil (f : Int64 → Int32 → Int64) (n : Nat) : mxI := fun ls st h => match st with
  | .int y :: .long x :: st => mx_nx n ls (.long (f x y) :: st) h
  | _ => none
def o_lli (f : Int64 → Int64 → Int32) (n : Nat) : mxI := fun ls st h => match st with
  | .long y :: .long x :: st => mx_nx n ls (.int (f x y) :: st) h
  | _ => none
def o_dup (n : Nat) : mxI := fun ls st h => match st with
  | a :: st => if a.category = 1 then mx_nx n ls (a :: a :: st) h else none
  | _ => none
def o_pop (n : Nat) : mxI := fun ls st h => match st with
  | a :: st => if a.category = 1 then mx_nx n ls (st) h else none
  | _ => none
def o_dup_x1 (n : Nat) : mxI := fun ls st h => match st with
  | a :: b :: st => if a.category = 1 ∧ b.category = 1 then mx_nx n ls (a :: b :: a :: st) h else none
  | _ => none
def o_dup_x2 (n : Nat) : mxI := fun ls st h => match st with
  | a :: b :: d :: st => if a.category = 1 ∧ b.category = 1 ∧ d.category = 1 then mx_nx n ls (a :: b :: d :: a :: st) h else none
  | _ => none
def o_dup2 (n : Nat) : mxI := fun ls st h => match st with
  | a :: b :: st => if a.category = 1 ∧ b.category = 1 then mx_nx n ls (a :: b :: a :: b :: st) h else none
  | _ => none
def o_dup2L (n : Nat) : mxI := fun ls st h => match st with
  | a :: st => if a.category = 2 then mx_nx n ls (a :: a :: st) h else none
  | _ => none
def o_pop2L (n : Nat) : mxI := fun ls st h => match st with
  | a :: st => if a.category = 2 then mx_nx n ls (st) h else none
  | _ => none
def o_dup2_x1L (n : Nat) : mxI := fun ls st h => match st with
  | a :: b :: st => if a.category = 2 ∧ b.category = 1 then mx_nx n ls (a :: b :: a :: st) h else none
  | _ => none
def o_dup2_x2L (n : Nat) : mxI := fun ls st h => match st with
  | a :: b :: d :: st => if a.category = 2 ∧ b.category = 1 ∧ d.category = 1 then mx_nx n ls (a :: b :: d :: a :: st) h else none
  | _ => none
def o_ifeq (t n : Nat) : mxI := fun ls st h => match st with
  | .int x :: st => if x = 0 then mx_nx t ls st h else mx_nx n ls st h
  | _ => none
def o_ifne (t n : Nat) : mxI := fun ls st h => match st with
  | .int x :: st => if x = 0 then mx_nx n ls st h else mx_nx t ls st h
  | _ => none
def o_iflt (t n : Nat) : mxI := fun ls st h => match st with
  | .int x :: st => if x < 0 then mx_nx t ls st h else mx_nx n ls st h
  | _ => none
def o_ifge (t n : Nat) : mxI := fun ls st h => match st with
  | .int x :: st => if x < 0 then mx_nx n ls st h else mx_nx t ls st h
  | _ => none
def o_ifgt (t n : Nat) : mxI := fun ls st h => match st with
  | .int x :: st => if 0 < x then mx_nx t ls st h else mx_nx n ls st h
  | _ => none
def o_ifle (t n : Nat) : mxI := fun ls st h => match st with
  | .int x :: st => if 0 < x then mx_nx n ls st h else mx_nx t ls st h
  | _ => none
def o_iceq (t n : Nat) : mxI := fun ls st h => match st with
  | .int y :: .int x :: st => if x = y then mx_nx t ls st h else mx_nx n ls st h
  | _ => none
def o_icne (t n : Nat) : mxI := fun ls st h => match st with
  | .int y :: .int x :: st => if x = y then mx_nx n ls st h else mx_nx t ls st h
  | _ => none
def o_iclt (t n : Nat) : mxI := fun ls st h => match st with
  | .int y :: .int x :: st => if x < y then mx_nx t ls st h else mx_nx n ls st h
  | _ => none
def o_icge (t n : Nat) : mxI := fun ls st h => match st with
  | .int y :: .int x :: st => if x < y then mx_nx n ls st h else mx_nx t ls st h
  | _ => none
def o_icgt (t n : Nat) : mxI := fun ls st h => match st with
  | .int y :: .int x :: st => if y < x then mx_nx t ls st h else mx_nx n ls st h
  | _ => none
def o_icle (t n : Nat) : mxI := fun ls st h => match st with
  | .int y :: .int x :: st => if y < x then mx_nx n ls st h else mx_nx t ls st h
  | _ => none
def o_goto (t : Nat) : mxI := fun ls st h => mx_nx t ls st h
/-- ifnull: t where it is null -/
def o_nul (t n : Nat) : mxI := fun ls st h => match st with
  | .null :: st => mx_nx t ls st h
  | .ref _ :: st => mx_nx n ls st h
  | _ => none
def o_nnul (t n : Nat) : mxI := fun ls st h => match st with
  | .null :: st => mx_nx n ls st h
  | .ref _ :: st => mx_nx t ls st h
  | _ => none
/-- a switch over the numbers from lo on -/
def mx_tt (lo : Int) (ts : List Nat) (d : Nat) (x : Int32) : Nat := if x.toInt < lo then d else ts.getD (x.toInt - lo).toNat d
def o_tsw (lo : Int) (ts : List Nat) (d : Nat) : mxI := fun ls st h => match st with
  | .int x :: st => mx_nx (mx_tt lo ts d x) ls st h
  | _ => none
def mx_lt : List (Int × Nat) → Nat → Int32 → Nat
  | [], d, _ => d
  | q :: l, d, x => if x.toInt = q.1 then q.2 else mx_lt l d x
def o_lsw (ts : List (Int × Nat)) (d : Nat) : mxI := fun ls st h => match st with
  | .int x :: st => mx_nx (mx_lt ts d x) ls st h
  | _ => none
/-- field k of an object of class ci -/
def mx_fd (ci k : Nat) : mxC → Option Value
  | .inr (c, fs) => if c = ci then mx_lg fs k else none
  | _ => none
def o_getf (ci k n : Nat) : mxI := fun ls st h => match st with
  | .ref a :: st => (match mx_fd ci k (h.1 a) with
    | some v => mx_nx n ls (v :: st) h
    | none => none)
  | _ => none
def mx_op : Option Value → (Value → Prop) → Prop
  | some v, K => K v
  | none, _ => False
/-- what may be put into a field or an array: 0 int, 1 long, 2 boolean, 3 a reference -/
def mx_ty : Nat → Value → Bool
  | 0, .int _ => true
  | 1, .long _ => true
  | 2, .int x => x == 0 || x == 1
  | 3, .ref _ => true
  | 3, .null => true
  | _, _ => false
def mx_pd (ci k : Nat) (v : Value) : mxC → Option mxC
  | .inr (c, fs) => if c = ci then (if k < fs.length then some (.inr (c, mx_ls fs k v)) else none) else none
  | _ => none
def o_putf (ci k t n : Nat) : mxI := fun ls st h => match st with
  | v :: .ref a :: st => if mx_ty t v = true then (match mx_pd ci k v (h.1 a) with
    | some c => mx_nx n ls st (mx_up h a c)
    | none => none) else none
  | _ => none
def mx_oc : Option mxC → (mxC → Prop) → Prop
  | some v, K => K v
  | none, _ => False
/-- kinds of arrays: 0 int, 1 long, 2 boolean, 3 and on references; 9 an array of int that was there before, only read -/
def mx_rv : Option Nat → Value
  | some a => .ref a
  | none => .null
def mx_ald (kn : Nat) (i : Int32) : mxC → Option Value
  | .inl (k, n, .inl f) => if (k = kn ∨ k = 9 ∧ kn = 0) ∧ ¬ (i < 0 ∨ n ≤ i.toNatClampNeg) then some (.int (f i.toNatClampNeg)) else none
  | .inl (k, n, .inr (.inl f)) => if k = kn ∧ ¬ (i < 0 ∨ n ≤ i.toNatClampNeg) then some (.long (f i.toNatClampNeg)) else none
  | .inl (k, n, .inr (.inr (.inr (.inr f)))) => if k = kn ∧ ¬ (i < 0 ∨ n ≤ i.toNatClampNeg) then some (mx_rv (f i.toNatClampNeg)) else none
  | _ => none
def o_ald (kn n : Nat) : mxI := fun ls st h => match st with
  | .int i :: .ref a :: st => (match mx_ald kn i (h.1 a) with
    | some v => mx_nx n ls (v :: st) h
    | none => none)
  | _ => none
def mx_ast (kn : Nat) (i : Int32) : Value → mxC → Option mxC
  | .int x, .inl (k, n, .inl f) => if k = kn ∧ ¬ (i < 0 ∨ n ≤ i.toNatClampNeg) then some (.inl (k, n, .inl (va_up f i.toNatClampNeg x))) else none
  | .long x, .inl (k, n, .inr (.inl f)) => if k = kn ∧ ¬ (i < 0 ∨ n ≤ i.toNatClampNeg) then some (.inl (k, n, .inr (.inl (va_up f i.toNatClampNeg x)))) else none
  | .ref x, .inl (k, n, .inr (.inr (.inr (.inr f)))) => if k = kn ∧ ¬ (i < 0 ∨ n ≤ i.toNatClampNeg) then some (.inl (k, n, .inr (.inr (.inr (.inr (va_up f i.toNatClampNeg (some x))))))) else none
  | _, _ => none
def o_ast (kn t n : Nat) : mxI := fun ls st h => match st with
  | v :: .int i :: .ref a :: st => if mx_ty t v = true then (match mx_ast kn i v (h.1 a) with
    | some c => mx_nx n ls st (mx_up h a c)
    | none => none) else none
  | _ => none
/-- storing an object of class ci into an array of such -/
def mx_isc (ci : Nat) : mxC → Bool
  | .inr (c, _) => c == ci
  | _ => false
def o_aast (kn ci n : Nat) : mxI := fun ls st h => match st with
  | .ref x :: .int i :: .ref a :: st => if mx_isc ci (h.1 x) = true then (match mx_ast kn i (.ref x) (h.1 a) with
    | some c => mx_nx n ls st (mx_up h a c)
    | none => none) else none
  | _ => none
def mx_len : mxC → Option Value
  | .inl (_, n, _) => some (.int (nI n))
  | _ => none
def o_alen (n : Nat) : mxI := fun ls st h => match st with
  | .ref a :: st => (match mx_len (h.1 a) with
    | some v => mx_nx n ls (v :: st) h
    | none => none)
  | _ => none
def o_new (ci : Nat) (fs : List Value) (n : Nat) : mxI := fun ls st h => mx_nx n ls (.ref h.2.1 :: st) (mx_mk h (.inr (ci, fs)) fs.length)
/-- a new array's contents, by its kind -/
def mx_ar0 (kn : Nat) (n : Nat) : mxC := .inl (kn, n, if kn = 1 then .inr (.inl (fun _ => 0)) else if kn ≤ 2 then .inl (fun _ => 0) else .inr (.inr (.inr (.inr (fun _ => none)))))
def o_newa (kn n : Nat) : mxI := fun ls st h => match st with
  | .int x :: st => if x < 0 ∨ 50000000 < x.toNatClampNeg then none else mx_nx n ls (.ref h.2.1 :: st) (mx_mk h (mx_ar0 kn x.toNatClampNeg) x.toNatClampNeg)
  | _ => none
def o_ret : mxI := fun _ st _ => match st with
  | [] => mx_rt none
  | _ => none
def o_reti : mxI := fun _ st _ => match st with
  | [.int x] => mx_rt (some (.int x))
  | _ => none
def o_retl : mxI := fun _ st _ => match st with
  | [.long x] => mx_rt (some (.long x))
  | _ => none
def o_retz : mxI := fun _ st _ => match st with
  | [.int x] => if x = 0 ∨ x = 1 then mx_rt (some (.int x)) else none
  | _ => none
def o_reta : mxI := fun _ st _ => match st with
  | [.ref x] => mx_rt (some (.ref x))
  | [.null] => mx_rt (some .null)
  | _ => none
/-- words that values take -/
def mx_cs : List Value → Nat
  | [] => 0
  | v :: l => v.category + mx_cs l
/-- a static method j of k arguments -/
def o_cs (j k w n : Nat) : mxI := fun _ st _ => if (k ≤ st.length ∧ mx_cs (st.drop k) ≤ 8) ∧ (mx_ent (st.take k).reverse).length ≤ w then mx_cl j (st.take k).reverse n (st.drop k) else none
/-- a method j of an object of class ci, k arguments; a constructor likewise -/
def mx_rc (ci : Nat) (h : mxH) : List Value → Bool
  | .ref a :: _ => mx_isc ci (h.1 a)
  | _ => false
def o_cv (j ci k w n : Nat) : mxI := fun _ st h => if ((k + 1 ≤ st.length ∧ mx_cs (st.drop (k + 1)) ≤ 8) ∧ (mx_ent (st.take (k + 1)).reverse).length ≤ w) ∧ mx_rc ci h (st.drop k) = true then mx_cl j (st.take (k + 1)).reverse n (st.drop (k + 1)) else none
/-- Object's constructor -/
def o_oin (n : Nat) : mxI := fun ls st h => match st with
  | [.ref _] => mx_nx n ls [] h
  | _ => none
theorem mw_push {P : mxP} {m pc : Nat} {ls : mxL} {st : List Value} {h : mxH} {Q : Option Value → mxH → Prop} {v : Value} {n : Nat} (hr : P m pc = some (o_push v n)) : mw P m pc ls st h Q ↔ mw P m n ls (v :: st) h Q := mw_row P hr _ _ _ _
theorem mw_ldi {P : mxP} {m pc : Nat} {ls : mxL} {st : List Value} {h : mxH} {Q : Option Value → mxH → Prop} {i n : Nat} (hr : P m pc = some (o_ldi i n)) : mw P m pc ls st h Q ↔ mx_li (mx_get ls i) (fun v => mw P m n ls (v :: st) h Q) := by
  refine (mw_row P hr _ _ _ _).trans ?_
  unfold o_ldi
  cases hg : mx_get ls i with
  | none => exact Iff.rfl
  | some v => cases v <;> exact Iff.rfl
theorem mw_ldl {P : mxP} {m pc : Nat} {ls : mxL} {st : List Value} {h : mxH} {Q : Option Value → mxH → Prop} {i n : Nat} (hr : P m pc = some (o_ldl i n)) : mw P m pc ls st h Q ↔ mx_ll (mx_get ls i) (fun v => mw P m n ls (v :: st) h Q) := by
  refine (mw_row P hr _ _ _ _).trans ?_
  unfold o_ldl
  cases hg : mx_get ls i with
  | none => exact Iff.rfl
  | some v => cases v <;> exact Iff.rfl
theorem mw_lda {P : mxP} {m pc : Nat} {ls : mxL} {st : List Value} {h : mxH} {Q : Option Value → mxH → Prop} {i n : Nat} (hr : P m pc = some (o_lda i n)) : mw P m pc ls st h Q ↔ mx_la (mx_get ls i) (fun v => mw P m n ls (v :: st) h Q) := by
  refine (mw_row P hr _ _ _ _).trans ?_
  unfold o_lda
  cases hg : mx_get ls i with
  | none => exact Iff.rfl
  | some v => cases v <;> exact Iff.rfl
theorem mw_sti {P : mxP} {m pc : Nat} {ls : mxL} {st : List Value} {h : mxH} {Q : Option Value → mxH → Prop} {i n : Nat} {x : Int32} (hr : P m pc = some (o_sti i n)) : mw P m pc ls (.int x :: st) h Q ↔ mw P m n (mx_s1 ls i (.int x)) st h Q := mw_row P hr _ _ _ _
theorem mw_stl {P : mxP} {m pc : Nat} {ls : mxL} {st : List Value} {h : mxH} {Q : Option Value → mxH → Prop} {i n : Nat} {x : Int64} (hr : P m pc = some (o_stl i n)) : mw P m pc ls (.long x :: st) h Q ↔ mw P m n (mx_s2 ls i (.long x)) st h Q := mw_row P hr _ _ _ _
theorem mw_star {P : mxP} {m pc : Nat} {ls : mxL} {st : List Value} {h : mxH} {Q : Option Value → mxH → Prop} {i n : Nat} {x : Nat} (hr : P m pc = some (o_sta i n)) : mw P m pc ls (.ref x :: st) h Q ↔ mw P m n (mx_s1 ls i (.ref x)) st h Q := mw_row P hr _ _ _ _
theorem mw_stan {P : mxP} {m pc : Nat} {ls : mxL} {st : List Value} {h : mxH} {Q : Option Value → mxH → Prop} {i n : Nat} (hr : P m pc = some (o_sta i n)) : mw P m pc ls (.null :: st) h Q ↔ mw P m n (mx_s1 ls i .null) st h Q := mw_row P hr _ _ _ _
theorem mw_inc {P : mxP} {m pc : Nat} {ls : mxL} {st : List Value} {h : mxH} {Q : Option Value → mxH → Prop} {i n : Nat} {k : Int32} (hr : P m pc = some (o_inc i k n)) : mw P m pc ls st h Q ↔ mx_ic (mx_get ls i) k (fun v => mw P m n (mx_s1 ls i v) st h Q) := by
  refine (mw_row P hr _ _ _ _).trans ?_
  unfold o_inc
  cases hg : mx_get ls i with
  | none => exact Iff.rfl
  | some v => cases v <;> exact Iff.rfl
theorem mw_ii {P : mxP} {m pc : Nat} {ls : mxL} {st : List Value} {h : mxH} {Q : Option Value → mxH → Prop} {f : Int32 → Int32 → Int32} {n : Nat} {y : Int32} {x : Int32} (hr : P m pc = some (o_ii f n)) : mw P m pc ls (.int y :: .int x :: st) h Q ↔ mw P m n ls (.int (f x y) :: st) h Q := mw_row P hr _ _ _ _
theorem mw_iid {P : mxP} {m pc : Nat} {ls : mxL} {st : List Value} {h : mxH} {Q : Option Value → mxH → Prop} {f : Int32 → Int32 → Int32} {n : Nat} {y : Int32} {x : Int32} (hr : P m pc = some (o_iid f n)) : mw P m pc ls (.int y :: .int x :: st) h Q ↔ (if y = 0 then False else mw P m n ls (.int (f x y) :: st) h Q) := by
  refine (mw_row P hr _ _ _ _).trans ?_
  show mwo P m ls h Q (if y = 0 then none else _) ↔ _
  by_cases e : y = 0
  · rw [if_pos e, if_pos e]; exact Iff.rfl
  · rw [if_neg e, if_neg e]; exact Iff.rfl
theorem mw_i {P : mxP} {m pc : Nat} {ls : mxL} {st : List Value} {h : mxH} {Q : Option Value → mxH → Prop} {f : Int32 → Int32} {n : Nat} {x : Int32} (hr : P m pc = some (o_i f n)) : mw P m pc ls (.int x :: st) h Q ↔ mw P m n ls (.int (f x) :: st) h Q := mw_row P hr _ _ _ _
theorem mw_il {P : mxP} {m pc : Nat} {ls : mxL} {st : List Value} {h : mxH} {Q : Option Value → mxH → Prop} {f : Int32 → Int64} {n : Nat} {x : Int32} (hr : P m pc = some (o_il f n)) : mw P m pc ls (.int x :: st) h Q ↔ mw P m n ls (.long (f x) :: st) h Q := mw_row P hr _ _ _ _
theorem mw_li {P : mxP} {m pc : Nat} {ls : mxL} {st : List Value} {h : mxH} {Q : Option Value → mxH → Prop} {f : Int64 → Int32} {n : Nat} {x : Int64} (hr : P m pc = some (o_li f n)) : mw P m pc ls (.long x :: st) h Q ↔ mw P m n ls (.int (f x) :: st) h Q := mw_row P hr _ _ _ _
theorem mw_ll {P : mxP} {m pc : Nat} {ls : mxL} {st : List Value} {h : mxH} {Q : Option Value → mxH → Prop} {f : Int64 → Int64 → Int64} {n : Nat} {y : Int64} {x : Int64} (hr : P m pc = some (o_ll f n)) : mw P m pc ls (.long y :: .long x :: st) h Q ↔ mw P m n ls (.long (f x y) :: st) h Q := mw_row P hr _ _ _ _
theorem mw_lld {P : mxP} {m pc : Nat} {ls : mxL} {st : List Value} {h : mxH} {Q : Option Value → mxH → Prop} {f : Int64 → Int64 → Int64} {n : Nat} {y : Int64} {x : Int64} (hr : P m pc = some (o_lld f n)) : mw P m pc ls (.long y :: .long x :: st) h Q ↔ (if y = 0 then False else mw P m n ls (.long (f x y) :: st) h Q) := by
  refine (mw_row P hr _ _ _ _).trans ?_
  show mwo P m ls h Q (if y = 0 then none else _) ↔ _
  by_cases e : y = 0
  · rw [if_pos e, if_pos e]; exact Iff.rfl
  · rw [if_neg e, if_neg e]; exact Iff.rfl
theorem mw_l {P : mxP} {m pc : Nat} {ls : mxL} {st : List Value} {h : mxH} {Q : Option Value → mxH → Prop} {f : Int64 → Int64} {n : Nat} {x : Int64} (hr : P m pc = some (o_l f n)) : mw P m pc ls (.long x :: st) h Q ↔ mw P m n ls (.long (f x) :: st) h Q := mw_row P hr _ _ _ _
theorem mw_lil {P : mxP} {m pc : Nat} {ls : mxL} {st : List Value} {h : mxH} {Q : Option Value → mxH → Prop} {f : Int64 → Int32 → Int64} {n : Nat} {y : Int32} {x : Int64} (hr : P m pc = some (o_lil f n)) : mw P m pc ls (.int y :: .long x :: st) h Q ↔ mw P m n ls (.long (f x y) :: st) h Q := mw_row P hr _ _ _ _
theorem mw_lli {P : mxP} {m pc : Nat} {ls : mxL} {st : List Value} {h : mxH} {Q : Option Value → mxH → Prop} {f : Int64 → Int64 → Int32} {n : Nat} {y : Int64} {x : Int64} (hr : P m pc = some (o_lli f n)) : mw P m pc ls (.long y :: .long x :: st) h Q ↔ mw P m n ls (.int (f x y) :: st) h Q := mw_row P hr _ _ _ _
theorem mw_dup {P : mxP} {m pc : Nat} {ls : mxL} {st : List Value} {h : mxH} {Q : Option Value → mxH → Prop} {n : Nat} {a : Value} (hr : P m pc = some (o_dup n)) (ha : a.category = 1) : mw P m pc ls (a :: st) h Q ↔ mw P m n ls (a :: a :: st) h Q := by
  refine (mw_row P hr _ _ _ _).trans ?_
  show mwo P m ls h Q (if a.category = 1 then _ else none) ↔ _
  rw [if_pos ha]; exact Iff.rfl
theorem mw_pop {P : mxP} {m pc : Nat} {ls : mxL} {st : List Value} {h : mxH} {Q : Option Value → mxH → Prop} {n : Nat} {a : Value} (hr : P m pc = some (o_pop n)) (ha : a.category = 1) : mw P m pc ls (a :: st) h Q ↔ mw P m n ls (st) h Q := by
  refine (mw_row P hr _ _ _ _).trans ?_
  show mwo P m ls h Q (if a.category = 1 then _ else none) ↔ _
  rw [if_pos ha]; exact Iff.rfl
theorem mw_dup_x1 {P : mxP} {m pc : Nat} {ls : mxL} {st : List Value} {h : mxH} {Q : Option Value → mxH → Prop} {n : Nat} {a : Value} {b : Value} (hr : P m pc = some (o_dup_x1 n)) (ha : a.category = 1) (hb : b.category = 1) : mw P m pc ls (a :: b :: st) h Q ↔ mw P m n ls (a :: b :: a :: st) h Q := by
  refine (mw_row P hr _ _ _ _).trans ?_
  show mwo P m ls h Q (if a.category = 1 ∧ b.category = 1 then _ else none) ↔ _
  rw [if_pos ⟨ha, hb⟩]; exact Iff.rfl
theorem mw_dup_x2 {P : mxP} {m pc : Nat} {ls : mxL} {st : List Value} {h : mxH} {Q : Option Value → mxH → Prop} {n : Nat} {a : Value} {b : Value} {d : Value} (hr : P m pc = some (o_dup_x2 n)) (ha : a.category = 1) (hb : b.category = 1) (hd : d.category = 1) : mw P m pc ls (a :: b :: d :: st) h Q ↔ mw P m n ls (a :: b :: d :: a :: st) h Q := by
  refine (mw_row P hr _ _ _ _).trans ?_
  show mwo P m ls h Q (if a.category = 1 ∧ b.category = 1 ∧ d.category = 1 then _ else none) ↔ _
  rw [if_pos ⟨ha, hb, hd⟩]; exact Iff.rfl
theorem mw_dup2 {P : mxP} {m pc : Nat} {ls : mxL} {st : List Value} {h : mxH} {Q : Option Value → mxH → Prop} {n : Nat} {a : Value} {b : Value} (hr : P m pc = some (o_dup2 n)) (ha : a.category = 1) (hb : b.category = 1) : mw P m pc ls (a :: b :: st) h Q ↔ mw P m n ls (a :: b :: a :: b :: st) h Q := by
  refine (mw_row P hr _ _ _ _).trans ?_
  show mwo P m ls h Q (if a.category = 1 ∧ b.category = 1 then _ else none) ↔ _
  rw [if_pos ⟨ha, hb⟩]; exact Iff.rfl
theorem mw_dup2L {P : mxP} {m pc : Nat} {ls : mxL} {st : List Value} {h : mxH} {Q : Option Value → mxH → Prop} {n : Nat} {a : Value} (hr : P m pc = some (o_dup2L n)) (ha : a.category = 2) : mw P m pc ls (a :: st) h Q ↔ mw P m n ls (a :: a :: st) h Q := by
  refine (mw_row P hr _ _ _ _).trans ?_
  show mwo P m ls h Q (if a.category = 2 then _ else none) ↔ _
  rw [if_pos ha]; exact Iff.rfl
theorem mw_pop2L {P : mxP} {m pc : Nat} {ls : mxL} {st : List Value} {h : mxH} {Q : Option Value → mxH → Prop} {n : Nat} {a : Value} (hr : P m pc = some (o_pop2L n)) (ha : a.category = 2) : mw P m pc ls (a :: st) h Q ↔ mw P m n ls (st) h Q := by
  refine (mw_row P hr _ _ _ _).trans ?_
  show mwo P m ls h Q (if a.category = 2 then _ else none) ↔ _
  rw [if_pos ha]; exact Iff.rfl
theorem mw_dup2_x1L {P : mxP} {m pc : Nat} {ls : mxL} {st : List Value} {h : mxH} {Q : Option Value → mxH → Prop} {n : Nat} {a : Value} {b : Value} (hr : P m pc = some (o_dup2_x1L n)) (ha : a.category = 2) (hb : b.category = 1) : mw P m pc ls (a :: b :: st) h Q ↔ mw P m n ls (a :: b :: a :: st) h Q := by
  refine (mw_row P hr _ _ _ _).trans ?_
  show mwo P m ls h Q (if a.category = 2 ∧ b.category = 1 then _ else none) ↔ _
  rw [if_pos ⟨ha, hb⟩]; exact Iff.rfl
theorem mw_dup2_x2L {P : mxP} {m pc : Nat} {ls : mxL} {st : List Value} {h : mxH} {Q : Option Value → mxH → Prop} {n : Nat} {a : Value} {b : Value} {d : Value} (hr : P m pc = some (o_dup2_x2L n)) (ha : a.category = 2) (hb : b.category = 1) (hd : d.category = 1) : mw P m pc ls (a :: b :: d :: st) h Q ↔ mw P m n ls (a :: b :: d :: a :: st) h Q := by
  refine (mw_row P hr _ _ _ _).trans ?_
  show mwo P m ls h Q (if a.category = 2 ∧ b.category = 1 ∧ d.category = 1 then _ else none) ↔ _
  rw [if_pos ⟨ha, hb, hd⟩]; exact Iff.rfl
theorem mw_ifeq {P : mxP} {m pc : Nat} {ls : mxL} {st : List Value} {h : mxH} {Q : Option Value → mxH → Prop} {t n : Nat} {x : Int32} (hr : P m pc = some (o_ifeq t n)) : mw P m pc ls (.int x :: st) h Q ↔ (if x = 0 then mw P m t ls st h Q else mw P m n ls st h Q) := by
  refine (mw_row P hr _ _ _ _).trans ?_
  show mwo P m ls h Q (if x = 0 then _ else _) ↔ _
  by_cases e : x = 0
  · rw [if_pos e, if_pos e]; exact Iff.rfl
  · rw [if_neg e, if_neg e]; exact Iff.rfl
theorem mw_ifne {P : mxP} {m pc : Nat} {ls : mxL} {st : List Value} {h : mxH} {Q : Option Value → mxH → Prop} {t n : Nat} {x : Int32} (hr : P m pc = some (o_ifne t n)) : mw P m pc ls (.int x :: st) h Q ↔ (if x = 0 then mw P m n ls st h Q else mw P m t ls st h Q) := by
  refine (mw_row P hr _ _ _ _).trans ?_
  show mwo P m ls h Q (if x = 0 then _ else _) ↔ _
  by_cases e : x = 0
  · rw [if_pos e, if_pos e]; exact Iff.rfl
  · rw [if_neg e, if_neg e]; exact Iff.rfl
theorem mw_iflt {P : mxP} {m pc : Nat} {ls : mxL} {st : List Value} {h : mxH} {Q : Option Value → mxH → Prop} {t n : Nat} {x : Int32} (hr : P m pc = some (o_iflt t n)) : mw P m pc ls (.int x :: st) h Q ↔ (if x < 0 then mw P m t ls st h Q else mw P m n ls st h Q) := by
  refine (mw_row P hr _ _ _ _).trans ?_
  show mwo P m ls h Q (if x < 0 then _ else _) ↔ _
  by_cases e : x < 0
  · rw [if_pos e, if_pos e]; exact Iff.rfl
  · rw [if_neg e, if_neg e]; exact Iff.rfl
theorem mw_ifge {P : mxP} {m pc : Nat} {ls : mxL} {st : List Value} {h : mxH} {Q : Option Value → mxH → Prop} {t n : Nat} {x : Int32} (hr : P m pc = some (o_ifge t n)) : mw P m pc ls (.int x :: st) h Q ↔ (if x < 0 then mw P m n ls st h Q else mw P m t ls st h Q) := by
  refine (mw_row P hr _ _ _ _).trans ?_
  show mwo P m ls h Q (if x < 0 then _ else _) ↔ _
  by_cases e : x < 0
  · rw [if_pos e, if_pos e]; exact Iff.rfl
  · rw [if_neg e, if_neg e]; exact Iff.rfl
theorem mw_ifgt {P : mxP} {m pc : Nat} {ls : mxL} {st : List Value} {h : mxH} {Q : Option Value → mxH → Prop} {t n : Nat} {x : Int32} (hr : P m pc = some (o_ifgt t n)) : mw P m pc ls (.int x :: st) h Q ↔ (if 0 < x then mw P m t ls st h Q else mw P m n ls st h Q) := by
  refine (mw_row P hr _ _ _ _).trans ?_
  show mwo P m ls h Q (if 0 < x then _ else _) ↔ _
  by_cases e : 0 < x
  · rw [if_pos e, if_pos e]; exact Iff.rfl
  · rw [if_neg e, if_neg e]; exact Iff.rfl
theorem mw_ifle {P : mxP} {m pc : Nat} {ls : mxL} {st : List Value} {h : mxH} {Q : Option Value → mxH → Prop} {t n : Nat} {x : Int32} (hr : P m pc = some (o_ifle t n)) : mw P m pc ls (.int x :: st) h Q ↔ (if 0 < x then mw P m n ls st h Q else mw P m t ls st h Q) := by
  refine (mw_row P hr _ _ _ _).trans ?_
  show mwo P m ls h Q (if 0 < x then _ else _) ↔ _
  by_cases e : 0 < x
  · rw [if_pos e, if_pos e]; exact Iff.rfl
  · rw [if_neg e, if_neg e]; exact Iff.rfl
theorem mw_iceq {P : mxP} {m pc : Nat} {ls : mxL} {st : List Value} {h : mxH} {Q : Option Value → mxH → Prop} {t n : Nat} {x y : Int32} (hr : P m pc = some (o_iceq t n)) : mw P m pc ls (.int y :: .int x :: st) h Q ↔ (if x = y then mw P m t ls st h Q else mw P m n ls st h Q) := by
  refine (mw_row P hr _ _ _ _).trans ?_
  show mwo P m ls h Q (if x = y then _ else _) ↔ _
  by_cases e : x = y
  · rw [if_pos e, if_pos e]; exact Iff.rfl
  · rw [if_neg e, if_neg e]; exact Iff.rfl
theorem mw_icne {P : mxP} {m pc : Nat} {ls : mxL} {st : List Value} {h : mxH} {Q : Option Value → mxH → Prop} {t n : Nat} {x y : Int32} (hr : P m pc = some (o_icne t n)) : mw P m pc ls (.int y :: .int x :: st) h Q ↔ (if x = y then mw P m n ls st h Q else mw P m t ls st h Q) := by
  refine (mw_row P hr _ _ _ _).trans ?_
  show mwo P m ls h Q (if x = y then _ else _) ↔ _
  by_cases e : x = y
  · rw [if_pos e, if_pos e]; exact Iff.rfl
  · rw [if_neg e, if_neg e]; exact Iff.rfl
theorem mw_iclt {P : mxP} {m pc : Nat} {ls : mxL} {st : List Value} {h : mxH} {Q : Option Value → mxH → Prop} {t n : Nat} {x y : Int32} (hr : P m pc = some (o_iclt t n)) : mw P m pc ls (.int y :: .int x :: st) h Q ↔ (if x < y then mw P m t ls st h Q else mw P m n ls st h Q) := by
  refine (mw_row P hr _ _ _ _).trans ?_
  show mwo P m ls h Q (if x < y then _ else _) ↔ _
  by_cases e : x < y
  · rw [if_pos e, if_pos e]; exact Iff.rfl
  · rw [if_neg e, if_neg e]; exact Iff.rfl
theorem mw_icge {P : mxP} {m pc : Nat} {ls : mxL} {st : List Value} {h : mxH} {Q : Option Value → mxH → Prop} {t n : Nat} {x y : Int32} (hr : P m pc = some (o_icge t n)) : mw P m pc ls (.int y :: .int x :: st) h Q ↔ (if x < y then mw P m n ls st h Q else mw P m t ls st h Q) := by
  refine (mw_row P hr _ _ _ _).trans ?_
  show mwo P m ls h Q (if x < y then _ else _) ↔ _
  by_cases e : x < y
  · rw [if_pos e, if_pos e]; exact Iff.rfl
  · rw [if_neg e, if_neg e]; exact Iff.rfl
theorem mw_icgt {P : mxP} {m pc : Nat} {ls : mxL} {st : List Value} {h : mxH} {Q : Option Value → mxH → Prop} {t n : Nat} {x y : Int32} (hr : P m pc = some (o_icgt t n)) : mw P m pc ls (.int y :: .int x :: st) h Q ↔ (if y < x then mw P m t ls st h Q else mw P m n ls st h Q) := by
  refine (mw_row P hr _ _ _ _).trans ?_
  show mwo P m ls h Q (if y < x then _ else _) ↔ _
  by_cases e : y < x
  · rw [if_pos e, if_pos e]; exact Iff.rfl
  · rw [if_neg e, if_neg e]; exact Iff.rfl
theorem mw_icle {P : mxP} {m pc : Nat} {ls : mxL} {st : List Value} {h : mxH} {Q : Option Value → mxH → Prop} {t n : Nat} {x y : Int32} (hr : P m pc = some (o_icle t n)) : mw P m pc ls (.int y :: .int x :: st) h Q ↔ (if y < x then mw P m n ls st h Q else mw P m t ls st h Q) := by
  refine (mw_row P hr _ _ _ _).trans ?_
  show mwo P m ls h Q (if y < x then _ else _) ↔ _
  by_cases e : y < x
  · rw [if_pos e, if_pos e]; exact Iff.rfl
  · rw [if_neg e, if_neg e]; exact Iff.rfl
theorem mw_goto {P : mxP} {m pc : Nat} {ls : mxL} {st : List Value} {h : mxH} {Q : Option Value → mxH → Prop} {t : Nat} (hr : P m pc = some (o_goto t)) : mw P m pc ls st h Q ↔ mw P m t ls st h Q := mw_row P hr _ _ _ _
theorem mw_nuln {P : mxP} {m pc : Nat} {ls : mxL} {st : List Value} {h : mxH} {Q : Option Value → mxH → Prop} {t n : Nat} (hr : P m pc = some (o_nul t n)) : mw P m pc ls (.null :: st) h Q ↔ mw P m t ls st h Q := mw_row P hr _ _ _ _
theorem mw_nulr {P : mxP} {m pc : Nat} {ls : mxL} {st : List Value} {h : mxH} {Q : Option Value → mxH → Prop} {t n x : Nat} (hr : P m pc = some (o_nul t n)) : mw P m pc ls (.ref x :: st) h Q ↔ mw P m n ls st h Q := mw_row P hr _ _ _ _
theorem mw_nnuln {P : mxP} {m pc : Nat} {ls : mxL} {st : List Value} {h : mxH} {Q : Option Value → mxH → Prop} {t n : Nat} (hr : P m pc = some (o_nnul t n)) : mw P m pc ls (.null :: st) h Q ↔ mw P m n ls st h Q := mw_row P hr _ _ _ _
theorem mw_nnulr {P : mxP} {m pc : Nat} {ls : mxL} {st : List Value} {h : mxH} {Q : Option Value → mxH → Prop} {t n x : Nat} (hr : P m pc = some (o_nnul t n)) : mw P m pc ls (.ref x :: st) h Q ↔ mw P m t ls st h Q := mw_row P hr _ _ _ _
theorem mw_tsw {P : mxP} {m pc : Nat} {ls : mxL} {st : List Value} {h : mxH} {Q : Option Value → mxH → Prop} {lo : Int} {ts : List Nat} {d : Nat} {x : Int32} (hr : P m pc = some (o_tsw lo ts d)) : mw P m pc ls (.int x :: st) h Q ↔ mw P m (mx_tt lo ts d x) ls st h Q := mw_row P hr _ _ _ _
theorem mw_lsw {P : mxP} {m pc : Nat} {ls : mxL} {st : List Value} {h : mxH} {Q : Option Value → mxH → Prop} {ts : List (Int × Nat)} {d : Nat} {x : Int32} (hr : P m pc = some (o_lsw ts d)) : mw P m pc ls (.int x :: st) h Q ↔ mw P m (mx_lt ts d x) ls st h Q := mw_row P hr _ _ _ _
theorem mw_getf {P : mxP} {m pc : Nat} {ls : mxL} {st : List Value} {h : mxH} {Q : Option Value → mxH → Prop} {ci k n a : Nat} (hr : P m pc = some (o_getf ci k n)) : mw P m pc ls (.ref a :: st) h Q ↔ mx_op (mx_fd ci k (h.1 a)) (fun v => mw P m n ls (v :: st) h Q) := by
  refine (mw_row P hr _ _ _ _).trans ?_
  show mwo P m ls h Q (match mx_fd ci k (h.1 a) with | some v => mx_nx n ls (v :: st) h | none => none) ↔ _
  cases mx_fd ci k (h.1 a) <;> exact Iff.rfl
theorem mw_putf {P : mxP} {m pc : Nat} {ls : mxL} {st : List Value} {h : mxH} {Q : Option Value → mxH → Prop} {ci k t n a : Nat} {v : Value} (hr : P m pc = some (o_putf ci k t n)) : mw P m pc ls (v :: .ref a :: st) h Q ↔ (if mx_ty t v = true then mx_oc (mx_pd ci k v (h.1 a)) (fun c => mw P m n ls st (mx_up h a c) Q) else False) := by
  refine (mw_row P hr _ _ _ _).trans ?_
  show mwo P m ls h Q (if mx_ty t v = true then (match mx_pd ci k v (h.1 a) with | some c => mx_nx n ls st (mx_up h a c) | none => none) else none) ↔ _
  by_cases e : mx_ty t v = true
  · rw [if_pos e, if_pos e]
    cases mx_pd ci k v (h.1 a) <;> exact Iff.rfl
  · rw [if_neg e, if_neg e]; exact Iff.rfl
theorem mw_putfT {P : mxP} {m pc : Nat} {ls : mxL} {st : List Value} {h : mxH} {Q : Option Value → mxH → Prop} {ci k t n a : Nat} {v : Value} (hr : P m pc = some (o_putf ci k t n)) (ht : mx_ty t v = true) : mw P m pc ls (v :: .ref a :: st) h Q ↔ mx_oc (mx_pd ci k v (h.1 a)) (fun c => mw P m n ls st (mx_up h a c) Q) := by
  rw [mw_putf hr, if_pos ht]
theorem mx_ty2 (x : Int32) : mx_ty 2 (.int x) = true ↔ (x = 0 ∨ x = 1) := by
  show (x == 0 || x == 1) = true ↔ _
  simp
theorem mw_putfZ {P : mxP} {m pc : Nat} {ls : mxL} {st : List Value} {h : mxH} {Q : Option Value → mxH → Prop} {ci k n a : Nat} {x : Int32} (hr : P m pc = some (o_putf ci k 2 n)) : mw P m pc ls (.int x :: .ref a :: st) h Q ↔ (if x = 0 ∨ x = 1 then mx_oc (mx_pd ci k (.int x) (h.1 a)) (fun c => mw P m n ls st (mx_up h a c) Q) else False) := by
  rw [mw_putf hr]
  by_cases e : x = 0 ∨ x = 1
  · rw [if_pos e, if_pos ((mx_ty2 x).mpr e)]
  · rw [if_neg e, if_neg (fun q => e ((mx_ty2 x).mp q))]
theorem mw_ald {P : mxP} {m pc : Nat} {ls : mxL} {st : List Value} {h : mxH} {Q : Option Value → mxH → Prop} {kn n a : Nat} {i : Int32} (hr : P m pc = some (o_ald kn n)) : mw P m pc ls (.int i :: .ref a :: st) h Q ↔ mx_op (mx_ald kn i (h.1 a)) (fun v => mw P m n ls (v :: st) h Q) := by
  refine (mw_row P hr _ _ _ _).trans ?_
  show mwo P m ls h Q (match mx_ald kn i (h.1 a) with | some v => mx_nx n ls (v :: st) h | none => none) ↔ _
  cases mx_ald kn i (h.1 a) <;> exact Iff.rfl
theorem mw_ast {P : mxP} {m pc : Nat} {ls : mxL} {st : List Value} {h : mxH} {Q : Option Value → mxH → Prop} {kn t n a : Nat} {i : Int32} {v : Value} (hr : P m pc = some (o_ast kn t n)) : mw P m pc ls (v :: .int i :: .ref a :: st) h Q ↔ (if mx_ty t v = true then mx_oc (mx_ast kn i v (h.1 a)) (fun c => mw P m n ls st (mx_up h a c) Q) else False) := by
  refine (mw_row P hr _ _ _ _).trans ?_
  show mwo P m ls h Q (if mx_ty t v = true then (match mx_ast kn i v (h.1 a) with | some c => mx_nx n ls st (mx_up h a c) | none => none) else none) ↔ _
  by_cases e : mx_ty t v = true
  · rw [if_pos e, if_pos e]
    cases mx_ast kn i v (h.1 a) <;> exact Iff.rfl
  · rw [if_neg e, if_neg e]; exact Iff.rfl
theorem mw_astT {P : mxP} {m pc : Nat} {ls : mxL} {st : List Value} {h : mxH} {Q : Option Value → mxH → Prop} {kn t n a : Nat} {i : Int32} {v : Value} (hr : P m pc = some (o_ast kn t n)) (ht : mx_ty t v = true) : mw P m pc ls (v :: .int i :: .ref a :: st) h Q ↔ mx_oc (mx_ast kn i v (h.1 a)) (fun c => mw P m n ls st (mx_up h a c) Q) := by
  rw [mw_ast hr, if_pos ht]
theorem mw_astZ {P : mxP} {m pc : Nat} {ls : mxL} {st : List Value} {h : mxH} {Q : Option Value → mxH → Prop} {n a : Nat} {i x : Int32} (hr : P m pc = some (o_ast 2 2 n)) : mw P m pc ls (.int x :: .int i :: .ref a :: st) h Q ↔ (if x = 0 ∨ x = 1 then mx_oc (mx_ast 2 i (.int x) (h.1 a)) (fun c => mw P m n ls st (mx_up h a c) Q) else False) := by
  rw [mw_ast hr]
  by_cases e : x = 0 ∨ x = 1
  · rw [if_pos e, if_pos ((mx_ty2 x).mpr e)]
  · rw [if_neg e, if_neg (fun q => e ((mx_ty2 x).mp q))]
theorem mw_aast {P : mxP} {m pc : Nat} {ls : mxL} {st : List Value} {h : mxH} {Q : Option Value → mxH → Prop} {kn ci n a x : Nat} {i : Int32} (hr : P m pc = some (o_aast kn ci n)) : mw P m pc ls (.ref x :: .int i :: .ref a :: st) h Q ↔ (if mx_isc ci (h.1 x) = true then mx_oc (mx_ast kn i (.ref x) (h.1 a)) (fun c => mw P m n ls st (mx_up h a c) Q) else False) := by
  refine (mw_row P hr _ _ _ _).trans ?_
  show mwo P m ls h Q (if mx_isc ci (h.1 x) = true then (match mx_ast kn i (.ref x) (h.1 a) with | some c => mx_nx n ls st (mx_up h a c) | none => none) else none) ↔ _
  by_cases e : mx_isc ci (h.1 x) = true
  · rw [if_pos e, if_pos e]
    cases mx_ast kn i (.ref x) (h.1 a) <;> exact Iff.rfl
  · rw [if_neg e, if_neg e]; exact Iff.rfl
theorem mw_alen {P : mxP} {m pc : Nat} {ls : mxL} {st : List Value} {h : mxH} {Q : Option Value → mxH → Prop} {n a : Nat} (hr : P m pc = some (o_alen n)) : mw P m pc ls (.ref a :: st) h Q ↔ mx_op (mx_len (h.1 a)) (fun v => mw P m n ls (v :: st) h Q) := by
  refine (mw_row P hr _ _ _ _).trans ?_
  show mwo P m ls h Q (match mx_len (h.1 a) with | some v => mx_nx n ls (v :: st) h | none => none) ↔ _
  cases mx_len (h.1 a) <;> exact Iff.rfl
theorem mw_new {P : mxP} {m pc : Nat} {ls : mxL} {st : List Value} {h : mxH} {Q : Option Value → mxH → Prop} {ci n : Nat} {fs : List Value} (hr : P m pc = some (o_new ci fs n)) : mw P m pc ls st h Q ↔ mw P m n ls (.ref h.2.1 :: st) (mx_mk h (.inr (ci, fs)) fs.length) Q := mw_row P hr _ _ _ _
theorem mw_newa {P : mxP} {m pc : Nat} {ls : mxL} {st : List Value} {h : mxH} {Q : Option Value → mxH → Prop} {kn n : Nat} {x : Int32} (hr : P m pc = some (o_newa kn n)) : mw P m pc ls (.int x :: st) h Q ↔ (if x < 0 ∨ 50000000 < x.toNatClampNeg then False else mw P m n ls (.ref h.2.1 :: st) (mx_mk h (mx_ar0 kn x.toNatClampNeg) x.toNatClampNeg) Q) := by
  refine (mw_row P hr _ _ _ _).trans ?_
  show mwo P m ls h Q (if x < 0 ∨ 50000000 < x.toNatClampNeg then none else _) ↔ _
  by_cases e : x < 0 ∨ 50000000 < x.toNatClampNeg
  · rw [if_pos e, if_pos e]; exact Iff.rfl
  · rw [if_neg e, if_neg e]; exact Iff.rfl
theorem mw_ret {P : mxP} {m pc : Nat} {ls : mxL} {st : List Value} {h : mxH} {Q : Option Value → mxH → Prop}  (hr : P m pc = some (o_ret)) : mw P m pc ls [] h Q ↔ Q none h := mw_row P hr _ _ _ _
theorem mw_reti {P : mxP} {m pc : Nat} {ls : mxL} {st : List Value} {h : mxH} {Q : Option Value → mxH → Prop} {x : Int32} (hr : P m pc = some (o_reti)) : mw P m pc ls [.int x] h Q ↔ Q (some (.int x)) h := mw_row P hr _ _ _ _
theorem mw_retl {P : mxP} {m pc : Nat} {ls : mxL} {st : List Value} {h : mxH} {Q : Option Value → mxH → Prop} {x : Int64} (hr : P m pc = some (o_retl)) : mw P m pc ls [.long x] h Q ↔ Q (some (.long x)) h := mw_row P hr _ _ _ _
theorem mw_retz {P : mxP} {m pc : Nat} {ls : mxL} {st : List Value} {h : mxH} {Q : Option Value → mxH → Prop} {x : Int32} (hr : P m pc = some o_retz) : mw P m pc ls [.int x] h Q ↔ (if x = 0 ∨ x = 1 then Q (some (.int x)) h else False) := by
  refine (mw_row P hr _ _ _ _).trans ?_
  show mwo P m ls h Q (if x = 0 ∨ x = 1 then mx_rt (some (.int x)) else none) ↔ _
  by_cases e : x = 0 ∨ x = 1
  · rw [if_pos e, if_pos e]; exact Iff.rfl
  · rw [if_neg e, if_neg e]; exact Iff.rfl
theorem mw_retar {P : mxP} {m pc : Nat} {ls : mxL} {st : List Value} {h : mxH} {Q : Option Value → mxH → Prop} {x : Nat} (hr : P m pc = some (o_reta)) : mw P m pc ls [.ref x] h Q ↔ Q (some (.ref x)) h := mw_row P hr _ _ _ _
theorem mw_retan {P : mxP} {m pc : Nat} {ls : mxL} {st : List Value} {h : mxH} {Q : Option Value → mxH → Prop}  (hr : P m pc = some (o_reta)) : mw P m pc ls [.null] h Q ↔ Q (some .null) h := mw_row P hr _ _ _ _
theorem mw_cs {P : mxP} {m pc : Nat} {ls : mxL} {st : List Value} {h : mxH} {Q : Option Value → mxH → Prop} {j k w n : Nat} {as rs : List Value} (hr : P m pc = some (o_cs j k w n)) (hk : as.length = k) (hs : mx_cs rs ≤ 8) (hw : (mx_ent as).length ≤ w) : mw P m pc ls (as.reverse ++ rs) h Q ↔ mcl P j as h (fun v h' => mw P m n ls (mx_ps v rs) h' Q) := by
  refine (mw_row P hr _ _ _ _).trans ?_
  have hl : as.reverse.length = k := by rw [List.length_reverse]; exact hk
  unfold o_cs
  rw [show (as.reverse ++ rs).take k = as.reverse by rw [← hl]; exact List.take_left, show (as.reverse ++ rs).drop k = rs by rw [← hl]; exact List.drop_left, List.reverse_reverse, if_pos ⟨⟨by rw [List.length_append, hl]; omega, hs⟩, hw⟩]
  exact Iff.rfl
theorem mw_cv {P : mxP} {m pc : Nat} {ls : mxL} {st : List Value} {h : mxH} {Q : Option Value → mxH → Prop} {j ci k w n a : Nat} {as rs : List Value} (hr : P m pc = some (o_cv j ci k w n)) (hk : as.length = k) (hs : mx_cs rs ≤ 8) (hw : (mx_ent (.ref a :: as)).length ≤ w) : mw P m pc ls (as.reverse ++ .ref a :: rs) h Q ↔ (if mx_isc ci (h.1 a) = true then mcl P j (.ref a :: as) h (fun v h' => mw P m n ls (mx_ps v rs) h' Q) else False) := by
  refine (mw_row P hr _ _ _ _).trans ?_
  have hl : as.reverse.length = k := by rw [List.length_reverse]; exact hk
  have hl2 : (as.reverse ++ [Value.ref a]).length = k + 1 := by rw [List.length_append, hl]; rfl
  have e1 : (as.reverse ++ Value.ref a :: rs).drop k = .ref a :: rs := by rw [← hl]; exact List.drop_left
  have e0 : as.reverse ++ Value.ref a :: rs = (as.reverse ++ [Value.ref a]) ++ rs := by simp
  have e2 : (as.reverse ++ Value.ref a :: rs).take (k + 1) = as.reverse ++ [Value.ref a] := by rw [e0, ← hl2]; exact List.take_left
  have e3 : (as.reverse ++ Value.ref a :: rs).drop (k + 1) = rs := by rw [e0, ← hl2]; exact List.drop_left
  unfold o_cv
  rw [e1, e2, e3]
  by_cases e : mx_isc ci (h.1 a) = true
  · rw [if_pos e, List.reverse_append, List.reverse_reverse, if_pos ⟨⟨⟨by rw [List.length_append, hl, List.length_cons]; omega, hs⟩, hw⟩, e⟩]
    exact Iff.rfl
  · rw [if_neg e, if_neg (fun q => e q.2)]
    exact Iff.rfl
theorem mw_oin {P : mxP} {m pc : Nat} {ls : mxL} {st : List Value} {h : mxH} {Q : Option Value → mxH → Prop} {n a : Nat} (hr : P m pc = some (o_oin n)) : mw P m pc ls [.ref a] h Q ↔ mw P m n ls [] h Q := mw_row P hr _ _ _ _
