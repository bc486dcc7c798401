/-! A small machine of its own over cells with numbers: what a method of the listing does, as a function. Its tables (kd_: instructions, km_: rank and locals, kq_: frames and words, kh_: handlers) stand in part 01. -/
abbrev cj_A : Type := (Nat → Int32) ⊕ (Nat → Int64) ⊕ (Nat → Option Nat)
abbrev cj_C : Type := (Nat × Nat × cj_A) ⊕ (Nat × List Value)
abbrev cj_M : Type := (Nat → Option cj_C) × Nat × Nat × Nat
abbrev cj_O : Type := Option Value ⊕ Nat
abbrev cj_F : Type := Nat × List Value × List Value × cj_M
def cj_up {α : Type} (f : Nat → α) (k : Nat) (v : α) : Nat → α := fun i => if i = k then v else f i
theorem cj_up_s {α : Type} (f : Nat → α) (k : Nat) (v : α) : cj_up f k v k = v := by simp [cj_up]
theorem cj_up_n {α : Type} (f : Nat → α) {k j : Nat} (v : α) (h : j ≠ k) : cj_up f k v j = f j := by simp [cj_up, h]
def cj_set (M : cj_M) (o : Nat) (c : cj_C) : cj_M := (cj_up M.1 o (some c), M.2)
def cj_new (M : cj_M) (c : cj_C) (n : Nat) : cj_M := (cj_up M.1 M.2.1 (some c), M.2.1 + 1, M.2.2.1 + 1, M.2.2.2 + n)
def cj_pay (M : cj_M) (a b : Nat) : cj_M := (M.1, M.2.1, M.2.2.1 + a, M.2.2.2 + b)
/-- what a field of a kind takes: 0 int, 1 boolean, 2 reference, 3 long -/
def cj_fit (k : Nat) (v : Value) : Bool := match v with
  | .int x => decide (k = 0) || (decide (k = 1) && (decide (x = 0) || decide (x = 1)))
  | .null => decide (k = 2)
  | .ref _ => decide (k = 2)
  | .long _ => decide (k = 3)
  | _ => false
def cj_dfl (k : Nat) : Value := if k = 2 then .null else if k = 3 then .long 0 else .int 0
/-- values that a local may hold -/
def cj_c1 (v : Value) : Bool := match v with
  | .int _ => true
  | .null => true
  | .ref _ => true
  | _ => false
/-- the locals at a method's start -/
def cj_lay (vs : List Value) (n : Nat) : List Value := vs ++ List.replicate (n - vs.length) (.retAddr 0)
def cj_bin (f : Int32 → Int32 → Int32) (nx : Nat) (ls st : List Value) (M : cj_M) : Option cj_F := match st with
  | .int y :: .int x :: r => some (nx, ls, .int (f x y) :: r, M)
  | _ => none
def cj_dv (f : Int32 → Int32 → Int32) (nx : Nat) (ls st : List Value) (M : cj_M) : Option cj_F := match st with
  | .int y :: .int x :: r => if y = 0 then none else some (nx, ls, .int (f x y) :: r, M)
  | _ => none
def cj_una (f : Int32 → Value) (nx : Nat) (ls st : List Value) (M : cj_M) : Option cj_F := match st with
  | .int x :: r => some (nx, ls, f x :: r, M)
  | _ => none
def cj_lcm (nx : Nat) (ls st : List Value) (M : cj_M) : Option cj_F := match st with
  | .long y :: .long x :: r => some (nx, ls, .int (lg_cmp x y) :: r, M)
  | _ => none
def cj_ldi (i nx : Nat) (ls st : List Value) (M : cj_M) : Option cj_F := match ls[i]? with
  | some (.int x) => some (nx, ls, .int x :: st, M)
  | _ => none
def cj_lda (i nx : Nat) (ls st : List Value) (M : cj_M) : Option cj_F := match ls[i]? with
  | some .null => some (nx, ls, .null :: st, M)
  | some (.ref a) => some (nx, ls, .ref a :: st, M)
  | _ => none
def cj_sti (i nx : Nat) (ls st : List Value) (M : cj_M) : Option cj_F := match st with
  | .int x :: r => if i < ls.length then some (nx, ls.set i (.int x), r, M) else none
  | _ => none
def cj_sta (i nx : Nat) (ls st : List Value) (M : cj_M) : Option cj_F := match st with
  | .null :: r => if i < ls.length then some (nx, ls.set i .null, r, M) else none
  | .ref a :: r => if i < ls.length then some (nx, ls.set i (.ref a), r, M) else none
  | _ => none
def cj_inc (i : Nat) (d : Int32) (nx : Nat) (ls st : List Value) (M : cj_M) : Option cj_F := match ls[i]? with
  | some (.int x) => some (nx, ls.set i (.int (x + d)), st, M)
  | _ => none
def cj_j1 (g : Int32 → Nat) (ls st : List Value) (M : cj_M) : Option cj_F := match st with
  | .int x :: r => some (g x, ls, r, M)
  | _ => none
def cj_j2 (g : Int32 → Int32 → Nat) (ls st : List Value) (M : cj_M) : Option cj_F := match st with
  | .int y :: .int x :: r => some (g x y, ls, r, M)
  | _ => none
def cj_jn (tn tr : Nat) (ls st : List Value) (M : cj_M) : Option cj_F := match st with
  | .null :: r => some (tn, ls, r, M)
  | .ref _ :: r => some (tr, ls, r, M)
  | _ => none
def cj_dup (nx : Nat) (ls st : List Value) (M : cj_M) : Option cj_F := match st with
  | v :: r => if cj_c1 v = true then some (nx, ls, v :: v :: r, M) else none
  | _ => none
def cj_pop (nx : Nat) (ls st : List Value) (M : cj_M) : Option cj_F := match st with
  | v :: r => if cj_c1 v = true then some (nx, ls, r, M) else none
  | _ => none
def cj_dx1 (nx : Nat) (ls st : List Value) (M : cj_M) : Option cj_F := match st with
  | v :: w :: r => if cj_c1 v = true ∧ cj_c1 w = true then some (nx, ls, v :: w :: v :: r, M) else none
  | _ => none
def cj_dx2 (nx : Nat) (ls st : List Value) (M : cj_M) : Option cj_F := match st with
  | v :: w :: u :: r => if cj_c1 v = true ∧ cj_c1 w = true ∧ cj_c1 u = true then some (nx, ls, v :: w :: u :: v :: r, M) else none
  | _ => none
def cj_du2 (nx : Nat) (ls st : List Value) (M : cj_M) : Option cj_F := match st with
  | v :: w :: r => if cj_c1 v = true ∧ cj_c1 w = true then some (nx, ls, v :: w :: v :: w :: r, M) else none
  | _ => none
/-- a field's value, of an object of the class a -/
def cj_fd (oc : Option cj_C) (a b : Nat) : Option Value := match oc with
  | some (.inr (c, fs)) => if c = a then fs[b]? else none
  | _ => none
def cj_getf (a b nx : Nat) (ls st : List Value) (M : cj_M) : Option cj_F := match st with
  | .ref o :: r => match cj_fd (M.1 o) a b with
    | some v => some (nx, ls, v :: r, M)
    | none => none
  | _ => none
def cj_pf (oc : Option cj_C) (o a b k : Nat) (v : Value) : Option cj_C := match oc with
  | some (.inr (c, fs)) => if c = a ∧ b < fs.length ∧ cj_fit k v = true ∧ o ≠ 0 then some (.inr (c, fs.set b v)) else none
  | _ => none
def cj_putf (a b k nx : Nat) (ls st : List Value) (M : cj_M) : Option cj_F := match st with
  | v :: .ref o :: r => match cj_pf (M.1 o) o a b k v with
    | some c => some (nx, ls, r, cj_set M o c)
    | none => none
  | _ => none
def cj_ln (oc : Option cj_C) : Option Nat := match oc with
  | some (.inl (_, n, _)) => some n
  | _ => none
def cj_len (nx : Nat) (ls st : List Value) (M : cj_M) : Option cj_F := match st with
  | .ref o :: r => match cj_ln (M.1 o) with
    | some n => some (nx, ls, .int (nI n) :: r, M)
    | none => none
  | _ => none
def cj_rf (o : Option Nat) : Value := match o with
  | none => .null
  | some a => .ref a
def cj_el (x : cj_A) (j : Nat) : Value := match x with
  | .inl f => .int (f j)
  | .inr (.inl f) => .long (f j)
  | .inr (.inr f) => cj_rf (f j)
/-- an array's element; the array's type number is t -/
def cj_rd (oc : Option cj_C) (t : Nat) (j : Int32) : Option Value := match oc with
  | some (.inl (t', n, x)) => if t' = t ∧ ¬ (j < 0 ∨ n ≤ j.toNatClampNeg) then some (cj_el x j.toNatClampNeg) else none
  | _ => none
def cj_ald (t nx : Nat) (ls st : List Value) (M : cj_M) : Option cj_F := match st with
  | .int j :: .ref o :: r => match cj_rd (M.1 o) t j with
    | some v => some (nx, ls, v :: r, M)
    | none => none
  | _ => none
def cj_wi (oc : Option cj_C) (o t : Nat) (j x : Int32) : Option cj_C := match oc with
  | some (.inl (t', n, .inl f)) => if t' = t ∧ ¬ (j < 0 ∨ n ≤ j.toNatClampNeg) ∧ o ≠ 0 then some (.inl (t', n, .inl (cj_up f j.toNatClampNeg x))) else none
  | _ => none
def cj_ast (t : Nat) (nar : Int32 → Int32) (nx : Nat) (ls st : List Value) (M : cj_M) : Option cj_F := match st with
  | .int x :: .int j :: .ref o :: r => match cj_wi (M.1 o) o t j (nar x) with
    | some c => some (nx, ls, r, cj_set M o c)
    | none => none
  | _ => none
def cj_wl (oc : Option cj_C) (o t : Nat) (j : Int32) (x : Int64) : Option cj_C := match oc with
  | some (.inl (t', n, .inr (.inl f))) => if t' = t ∧ ¬ (j < 0 ∨ n ≤ j.toNatClampNeg) ∧ o ≠ 0 then some (.inl (t', n, .inr (.inl (cj_up f j.toNatClampNeg x)))) else none
  | _ => none
def cj_asl (t nx : Nat) (ls st : List Value) (M : cj_M) : Option cj_F := match st with
  | .long x :: .int j :: .ref o :: r => match cj_wl (M.1 o) o t j x with
    | some c => some (nx, ls, r, cj_set M o c)
    | none => none
  | _ => none
/-- a reference's store: of an object of the class c into an array of the type t -/
def cj_wq (oc ov : Option cj_C) (o v c t : Nat) (j : Int32) : Option cj_C := match oc, ov with
  | some (.inl (t', n, .inr (.inr f))), some (.inr (c', _)) => if t' = t ∧ c' = c ∧ ¬ (j < 0 ∨ n ≤ j.toNatClampNeg) ∧ o ≠ 0 then some (.inl (t', n, .inr (.inr (cj_up f j.toNatClampNeg (some v))))) else none
  | _, _ => none
def cj_asq (c t nx : Nat) (ls st : List Value) (M : cj_M) : Option cj_F := match st with
  | .ref v :: .int j :: .ref o :: r => match cj_wq (M.1 o) (M.1 v) o v c t j with
    | some d => some (nx, ls, r, cj_set M o d)
    | none => none
  | _ => none
/-- a new array: its type, its first contents -/
def cj_na (t : Nat) (x : cj_A) (nx : Nat) (ls st : List Value) (M : cj_M) : Option cj_F := match st with
  | .int n :: r => if ¬ n < 0 ∧ n.toNatClampNeg ≤ 1000000 then some (nx, ls, .ref M.2.1 :: r, cj_new M (.inl (t, n.toNatClampNeg, x)) n.toNatClampNeg) else none
  | _ => none
def cj_oi (nx : Nat) (ls st : List Value) (M : cj_M) : Option cj_F := match st with
  | .ref _ :: r => if r.length ≤ 4 then some (nx, ls, r, M) else none
  | _ => none
def cj_mm (f : Int32 → Int32 → Int32) (nx : Nat) (ls st : List Value) (M : cj_M) : Option cj_F := match st with
  | .int y :: .int x :: r => if r.length ≤ 4 then some (nx, ls, .int (f x y) :: r, M) else none
  | _ => none
def cj_sw (x : Int32) (lo : Nat) (dflt : Nat) (l : List Nat) : Nat := if x.toInt < lo then dflt else l.getD (x.toInt - lo).toNat dflt
/-- one instruction that is no call and no end -/
def cj_step (i : cj_I) (nx : Nat) (ls st : List Value) (M : cj_M) : Option cj_F :=
  match i.1 with
  | 0 => some (nx, ls, .int (nI i.2.1) :: st, M)
  | 1 => some (nx, ls, .int (- nI i.2.1) :: st, M)
  | 2 => cj_ldi i.2.1 nx ls st M
  | 3 => cj_lda i.2.1 nx ls st M
  | 4 => cj_sti i.2.1 nx ls st M
  | 5 => cj_sta i.2.1 nx ls st M
  | 6 => cj_inc i.2.1 (nI i.2.2.1) nx ls st M
  | 7 => cj_inc i.2.1 (- nI i.2.2.1) nx ls st M
  | 8 => some (nx, ls, .null :: st, M)
  | 10 => cj_bin (fun x y => x + y) nx ls st M
  | 11 => cj_bin (fun x y => x - y) nx ls st M
  | 12 => cj_bin (fun x y => x * y) nx ls st M
  | 13 => cj_dv (fun x y => x / y) nx ls st M
  | 14 => cj_dv (fun x y => x - x / y * y) nx ls st M
  | 15 => cj_una (fun x => .int (-x)) nx ls st M
  | 16 => cj_bin (fun x y => x <<< (y &&& 31)) nx ls st M
  | 17 => cj_bin (fun x y => x >>> (y &&& 31)) nx ls st M
  | 18 => cj_bin (fun x y => (x.toUInt32 >>> (y.toUInt32 &&& Int32.toUInt32 31)).toInt32) nx ls st M
  | 19 => cj_bin (fun x y => x &&& y) nx ls st M
  | 20 => cj_bin (fun x y => x ||| y) nx ls st M
  | 21 => cj_bin (fun x y => x ^^^ y) nx ls st M
  | 22 => cj_una (fun x => .int ((x.toUInt32 % 65536).toInt32)) nx ls st M
  | 23 => cj_una (fun x => .long x.toInt64) nx ls st M
  | 24 => cj_lcm nx ls st M
  | 25 => cj_dup nx ls st M
  | 26 => cj_pop nx ls st M
  | 27 => cj_dx1 nx ls st M
  | 28 => cj_du2 nx ls st M
  | 29 => cj_dx2 nx ls st M
  | 30 => some (i.2.1, ls, st, M)
  | 31 => cj_j1 (fun x => if x = 0 then i.2.1 else nx) ls st M
  | 32 => cj_j1 (fun x => if x = 0 then nx else i.2.1) ls st M
  | 33 => cj_j1 (fun x => if x < 0 then i.2.1 else nx) ls st M
  | 34 => cj_j1 (fun x => if 0 ≤ x then i.2.1 else nx) ls st M
  | 35 => cj_j1 (fun x => if 0 < x then i.2.1 else nx) ls st M
  | 36 => cj_j1 (fun x => if x ≤ 0 then i.2.1 else nx) ls st M
  | 37 => cj_j2 (fun x y => if x = y then i.2.1 else nx) ls st M
  | 38 => cj_j2 (fun x y => if x = y then nx else i.2.1) ls st M
  | 39 => cj_j2 (fun x y => if x < y then i.2.1 else nx) ls st M
  | 40 => cj_j2 (fun x y => if y ≤ x then i.2.1 else nx) ls st M
  | 41 => cj_j2 (fun x y => if y < x then i.2.1 else nx) ls st M
  | 42 => cj_j2 (fun x y => if x ≤ y then i.2.1 else nx) ls st M
  | 43 => cj_jn i.2.1 nx ls st M
  | 44 => cj_jn nx i.2.1 ls st M
  | 45 => cj_j1 (fun x => cj_sw x i.2.1 i.2.2.1 i.2.2.2) ls st M
  | 50 => cj_getf i.2.1 i.2.2.1 nx ls st M
  | 51 => cj_putf i.2.1 i.2.2.1 (i.2.2.2.getD 0 9) nx ls st M
  | 53 => cj_len nx ls st M
  | 54 => cj_ald i.2.1 nx ls st M
  | 56 => cj_ast i.2.1 (fun x => x) nx ls st M
  | 57 => cj_ast i.2.1 (vp_nar .char) nx ls st M
  | 58 => cj_ast i.2.1 (vp_nar .boolean) nx ls st M
  | 59 => cj_asl i.2.1 nx ls st M
  | 60 => cj_asq i.2.1 i.2.2.1 nx ls st M
  | 70 => some (nx, ls, .ref M.2.1 :: st, cj_new M (.inr (i.2.1, i.2.2.2.map cj_dfl)) i.2.2.1)
  | 71 => cj_na i.2.1 (.inl (fun _ => 0)) nx ls st M
  | 72 => cj_na i.2.1 (.inr (.inl (fun _ => 0))) nx ls st M
  | 73 => cj_na i.2.1 (.inr (.inr (fun _ => none))) nx ls st M
  | 83 => cj_oi nx ls st M
  | 84 => cj_mm (fun x y => if x < y then y else x) nx ls st M
  | 85 => cj_mm (fun x y => if y < x then y else x) nx ls st M
  | _ => none
def cj_ri (st : List Value) (M : cj_M) : Option (cj_O × cj_M) := match st with
  | [.int x] => some (.inl (some (.int x)), M)
  | _ => none
def cj_rv (st : List Value) (M : cj_M) : Option (cj_O × cj_M) := match st with
  | [] => some (.inl none, M)
  | _ => none
def cj_ra (st : List Value) (M : cj_M) : Option (cj_O × cj_M) := match st with
  | [.ref a] => some (.inl (some (.ref a)), M)
  | [.null] => some (.inl (some .null), M)
  | _ => none
def cj_rz (st : List Value) (M : cj_M) : Option (cj_O × cj_M) := match st with
  | [.int x] => if x = 0 ∨ x = 1 then some (.inl (some (.int x)), M) else none
  | _ => none
def cj_rt (k : Nat) (st : List Value) (M : cj_M) : Option (cj_O × cj_M) := match st with
  | [] => some (.inr k, cj_pay M 1 6)
  | _ => none
/-- an end: a value, none, or a throw of the kind a -/
def cj_end (i : cj_I) (st : List Value) (M : cj_M) : Option (cj_O × cj_M) :=
  match i.1 with
  | 90 => cj_ri st M
  | 91 => cj_rv st M
  | 92 => cj_ra st M
  | 93 => cj_rz st M
  | 95 => cj_rt i.2.1 st M
  | _ => none
/-- what a call needs of its first argument: an object of a class -/
def cj_rc (as : List Value) (M : cj_M) (c : Nat) : Bool := match as with
  | .ref o :: _ => match M.1 o with
    | some (.inr (c', _)) => c' == c
    | _ => false
  | _ => false
def cj_r0 (as : List Value) : Bool := match as with
  | .ref _ :: _ => true
  | _ => false
def cj_rcv (i : cj_I) (as : List Value) (M : cj_M) : Bool :=
  match i.1 with
  | 80 => cj_rc as M (i.2.2.2.getD 0 0)
  | 81 => true
  | 82 => cj_r0 as
  | _ => false
def cj_hdl (l : List (Nat × Nat × Nat × Nat × Nat)) (pc k : Nat) : Option (Nat × Nat) := (l.find? (fun h => decide (h.1 ≤ pc ∧ pc < h.2.1) && h.2.2.1 == k)).map (fun h => (h.2.2.2.1, h.2.2.2.2))
/-- what a call asks: its arguments, little else on the stack, a callee of a lower rank, a receiver -/
def cj_gq (i : cj_I) (m : Nat) (st : List Value) (M : cj_M) : Bool := decide (i.2.2.1 ≤ st.length) && decide (st.length ≤ i.2.2.1 + 4) && decide ((km_ i.2.1).1 < (km_ m).1) && (st.take i.2.2.1).all cj_c1 && cj_rcv i (st.take i.2.2.1).reverse M
abbrev cj_pl (i : cj_I) : Prop := i.1 < 80 ∨ i.1 = 83 ∨ i.1 = 84 ∨ i.1 = 85
/-- the whole machine: n is fuel -/
def cj_run : Nat → Nat → Nat → List Value → List Value → cj_M → Option (cj_O × cj_M)
  | 0, _, _, _, _, _ => none
  | n + 1, m, pc, ls, st, M =>
    if cj_pl (kd_ m pc).1 then
      match cj_step (kd_ m pc).1 (kd_ m pc).2 ls st M with
      | some f => cj_run n m f.1 f.2.1 f.2.2.1 f.2.2.2
      | none => none
    else if 90 ≤ (kd_ m pc).1.1 then cj_end (kd_ m pc).1 st M
    else if cj_gq (kd_ m pc).1 m st M = true then
      match cj_run n (kd_ m pc).1.2.1 0 (cj_lay (st.take (kd_ m pc).1.2.2.1).reverse (km_ (kd_ m pc).1.2.1).2) [] M with
      | some (.inl v, M') => cj_run n m (kd_ m pc).2 ls (v.toList ++ st.drop (kd_ m pc).1.2.2.1) M'
      | some (.inr k, M') => match cj_hdl (kh_ m) pc k with
        | some (pc', i) => cj_run n m pc' (ls.set i (.retAddr 0)) [] M'
        | none => none
      | none => none
    else none
