/-! one instruction at a time, over the cells as they lie once both objects are made -/
abbrev cg_G : Type := Nat → Nat → Int32
def cg_up (f : cg_G) (a k : Nat) (x : Int32) : cg_G := cj_up f a (cj_up (f a) k x)
def cg_M (L : Nat) (f : cg_G) (e : Nat × Nat) : cj_M := (fun o => cg_c (sh_ o) L o (f o), nn_, e.1, e.2)
def cg_in (j : Int32) (n : Nat) : Prop := ¬ (j < 0 ∨ n ≤ j.toNatClampNeg)
theorem cg_in_lt {j : Int32} {n : Nat} (h : cg_in j n) : j.toNatClampNeg < n := Nat.lt_of_not_le (fun hn => h (Or.inr hn))
theorem cg_set {L : Nat} {f : cg_G} {e : Nat × Nat} {a k s : Nat} {x : Int32} {c : cj_C} (hs : sh_ a = s) (h : some c = cg_c s L a (cj_up (f a) k x)) : cj_set (cg_M L f e) a c = cg_M L (cg_up f a k x) e := by
  unfold cj_set cg_M cg_up
  refine Prod.ext ?_ rfl
  funext o
  show cj_up (fun o => cg_c (sh_ o) L o (f o)) a (some c) o = cg_c (sh_ o) L o (cj_up f a (cj_up (f a) k x) o)
  by_cases ho : o = a
  · subst ho
    rw [cj_up_s, cj_up_s, hs]
    exact h
  · rw [cj_up_n _ _ ho, cj_up_n _ _ ho]
section
variable {m pc nx i b : Nat} {l : List Nat} {ls st : List Value} {M : cj_M}
theorem g_0 (hk : kd_ m pc = ((0, i, b, l), nx)) : cj_res m pc ls st M = cj_res m nx ls (.int (nI i) :: st) M := cj_res_plain hk (by simp [cj_pl])
theorem g_1 (hk : kd_ m pc = ((1, i, b, l), nx)) : cj_res m pc ls st M = cj_res m nx ls (.int (- nI i) :: st) M := cj_res_plain hk (by simp [cj_pl])
theorem g_2 (hk : kd_ m pc = ((2, i, b, l), nx)) {x : Int32} (h : ls[i]? = some (.int x)) : cj_res m pc ls st M = cj_res m nx ls (.int x :: st) M := (cj_res_plain hk (by simp [cj_pl])).trans (by show cj_go m (cj_ldi i nx ls st M) = _; unfold cj_ldi; rw [h]; rfl)
theorem g_3 (hk : kd_ m pc = ((3, i, b, l), nx)) {a : Nat} (h : ls[i]? = some (.ref a)) : cj_res m pc ls st M = cj_res m nx ls (.ref a :: st) M := (cj_res_plain hk (by simp [cj_pl])).trans (by show cj_go m (cj_lda i nx ls st M) = _; unfold cj_lda; rw [h]; rfl)
theorem g_4 (hk : kd_ m pc = ((4, i, b, l), nx)) {x : Int32} {ls' : List Value} (h : decide (i < ls.length) = true) (h' : ls.set i (.int x) = ls') : cj_res m pc ls (.int x :: st) M = cj_res m nx ls' st M := (cj_res_plain hk (by simp [cj_pl])).trans (by show cj_go m (cj_sti i nx ls (.int x :: st) M) = _; unfold cj_sti; dsimp only; rw [if_pos (of_decide_eq_true h), h']; rfl)
theorem g_5 (hk : kd_ m pc = ((5, i, b, l), nx)) {a : Nat} {ls' : List Value} (h : decide (i < ls.length) = true) (h' : ls.set i (.ref a) = ls') : cj_res m pc ls (.ref a :: st) M = cj_res m nx ls' st M := (cj_res_plain hk (by simp [cj_pl])).trans (by show cj_go m (cj_sta i nx ls (.ref a :: st) M) = _; unfold cj_sta; dsimp only; rw [if_pos (of_decide_eq_true h), h']; rfl)
theorem g_6 (hk : kd_ m pc = ((6, i, b, l), nx)) {x : Int32} {ls' : List Value} (h : ls[i]? = some (.int x)) (h' : ls.set i (.int (x + nI b)) = ls') : cj_res m pc ls st M = cj_res m nx ls' st M := (cj_res_plain hk (by simp [cj_pl])).trans (by show cj_go m (cj_inc i (nI b) nx ls st M) = _; unfold cj_inc; rw [h]; dsimp only; rw [h']; rfl)
theorem g_7 (hk : kd_ m pc = ((7, i, b, l), nx)) {x : Int32} {ls' : List Value} (h : ls[i]? = some (.int x)) (h' : ls.set i (.int (x + - nI b)) = ls') : cj_res m pc ls st M = cj_res m nx ls' st M := (cj_res_plain hk (by simp [cj_pl])).trans (by show cj_go m (cj_inc i (- nI b) nx ls st M) = _; unfold cj_inc; rw [h]; dsimp only; rw [h']; rfl)
theorem g_10 (hk : kd_ m pc = ((10, i, b, l), nx)) {x y : Int32} : cj_res m pc ls (.int y :: .int x :: st) M = cj_res m nx ls (.int (x + y) :: st) M := cj_res_plain hk (by simp [cj_pl])
theorem g_11 (hk : kd_ m pc = ((11, i, b, l), nx)) {x y : Int32} : cj_res m pc ls (.int y :: .int x :: st) M = cj_res m nx ls (.int (x - y) :: st) M := cj_res_plain hk (by simp [cj_pl])
theorem g_12 (hk : kd_ m pc = ((12, i, b, l), nx)) {x y : Int32} : cj_res m pc ls (.int y :: .int x :: st) M = cj_res m nx ls (.int (x * y) :: st) M := cj_res_plain hk (by simp [cj_pl])
theorem g_16 (hk : kd_ m pc = ((16, i, b, l), nx)) {x y : Int32} : cj_res m pc ls (.int y :: .int x :: st) M = cj_res m nx ls (.int (x <<< (y &&& 31)) :: st) M := cj_res_plain hk (by simp [cj_pl])
theorem g_17 (hk : kd_ m pc = ((17, i, b, l), nx)) {x y : Int32} : cj_res m pc ls (.int y :: .int x :: st) M = cj_res m nx ls (.int (x >>> (y &&& 31)) :: st) M := cj_res_plain hk (by simp [cj_pl])
theorem g_18 (hk : kd_ m pc = ((18, i, b, l), nx)) {x y : Int32} : cj_res m pc ls (.int y :: .int x :: st) M = cj_res m nx ls (.int ((x.toUInt32 >>> (y.toUInt32 &&& Int32.toUInt32 31)).toInt32) :: st) M := cj_res_plain hk (by simp [cj_pl])
theorem g_19 (hk : kd_ m pc = ((19, i, b, l), nx)) {x y : Int32} : cj_res m pc ls (.int y :: .int x :: st) M = cj_res m nx ls (.int (x &&& y) :: st) M := cj_res_plain hk (by simp [cj_pl])
theorem g_20 (hk : kd_ m pc = ((20, i, b, l), nx)) {x y : Int32} : cj_res m pc ls (.int y :: .int x :: st) M = cj_res m nx ls (.int (x ||| y) :: st) M := cj_res_plain hk (by simp [cj_pl])
theorem g_21 (hk : kd_ m pc = ((21, i, b, l), nx)) {x y : Int32} : cj_res m pc ls (.int y :: .int x :: st) M = cj_res m nx ls (.int (x ^^^ y) :: st) M := cj_res_plain hk (by simp [cj_pl])
theorem g_13 (hk : kd_ m pc = ((13, i, b, l), nx)) {x y : Int32} (h : ¬ y = 0) : cj_res m pc ls (.int y :: .int x :: st) M = cj_res m nx ls (.int (x / y) :: st) M := (cj_res_plain hk (by simp [cj_pl])).trans (by show cj_go m (cj_dv (fun x y => x / y) nx ls (.int y :: .int x :: st) M) = _; unfold cj_dv; dsimp only; rw [if_neg h]; rfl)
theorem g_14 (hk : kd_ m pc = ((14, i, b, l), nx)) {x y : Int32} (h : ¬ y = 0) : cj_res m pc ls (.int y :: .int x :: st) M = cj_res m nx ls (.int (x - x / y * y) :: st) M := (cj_res_plain hk (by simp [cj_pl])).trans (by show cj_go m (cj_dv (fun x y => x - x / y * y) nx ls (.int y :: .int x :: st) M) = _; unfold cj_dv; dsimp only; rw [if_neg h]; rfl)
theorem g_15 (hk : kd_ m pc = ((15, i, b, l), nx)) {x : Int32} : cj_res m pc ls (.int x :: st) M = cj_res m nx ls (.int (-x) :: st) M := cj_res_plain hk (by simp [cj_pl])
theorem g_22 (hk : kd_ m pc = ((22, i, b, l), nx)) {x : Int32} : cj_res m pc ls (.int x :: st) M = cj_res m nx ls (.int ((x.toUInt32 % 65536).toInt32) :: st) M := cj_res_plain hk (by simp [cj_pl])
theorem g_23 (hk : kd_ m pc = ((23, i, b, l), nx)) {x : Int32} : cj_res m pc ls (.int x :: st) M = cj_res m nx ls (.long x.toInt64 :: st) M := cj_res_plain hk (by simp [cj_pl])
theorem g_24 (hk : kd_ m pc = ((24, i, b, l), nx)) {x y : Int64} : cj_res m pc ls (.long y :: .long x :: st) M = cj_res m nx ls (.int (lg_cmp x y) :: st) M := cj_res_plain hk (by simp [cj_pl])
theorem g_25 (hk : kd_ m pc = ((25, i, b, l), nx)) {v : Value} (h : cj_c1 v = true) : cj_res m pc ls (v :: st) M = cj_res m nx ls (v :: v :: st) M := (cj_res_plain hk (by simp [cj_pl])).trans (by show cj_go m (cj_dup nx ls (v :: st) M) = _; unfold cj_dup; dsimp only; rw [if_pos h]; rfl)
theorem g_26 (hk : kd_ m pc = ((26, i, b, l), nx)) {v : Value} (h : cj_c1 v = true) : cj_res m pc ls (v :: st) M = cj_res m nx ls st M := (cj_res_plain hk (by simp [cj_pl])).trans (by show cj_go m (cj_pop nx ls (v :: st) M) = _; unfold cj_pop; dsimp only; rw [if_pos h]; rfl)
theorem g_27 (hk : kd_ m pc = ((27, i, b, l), nx)) {v w : Value} (h : cj_c1 v = true) (h2 : cj_c1 w = true) : cj_res m pc ls (v :: w :: st) M = cj_res m nx ls (v :: w :: v :: st) M := (cj_res_plain hk (by simp [cj_pl])).trans (by show cj_go m (cj_dx1 nx ls (v :: w :: st) M) = _; unfold cj_dx1; dsimp only; rw [if_pos ⟨h, h2⟩]; rfl)
theorem g_28 (hk : kd_ m pc = ((28, i, b, l), nx)) {v w : Value} (h : cj_c1 v = true) (h2 : cj_c1 w = true) : cj_res m pc ls (v :: w :: st) M = cj_res m nx ls (v :: w :: v :: w :: st) M := (cj_res_plain hk (by simp [cj_pl])).trans (by show cj_go m (cj_du2 nx ls (v :: w :: st) M) = _; unfold cj_du2; dsimp only; rw [if_pos ⟨h, h2⟩]; rfl)
theorem g_29 (hk : kd_ m pc = ((29, i, b, l), nx)) {v w u : Value} (h : cj_c1 v = true) (h2 : cj_c1 w = true) (h3 : cj_c1 u = true) : cj_res m pc ls (v :: w :: u :: st) M = cj_res m nx ls (v :: w :: u :: v :: st) M := (cj_res_plain hk (by simp [cj_pl])).trans (by show cj_go m (cj_dx2 nx ls (v :: w :: u :: st) M) = _; unfold cj_dx2; dsimp only; rw [if_pos ⟨h, h2, h3⟩]; rfl)
theorem g_30 (hk : kd_ m pc = ((30, i, b, l), nx)) : cj_res m pc ls st M = cj_res m i ls st M := cj_res_plain hk (by simp [cj_pl])
theorem g_31 (hk : kd_ m pc = ((31, i, b, l), nx)) {x : Int32} : cj_res m pc ls (.int x :: st) M = if x = 0 then cj_res m i ls st M else cj_res m nx ls st M := (cj_res_plain hk (by simp [cj_pl])).trans (by show cj_go m (some (if x = 0 then i else nx, ls, st, M)) = _; split <;> rfl)
theorem g_32 (hk : kd_ m pc = ((32, i, b, l), nx)) {x : Int32} : cj_res m pc ls (.int x :: st) M = if x = 0 then cj_res m nx ls st M else cj_res m i ls st M := (cj_res_plain hk (by simp [cj_pl])).trans (by show cj_go m (some (if x = 0 then nx else i, ls, st, M)) = _; split <;> rfl)
theorem g_33 (hk : kd_ m pc = ((33, i, b, l), nx)) {x : Int32} : cj_res m pc ls (.int x :: st) M = if x < 0 then cj_res m i ls st M else cj_res m nx ls st M := (cj_res_plain hk (by simp [cj_pl])).trans (by show cj_go m (some (if x < 0 then i else nx, ls, st, M)) = _; split <;> rfl)
theorem g_34 (hk : kd_ m pc = ((34, i, b, l), nx)) {x : Int32} : cj_res m pc ls (.int x :: st) M = if 0 ≤ x then cj_res m i ls st M else cj_res m nx ls st M := (cj_res_plain hk (by simp [cj_pl])).trans (by show cj_go m (some (if 0 ≤ x then i else nx, ls, st, M)) = _; split <;> rfl)
theorem g_35 (hk : kd_ m pc = ((35, i, b, l), nx)) {x : Int32} : cj_res m pc ls (.int x :: st) M = if 0 < x then cj_res m i ls st M else cj_res m nx ls st M := (cj_res_plain hk (by simp [cj_pl])).trans (by show cj_go m (some (if 0 < x then i else nx, ls, st, M)) = _; split <;> rfl)
theorem g_36 (hk : kd_ m pc = ((36, i, b, l), nx)) {x : Int32} : cj_res m pc ls (.int x :: st) M = if x ≤ 0 then cj_res m i ls st M else cj_res m nx ls st M := (cj_res_plain hk (by simp [cj_pl])).trans (by show cj_go m (some (if x ≤ 0 then i else nx, ls, st, M)) = _; split <;> rfl)
theorem g_37 (hk : kd_ m pc = ((37, i, b, l), nx)) {x y : Int32} : cj_res m pc ls (.int y :: .int x :: st) M = if x = y then cj_res m i ls st M else cj_res m nx ls st M := (cj_res_plain hk (by simp [cj_pl])).trans (by show cj_go m (some (if x = y then i else nx, ls, st, M)) = _; split <;> rfl)
theorem g_38 (hk : kd_ m pc = ((38, i, b, l), nx)) {x y : Int32} : cj_res m pc ls (.int y :: .int x :: st) M = if x = y then cj_res m nx ls st M else cj_res m i ls st M := (cj_res_plain hk (by simp [cj_pl])).trans (by show cj_go m (some (if x = y then nx else i, ls, st, M)) = _; split <;> rfl)
theorem g_39 (hk : kd_ m pc = ((39, i, b, l), nx)) {x y : Int32} : cj_res m pc ls (.int y :: .int x :: st) M = if x < y then cj_res m i ls st M else cj_res m nx ls st M := (cj_res_plain hk (by simp [cj_pl])).trans (by show cj_go m (some (if x < y then i else nx, ls, st, M)) = _; split <;> rfl)
theorem g_40 (hk : kd_ m pc = ((40, i, b, l), nx)) {x y : Int32} : cj_res m pc ls (.int y :: .int x :: st) M = if y ≤ x then cj_res m i ls st M else cj_res m nx ls st M := (cj_res_plain hk (by simp [cj_pl])).trans (by show cj_go m (some (if y ≤ x then i else nx, ls, st, M)) = _; split <;> rfl)
theorem g_41 (hk : kd_ m pc = ((41, i, b, l), nx)) {x y : Int32} : cj_res m pc ls (.int y :: .int x :: st) M = if y < x then cj_res m i ls st M else cj_res m nx ls st M := (cj_res_plain hk (by simp [cj_pl])).trans (by show cj_go m (some (if y < x then i else nx, ls, st, M)) = _; split <;> rfl)
theorem g_42 (hk : kd_ m pc = ((42, i, b, l), nx)) {x y : Int32} : cj_res m pc ls (.int y :: .int x :: st) M = if x ≤ y then cj_res m i ls st M else cj_res m nx ls st M := (cj_res_plain hk (by simp [cj_pl])).trans (by show cj_go m (some (if x ≤ y then i else nx, ls, st, M)) = _; split <;> rfl)
theorem g_45 (hk : kd_ m pc = ((45, i, b, l), nx)) {x : Int32} : cj_res m pc ls (.int x :: st) M = cj_res m (cj_sw x i b l) ls st M := cj_res_plain hk (by simp [cj_pl])
theorem g_84 (hk : kd_ m pc = ((84, i, b, l), nx)) {x y : Int32} (h : decide (st.length ≤ 4) = true) : cj_res m pc ls (.int y :: .int x :: st) M = cj_res m nx ls (.int (if x < y then y else x) :: st) M := (cj_res_plain hk (by simp [cj_pl])).trans (by show cj_go m (cj_mm (fun x y => if x < y then y else x) nx ls (.int y :: .int x :: st) M) = _; unfold cj_mm; dsimp only; rw [if_pos (of_decide_eq_true h)]; rfl)
theorem g_85 (hk : kd_ m pc = ((85, i, b, l), nx)) {x y : Int32} (h : decide (st.length ≤ 4) = true) : cj_res m pc ls (.int y :: .int x :: st) M = cj_res m nx ls (.int (if y < x then y else x) :: st) M := (cj_res_plain hk (by simp [cj_pl])).trans (by show cj_go m (cj_mm (fun x y => if y < x then y else x) nx ls (.int y :: .int x :: st) M) = _; unfold cj_mm; dsimp only; rw [if_pos (of_decide_eq_true h)]; rfl)
theorem g_90 (hk : kd_ m pc = ((90, i, b, l), nx)) {x : Int32} : cj_res m pc ls [.int x] M = some (.inl (some (.int x)), M) := cj_res_end hk (by simp)
theorem g_91 (hk : kd_ m pc = ((91, i, b, l), nx)) : cj_res m pc ls [] M = some (.inl none, M) := cj_res_end hk (by simp)
theorem g_92 (hk : kd_ m pc = ((92, i, b, l), nx)) {a : Nat} : cj_res m pc ls [.ref a] M = some (.inl (some (.ref a)), M) := cj_res_end hk (by simp)
theorem g_93 (hk : kd_ m pc = ((93, i, b, l), nx)) {x : Int32} (h : x = 0 ∨ x = 1) : cj_res m pc ls [.int x] M = some (.inl (some (.int x)), M) := (cj_res_end hk (by simp)).trans (by show cj_rz [.int x] M = _; unfold cj_rz; dsimp only; rw [if_pos h])
theorem g_95 (hk : kd_ m pc = ((95, i, b, l), nx)) : cj_res m pc ls [] M = some (.inr i, cj_pay M 1 6) := cj_res_end hk (by simp)
theorem g_81 (hk : kd_ m pc = ((81, i, b, l), nx)) (hg : (decide (b ≤ st.length) && decide (st.length ≤ b + 4) && decide ((km_ i).1 < (km_ m).1) && (st.take b).all cj_c1) = true) {as r : List Value} (ha : (st.take b).reverse = as) (hr : st.drop b = r) : cj_res m pc ls st M = cj_aft m pc nx ls r (cj_ev i as M) := by
  subst ha; subst hr
  exact cj_res_call hk (Or.inr (Or.inl rfl)) (by unfold cj_gq; dsimp only; rw [hg]; rfl)
theorem g_82 (hk : kd_ m pc = ((82, i, b, l), nx)) (hg : (decide (b ≤ st.length) && decide (st.length ≤ b + 4) && decide ((km_ i).1 < (km_ m).1) && (st.take b).all cj_c1) = true) {a : Nat} {as r : List Value} (ha : (st.take b).reverse = .ref a :: as) (hr : st.drop b = r) : cj_res m pc ls st M = cj_aft m pc nx ls r (cj_ev i (.ref a :: as) M) := by
  rw [← ha]; subst hr
  exact cj_res_call hk (Or.inr (Or.inr rfl)) (by unfold cj_gq; dsimp only; rw [hg, ha]; rfl)
end
theorem el_if {n j : Nat} {g : Nat → Nat} (h : j < n) : cj_el (.inr (.inr (fun j => if j < n then some (g j) else none))) j = .ref (g j) := by
  show cj_rf (if j < n then some (g j) else none) = _
  rw [if_pos h]
  rfl
section
variable {m pc nx i b : Nat} {l : List Nat} {ls st : List Value} {L : Nat} {f : cg_G} {e : Nat × Nat}
theorem g_80 {C : Nat} (hk : kd_ m pc = ((80, i, b, [C]), nx)) (hg : (decide (b ≤ st.length) && decide (st.length ≤ b + 4) && decide ((km_ i).1 < (km_ m).1) && (st.take b).all cj_c1) = true) {a : Nat} (hs : sh_ a = C) {fs : List Value} (hc : cg_c C L a (f a) = some (.inr (C, fs))) {as r : List Value} (ha : (st.take b).reverse = .ref a :: as) (hr : st.drop b = r) : cj_res m pc ls st (cg_M L f e) = cj_aft m pc nx ls r (cj_ev i (.ref a :: as) (cg_M L f e)) := by
  rw [← ha]; subst hr
  refine cj_res_call hk (Or.inl rfl) ?_
  unfold cj_gq
  dsimp only
  rw [hg, ha]
  show cj_rc (.ref a :: as) (cg_M L f e) C = true
  unfold cj_rc cg_M
  dsimp only
  rw [hs, hc]
  dsimp only
  exact beq_self_eq_true C
theorem g_50 (hk : kd_ m pc = ((50, i, b, l), nx)) {a : Nat} (hs : sh_ a = i) {v : Value} (hv : cj_fd (cg_c i L a (f a)) i b = some v) : cj_res m pc ls (.ref a :: st) (cg_M L f e) = cj_res m nx ls (v :: st) (cg_M L f e) := (cj_res_plain hk (by simp [cj_pl])).trans (by
  show cj_go m (cj_getf i b nx ls (.ref a :: st) (cg_M L f e)) = _
  unfold cj_getf
  dsimp only
  rw [show cj_fd ((cg_M L f e).1 a) i b = some v by show cj_fd (cg_c (sh_ a) L a (f a)) i b = _; rw [hs]; exact hv]
  rfl)
theorem g_51 {q : Nat} (hk : kd_ m pc = ((51, i, b, [q]), nx)) {a : Nat} (hs : sh_ a = i) {v : Value} {x : Int32} {fs : List Value} (hc : cg_c i L a (f a) = some (.inr (i, fs))) (hb : decide (b < fs.length) = true) (hf : cj_fit q v = true) (h0 : a ≠ 0) (hu : some (.inr (i, fs.set b v)) = cg_c i L a (cj_up (f a) b x)) : cj_res m pc ls (v :: .ref a :: st) (cg_M L f e) = cj_res m nx ls st (cg_M L (cg_up f a b x) e) := (cj_res_plain hk (by simp [cj_pl])).trans (by
  show cj_go m (cj_putf i b q nx ls (v :: .ref a :: st) (cg_M L f e)) = _
  unfold cj_putf
  dsimp only
  rw [show cj_pf ((cg_M L f e).1 a) a i b q v = some (.inr (i, fs.set b v)) by
    show cj_pf (cg_c (sh_ a) L a (f a)) a i b q v = _
    rw [hs, hc]
    unfold cj_pf
    dsimp only
    rw [if_pos ⟨rfl, of_decide_eq_true hb, hf, h0⟩]]
  show cj_res m nx ls st (cj_set (cg_M L f e) a _) = _
  rw [cg_set hs hu])
theorem g_53 (hk : kd_ m pc = ((53, i, b, l), nx)) {a t s : Nat} {x : cj_A} (hs : sh_ a = s) (hc : cg_c s L a (f a) = some (.inl (t, ln_ L a, x))) : cj_res m pc ls (.ref a :: st) (cg_M L f e) = cj_res m nx ls (.int (nI (ln_ L a)) :: st) (cg_M L f e) := (cj_res_plain hk (by simp [cj_pl])).trans (by
  show cj_go m (cj_len nx ls (.ref a :: st) (cg_M L f e)) = _
  unfold cj_len
  dsimp only
  rw [show cj_ln ((cg_M L f e).1 a) = some (ln_ L a) by show cj_ln (cg_c (sh_ a) L a (f a)) = _; rw [hs, hc]; rfl]
  rfl)
theorem g_54 (hk : kd_ m pc = ((54, i, b, l), nx)) {a s : Nat} {x : cj_A} {j : Int32} {v : Value} (hs : sh_ a = s) (hc : cg_c s L a (f a) = some (.inl (i, ln_ L a, x))) (hj : cg_in j (ln_ L a)) (hv : cj_el x j.toNatClampNeg = v) : cj_res m pc ls (.int j :: .ref a :: st) (cg_M L f e) = cj_res m nx ls (v :: st) (cg_M L f e) := (cj_res_plain hk (by simp [cj_pl])).trans (by
  show cj_go m (cj_ald i nx ls (.int j :: .ref a :: st) (cg_M L f e)) = _
  unfold cj_ald
  dsimp only
  rw [show cj_rd ((cg_M L f e).1 a) i j = some v by
    show cj_rd (cg_c (sh_ a) L a (f a)) i j = _
    rw [hs, hc]
    unfold cj_rd
    dsimp only
    rw [if_pos ⟨rfl, hj⟩, hv]]
  rfl)
theorem g_ast {nar : Int32 → Int32} {a s t : Nat} {j x : Int32} (h : cj_res m pc ls (.int x :: .int j :: .ref a :: st) (cg_M L f e) = cj_go m (cj_ast t nar nx ls (.int x :: .int j :: .ref a :: st) (cg_M L f e))) (hs : sh_ a = s) (hc : ∀ g, cg_c s L a g = some (.inl (t, ln_ L a, .inl g))) (hj : cg_in j (ln_ L a)) (h0 : a ≠ 0) : cj_res m pc ls (.int x :: .int j :: .ref a :: st) (cg_M L f e) = cj_res m nx ls st (cg_M L (cg_up f a j.toNatClampNeg (nar x)) e) := h.trans (by
  unfold cj_ast
  dsimp only
  rw [show cj_wi ((cg_M L f e).1 a) a t j (nar x) = some (.inl (t, ln_ L a, .inl (cj_up (f a) j.toNatClampNeg (nar x)))) by
    show cj_wi (cg_c (sh_ a) L a (f a)) a t j (nar x) = _
    rw [hs, hc]
    unfold cj_wi
    dsimp only
    rw [if_pos ⟨rfl, hj, h0⟩]]
  show cj_res m nx ls st (cj_set (cg_M L f e) a _) = _
  rw [cg_set hs (hc _).symm])
theorem g_56 (hk : kd_ m pc = ((56, i, b, l), nx)) {a s : Nat} {j x : Int32} (hs : sh_ a = s) (hc : ∀ g, cg_c s L a g = some (.inl (i, ln_ L a, .inl g))) (hj : cg_in j (ln_ L a)) (h0 : a ≠ 0) : cj_res m pc ls (.int x :: .int j :: .ref a :: st) (cg_M L f e) = cj_res m nx ls st (cg_M L (cg_up f a j.toNatClampNeg x) e) := g_ast (nar := fun x => x) (cj_res_plain hk (by simp [cj_pl])) hs hc hj h0
theorem g_57 (hk : kd_ m pc = ((57, i, b, l), nx)) {a s : Nat} {j x : Int32} (hs : sh_ a = s) (hc : ∀ g, cg_c s L a g = some (.inl (i, ln_ L a, .inl g))) (hj : cg_in j (ln_ L a)) (h0 : a ≠ 0) : cj_res m pc ls (.int x :: .int j :: .ref a :: st) (cg_M L f e) = cj_res m nx ls st (cg_M L (cg_up f a j.toNatClampNeg (vp_nar .char x)) e) := g_ast (nar := vp_nar .char) (cj_res_plain hk (by simp [cj_pl])) hs hc hj h0
theorem g_59 (hk : kd_ m pc = ((59, i, b, l), nx)) {a s : Nat} {j x : Int32} (hs : sh_ a = s) (hc : ∀ g : Nat → Int32, cg_c s L a g = some (.inl (i, ln_ L a, .inr (.inl (fun j => (g j).toInt64))))) (hj : cg_in j (ln_ L a)) (h0 : a ≠ 0) : cj_res m pc ls (.long x.toInt64 :: .int j :: .ref a :: st) (cg_M L f e) = cj_res m nx ls st (cg_M L (cg_up f a j.toNatClampNeg x) e) := (cj_res_plain hk (by simp [cj_pl])).trans (by
  show cj_go m (cj_asl i nx ls (.long x.toInt64 :: .int j :: .ref a :: st) (cg_M L f e)) = _
  unfold cj_asl
  dsimp only
  rw [show cj_wl ((cg_M L f e).1 a) a i j x.toInt64 = some (.inl (i, ln_ L a, .inr (.inl (fun k => (cj_up (f a) j.toNatClampNeg x k).toInt64)))) by
    show cj_wl (cg_c (sh_ a) L a (f a)) a i j x.toInt64 = _
    rw [hs, hc]
    unfold cj_wl
    dsimp only
    rw [if_pos ⟨rfl, hj, h0⟩]
    have hfun : cj_up (fun j => (f a j).toInt64) j.toNatClampNeg x.toInt64 = (fun k => (cj_up (f a) j.toNatClampNeg x k).toInt64) := by
      funext k
      unfold cj_up
      split <;> rfl
    rw [hfun]]
  show cj_res m nx ls st (cj_set (cg_M L f e) a _) = _
  rw [cg_set hs (hc _).symm])
end
