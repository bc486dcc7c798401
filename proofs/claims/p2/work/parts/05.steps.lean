/-! the small machine's plain instructions, each as a row over the real machine -/
def cj_Ty (tys : cj_T) : Prop := ∀ k : Nat, (tys[k]?).map (fun q : ClassId × FieldType => q.2) = kty_[k]?
def cj_Af (ad : Nat → Nat) (n sz : Nat) : Nat → Prop := fun q => (∃ o, 0 < o ∧ o < n ∧ ad o = q) ∨ sz ≤ q
def cj_Rl (s : State) (D : va_G) (tys : cj_T) (ad0 : Nat → Nat) (n0 k0 w0 nL : Nat) (ad : Nat → Nat) (H : Heap) (locs : List Loc) (cells slots : Nat) (ls : Array Slot) (L st : List Value) (M : cj_M) : Prop :=
  cj_R s D tys ad M H ∧ cj_L ad M.2.1 nL ls L ∧ (∀ v ∈ st, cj_wv M.2.1 v) ∧ (n0 ≤ M.2.1 ∧ (∀ o, o < n0 → ad o = ad0 o) ∧ ∀ o, n0 ≤ o → o < M.2.1 → s.heap.size ≤ ad o) ∧ va_S (cj_Af ad0 n0 s.heap.size) s.heap H locs ∧ M.2.2.1 = k0 + cells ∧ M.2.2.2 = w0 + slots
def cj_Go (p : Program) (l : Launch) (e : Env) (R : Room) (s : State) (m : MethodId) (args : Array Value) (below : List Frame) (meth : Method) (c : Code) (Q : State → Prop) (nL : Nat) (D : va_G) (tys : cj_T) (ad0 : Nat → Nat) (n0 k0 w0 : Nat) (pc : Nat) (L st : List Value) (M : cj_M) : Prop :=
  ∀ (ad : Nat → Nat) (H : Heap) (locs : List Loc) (cells slots : Nat) (ls : Array Slot), cj_Rl s D tys ad0 n0 k0 w0 nL ad H locs cells slots ls L st M → W p l e R s m args below meth c H locs cells slots Q (F0 m pc ls (st.map (cj_mv ad)))
def cj_Fx (p : Program) (R : Room) (s : State) (m : MethodId) (args : Array Value) (meth : Method) (c : Code) (nL : Nat) (D : va_G) (tys : cj_T) (cc : ByteArray) (own nm : String) (fr lo : Nat) : Prop :=
  p.tables.exec = Jvm.exec ∧ c.code = cc ∧ c.maxLocals = nL ∧ s.vm.findClass own = some m.cls ∧ (∀ w ∈ lw_kw, w.before args s = true) ∧ va_K D kcl_ tys s ∧ meth.name = nm ∧ fr ≤ R.frames ∧ lo ≤ R.locals ∧ cj_Sx s s.heap
def cj_Ok (cc : ByteArray) (own nm : String) (fr lo : Nat) (i : cj_I) (pc nx : Nat) : Prop :=
  ∀ (p : Program) (l : Launch) (e : Env) (R : Room) (s : State) (m : MethodId) (args : Array Value) (below : List Frame) (meth : Method) (c : Code) (Q : State → Prop) (nL : Nat) (D : va_G) (tys : cj_T) (ad0 : Nat → Nat) (n0 k0 w0 : Nat),
    cj_Fx p R s m args meth c nL D tys cc own nm fr lo → cj_Ty tys → ∀ (L st : List Value) (M : cj_M) (f : cj_F), cj_step i nx L st M = some f → f.2.2.2.2.2.1 ≤ k0 + R.cells → f.2.2.2.2.2.2 ≤ w0 + R.slots →
    cj_Go p l e R s m args below meth c Q nL D tys ad0 n0 k0 w0 f.1 f.2.1 f.2.2.1 f.2.2.2 → cj_Go p l e R s m args below meth c Q nL D tys ad0 n0 k0 w0 pc L st M
theorem cj_Rl_st {s : State} {D : va_G} {tys : cj_T} {ad0 : Nat → Nat} {n0 k0 w0 nL : Nat} {ad : Nat → Nat} {H : Heap} {locs : List Loc} {cells slots : Nat} {ls : Array Slot} {L st : List Value} {M : cj_M} (hr : cj_Rl s D tys ad0 n0 k0 w0 nL ad H locs cells slots ls L st M) {st' : List Value} (h : ∀ v ∈ st', cj_wv M.2.1 v) : cj_Rl s D tys ad0 n0 k0 w0 nL ad H locs cells slots ls L st' M :=
  ⟨hr.1, hr.2.1, h, hr.2.2.2⟩
theorem cj_Rl_ls {s : State} {D : va_G} {tys : cj_T} {ad0 : Nat → Nat} {n0 k0 w0 nL : Nat} {ad : Nat → Nat} {H : Heap} {locs : List Loc} {cells slots : Nat} {ls ls' : Array Slot} {L L' st : List Value} {M : cj_M} (hr : cj_Rl s D tys ad0 n0 k0 w0 nL ad H locs cells slots ls L st M) (hL : cj_L ad M.2.1 nL ls' L') {st' : List Value} (h : ∀ v ∈ st', cj_wv M.2.1 v) : cj_Rl s D tys ad0 n0 k0 w0 nL ad H locs cells slots ls' L' st' M :=
  ⟨hr.1, hL, h, hr.2.2.2⟩
theorem cj_wvi {n : Nat} {x : Int32} : cj_wv n (.int x) := trivial
theorem cj_wvl {n : Nat} {x : Int64} : cj_wv n (.long x) := trivial
theorem cj_wc {n : Nat} {v : Value} {st : List Value} (hv : cj_wv n v) (h : ∀ v ∈ st, cj_wv n v) : ∀ w ∈ v :: st, cj_wv n w := fun w hw => by
  rcases List.mem_cons.mp hw with rfl | hw
  · exact hv
  · exact h w hw
theorem cj_wt {n : Nat} {v : Value} {st : List Value} (h : ∀ w ∈ v :: st, cj_wv n w) : ∀ w ∈ st, cj_wv n w := fun w hw => h w (List.mem_cons_of_mem _ hw)
theorem cj_wh {n : Nat} {v : Value} {st : List Value} (h : ∀ w ∈ v :: st, cj_wv n w) : cj_wv n v := h v List.mem_cons_self
theorem cj_bin_inv {f : Int32 → Int32 → Int32} {nx : Nat} {ls st : List Value} {M : cj_M} {q : cj_F} (h : cj_bin f nx ls st M = some q) : ∃ x y r, st = .int y :: .int x :: r ∧ q = (nx, ls, .int (f x y) :: r, M) := by
  unfold cj_bin at h
  split at h
  · cases h; exact ⟨_, _, _, rfl, rfl⟩
  · cases h
theorem cj_dv_inv {f : Int32 → Int32 → Int32} {nx : Nat} {ls st : List Value} {M : cj_M} {q : cj_F} (h : cj_dv f nx ls st M = some q) : ∃ x y r, ¬ y = 0 ∧ st = .int y :: .int x :: r ∧ q = (nx, ls, .int (f x y) :: r, M) := by
  unfold cj_dv at h
  split at h
  · split at h
    · cases h
    · rename_i hy; cases h; exact ⟨_, _, _, hy, rfl, rfl⟩
  · cases h
theorem cj_mm_inv {f : Int32 → Int32 → Int32} {nx : Nat} {ls st : List Value} {M : cj_M} {q : cj_F} (h : cj_mm f nx ls st M = some q) : ∃ x y r, r.length ≤ 4 ∧ st = .int y :: .int x :: r ∧ q = (nx, ls, .int (f x y) :: r, M) := by
  unfold cj_mm at h
  split at h
  · split at h
    · rename_i hy; cases h; exact ⟨_, _, _, hy, rfl, rfl⟩
    · cases h
  · cases h
theorem cj_una_inv {f : Int32 → Value} {nx : Nat} {ls st : List Value} {M : cj_M} {q : cj_F} (h : cj_una f nx ls st M = some q) : ∃ x r, st = .int x :: r ∧ q = (nx, ls, f x :: r, M) := by
  unfold cj_una at h
  split at h
  · cases h; exact ⟨_, _, rfl, rfl⟩
  · cases h
theorem cj_lcm_inv {nx : Nat} {ls st : List Value} {M : cj_M} {q : cj_F} (h : cj_lcm nx ls st M = some q) : ∃ x y r, st = .long y :: .long x :: r ∧ q = (nx, ls, .int (lg_cmp x y) :: r, M) := by
  unfold cj_lcm at h
  split at h
  · cases h; exact ⟨_, _, _, rfl, rfl⟩
  · cases h
theorem cj_j1_inv {g : Int32 → Nat} {ls st : List Value} {M : cj_M} {q : cj_F} (h : cj_j1 g ls st M = some q) : ∃ x r, st = .int x :: r ∧ q = (g x, ls, r, M) := by
  unfold cj_j1 at h
  split at h
  · cases h; exact ⟨_, _, rfl, rfl⟩
  · cases h
theorem cj_j2_inv {g : Int32 → Int32 → Nat} {ls st : List Value} {M : cj_M} {q : cj_F} (h : cj_j2 g ls st M = some q) : ∃ x y r, st = .int y :: .int x :: r ∧ q = (g x y, ls, r, M) := by
  unfold cj_j2 at h
  split at h
  · cases h; exact ⟨_, _, _, rfl, rfl⟩
  · cases h
theorem cj_c1_cat {v : Value} (h : cj_c1 v = true) : v.category = 1 := by
  cases v <;> first | rfl | (simp [cj_c1] at h)
theorem cj_c1_ret {v : Value} (h : cj_c1 v = true) : ∀ k, v ≠ .retAddr k := by
  intro k e
  subst e
  simp [cj_c1] at h
section CJS
variable {cc : ByteArray} {own nm : String} {fr lo pc a b : Nat} {lx : List Nat}
theorem ok_iconst {n : Int} (hd : decode cc pc = .ok (.iconst n, 1)) (hv : (Int32.ofInt n) = nI a) : cj_Ok cc own nm fr lo (0, a, b, lx) pc (pc + 1) := by
  intro p l e R s m args below meth c Q nL D tys ad0 n0 k0 w0 F hty L st M f hs hc hw k
  have hs : some (pc + 1, L, Value.int (nI a) :: st, M) = some f := hs
  cases hs
  intro ad H locs cells slots ls hr
  exact lv_iconst F.1 F.2.1 hd hv (k ad H locs cells slots ls (cj_Rl_st hr (cj_wc cj_wvi hr.2.2.1)))
theorem ok_iconst_m {n : Int} (hd : decode cc pc = .ok (.iconst n, 1)) (hv : (Int32.ofInt n) = - nI a) : cj_Ok cc own nm fr lo (1, a, b, lx) pc (pc + 1) := by
  intro p l e R s m args below meth c Q nL D tys ad0 n0 k0 w0 F hty L st M f hs hc hw k
  have hs : some (pc + 1, L, Value.int (- nI a) :: st, M) = some f := hs
  cases hs
  intro ad H locs cells slots ls hr
  exact lv_iconst F.1 F.2.1 hd hv (k ad H locs cells slots ls (cj_Rl_st hr (cj_wc cj_wvi hr.2.2.1)))
theorem ok_bipush {n : Int} (hd : decode cc pc = .ok (.bipush n, 2)) (hv : ((Int8.ofInt n).toInt32) = nI a) : cj_Ok cc own nm fr lo (0, a, b, lx) pc (pc + 2) := by
  intro p l e R s m args below meth c Q nL D tys ad0 n0 k0 w0 F hty L st M f hs hc hw k
  have hs : some (pc + 2, L, Value.int (nI a) :: st, M) = some f := hs
  cases hs
  intro ad H locs cells slots ls hr
  exact lv_bipush F.1 F.2.1 hd hv (k ad H locs cells slots ls (cj_Rl_st hr (cj_wc cj_wvi hr.2.2.1)))
theorem ok_bipush_m {n : Int} (hd : decode cc pc = .ok (.bipush n, 2)) (hv : ((Int8.ofInt n).toInt32) = - nI a) : cj_Ok cc own nm fr lo (1, a, b, lx) pc (pc + 2) := by
  intro p l e R s m args below meth c Q nL D tys ad0 n0 k0 w0 F hty L st M f hs hc hw k
  have hs : some (pc + 2, L, Value.int (- nI a) :: st, M) = some f := hs
  cases hs
  intro ad H locs cells slots ls hr
  exact lv_bipush F.1 F.2.1 hd hv (k ad H locs cells slots ls (cj_Rl_st hr (cj_wc cj_wvi hr.2.2.1)))
theorem ok_sipush {n : Int} (hd : decode cc pc = .ok (.sipush n, 3)) (hv : ((Int16.ofInt n).toInt32) = nI a) : cj_Ok cc own nm fr lo (0, a, b, lx) pc (pc + 3) := by
  intro p l e R s m args below meth c Q nL D tys ad0 n0 k0 w0 F hty L st M f hs hc hw k
  have hs : some (pc + 3, L, Value.int (nI a) :: st, M) = some f := hs
  cases hs
  intro ad H locs cells slots ls hr
  exact lv_sipush F.1 F.2.1 hd hv (k ad H locs cells slots ls (cj_Rl_st hr (cj_wc cj_wvi hr.2.2.1)))
theorem ok_sipush_m {n : Int} (hd : decode cc pc = .ok (.sipush n, 3)) (hv : ((Int16.ofInt n).toInt32) = - nI a) : cj_Ok cc own nm fr lo (1, a, b, lx) pc (pc + 3) := by
  intro p l e R s m args below meth c Q nL D tys ad0 n0 k0 w0 F hty L st M f hs hc hw k
  have hs : some (pc + 3, L, Value.int (- nI a) :: st, M) = some f := hs
  cases hs
  intro ad H locs cells slots ls hr
  exact lv_sipush F.1 F.2.1 hd hv (k ad H locs cells slots ls (cj_Rl_st hr (cj_wc cj_wvi hr.2.2.1)))
theorem ok_ldc {idx : Nat} {v : Int32} (hd : decode cc pc = .ok (.ldc idx, 2)) (hc : Jvm.Cond.constant own idx v ∈ lw_kw) (hv : v = nI a) : cj_Ok cc own nm fr lo (0, a, b, lx) pc (pc + 2) := by
  intro p l e R s m args below meth c Q nL D tys ad0 n0 k0 w0 F hty L st M f hs hc hw k
  have hs : some (pc + 2, L, Value.int (nI a) :: st, M) = some f := hs
  cases hs
  intro ad H locs cells slots ls hr
  subst hv
  exact lv_ldc F.1 F.2.1 F.2.2.2.1 (F.2.2.2.2.1 _ hc) hd (k ad H locs cells slots ls (cj_Rl_st hr (cj_wc cj_wvi hr.2.2.1)))
theorem ok_null (hd : decode cc pc = .ok (.aconst_null, 1)) : cj_Ok cc own nm fr lo (8, a, b, lx) pc (pc + 1) := by
  intro p l e R s m args below meth c Q nL D tys ad0 n0 k0 w0 F hty L st M f hs hc hw k
  have hs : some (pc + 1, L, Value.null :: st, M) = some f := hs
  cases hs
  intro ad H locs cells slots ls hr
  exact lv_null F.1 F.2.1 hd (k ad H locs cells slots ls (cj_Rl_st hr (cj_wc trivial hr.2.2.1)))
theorem ok_iload_n {q : Fin 4} (hd : decode cc pc = .ok ((.iload_n q), 1)) (hq : (q : Nat) = a) : cj_Ok cc own nm fr lo (2, a, b, lx) pc (pc + 1) := by
  intro p l e R s m args below meth c Q nL D tys ad0 n0 k0 w0 F hty L st M f hs hc hw k
  have hs : cj_ldi a (pc + 1) L st M = some f := hs
  unfold cj_ldi at hs
  split at hs
  · rename_i x hx
    cases hs
    intro ad H locs cells slots ls hr
    have hl := (hr.2.1.2.2.2 a (.int x) hx).2.2 (fun _ h => by cases h)
    exact lv_iload_n F.1 F.2.1 hd hq hl (k ad H locs cells slots ls (cj_Rl_st hr (cj_wc cj_wvi hr.2.2.1)))
  · cases hs
theorem ok_iload (hd : decode cc pc = .ok ((.iload a), 2)) : cj_Ok cc own nm fr lo (2, a, b, lx) pc (pc + 2) := by
  intro p l e R s m args below meth c Q nL D tys ad0 n0 k0 w0 F hty L st M f hs hc hw k
  have hs : cj_ldi a (pc + 2) L st M = some f := hs
  unfold cj_ldi at hs
  split at hs
  · rename_i x hx
    cases hs
    intro ad H locs cells slots ls hr
    have hl := (hr.2.1.2.2.2 a (.int x) hx).2.2 (fun _ h => by cases h)
    exact lv_iload F.1 F.2.1 hd hl (k ad H locs cells slots ls (cj_Rl_st hr (cj_wc cj_wvi hr.2.2.1)))
  · cases hs
theorem ok_aload_n {q : Fin 4} (hd : decode cc pc = .ok ((.aload_n q), 1)) (hq : (q : Nat) = a) : cj_Ok cc own nm fr lo (3, a, b, lx) pc (pc + 1) := by
  intro p l e R s m args below meth c Q nL D tys ad0 n0 k0 w0 F hty L st M f hs hc hw k
  have hs : cj_lda a (pc + 1) L st M = some f := hs
  unfold cj_lda at hs
  split at hs
  · rename_i hx
    cases hs
    intro ad H locs cells slots ls hr
    have hl := (hr.2.1.2.2.2 a .null hx).2.2 (fun _ h => by cases h)
    exact lv_aload_nN F.1 F.2.1 hd hq hl (k ad H locs cells slots ls (cj_Rl_st hr (cj_wc trivial hr.2.2.1)))
  · rename_i x hx
    cases hs
    intro ad H locs cells slots ls hr
    have hl := (hr.2.1.2.2.2 a (.ref x) hx).2.2 (fun _ h => by cases h)
    exact lv_aload_n F.1 F.2.1 hd hq hl (k ad H locs cells slots ls (cj_Rl_st hr (cj_wc (hr.2.1.2.2.2 a (.ref x) hx).2.1 hr.2.2.1)))
  · cases hs
theorem ok_aload (hd : decode cc pc = .ok ((.aload a), 2)) : cj_Ok cc own nm fr lo (3, a, b, lx) pc (pc + 2) := by
  intro p l e R s m args below meth c Q nL D tys ad0 n0 k0 w0 F hty L st M f hs hc hw k
  have hs : cj_lda a (pc + 2) L st M = some f := hs
  unfold cj_lda at hs
  split at hs
  · rename_i hx
    cases hs
    intro ad H locs cells slots ls hr
    have hl := (hr.2.1.2.2.2 a .null hx).2.2 (fun _ h => by cases h)
    exact lv_aloadN F.1 F.2.1 hd hl (k ad H locs cells slots ls (cj_Rl_st hr (cj_wc trivial hr.2.2.1)))
  · rename_i x hx
    cases hs
    intro ad H locs cells slots ls hr
    have hl := (hr.2.1.2.2.2 a (.ref x) hx).2.2 (fun _ h => by cases h)
    exact lv_aload F.1 F.2.1 hd hl (k ad H locs cells slots ls (cj_Rl_st hr (cj_wc (hr.2.1.2.2.2 a (.ref x) hx).2.1 hr.2.2.1)))
  · cases hs
theorem ok_istore_n {q : Fin 4} (hd : decode cc pc = .ok ((.istore_n q), 1)) (hq : (q : Nat) = a) : cj_Ok cc own nm fr lo (4, a, b, lx) pc (pc + 1) := by
  intro p l e R s m args below meth c Q nL D tys ad0 n0 k0 w0 F hty L st M f hs hc hw k
  have hs : cj_sti a (pc + 1) L st M = some f := hs
  unfold cj_sti at hs
  split at hs
  · rename_i x r e9
    split at hs
    · rename_i hi
      cases hs
      intro ad H locs cells slots ls hr
      have hi : a < nL := by rw [← hr.2.1.2.1]; exact hi
      exact lv_istore_n F.1 F.2.1 hd hq (cj_L_has hr.2.1) hi rfl (fun ls' hl => k ad H locs cells slots ls' (cj_Rl_ls hr (cj_L_set (v := .int x) hr.2.1 hi rfl cj_wvi hl) (cj_wt hr.2.2.1)))
    · cases hs
  · cases hs
theorem ok_istore (hd : decode cc pc = .ok ((.istore a), 2)) : cj_Ok cc own nm fr lo (4, a, b, lx) pc (pc + 2) := by
  intro p l e R s m args below meth c Q nL D tys ad0 n0 k0 w0 F hty L st M f hs hc hw k
  have hs : cj_sti a (pc + 2) L st M = some f := hs
  unfold cj_sti at hs
  split at hs
  · rename_i x r e9
    split at hs
    · rename_i hi
      cases hs
      intro ad H locs cells slots ls hr
      have hi : a < nL := by rw [← hr.2.1.2.1]; exact hi
      exact lv_istore F.1 F.2.1 hd (cj_L_has hr.2.1) hi rfl (fun ls' hl => k ad H locs cells slots ls' (cj_Rl_ls hr (cj_L_set (v := .int x) hr.2.1 hi rfl cj_wvi hl) (cj_wt hr.2.2.1)))
    · cases hs
  · cases hs
theorem ok_astore_n {q : Fin 4} (hd : decode cc pc = .ok ((.astore_n q), 1)) (hq : (q : Nat) = a) : cj_Ok cc own nm fr lo (5, a, b, lx) pc (pc + 1) := by
  intro p l e R s m args below meth c Q nL D tys ad0 n0 k0 w0 F hty L st M f hs hc hw k
  have hs : cj_sta a (pc + 1) L st M = some f := hs
  unfold cj_sta at hs
  split at hs
  · rename_i r e9
    split at hs
    · rename_i hi
      cases hs
      intro ad H locs cells slots ls hr
      have hi : a < nL := by rw [← hr.2.1.2.1]; exact hi
      exact lv_astore_nN F.1 F.2.1 hd hq (cj_L_has hr.2.1) hi rfl (fun ls' hl => k ad H locs cells slots ls' (cj_Rl_ls hr (cj_L_set (v := .null) hr.2.1 hi rfl trivial hl) (cj_wt hr.2.2.1)))
    · cases hs
  · rename_i x r e9
    split at hs
    · rename_i hi
      cases hs
      intro ad H locs cells slots ls hr
      have hi : a < nL := by rw [← hr.2.1.2.1]; exact hi
      exact lv_astore_n F.1 F.2.1 hd hq (cj_L_has hr.2.1) hi rfl (fun ls' hl => k ad H locs cells slots ls' (cj_Rl_ls hr (cj_L_set (v := .ref x) hr.2.1 hi rfl (cj_wh hr.2.2.1) hl) (cj_wt hr.2.2.1)))
    · cases hs
  · cases hs
theorem ok_astore (hd : decode cc pc = .ok ((.astore a), 2)) : cj_Ok cc own nm fr lo (5, a, b, lx) pc (pc + 2) := by
  intro p l e R s m args below meth c Q nL D tys ad0 n0 k0 w0 F hty L st M f hs hc hw k
  have hs : cj_sta a (pc + 2) L st M = some f := hs
  unfold cj_sta at hs
  split at hs
  · rename_i r e9
    split at hs
    · rename_i hi
      cases hs
      intro ad H locs cells slots ls hr
      have hi : a < nL := by rw [← hr.2.1.2.1]; exact hi
      exact lv_astoreN F.1 F.2.1 hd (cj_L_has hr.2.1) hi rfl (fun ls' hl => k ad H locs cells slots ls' (cj_Rl_ls hr (cj_L_set (v := .null) hr.2.1 hi rfl trivial hl) (cj_wt hr.2.2.1)))
    · cases hs
  · rename_i x r e9
    split at hs
    · rename_i hi
      cases hs
      intro ad H locs cells slots ls hr
      have hi : a < nL := by rw [← hr.2.1.2.1]; exact hi
      exact lv_astore F.1 F.2.1 hd (cj_L_has hr.2.1) hi rfl (fun ls' hl => k ad H locs cells slots ls' (cj_Rl_ls hr (cj_L_set (v := .ref x) hr.2.1 hi rfl (cj_wh hr.2.2.1) hl) (cj_wt hr.2.2.1)))
    · cases hs
  · cases hs
theorem ok_iinc6 {n : Int} (hd : decode cc pc = .ok (.iinc a n, 3)) (hv : Int32.ofInt n = (nI b)) : cj_Ok cc own nm fr lo (6, a, b, lx) pc (pc + 3) := by
  intro p l e R s m args below meth c Q nL D tys ad0 n0 k0 w0 F hty L st M f hs hc hw k
  have hs : cj_inc a ((nI b)) (pc + 3) L st M = some f := hs
  unfold cj_inc at hs
  split at hs
  · rename_i x hx
    cases hs
    intro ad H locs cells slots ls hr
    have hi : a < nL := by
      rw [← hr.2.1.2.1]
      exact (List.getElem?_eq_some_iff.mp hx).1
    have hm : (0 + a, cj_mv ad (.int x)) ∈ cj_prs ad 0 L := cj_prs_has L 0 a (.int x) hx (fun _ h => by cases h)
    rw [Nat.zero_add] at hm
    obtain ⟨j, hj⟩ := List.getElem?_of_mem hm
    refine lv_iinc (v := x + (nI b)) F.1 F.2.1 hd (cj_L_has hr.2.1) hj (by rw [hv]) hi rfl (fun ls' hl => ?_)
    exact k ad H locs cells slots ls' (cj_Rl_ls hr (cj_L_set (v := .int (x + (nI b))) hr.2.1 hi rfl cj_wvi hl) hr.2.2.1)
  · cases hs
theorem ok_iinc7 {n : Int} (hd : decode cc pc = .ok (.iinc a n, 3)) (hv : Int32.ofInt n = (- nI b)) : cj_Ok cc own nm fr lo (7, a, b, lx) pc (pc + 3) := by
  intro p l e R s m args below meth c Q nL D tys ad0 n0 k0 w0 F hty L st M f hs hc hw k
  have hs : cj_inc a ((- nI b)) (pc + 3) L st M = some f := hs
  unfold cj_inc at hs
  split at hs
  · rename_i x hx
    cases hs
    intro ad H locs cells slots ls hr
    have hi : a < nL := by
      rw [← hr.2.1.2.1]
      exact (List.getElem?_eq_some_iff.mp hx).1
    have hm : (0 + a, cj_mv ad (.int x)) ∈ cj_prs ad 0 L := cj_prs_has L 0 a (.int x) hx (fun _ h => by cases h)
    rw [Nat.zero_add] at hm
    obtain ⟨j, hj⟩ := List.getElem?_of_mem hm
    refine lv_iinc (v := x + (- nI b)) F.1 F.2.1 hd (cj_L_has hr.2.1) hj (by rw [hv]) hi rfl (fun ls' hl => ?_)
    exact k ad H locs cells slots ls' (cj_Rl_ls hr (cj_L_set (v := .int (x + (- nI b))) hr.2.1 hi rfl cj_wvi hl) hr.2.2.1)
  · cases hs
theorem ok_iadd (hd : decode cc pc = .ok (.iadd, 1)) : cj_Ok cc own nm fr lo (10, a, b, lx) pc (pc + 1) := by
  intro p l e R s m args below meth c Q nL D tys ad0 n0 k0 w0 F hty L st M f hs hc hw k
  obtain ⟨x, y, r, rfl, rfl⟩ := cj_bin_inv (show cj_bin _ _ _ _ _ = some f from hs)
  intro ad H locs cells slots ls hr
  exact lv_iadd F.1 F.2.1 hd (k ad H locs cells slots ls (cj_Rl_st hr (cj_wc cj_wvi (cj_wt (cj_wt hr.2.2.1)))))
theorem ok_isub (hd : decode cc pc = .ok (.isub, 1)) : cj_Ok cc own nm fr lo (11, a, b, lx) pc (pc + 1) := by
  intro p l e R s m args below meth c Q nL D tys ad0 n0 k0 w0 F hty L st M f hs hc hw k
  obtain ⟨x, y, r, rfl, rfl⟩ := cj_bin_inv (show cj_bin _ _ _ _ _ = some f from hs)
  intro ad H locs cells slots ls hr
  exact lv_isub F.1 F.2.1 hd (k ad H locs cells slots ls (cj_Rl_st hr (cj_wc cj_wvi (cj_wt (cj_wt hr.2.2.1)))))
theorem ok_imul (hd : decode cc pc = .ok (.imul, 1)) : cj_Ok cc own nm fr lo (12, a, b, lx) pc (pc + 1) := by
  intro p l e R s m args below meth c Q nL D tys ad0 n0 k0 w0 F hty L st M f hs hc hw k
  obtain ⟨x, y, r, rfl, rfl⟩ := cj_bin_inv (show cj_bin _ _ _ _ _ = some f from hs)
  intro ad H locs cells slots ls hr
  exact lv_imul F.1 F.2.1 hd (k ad H locs cells slots ls (cj_Rl_st hr (cj_wc cj_wvi (cj_wt (cj_wt hr.2.2.1)))))
theorem ok_ishl (hd : decode cc pc = .ok (.ishl, 1)) : cj_Ok cc own nm fr lo (16, a, b, lx) pc (pc + 1) := by
  intro p l e R s m args below meth c Q nL D tys ad0 n0 k0 w0 F hty L st M f hs hc hw k
  obtain ⟨x, y, r, rfl, rfl⟩ := cj_bin_inv (show cj_bin _ _ _ _ _ = some f from hs)
  intro ad H locs cells slots ls hr
  exact lv_ishl F.1 F.2.1 hd (k ad H locs cells slots ls (cj_Rl_st hr (cj_wc cj_wvi (cj_wt (cj_wt hr.2.2.1)))))
theorem ok_ishr (hd : decode cc pc = .ok (.ishr, 1)) : cj_Ok cc own nm fr lo (17, a, b, lx) pc (pc + 1) := by
  intro p l e R s m args below meth c Q nL D tys ad0 n0 k0 w0 F hty L st M f hs hc hw k
  obtain ⟨x, y, r, rfl, rfl⟩ := cj_bin_inv (show cj_bin _ _ _ _ _ = some f from hs)
  intro ad H locs cells slots ls hr
  exact lv_ishr F.1 F.2.1 hd (k ad H locs cells slots ls (cj_Rl_st hr (cj_wc cj_wvi (cj_wt (cj_wt hr.2.2.1)))))
theorem ok_iushr (hd : decode cc pc = .ok (.iushr, 1)) : cj_Ok cc own nm fr lo (18, a, b, lx) pc (pc + 1) := by
  intro p l e R s m args below meth c Q nL D tys ad0 n0 k0 w0 F hty L st M f hs hc hw k
  obtain ⟨x, y, r, rfl, rfl⟩ := cj_bin_inv (show cj_bin _ _ _ _ _ = some f from hs)
  intro ad H locs cells slots ls hr
  exact lv_iushr F.1 F.2.1 hd rfl (k ad H locs cells slots ls (cj_Rl_st hr (cj_wc cj_wvi (cj_wt (cj_wt hr.2.2.1)))))
theorem ok_iand (hd : decode cc pc = .ok (.iand, 1)) : cj_Ok cc own nm fr lo (19, a, b, lx) pc (pc + 1) := by
  intro p l e R s m args below meth c Q nL D tys ad0 n0 k0 w0 F hty L st M f hs hc hw k
  obtain ⟨x, y, r, rfl, rfl⟩ := cj_bin_inv (show cj_bin _ _ _ _ _ = some f from hs)
  intro ad H locs cells slots ls hr
  exact lv_iand F.1 F.2.1 hd (k ad H locs cells slots ls (cj_Rl_st hr (cj_wc cj_wvi (cj_wt (cj_wt hr.2.2.1)))))
theorem ok_ior (hd : decode cc pc = .ok (.ior, 1)) : cj_Ok cc own nm fr lo (20, a, b, lx) pc (pc + 1) := by
  intro p l e R s m args below meth c Q nL D tys ad0 n0 k0 w0 F hty L st M f hs hc hw k
  obtain ⟨x, y, r, rfl, rfl⟩ := cj_bin_inv (show cj_bin _ _ _ _ _ = some f from hs)
  intro ad H locs cells slots ls hr
  exact lv_ior F.1 F.2.1 hd (k ad H locs cells slots ls (cj_Rl_st hr (cj_wc cj_wvi (cj_wt (cj_wt hr.2.2.1)))))
theorem ok_ixor (hd : decode cc pc = .ok (.ixor, 1)) : cj_Ok cc own nm fr lo (21, a, b, lx) pc (pc + 1) := by
  intro p l e R s m args below meth c Q nL D tys ad0 n0 k0 w0 F hty L st M f hs hc hw k
  obtain ⟨x, y, r, rfl, rfl⟩ := cj_bin_inv (show cj_bin _ _ _ _ _ = some f from hs)
  intro ad H locs cells slots ls hr
  exact lv_ixor F.1 F.2.1 hd (k ad H locs cells slots ls (cj_Rl_st hr (cj_wc cj_wvi (cj_wt (cj_wt hr.2.2.1)))))
theorem ok_idiv (hd : decode cc pc = .ok (.idiv, 1)) : cj_Ok cc own nm fr lo (13, a, b, lx) pc (pc + 1) := by
  intro p l e R s m args below meth c Q nL D tys ad0 n0 k0 w0 F hty L st M f hs hc hw k
  obtain ⟨x, y, r, hy, rfl, rfl⟩ := cj_dv_inv (show cj_dv _ _ _ _ _ = some f from hs)
  intro ad H locs cells slots ls hr
  exact lv_idiv F.1 F.2.1 hd hy (k ad H locs cells slots ls (cj_Rl_st hr (cj_wc cj_wvi (cj_wt (cj_wt hr.2.2.1)))))
theorem ok_irem (hd : decode cc pc = .ok (.irem, 1)) : cj_Ok cc own nm fr lo (14, a, b, lx) pc (pc + 1) := by
  intro p l e R s m args below meth c Q nL D tys ad0 n0 k0 w0 F hty L st M f hs hc hw k
  obtain ⟨x, y, r, hy, rfl, rfl⟩ := cj_dv_inv (show cj_dv _ _ _ _ _ = some f from hs)
  intro ad H locs cells slots ls hr
  exact lv_irem F.1 F.2.1 hd hy (k ad H locs cells slots ls (cj_Rl_st hr (cj_wc cj_wvi (cj_wt (cj_wt hr.2.2.1)))))
theorem ok_ineg (hd : decode cc pc = .ok (.ineg, 1)) : cj_Ok cc own nm fr lo (15, a, b, lx) pc (pc + 1) := by
  intro p l e R s m args below meth c Q nL D tys ad0 n0 k0 w0 F hty L st M f hs hc hw k
  obtain ⟨x, r, rfl, rfl⟩ := cj_una_inv (show cj_una _ _ _ _ _ = some f from hs)
  intro ad H locs cells slots ls hr
  exact lv_ineg F.1 F.2.1 hd (k ad H locs cells slots ls (cj_Rl_st hr (cj_wc cj_wvi (cj_wt hr.2.2.1))))
theorem ok_i2c (hd : decode cc pc = .ok (.i2c, 1)) : cj_Ok cc own nm fr lo (22, a, b, lx) pc (pc + 1) := by
  intro p l e R s m args below meth c Q nL D tys ad0 n0 k0 w0 F hty L st M f hs hc hw k
  obtain ⟨x, r, rfl, rfl⟩ := cj_una_inv (show cj_una _ _ _ _ _ = some f from hs)
  intro ad H locs cells slots ls hr
  exact lv_i2c F.1 F.2.1 hd rfl (k ad H locs cells slots ls (cj_Rl_st hr (cj_wc cj_wvi (cj_wt hr.2.2.1))))
theorem ok_i2l (hd : decode cc pc = .ok (.i2l, 1)) : cj_Ok cc own nm fr lo (23, a, b, lx) pc (pc + 1) := by
  intro p l e R s m args below meth c Q nL D tys ad0 n0 k0 w0 F hty L st M f hs hc hw k
  obtain ⟨x, r, rfl, rfl⟩ := cj_una_inv (show cj_una _ _ _ _ _ = some f from hs)
  intro ad H locs cells slots ls hr
  exact lv_i2l F.1 F.2.1 hd rfl (k ad H locs cells slots ls (cj_Rl_st hr (cj_wc cj_wvl (cj_wt hr.2.2.1))))
theorem ok_lcmp (hd : decode cc pc = .ok (.lcmp, 1)) : cj_Ok cc own nm fr lo (24, a, b, lx) pc (pc + 1) := by
  intro p l e R s m args below meth c Q nL D tys ad0 n0 k0 w0 F hty L st M f hs hc hw k
  obtain ⟨x, y, r, rfl, rfl⟩ := cj_lcm_inv (show cj_lcm _ _ _ _ = some f from hs)
  intro ad H locs cells slots ls hr
  exact W.lcmp F.1 F.2.1 hd (k ad H locs cells slots ls (cj_Rl_st hr (cj_wc cj_wvi (cj_wt (cj_wt hr.2.2.1)))))
theorem ok_goto {off : Int} (hd : decode cc pc = .ok (.goto off, 3)) (ht : (pc : Int) + off = (a : Int)) : cj_Ok cc own nm fr lo (30, a, b, lx) pc (pc + 3) := by
  intro p l e R s m args below meth c Q nL D tys ad0 n0 k0 w0 F hty L st M f hs hc hw k
  have hs : some (a, L, st, M) = some f := hs
  cases hs
  intro ad H locs cells slots ls hr
  exact lv_goto F.1 F.2.1 hd ht (k ad H locs cells slots ls hr)
theorem ok_if_eq {off : Int} (hd : decode cc pc = .ok (.ifCond .eq off, 3)) (ht : (pc : Int) + off = (a : Int)) : cj_Ok cc own nm fr lo (31, a, b, lx) pc (pc + 3) := by
  intro p l e R s m args below meth c Q nL D tys ad0 n0 k0 w0 F hty L st M f hs hc hw k
  obtain ⟨x, r, rfl, rfl⟩ := cj_j1_inv (show cj_j1 _ _ _ _ = some f from hs)
  intro ad H locs cells slots ls hr
  have hk := k ad H locs cells slots ls (cj_Rl_st hr (cj_wt hr.2.2.1))
  dsimp only at hk
  refine lv_if_eq F.1 F.2.1 hd ht (fun h => ?_) (fun h => ?_)
  · rw [if_pos h] at hk; exact hk
  · rw [if_neg h] at hk; exact hk
theorem ok_if_ne {off : Int} (hd : decode cc pc = .ok (.ifCond .ne off, 3)) (ht : (pc : Int) + off = (a : Int)) : cj_Ok cc own nm fr lo (32, a, b, lx) pc (pc + 3) := by
  intro p l e R s m args below meth c Q nL D tys ad0 n0 k0 w0 F hty L st M f hs hc hw k
  obtain ⟨x, r, rfl, rfl⟩ := cj_j1_inv (show cj_j1 _ _ _ _ = some f from hs)
  intro ad H locs cells slots ls hr
  have hk := k ad H locs cells slots ls (cj_Rl_st hr (cj_wt hr.2.2.1))
  dsimp only at hk
  refine lv_if_ne F.1 F.2.1 hd ht (fun h => ?_) (fun h => ?_)
  · rw [if_neg h] at hk; exact hk
  · rw [if_pos h] at hk; exact hk
theorem ok_if_lt {off : Int} (hd : decode cc pc = .ok (.ifCond .lt off, 3)) (ht : (pc : Int) + off = (a : Int)) : cj_Ok cc own nm fr lo (33, a, b, lx) pc (pc + 3) := by
  intro p l e R s m args below meth c Q nL D tys ad0 n0 k0 w0 F hty L st M f hs hc hw k
  obtain ⟨x, r, rfl, rfl⟩ := cj_j1_inv (show cj_j1 _ _ _ _ = some f from hs)
  intro ad H locs cells slots ls hr
  have hk := k ad H locs cells slots ls (cj_Rl_st hr (cj_wt hr.2.2.1))
  dsimp only at hk
  refine lv_if_lt F.1 F.2.1 hd ht (fun h => ?_) (fun h => ?_)
  · rw [if_pos h] at hk; exact hk
  · rw [if_neg h] at hk; exact hk
theorem ok_if_ge {off : Int} (hd : decode cc pc = .ok (.ifCond .ge off, 3)) (ht : (pc : Int) + off = (a : Int)) : cj_Ok cc own nm fr lo (34, a, b, lx) pc (pc + 3) := by
  intro p l e R s m args below meth c Q nL D tys ad0 n0 k0 w0 F hty L st M f hs hc hw k
  obtain ⟨x, r, rfl, rfl⟩ := cj_j1_inv (show cj_j1 _ _ _ _ = some f from hs)
  intro ad H locs cells slots ls hr
  have hk := k ad H locs cells slots ls (cj_Rl_st hr (cj_wt hr.2.2.1))
  dsimp only at hk
  refine lv_if_ge F.1 F.2.1 hd ht (fun h => ?_) (fun h => ?_)
  · rw [if_pos h] at hk; exact hk
  · rw [if_neg h] at hk; exact hk
theorem ok_if_gt {off : Int} (hd : decode cc pc = .ok (.ifCond .gt off, 3)) (ht : (pc : Int) + off = (a : Int)) : cj_Ok cc own nm fr lo (35, a, b, lx) pc (pc + 3) := by
  intro p l e R s m args below meth c Q nL D tys ad0 n0 k0 w0 F hty L st M f hs hc hw k
  obtain ⟨x, r, rfl, rfl⟩ := cj_j1_inv (show cj_j1 _ _ _ _ = some f from hs)
  intro ad H locs cells slots ls hr
  have hk := k ad H locs cells slots ls (cj_Rl_st hr (cj_wt hr.2.2.1))
  dsimp only at hk
  refine lv_if_gt F.1 F.2.1 hd ht (fun h => ?_) (fun h => ?_)
  · rw [if_pos h] at hk; exact hk
  · rw [if_neg h] at hk; exact hk
theorem ok_if_le {off : Int} (hd : decode cc pc = .ok (.ifCond .le off, 3)) (ht : (pc : Int) + off = (a : Int)) : cj_Ok cc own nm fr lo (36, a, b, lx) pc (pc + 3) := by
  intro p l e R s m args below meth c Q nL D tys ad0 n0 k0 w0 F hty L st M f hs hc hw k
  obtain ⟨x, r, rfl, rfl⟩ := cj_j1_inv (show cj_j1 _ _ _ _ = some f from hs)
  intro ad H locs cells slots ls hr
  have hk := k ad H locs cells slots ls (cj_Rl_st hr (cj_wt hr.2.2.1))
  dsimp only at hk
  refine lv_if_le F.1 F.2.1 hd ht (fun h => ?_) (fun h => ?_)
  · rw [if_pos h] at hk; exact hk
  · rw [if_neg h] at hk; exact hk
theorem ok_icmp_eq {off : Int} (hd : decode cc pc = .ok (.if_icmp .eq off, 3)) (ht : (pc : Int) + off = (a : Int)) : cj_Ok cc own nm fr lo (37, a, b, lx) pc (pc + 3) := by
  intro p l e R s m args below meth c Q nL D tys ad0 n0 k0 w0 F hty L st M f hs hc hw k
  obtain ⟨x, y, r, rfl, rfl⟩ := cj_j2_inv (show cj_j2 _ _ _ _ = some f from hs)
  intro ad H locs cells slots ls hr
  have hk := k ad H locs cells slots ls (cj_Rl_st hr (cj_wt (cj_wt hr.2.2.1)))
  dsimp only at hk
  refine lv_icmp_eq F.1 F.2.1 hd ht (fun h => ?_) (fun h => ?_)
  · rw [if_pos h] at hk; exact hk
  · rw [if_neg h] at hk; exact hk
theorem ok_icmp_ne {off : Int} (hd : decode cc pc = .ok (.if_icmp .ne off, 3)) (ht : (pc : Int) + off = (a : Int)) : cj_Ok cc own nm fr lo (38, a, b, lx) pc (pc + 3) := by
  intro p l e R s m args below meth c Q nL D tys ad0 n0 k0 w0 F hty L st M f hs hc hw k
  obtain ⟨x, y, r, rfl, rfl⟩ := cj_j2_inv (show cj_j2 _ _ _ _ = some f from hs)
  intro ad H locs cells slots ls hr
  have hk := k ad H locs cells slots ls (cj_Rl_st hr (cj_wt (cj_wt hr.2.2.1)))
  dsimp only at hk
  refine lv_icmp_ne F.1 F.2.1 hd ht (fun h => ?_) (fun h => ?_)
  · rw [if_neg h] at hk; exact hk
  · rw [if_pos h] at hk; exact hk
theorem ok_icmp_lt {off : Int} (hd : decode cc pc = .ok (.if_icmp .lt off, 3)) (ht : (pc : Int) + off = (a : Int)) : cj_Ok cc own nm fr lo (39, a, b, lx) pc (pc + 3) := by
  intro p l e R s m args below meth c Q nL D tys ad0 n0 k0 w0 F hty L st M f hs hc hw k
  obtain ⟨x, y, r, rfl, rfl⟩ := cj_j2_inv (show cj_j2 _ _ _ _ = some f from hs)
  intro ad H locs cells slots ls hr
  have hk := k ad H locs cells slots ls (cj_Rl_st hr (cj_wt (cj_wt hr.2.2.1)))
  dsimp only at hk
  refine lv_icmp_lt F.1 F.2.1 hd ht (fun h => ?_) (fun h => ?_)
  · rw [if_pos h] at hk; exact hk
  · rw [if_neg h] at hk; exact hk
theorem ok_icmp_ge {off : Int} (hd : decode cc pc = .ok (.if_icmp .ge off, 3)) (ht : (pc : Int) + off = (a : Int)) : cj_Ok cc own nm fr lo (40, a, b, lx) pc (pc + 3) := by
  intro p l e R s m args below meth c Q nL D tys ad0 n0 k0 w0 F hty L st M f hs hc hw k
  obtain ⟨x, y, r, rfl, rfl⟩ := cj_j2_inv (show cj_j2 _ _ _ _ = some f from hs)
  intro ad H locs cells slots ls hr
  have hk := k ad H locs cells slots ls (cj_Rl_st hr (cj_wt (cj_wt hr.2.2.1)))
  dsimp only at hk
  refine lv_icmp_ge F.1 F.2.1 hd ht (fun h => ?_) (fun h => ?_)
  · rw [if_pos h] at hk; exact hk
  · rw [if_neg h] at hk; exact hk
theorem ok_icmp_gt {off : Int} (hd : decode cc pc = .ok (.if_icmp .gt off, 3)) (ht : (pc : Int) + off = (a : Int)) : cj_Ok cc own nm fr lo (41, a, b, lx) pc (pc + 3) := by
  intro p l e R s m args below meth c Q nL D tys ad0 n0 k0 w0 F hty L st M f hs hc hw k
  obtain ⟨x, y, r, rfl, rfl⟩ := cj_j2_inv (show cj_j2 _ _ _ _ = some f from hs)
  intro ad H locs cells slots ls hr
  have hk := k ad H locs cells slots ls (cj_Rl_st hr (cj_wt (cj_wt hr.2.2.1)))
  dsimp only at hk
  refine lv_icmp_gt F.1 F.2.1 hd ht (fun h => ?_) (fun h => ?_)
  · rw [if_pos h] at hk; exact hk
  · rw [if_neg h] at hk; exact hk
theorem ok_icmp_le {off : Int} (hd : decode cc pc = .ok (.if_icmp .le off, 3)) (ht : (pc : Int) + off = (a : Int)) : cj_Ok cc own nm fr lo (42, a, b, lx) pc (pc + 3) := by
  intro p l e R s m args below meth c Q nL D tys ad0 n0 k0 w0 F hty L st M f hs hc hw k
  obtain ⟨x, y, r, rfl, rfl⟩ := cj_j2_inv (show cj_j2 _ _ _ _ = some f from hs)
  intro ad H locs cells slots ls hr
  have hk := k ad H locs cells slots ls (cj_Rl_st hr (cj_wt (cj_wt hr.2.2.1)))
  dsimp only at hk
  refine lv_icmp_le F.1 F.2.1 hd ht (fun h => ?_) (fun h => ?_)
  · rw [if_pos h] at hk; exact hk
  · rw [if_neg h] at hk; exact hk
theorem ok_dup (hd : decode cc pc = .ok (.dup, 1)) : cj_Ok cc own nm fr lo (25, a, b, lx) pc (pc + 1) := by
  intro p l e R s m args below meth c Q nL D tys ad0 n0 k0 w0 F hty L st M f hs hc hw k
  have hs : cj_dup (pc + 1) L st M = some f := hs
  unfold cj_dup at hs
  split at hs
  · rename_i v r
    split at hs
    · rename_i hv
      cases hs
      intro ad H locs cells slots ls hr
      exact lv_dup F.1 F.2.1 hd (by rw [cj_mv_cat]; exact cj_c1_cat hv) (k ad H locs cells slots ls (cj_Rl_st hr (cj_wc (cj_wh hr.2.2.1) hr.2.2.1)))
    · cases hs
  · cases hs
theorem ok_pop (hd : decode cc pc = .ok (.pop, 1)) : cj_Ok cc own nm fr lo (26, a, b, lx) pc (pc + 1) := by
  intro p l e R s m args below meth c Q nL D tys ad0 n0 k0 w0 F hty L st M f hs hc hw k
  have hs : cj_pop (pc + 1) L st M = some f := hs
  unfold cj_pop at hs
  split at hs
  · rename_i v r
    split at hs
    · rename_i hv
      cases hs
      intro ad H locs cells slots ls hr
      exact lv_pop F.1 F.2.1 hd (by rw [cj_mv_cat]; exact cj_c1_cat hv) (k ad H locs cells slots ls (cj_Rl_st hr (cj_wt hr.2.2.1)))
    · cases hs
  · cases hs
theorem ok_dup_x1 (hd : decode cc pc = .ok (.dup_x1, 1)) : cj_Ok cc own nm fr lo (27, a, b, lx) pc (pc + 1) := by
  intro p l e R s m args below meth c Q nL D tys ad0 n0 k0 w0 F hty L st M f hs hc hw k
  have hs : cj_dx1 (pc + 1) L st M = some f := hs
  unfold cj_dx1 at hs
  split at hs
  · rename_i v w r
    split at hs
    · rename_i hv
      cases hs
      intro ad H locs cells slots ls hr
      exact lv_dup_x1 F.1 F.2.1 hd (by rw [cj_mv_cat]; exact cj_c1_cat hv.1) (by rw [cj_mv_cat]; exact cj_c1_cat hv.2) (k ad H locs cells slots ls (cj_Rl_st hr (cj_wc (cj_wh hr.2.2.1) (cj_wc (cj_wh (cj_wt hr.2.2.1)) (cj_wc (cj_wh hr.2.2.1) (cj_wt (cj_wt hr.2.2.1)))))))
    · cases hs
  · cases hs
theorem ok_dup2 (hd : decode cc pc = .ok (.dup2, 1)) : cj_Ok cc own nm fr lo (28, a, b, lx) pc (pc + 1) := by
  intro p l e R s m args below meth c Q nL D tys ad0 n0 k0 w0 F hty L st M f hs hc hw k
  have hs : cj_du2 (pc + 1) L st M = some f := hs
  unfold cj_du2 at hs
  split at hs
  · rename_i v w r
    split at hs
    · rename_i hv
      cases hs
      intro ad H locs cells slots ls hr
      exact lv_dup2_11 F.1 F.2.1 hd (by rw [cj_mv_cat]; exact cj_c1_cat hv.1) (by rw [cj_mv_cat]; exact cj_c1_cat hv.2) (k ad H locs cells slots ls (cj_Rl_st hr (cj_wc (cj_wh hr.2.2.1) (cj_wc (cj_wh (cj_wt hr.2.2.1)) hr.2.2.1))))
    · cases hs
  · cases hs
theorem ok_dup_x2 (hd : decode cc pc = .ok (.dup_x2, 1)) : cj_Ok cc own nm fr lo (29, a, b, lx) pc (pc + 1) := by
  intro p l e R s m args below meth c Q nL D tys ad0 n0 k0 w0 F hty L st M f hs hc hw k
  have hs : cj_dx2 (pc + 1) L st M = some f := hs
  unfold cj_dx2 at hs
  split at hs
  · rename_i v w u r
    split at hs
    · rename_i hv
      cases hs
      intro ad H locs cells slots ls hr
      exact lv_dup_x2 F.1 F.2.1 hd (by rw [cj_mv_cat]; exact cj_c1_cat hv.1) (by rw [cj_mv_cat]; exact cj_c1_cat hv.2.1) (by rw [cj_mv_cat]; exact cj_c1_cat hv.2.2) (k ad H locs cells slots ls (cj_Rl_st hr (cj_wc (cj_wh hr.2.2.1) (cj_wc (cj_wh (cj_wt hr.2.2.1)) (cj_wc (cj_wh (cj_wt (cj_wt hr.2.2.1))) (cj_wc (cj_wh hr.2.2.1) (cj_wt (cj_wt (cj_wt hr.2.2.1)))))))))
    · cases hs
  · cases hs
theorem ok_ifnull {off : Int} (hd : decode cc pc = .ok (.ifnull off, 3)) (ht : (pc : Int) + off = (a : Int)) : cj_Ok cc own nm fr lo (43, a, b, lx) pc (pc + 3) := by
  intro p l e R s m args below meth c Q nL D tys ad0 n0 k0 w0 F hty L st M f hs hc hw k
  have hs : cj_jn a (pc + 3) L st M = some f := hs
  unfold cj_jn at hs
  split at hs
  · cases hs
    intro ad H locs cells slots ls hr
    exact lv_ifnullN F.1 F.2.1 hd ht (k ad H locs cells slots ls (cj_Rl_st hr (cj_wt hr.2.2.1)))
  · cases hs
    intro ad H locs cells slots ls hr
    exact lv_ifnull F.1 F.2.1 hd (k ad H locs cells slots ls (cj_Rl_st hr (cj_wt hr.2.2.1)))
  · cases hs
theorem ok_ifnonnull {off : Int} (hd : decode cc pc = .ok (.ifnonnull off, 3)) (ht : (pc : Int) + off = (a : Int)) : cj_Ok cc own nm fr lo (44, a, b, lx) pc (pc + 3) := by
  intro p l e R s m args below meth c Q nL D tys ad0 n0 k0 w0 F hty L st M f hs hc hw k
  have hs : cj_jn (pc + 3) a L st M = some f := hs
  unfold cj_jn at hs
  split at hs
  · cases hs
    intro ad H locs cells slots ls hr
    exact lv_ifnonnullN F.1 F.2.1 hd (k ad H locs cells slots ls (cj_Rl_st hr (cj_wt hr.2.2.1)))
  · cases hs
    intro ad H locs cells slots ls hr
    exact lv_ifnonnull F.1 F.2.1 hd ht (k ad H locs cells slots ls (cj_Rl_st hr (cj_wt hr.2.2.1)))
  · cases hs
/-- a table of offs: each jump's target is as the list says -/
theorem ok_tableswitch {dflt lo9 hi : Int} {offs : Array Int} {len : Nat} (hd : decode cc pc = .ok (.tableswitch dflt lo9 hi offs, len)) (hlo : lo9 = (a : Int)) (hhi : hi = (a : Int) + (lx.length : Int) - 1) (hdf : (pc : Int) + dflt = (b : Int)) (hof : offs.toList.map (fun o => (pc : Int) + o) = lx.map (fun t : Nat => (t : Int))) : cj_Ok cc own nm fr lo (45, a, b, lx) pc (pc + len) := by
  intro p l e R s m args below meth c Q nL D tys ad0 n0 k0 w0 F hty L st M f hs hc hw k
  obtain ⟨x, r, rfl, rfl⟩ := cj_j1_inv (show cj_j1 _ _ _ _ = some f from hs)
  intro ad H locs cells slots ls hr
  have hk := k ad H locs cells slots ls (cj_Rl_st hr (cj_wt hr.2.2.1))
  subst hlo
  by_cases h1 : x.toInt < (a : Int)
  · have e : cj_sw x a b lx = b := by unfold cj_sw; rw [if_pos h1]
    rw [show (cj_sw x (45, a, b, lx).2.1 (45, a, b, lx).2.2.1 (45, a, b, lx).2.2.2) = b from e] at hk
    exact lv_tableOut F.1 F.2.1 hd (Or.inl h1) hdf hk
  · by_cases h2 : hi < x.toInt
    · have e : cj_sw x a b lx = b := by
        unfold cj_sw
        rw [if_neg h1, List.getD_eq_getElem?_getD, List.getElem?_eq_none (by omega)]
        rfl
      rw [show (cj_sw x (45, a, b, lx).2.1 (45, a, b, lx).2.2.1 (45, a, b, lx).2.2.2) = b from e] at hk
      exact lv_tableOut F.1 F.2.1 hd (Or.inr h2) hdf hk
    · have hlt : (x.toInt - (a : Int)).toNat < lx.length := by omega
      have e : cj_sw x a b lx = lx[(x.toInt - (a : Int)).toNat] := by
        unfold cj_sw
        rw [if_neg h1, List.getD_eq_getElem?_getD, List.getElem?_eq_getElem hlt]
        rfl
      rw [show (cj_sw x (45, a, b, lx).2.1 (45, a, b, lx).2.2.1 (45, a, b, lx).2.2.2) = _ from e] at hk
      have hz := congrArg (fun q => q[(x.toInt - (a : Int)).toNat]?) hof
      simp only [List.getElem?_map, List.getElem?_eq_getElem hlt, Option.map_some] at hz
      cases ho : offs.toList[(x.toInt - (a : Int)).toNat]? with
      | none => rw [ho] at hz; cases hz
      | some o =>
        rw [ho] at hz
        have hz : (pc : Int) + o = ((lx[(x.toInt - (a : Int)).toNat] : Nat) : Int) := Option.some.inj hz
        refine lv_tableIn F.1 F.2.1 hd h1 h2 (off := o) ?_ hz hk
        rw [← Array.getElem?_toList]
        exact ho
end CJS
