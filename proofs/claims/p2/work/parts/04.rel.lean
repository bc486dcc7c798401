/-! the small machine's cells and the real heap -/
/-- the words that a callee gets: they speak of the tables alone -/
def cj_kw (w : Cond) : Bool := goodWord w || (match w with
  | .methodLinkNest .. => true
  | .arrayOver (.object _) => true
  | .declares _ => true
  | .castable .. => true
  | .stringRef .. => true
  | _ => false)
def lw_kw : List Cond := lw_tbl.filter cj_kw
theorem cj_kwm {w : Cond} (h : w ∈ lw_tbl) (hk : cj_kw w = true) : w ∈ lw_kw := List.mem_filter.mpr ⟨h, hk⟩
theorem cj_kww {w : Cond} (h : w ∈ lw_kw) {args a' : Array Value} {s U : State} (hW : s.WarmedH U.vm) (hb : w.before args s = true) : w.before a' U = true := by
  obtain ⟨-, hk⟩ := List.mem_filter.mp h
  unfold cj_kw at hk
  rw [Bool.or_eq_true] at hk
  rcases hk with hk | hk
  · exact word_at hW (good_of_word hk) hb
  · split at hk
    · exact va_Nw.use rfl (va_Nw.warmM hW (va_Nw.of rfl hb))
    · exact va_AO.use (va_AO.moved hW.alike (va_AO.of hb))
    · exact va_Nw.use rfl (va_Nw.warmD hW (va_Nw.of rfl hb))
    · exact va_Nw.use rfl (va_Nw.warmC hW (va_Nw.of rfl hb))
    · have h1 := Cond.stringRef_warmed hW hb
      simp only [Cond.before, Cond.holds, Cond.value, State.names, State.poolOf?, State.resolvedAt?, State.vm_setVm] at h1 ⊢
      exact h1
    · cases hk
/-- a static field that holds a reference or null -/
def cj_z (O n d : String) (U : State) (H : Heap) : Prop := ∃ (c : ClassId) (k : Class) (i : Nat) (f : Field) (a : Nat) (cell : Cell) (v : Value), U.vm.findClass O = some c ∧ U.fieldFound? O n d = some (c, k, i, f) ∧ f.isStatic = true ∧ k.statics = some a ∧ k.staticTypes[f.slot]? = some f.type ∧ H[a]? = some cell ∧ cell.vm.isStatics = true ∧ cell.cls = c ∧ f.slot < cell.slots.size ∧ cell.slots[f.slot]? = some v ∧ (v = .null ∨ ∃ x, v = .ref x)
theorem cj_z_move {O n d : String} {U V : State} {H : Heap} (hvm : U.vm.Alike V.vm) (h : cj_z O n d U H) : cj_z O n d V H := by
  obtain ⟨c, k, i, f, a, cell, v, h0, h1, h2, h3, h4, h5⟩ := h
  obtain ⟨k', hi', he⟩ := State.fieldFound?_setVm hvm h1
  exact ⟨c, k', i, f, a, cell, v, by rw [hvm.findClass]; exact h0, hi', h2, by rw [he]; exact h3, by rw [he]; exact h4, h5⟩
theorem cj_z_keep {O n d : String} {U : State} {H H' : Heap} (hk : ∀ (q : Nat) (cell : Cell), H[q]? = some cell → cell.vm.isStatics = true → H'[q]? = some cell) (h : cj_z O n d U H) : cj_z O n d U H' := by
  obtain ⟨c, k, i, f, a, cell, v, h0, h1, h2, h3, h4, h5, h6, h7⟩ := h
  exact ⟨c, k, i, f, a, cell, v, h0, h1, h2, h3, h4, hk a cell h5 h6, h6, h7⟩
theorem cj_z_of {O n d : String} {args : Array Value} {U : State} (hl : (Cond.laysStatic O n d).before args U = true) (hr : (Cond.isRef (.static O n d)).before args U = true) : cj_z O n d U U.heap := by
  obtain ⟨c, k, i, f, a, cell, hc, hi, hst, ha, hcell, hs, hcls, hlt, hty⟩ := Cond.laysStatic_spec hl
  cases hv : (Term.static O n d).eval args U none [] U with
  | none => simp [Cond.before, Cond.holds, Cond.value, hv] at hr
  | some w =>
    obtain ⟨hst', a', cell', ha', hcell', -, hslot⟩ := Term.static_spec hi hv
    cases ha.symm.trans ha'
    cases hcell.symm.trans hcell'
    refine ⟨c, k, i, f, a, cell, w, hc, hi, hst, ha, hty, hcell, hs, hcls, hlt, hslot, ?_⟩
    simp only [Cond.before, Cond.holds, Cond.value, hv] at hr
    cases w <;> simp_all
theorem cj_z_lays {O n d : String} {args : Array Value} {U : State} (h : cj_z O n d U U.heap) : (Cond.laysStatic O n d).before args U = true := by
  obtain ⟨c, k, i, f, a, cell, v, h0, h1, h2, h3, h4, h5, h6, h7, h8, h9, h10⟩ := h
  simp [Cond.before, Cond.holds, Cond.value, h0, h1, h2, h3, h4, h5, h6, h7, h8]
theorem cj_z_ref {O n d : String} {args : Array Value} {U : State} (h : cj_z O n d U U.heap) : (Cond.isRef (.static O n d)).before args U = true := by
  obtain ⟨c, k, i, f, a, cell, v, h0, h1, h2, h3, h4, h5, h6, h7, h8, h9, h10⟩ := h
  have hv : (Term.static O n d).eval args U none [] U = some v := Term.static_eval h1 h2 h3 h5 h6 h9
  simp only [Cond.before, Cond.holds, Cond.value, hv]
  rcases h10 with rfl | ⟨x, rfl⟩ <;> simp
/-- what holds of the JDK's own: two statics, and of the exceptions that none is another -/
def cj_Sx (U : State) (H : Heap) : Prop := cj_z "java/lang/Throwable" "UNASSIGNED_STACK" "[Ljava/lang/StackTraceElement;" U H ∧ cj_z "java/lang/Throwable" "SUPPRESSED_SENTINEL" "Ljava/util/List;" U H ∧ ∀ i j : Nat, i < 3 → j < 3 → i ≠ j → va_Nc (kex_ i) (kex_ j) U
theorem cj_Sx_move {U V : State} {H : Heap} (hvm : U.vm.Alike V.vm) (h : cj_Sx U H) : cj_Sx V H := ⟨cj_z_move hvm h.1, cj_z_move hvm h.2.1, fun i j hi hj hn => (h.2.2 i j hi hj hn).moved hvm⟩
theorem cj_Sx_keep {U : State} {H H' : Heap} (hk : ∀ (q : Nat) (cell : Cell), H[q]? = some cell → cell.vm.isStatics = true → H'[q]? = some cell) (h : cj_Sx U H) : cj_Sx U H' := ⟨cj_z_keep hk h.1, cj_z_keep hk h.2.1, h.2.2⟩
abbrev cj_T : Type := List (ClassId × FieldType)
def cj_mv (ad : Nat → Nat) (v : Value) : Value := match v with
  | .ref a => .ref (ad a)
  | v => v
/-- a value's reference lies under n -/
def cj_wv (n : Nat) (v : Value) : Prop := match v with
  | .ref a => a < n
  | _ => True
def cj_wx (n k : Nat) (x : cj_A) : Prop := match x with
  | .inr (.inr f) => ∀ j, j < k → ∀ o, f j = some o → o < n
  | _ => True
def cj_va (ad : Nat → Nat) (x : cj_A) (j : Nat) : Value := cj_mv ad (cj_el x j)
def cj_ar (U : State) (tys : cj_T) (ad : Nat → Nat) (n0 a t n : Nat) (x : cj_A) (H : Heap) : Prop :=
  ∃ (cell : Cell) (q : ClassId × FieldType), H[a]? = some cell ∧ tys[t]? = some q ∧ U.isArrayOf cell q.2 ∧ cell.vm ≠ .unknown ∧ cell.slots.size = n ∧ (∀ j, j < n → cell.slots[j]? = some (cj_va ad x j)) ∧ (q.2.isReference = true → cell.cls = q.1) ∧ cj_wx n0 n x
def cj_ob (D : va_G) (ad : Nat → Nat) (n0 a ci : Nat) (fs : List Value) (H : Heap) : Prop :=
  ∃ r : vw_C, kcl_[ci]? = some r ∧ fs.length = r.2.2 ∧ t_OB a (D.1 ci) r.2.2 (D.2 ci) H (fun k => cj_mv ad (fs.getD k .null)) ∧ ∀ v ∈ fs, cj_wv n0 v
def cj_at (U : State) (D : va_G) (tys : cj_T) (ad : Nat → Nat) (n0 a : Nat) (c : cj_C) (H : Heap) : Prop := match c with
  | .inl (t, n, x) => cj_ar U tys ad n0 a t n x H
  | .inr (ci, fs) => cj_ob D ad n0 a ci fs H
def cj_R (U : State) (D : va_G) (tys : cj_T) (ad : Nat → Nat) (M : cj_M) (H : Heap) : Prop :=
  (∀ o c, M.1 o = some c → o < M.2.1 ∧ cj_at U D tys ad M.2.1 (ad o) c H) ∧ (∀ o o', o < M.2.1 → o' < M.2.1 → ad o = ad o' → o = o') ∧ (∀ o, o < M.2.1 → ad o < H.size) ∧ cj_Sx U H
theorem cj_mv_up {ad : Nat → Nat} {n h : Nat} {v : Value} (hv : cj_wv n v) : cj_mv (cj_up ad n h) v = cj_mv ad v := by
  cases v with
  | ref a =>
    have : a < n := hv
    simp only [cj_mv]
    rw [cj_up_n ad h (Nat.ne_of_lt this)]
  | _ => rfl
theorem cj_mv_eq {ad ad' : Nat → Nat} {n : Nat} {v : Value} (h : ∀ o, o < n → ad' o = ad o) (hv : cj_wv n v) : cj_mv ad' v = cj_mv ad v := by
  cases v with
  | ref a =>
    have : a < n := hv
    simp only [cj_mv]
    rw [h a this]
  | _ => rfl
theorem cj_wv_mono {n n' : Nat} {v : Value} (h : n ≤ n') (hv : cj_wv n v) : cj_wv n' v := by
  cases v with
  | ref a => exact Nat.lt_of_lt_of_le hv h
  | _ => trivial
theorem cj_wx_mono {n n' k : Nat} {x : cj_A} (h : n ≤ n') (hv : cj_wx n k x) : cj_wx n' k x := by
  rcases x with f | f | f
  · trivial
  · trivial
  · exact fun j hj o ho => Nat.lt_of_lt_of_le (hv j hj o ho) h
theorem cj_el_wv {n k : Nat} {x : cj_A} (hx : cj_wx n k x) {j : Nat} (hj : j < k) : cj_wv n (cj_el x j) := by
  rcases x with f | f | f
  · trivial
  · trivial
  · show cj_wv n (cj_rf (f j))
    cases hf : f j with
    | none => trivial
    | some o => exact hx j hj o hf
theorem cj_va_eq {ad ad' : Nat → Nat} {n k : Nat} {x : cj_A} (h : ∀ o, o < n → ad' o = ad o) (hx : cj_wx n k x) {j : Nat} (hj : j < k) : cj_va ad' x j = cj_va ad x j := cj_mv_eq h (cj_el_wv hx hj)
/-- a cell seen through another assignment, in another heap, by another state -/
theorem cj_at_mono {U V : State} {D : va_G} {tys : cj_T} {ad ad' : Nat → Nat} {n n' a : Nat} {c : cj_C} {H H' : Heap} (hvm : U.vm.Alike V.vm) (hn : n ≤ n') (h : ∀ o, o < n → ad' o = ad o) (hH : H'[a]? = H[a]?) (hc : cj_at U D tys ad n a c H) : cj_at V D tys ad' n' a c H' := by
  rcases c with ⟨t, k, x⟩ | ⟨ci, fs⟩
  · obtain ⟨cell, q, h1, h2, h3, h4, h5, h6, h7, h8⟩ := hc
    exact ⟨cell, q, by rw [hH]; exact h1, h2, State.isArrayOf_alike hvm h3, h4, h5, fun j hj => by rw [cj_va_eq h h8 hj]; exact h6 j hj, h7, cj_wx_mono hn h8⟩
  · obtain ⟨r, h1, h2, h3, h4⟩ := hc
    refine ⟨r, h1, h2, (h3.kept hH).to (fun k hk => ?_), fun v hv => cj_wv_mono hn (h4 v hv)⟩
    refine (cj_mv_eq h ?_).symm
    rw [List.getD_eq_getElem?_getD, List.getElem?_eq_getElem (by omega)]
    exact h4 _ (List.getElem_mem _)
theorem cj_R_move {U V : State} {D : va_G} {tys : cj_T} {ad : Nat → Nat} {M : cj_M} {H : Heap} (hvm : U.vm.Alike V.vm) (h : cj_R U D tys ad M H) : cj_R V D tys ad M H :=
  ⟨fun o c ho => ⟨(h.1 o c ho).1, cj_at_mono hvm (Nat.le_refl _) (fun _ _ => rfl) rfl (h.1 o c ho).2⟩, h.2.1, h.2.2.1, cj_Sx_move hvm h.2.2.2⟩
/-- a heap that has the old cells -/
theorem cj_R_keep {U : State} {D : va_G} {tys : cj_T} {ad : Nat → Nat} {M : cj_M} {H H' : Heap} (hz : H.size ≤ H'.size) (hk : ∀ q, q < H.size → H'[q]? = H[q]?) (h : cj_R U D tys ad M H) : cj_R U D tys ad M H' :=
  ⟨fun o c ho => ⟨(h.1 o c ho).1, cj_at_mono (Vm.Alike.refl _) (Nat.le_refl _) (fun _ _ => rfl) (hk _ (h.2.2.1 o (h.1 o c ho).1)) (h.1 o c ho).2⟩, h.2.1, fun o ho => Nat.lt_of_lt_of_le (h.2.2.1 o ho) hz, cj_Sx_keep (fun q cell hq _ => by rw [hk q (Array.getElem?_eq_some_iff.mp hq).1]; exact hq) h.2.2.2⟩
/-- a cell of the small machine is none of statics -/
theorem cj_at_ns {U : State} {D : va_G} {tys : cj_T} {ad : Nat → Nat} {n a : Nat} {c : cj_C} {H : Heap} (hc : cj_at U D tys ad n a c H) : ∃ cell, H[a]? = some cell ∧ cell.vm.isStatics = false := by
  rcases c with ⟨t, k, x⟩ | ⟨ci, fs⟩
  · obtain ⟨cell, q, h1, h2, h3, h4, h5, h6, h7, h8⟩ := hc
    refine ⟨cell, h1, ?_⟩
    have h9 := h3.1
    cases hv : cell.vm with
    | statics z => exact absurd hv (h9 z)
    | _ => rfl
  · obtain ⟨r, h1, h2, ⟨cell, g1, g2, g3, g4⟩, h4⟩ := hc
    exact ⟨cell, g1, by rw [g3]; rfl⟩
/-- one cell is written -/
theorem cj_R_set {U : State} {D : va_G} {tys : cj_T} {ad : Nat → Nat} {M : cj_M} {H H' : Heap} {o : Nat} {c0 c : cj_C} (h : cj_R U D tys ad M H) (ho : M.1 o = some c0) (hz : H'.size = H.size) (hk : ∀ q, q ≠ ad o → H'[q]? = H[q]?) (hc : cj_at U D tys ad M.2.1 (ad o) c H') : cj_R U D tys ad (cj_set M o c) H' := by
  have hlt := (h.1 o c0 ho).1
  refine ⟨fun o' c' ho' => ?_, h.2.1, fun o' ho' => by rw [hz]; exact h.2.2.1 o' ho', cj_Sx_keep (fun q cell hq hs => ?_) h.2.2.2⟩
  rotate_left
  · rw [hk q (fun e => ?_)]
    · exact hq
    · obtain ⟨cell', g1, g2⟩ := cj_at_ns (h.1 o c0 ho).2
      rw [e, g1] at hq
      cases hq
      rw [g2] at hs
      cases hs
  by_cases e : o' = o
  · subst e
    have e2 : some c = some c' := by
      have h9 : cj_up M.1 o' (some c) o' = some c' := ho'
      rw [cj_up_s] at h9
      exact h9
    cases e2
    exact ⟨hlt, hc⟩
  · have h9 : cj_up M.1 o (some c) o' = some c' := ho'
    rw [cj_up_n _ _ e] at h9
    obtain ⟨a1, a2⟩ := h.1 o' c' h9
    exact ⟨a1, cj_at_mono (Vm.Alike.refl _) (Nat.le_refl _) (fun _ _ => rfl) (hk _ (fun q => e (h.2.1 o' o a1 hlt q))) a2⟩
/-- one cell is made -/
theorem cj_R_new {U : State} {D : va_G} {tys : cj_T} {ad : Nat → Nat} {M : cj_M} {H H' : Heap} {c : cj_C} {w : Nat} (h : cj_R U D tys ad M H) (hz : H'.size = H.size + 1) (hk : ∀ q, q < H.size → H'[q]? = H[q]?) (hc : cj_at U D tys (cj_up ad M.2.1 H.size) (M.2.1 + 1) H.size c H') : cj_R U D tys (cj_up ad M.2.1 H.size) (cj_new M c w) H' := by
  have hag : ∀ o, o < M.2.1 → cj_up ad M.2.1 H.size o = ad o := fun o ho => cj_up_n _ _ (Nat.ne_of_lt ho)
  refine ⟨fun o' c' ho' => ?_, fun o o' ho ho' e => ?_, fun o ho => ?_, cj_Sx_keep (fun q cell hq _ => by rw [hk q (Array.getElem?_eq_some_iff.mp hq).1]; exact hq) h.2.2.2⟩
  · have h9 : cj_up M.1 M.2.1 (some c) o' = some c' := ho'
    show o' < M.2.1 + 1 ∧ cj_at U D tys (cj_up ad M.2.1 H.size) (M.2.1 + 1) (cj_up ad M.2.1 H.size o') c' H'
    by_cases e : o' = M.2.1
    · subst e
      rw [cj_up_s] at h9 ⊢
      cases h9
      exact ⟨Nat.lt_succ_self _, hc⟩
    · rw [cj_up_n _ _ e] at h9
      obtain ⟨a1, a2⟩ := h.1 o' c' h9
      rw [hag o' a1]
      exact ⟨Nat.lt_succ_of_lt a1, cj_at_mono (Vm.Alike.refl _) (Nat.le_succ _) hag (hk _ (h.2.2.1 o' a1)) a2⟩
  · have ho : o < M.2.1 + 1 := ho
    have ho' : o' < M.2.1 + 1 := ho'
    by_cases e1 : o = M.2.1
    · by_cases e2 : o' = M.2.1
      · rw [e1, e2]
      · have hl : o' < M.2.1 := by omega
        rw [e1, cj_up_s, hag o' hl] at e
        have := h.2.2.1 o' hl
        omega
    · have hl : o < M.2.1 := by omega
      by_cases e2 : o' = M.2.1
      · rw [e2, cj_up_s, hag o hl] at e
        have := h.2.2.1 o hl
        omega
      · have hl' : o' < M.2.1 := by omega
        rw [hag o hl, hag o' hl'] at e
        exact h.2.1 o o' hl hl' e
  · have ho : o < M.2.1 + 1 := ho
    by_cases e1 : o = M.2.1
    · rw [e1, cj_up_s]; omega
    · have hl : o < M.2.1 := by omega
      rw [hag o hl]
      have := h.2.2.1 o hl
      omega
/-- the locals -/
def cj_L (ad : Nat → Nat) (n nL : Nat) (ls : Array Slot) (L : List Value) : Prop :=
  ls.size = nL ∧ L.length = nL ∧ lv_wf ls ∧ (∀ (i : Nat) (v : Value), L[i]? = some v → v.category = 1 ∧ cj_wv n v ∧ ((∀ k, v ≠ .retAddr k) → ls[i]? = some (.val (cj_mv ad v))))
theorem cj_L_mono {ad ad' : Nat → Nat} {n n' nL : Nat} {ls : Array Slot} {L : List Value} (h : cj_L ad n nL ls L) (hn : n ≤ n') (ha : ∀ o, o < n → ad' o = ad o) : cj_L ad' n' nL ls L :=
  ⟨h.1, h.2.1, h.2.2.1, fun i v hv => by
    obtain ⟨a1, a2, a3⟩ := h.2.2.2 i v hv
    exact ⟨a1, cj_wv_mono hn a2, fun hr => by rw [cj_mv_eq ha a2]; exact a3 hr⟩⟩
theorem cj_mv_cat {ad : Nat → Nat} {v : Value} : (cj_mv ad v).category = v.category := by
  cases v <;> rfl
def cj_prs (ad : Nat → Nat) : Nat → List Value → List (Nat × Value)
  | _, [] => []
  | i, .retAddr _ :: L => cj_prs ad (i + 1) L
  | i, v :: L => (i, cj_mv ad v) :: cj_prs ad (i + 1) L
theorem cj_prs_cons {ad : Nat → Nat} {i : Nat} {v : Value} {L : List Value} (h : ∀ k, v ≠ .retAddr k) : cj_prs ad i (v :: L) = (i, cj_mv ad v) :: cj_prs ad (i + 1) L := by
  cases v with
  | retAddr k => exact absurd rfl (h k)
  | _ => rfl
theorem cj_prs_mem {ad : Nat → Nat} : ∀ (L : List Value) (i : Nat) (q : Nat × Value), q ∈ cj_prs ad i L → ∃ (j : Nat) (v : Value), L[j]? = some v ∧ (∀ k, v ≠ .retAddr k) ∧ q = (i + j, cj_mv ad v) := by
  intro L
  induction L with
  | nil => intro i q h; simp [cj_prs] at h
  | cons v L ih =>
    intro i q h
    by_cases hv : ∃ k, v = .retAddr k
    · obtain ⟨k, rfl⟩ := hv
      obtain ⟨j, w, h1, h2, h3⟩ := ih (i + 1) q h
      exact ⟨j + 1, w, by simpa using h1, h2, by rw [h3]; congr 1; omega⟩
    · have hv : ∀ k, v ≠ .retAddr k := fun k e => hv ⟨k, e⟩
      rw [cj_prs_cons hv] at h
      rcases List.mem_cons.mp h with h | h
      · exact ⟨0, v, rfl, hv, by rw [h]; rfl⟩
      · obtain ⟨j, w, h1, h2, h3⟩ := ih (i + 1) q h
        exact ⟨j + 1, w, by simpa using h1, h2, by rw [h3]; congr 1; omega⟩
theorem cj_prs_has {ad : Nat → Nat} : ∀ (L : List Value) (i j : Nat) (v : Value), L[j]? = some v → (∀ k, v ≠ .retAddr k) → (i + j, cj_mv ad v) ∈ cj_prs ad i L := by
  intro L
  induction L with
  | nil => intro i j v h; simp at h
  | cons w L ih =>
    intro i j v h hr
    cases j with
    | zero =>
      have e : w = v := by simpa using h
      subst e
      rw [cj_prs_cons hr]
      exact List.mem_cons_self
    | succ j =>
      have h1 : L[j]? = some v := by simpa using h
      have h2 := ih (i + 1) j v h1 hr
      rw [show i + 1 + j = i + (j + 1) by omega] at h2
      by_cases hv : ∃ k, w = .retAddr k
      · obtain ⟨k, rfl⟩ := hv
        exact h2
      · have hv : ∀ k, w ≠ .retAddr k := fun k e => hv ⟨k, e⟩
        rw [cj_prs_cons hv]
        exact List.mem_cons_of_mem _ h2
theorem cj_L_has {ad : Nat → Nat} {n nL : Nat} {ls : Array Slot} {L : List Value} (h : cj_L ad n nL ls L) : lv_has ls nL (cj_prs ad 0 L) := by
  refine ⟨h.1, h.2.2.1, fun q hq => ?_⟩
  obtain ⟨j, v, h1, h2, h3⟩ := cj_prs_mem L 0 q hq
  rw [h3]
  rw [Nat.zero_add]
  exact (h.2.2.2 j v h1).2.2 h2
/-- what a store of one slot leaves -/
theorem cj_L_set {ad : Nat → Nat} {n nL : Nat} {ls ls' : Array Slot} {L : List Value} {i : Nat} {v : Value} (h : cj_L ad n nL ls L) (hi : i < nL) (hc : v.category = 1) (hw : cj_wv n v)
    (hs : lv_has ls' nL ((i, cj_mv ad v) :: (cj_prs ad 0 L).filter (fun q => !(q.1 == i) && !(q.1 + 1 == i && q.2.category == 2)))) : cj_L ad n nL ls' (L.set i v) := by
  refine ⟨hs.1, by rw [List.length_set]; exact h.2.1, hs.2.1, fun j w hj => ?_⟩
  by_cases e : j = i
  · subst e
    rw [List.getElem?_set_self (by rw [h.2.1]; exact hi)] at hj
    cases hj
    exact ⟨hc, hw, fun _ => hs.2.2 (j, cj_mv ad v) List.mem_cons_self⟩
  · rw [List.getElem?_set_ne (Ne.symm e)] at hj
    obtain ⟨a1, a2, a3⟩ := h.2.2.2 j w hj
    refine ⟨a1, a2, fun hr => ?_⟩
    have hm : (0 + j, cj_mv ad w) ∈ cj_prs ad 0 L := cj_prs_has L 0 j w hj hr
    rw [Nat.zero_add] at hm
    refine hs.2.2 (j, cj_mv ad w) (List.mem_cons_of_mem _ (List.mem_filter.mpr ⟨hm, ?_⟩))
    have e9 : (cj_mv ad w).category = 1 := by rw [cj_mv_cat]; exact a1
    simp [e, e9]
/-- a local that is let go -/
theorem cj_L_drop {ad : Nat → Nat} {n nL : Nat} {ls ls' : Array Slot} {L : List Value} {i : Nat} {v : Value} (h : cj_L ad n nL ls L) (hi : i < nL)
    (hs : lv_has ls' nL ((i, v) :: (cj_prs ad 0 L).filter (fun q => !(q.1 == i) && !(q.1 + 1 == i && q.2.category == 2)))) : cj_L ad n nL ls' (L.set i (.retAddr 0)) := by
  refine ⟨hs.1, by rw [List.length_set]; exact h.2.1, hs.2.1, fun j w hj => ?_⟩
  by_cases e : j = i
  · subst e
    rw [List.getElem?_set_self (by rw [h.2.1]; exact hi)] at hj
    cases hj
    exact ⟨rfl, trivial, fun hr => absurd rfl (hr 0)⟩
  · rw [List.getElem?_set_ne (Ne.symm e)] at hj
    obtain ⟨a1, a2, a3⟩ := h.2.2.2 j w hj
    refine ⟨a1, a2, fun hr => ?_⟩
    have hm : (0 + j, cj_mv ad w) ∈ cj_prs ad 0 L := cj_prs_has L 0 j w hj hr
    rw [Nat.zero_add] at hm
    refine hs.2.2 (j, cj_mv ad w) (List.mem_cons_of_mem _ (List.mem_filter.mpr ⟨hm, ?_⟩))
    have e9 : (cj_mv ad w).category = 1 := by rw [cj_mv_cat]; exact a1
    simp [e, e9]
