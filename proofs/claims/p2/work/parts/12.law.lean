/-! the law's entry: what the small machine must answer -/
def R_law : String := "CatalogueSetLaw"
def lw_P (b : Addr) (xs : List Int32) (args : Array Value) (s : State) : Prop := args = #[.ref b] ∧ s.IntsAt b xs ∧ xs.length ≤ 2050 ∧ (Jvm.Cond.and given_1 narrow_1).before args s = true
def lw_Q (_ : Array Value) (s : State) (o : Outcome) (t : State) : Prop := o = .returned (some (.int 1)) ∧ Framed s o t [] 601024 7292999
def lw_Z (below : List Frame) (a : Array Value) (s : State) : State → Prop := fun t => ∃ o, t.status = .running ∧ Ended t below o ∧ lw_Q a s o t
/-- what holds at the law's entry: the machine, the code, the tables' words (any of lw_tbl by 'hts w (by decide +kernel)'), the script of L ints xs at the cell b, what the Statement gives of the start (any of its parts by flat_of_before) -/
def lw_At (p : Program) (s : State) (m : MethodId) (meth : Method) (c : Code) (b L : Nat) (xs : Nat → Int32) : Prop :=
  p.tables.exec = Jvm.exec ∧ c.code = code ∧ meth.sig.returnType = ret ∧ c.maxLocals = 7 ∧ s.vm.findClass R_law = some m.cls ∧ (∀ w ∈ lw_tbl, w.before #[Value.ref b] s = true) ∧ va_X b L xs s s.heap ∧ b < s.heap.size ∧ meth.locks = false ∧ (Jvm.Cond.and given_1 narrow_1).before #[Value.ref b] s = true
/-- the first memory: the script alone -/
def cj_m0 (L : Nat) (xs : Nat → Int32) : cj_M := (fun o => if o = 0 then some (.inl (0, L, .inl xs)) else none, 1, 0, 0)
theorem law_tys {args : Array Value} {s : State} (hw : ∀ w ∈ lw_kw, w.before args s = true) (hp : ∀ t ∈ [FieldType.int, FieldType.char, FieldType.long], Cond.arrayClass t ∈ lw_kw) (hq : ∀ C ∈ ["CatalogueSet$Signs", "CatalogueSet$Entry", "CatalogueSet$Block"], Cond.arrayOver (.object C) ∈ lw_kw) :
    ∃ tys : cj_T, cj_Ty tys ∧ ∀ (k : Nat) (q : ClassId × FieldType), tys[k]? = some q → ArrOfT s q.1 q.2 ∧ va_RA s q.1 q.2 := by
  have prim : ∀ t ∈ [FieldType.int, FieldType.char, FieldType.long], ∃ c : ClassId, ArrOfT s c t ∧ va_RA s c t := by
    intro t ht
    obtain ⟨c, k, comp, h1, h2, h3⟩ := Cond.arrayClass_spec (hw _ (hp t ht))
    refine ⟨c, fun N z => ⟨(fun k h => by cases h), k, h2, comp, h3⟩, ?_⟩
    simp at ht
    rcases ht with rfl | rfl | rfl <;> exact h1
  have refs : ∀ C ∈ ["CatalogueSet$Signs", "CatalogueSet$Entry", "CatalogueSet$Block"], ∃ c : ClassId, ArrOfT s c (.object C) ∧ va_RA s c (.object C) := by
    intro C hC
    obtain ⟨comp, c, k, h1, -, h2, h3, h4⟩ := Cond.arrayOver_spec (hw _ (hq C hC))
    exact ⟨c, fun N z => ⟨(fun k h => by cases h), k, h2, comp, h3⟩, k, comp, h2, h3, h1, h4⟩
  obtain ⟨c0, a0⟩ := prim .int (by simp)
  obtain ⟨c1, a1⟩ := prim .char (by simp)
  obtain ⟨c2, a2⟩ := prim .long (by simp)
  obtain ⟨c3, a3⟩ := refs "CatalogueSet$Signs" (by simp)
  obtain ⟨c4, a4⟩ := refs "CatalogueSet$Entry" (by simp)
  obtain ⟨c5, a5⟩ := refs "CatalogueSet$Block" (by simp)
  refine ⟨[(c0, .int), (c1, .char), (c2, .long), (c3, .object "CatalogueSet$Signs"), (c4, .object "CatalogueSet$Entry"), (c5, .object "CatalogueSet$Block")], ?_, ?_⟩
  · intro k
    match k with
    | 0 => rfl
    | 1 => rfl
    | 2 => rfl
    | 3 => rfl
    | 4 => rfl
    | 5 => rfl
    | k + 6 => rfl
  · intro k q hq
    match k, hq with
    | 0, hq => cases hq; exact a0
    | 1, hq => cases hq; exact a1
    | 2, hq => cases hq; exact a2
    | 3, hq => cases hq; exact a3
    | 4, hq => cases hq; exact a4
    | 5, hq => cases hq; exact a5
    | k + 6, hq => simp at hq
theorem law_cls {args : Array Value} {s : State} (hw : ∀ w ∈ lw_kw, w.before args s = true) (hin : ∀ q ∈ kcl_, (∀ w ∈ u_ws q.1 q.2.1 q.2.2, w ∈ lw_kw) ∧ Cond.instantiable q.1 q.2.2 ∈ lw_kw) :
    ∃ D : va_G, ∀ (c : Nat) (q : vw_C), kcl_[c]? = some q → u_Kn s q.1 q.2.1 q.2.2 (D.1 c) (D.2 c) := by
  have h : ∀ c : Nat, ∃ p : ClassId × (Nat → Nat), ∀ q : vw_C, kcl_[c]? = some q → u_Kn s q.1 q.2.1 q.2.2 p.1 p.2 := by
    intro c
    cases hc : kcl_[c]? with
    | none => exact ⟨(0, fun _ => 0), fun q hq => by cases hq⟩
    | some q =>
      obtain ⟨h1, h2⟩ := hin q (List.mem_of_getElem? hc)
      obtain ⟨cC, iS, hK⟩ := u_known (C := q.1) (T := q.2.1) (N := q.2.2) hw h1 (hw _ h2)
      exact ⟨(cC, iS), fun q' hq' => by cases hq'; exact hK⟩
  exact ⟨(fun c => (Classical.choose (h c)).1, fun c => (Classical.choose (h c)).2), fun c q hq => Classical.choose_spec (h c) q hq⟩
theorem law_start {p : Program} {e : Env} {s : State} {m : MethodId} {below : List Frame} {meth : Method} {c : Code} (l : Launch) {b L : Nat} {xs : Nat → Int32} {tys : cj_T} {D : va_G} (hV : cj_Vm l 146) (hC : ∀ a, (km_ a).1 < (km_ 146).1 → cj_Cn l a) (C0 : lw_At p s m meth c b L xs) (hn : s.methodNamed? (ky_ 146) = some m) (hm : s.vm.method? m = some meth) (hcw : (kcd_ 146).before #[Value.ref b] s = true)
    (hty : cj_Ty tys) (hKt : ∀ (k : Nat) (q : ClassId × FieldType), tys[k]? = some q → ArrOfT s q.1 q.2 ∧ va_RA s q.1 q.2) (hKc : ∀ (c : Nat) (q : vw_C), kcl_[c]? = some q → u_Kn s q.1 q.2.1 q.2.2 (D.1 c) (D.2 c)) (hSx : cj_Sx s s.heap)
    {M' : cj_M} (hev : cj_ev 146 [.ref 0] (cj_m0 L xs) = some (.inl (some (.int 1)), M')) (h1 : M'.2.2.1 ≤ 601024) (h2 : M'.2.2.2 ≤ 7292999) : W p l e room_1 s m #[Value.ref b] below meth c s.heap [] 0 0 (lw_Z below #[Value.ref b] s) (entryFrame m ([Value.ref b] : List Value).toArray 7) := by
  obtain ⟨hx, hb, hr, hml, hown, hts, hX, hbl, hlocks, hgv⟩ := C0
  have hkw : ∀ w ∈ lw_kw, w.before #[Value.ref b] s = true := fun w hw => hts w (List.mem_filter.mp hw).1
  have F : cj_Fx p room_1 s m #[Value.ref b] meth c 7 D tys (kb_ 146) (ky_ 146).cls (ky_ 146).name (kq_ 146).1 (kq_ 146).2 :=
    ⟨hx, hb, hml, hown, hkw, ⟨hKc, hKt⟩, (name_of_methodNamed hn hm).1, by decide +kernel, by decide +kernel, hSx⟩
  obtain ⟨ls, hl1, hl2⟩ := cj_entry (m := m) (ad := fun _ => b) (n := 1) (nL := 7) (as := [.ref 0]) rfl (by decide) (fun v hv => by
    rw [List.mem_singleton] at hv
    subst hv
    exact Nat.lt_succ_self 0)
  have e0 : entryFrame m ([Value.ref b] : List Value).toArray 7 = F0 m 0 ls [] := hl1
  rw [e0]
  have hR : cj_R s D tys (fun _ => b) (cj_m0 L xs) s.heap := by
    refine ⟨fun o c' ho => ?_, fun o o' ho ho' _ => ?_, fun o ho => hbl, hSx⟩
    · have ho : (if o = 0 then some (Sum.inl (0, L, Sum.inl xs)) else none : Option cj_C) = some c' := ho
      by_cases e : o = 0
      · rw [if_pos e] at ho
        cases ho
        obtain ⟨scr, x1, x2, x3, x4, x5⟩ := hX
        have h9 := hty 0
        cases hq : tys[0]? with
        | none => rw [hq] at h9; cases h9
        | some q =>
          rw [hq] at h9
          have hq2 : q.2 = .int := Option.some.inj h9
          exact ⟨by rw [e]; exact Nat.lt_succ_self 0, scr, q, x1, hq, by rw [hq2]; exact x2, x3, x4, x5, (fun h => by rw [hq2] at h; cases h), trivial⟩
      · rw [if_neg e] at ho
        cases ho
    · have ho : o < 1 := ho
      have ho' : o' < 1 := ho'
      omega
  obtain ⟨n, hrun⟩ := cj_res_iff.mp hev
  have z1 : (cj_m0 L xs).2.2.1 = 0 := rfl
  have z2 : (cj_m0 L xs).2.2.2 = 0 := rfl
  have r1 : room_1.cells = 601024 := rfl
  have r2 : room_1.slots = 7292999 := rfl
  have q1 : M'.2.2.1 ≤ (cj_m0 L xs).2.2.1 + room_1.cells := by rw [z1, r1, Nat.zero_add]; exact h1
  have q2 : M'.2.2.2 ≤ (cj_m0 L xs).2.2.2 + room_1.slots := by rw [z2, r2, Nat.zero_add]; exact h2
  have hw := cj_walk (e := e) (below := below) (out := .inl (some (.int 1))) (ad0 := fun _ => b) (M0 := cj_m0 L xs) (M' := M') hV hC F hty hr hlocks hcw hn q1 q2 n 0 _ _ _ hrun
  refine cj_Wm (fun t ht => ?_) (hw (fun _ => b) s.heap [] 0 0 ls ⟨hR, hl2, (fun v hv => by cases hv), ⟨Nat.le_refl _, (fun _ _ => rfl), (fun o q1 q2 => absurd q2 (Nat.not_lt.mpr q1))⟩, va_S.rf, rfl, rfl⟩)
  obtain ⟨o, t1, t2, ⟨ad', -, -, ⟨t3, -⟩, -, -⟩, L9, ⟨t4, t5⟩, t6⟩ := ht
  subst t3
  refine ⟨_, t1, t2, rfl, ⟨_, rfl⟩, t4, t5.weaken (fun y hy hlt => ?_) ?_ ?_⟩
  · rcases t6 y hy with ⟨o, q1, q2, -⟩ | q
    · have q2 : o < 1 := q2
      omega
    · exact absurd hlt (Nat.not_lt.mpr q)
  · exact Nat.le_trans (Nat.sub_le _ _) h1
  · exact Nat.le_trans (Nat.sub_le _ _) h2
