/-! contracts of the small machine's methods over the real machine: those that return -/
theorem cj_step_mono {i : cj_I} {nx : Nat} {L st : List Value} {M : cj_M} {f : cj_F} (h : cj_step i nx L st M = some f) : M.2.1 ≤ f.2.2.2.2.1 ∧ M.2.2.1 ≤ f.2.2.2.2.2.1 ∧ M.2.2.2 ≤ f.2.2.2.2.2.2 := by
  have hsame : ∀ {q : cj_F}, q.2.2.2 = M → M.2.1 ≤ q.2.2.2.2.1 ∧ M.2.2.1 ≤ q.2.2.2.2.2.1 ∧ M.2.2.2 ≤ q.2.2.2.2.2.2 := by
    intro q e
    rw [e]
    exact ⟨Nat.le_refl _, Nat.le_refl _, Nat.le_refl _⟩
  have hset : ∀ {q : cj_F} {o : Nat} {d : cj_C}, q.2.2.2 = cj_set M o d → M.2.1 ≤ q.2.2.2.2.1 ∧ M.2.2.1 ≤ q.2.2.2.2.2.1 ∧ M.2.2.2 ≤ q.2.2.2.2.2.2 := by
    intro q o d e
    rw [e]
    exact ⟨Nat.le_refl _, Nat.le_refl _, Nat.le_refl _⟩
  have hnew : ∀ {q : cj_F} {d : cj_C} {w : Nat}, q.2.2.2 = cj_new M d w → M.2.1 ≤ q.2.2.2.2.1 ∧ M.2.2.1 ≤ q.2.2.2.2.2.1 ∧ M.2.2.2 ≤ q.2.2.2.2.2.2 := by
    intro q d w e
    rw [e]
    exact ⟨Nat.le_succ _, Nat.le_succ _, Nat.le_add_right _ _⟩
  unfold cj_step at h
  split at h
  all_goals first
    | (cases h; exact hsame rfl)
    | (cases h; exact hnew rfl)
    | (obtain ⟨_, _, _, _, rfl⟩ := cj_bin_inv h; exact hsame rfl)
    | (obtain ⟨_, _, _, _, _, rfl⟩ := cj_dv_inv h; exact hsame rfl)
    | (obtain ⟨_, _, _, _, _, rfl⟩ := cj_mm_inv h; exact hsame rfl)
    | (obtain ⟨_, _, _, rfl⟩ := cj_una_inv h; exact hsame rfl)
    | (obtain ⟨_, _, _, _, rfl⟩ := cj_lcm_inv h; exact hsame rfl)
    | (obtain ⟨_, _, _, rfl⟩ := cj_j1_inv h; exact hsame rfl)
    | (obtain ⟨_, _, _, _, rfl⟩ := cj_j2_inv h; exact hsame rfl)
    | (obtain ⟨_, _, _, _, _, _, _, rfl⟩ := cj_getf_inv h; exact hsame rfl)
    | (obtain ⟨_, _, _, _, _, _, _, _, _, rfl⟩ := cj_putf_inv h; exact hset rfl)
    | (obtain ⟨_, _, _, _, _, _, _, rfl⟩ := cj_len_inv h; exact hsame rfl)
    | (obtain ⟨_, _, _, _, _, _, _, _, rfl⟩ := cj_ald_inv h; exact hsame rfl)
    | (obtain ⟨_, _, _, _, _, _, _, _, _, _, rfl⟩ := cj_ast_inv h; exact hset rfl)
    | (obtain ⟨_, _, _, _, _, _, _, _, _, _, rfl⟩ := cj_asl_inv h; exact hset rfl)
    | (obtain ⟨_, _, _, _, _, _, _, _, _, _, _, _, rfl⟩ := cj_asq_inv h; exact hset rfl)
    | (obtain ⟨_, _, _, _, _, rfl⟩ := cj_na_inv h; exact hnew rfl)
    | (obtain ⟨_, _, _, _, rfl⟩ := cj_oi_inv h; exact hsame rfl)
    | (unfold cj_ldi at h; split at h <;> first | (cases h; exact hsame rfl) | cases h)
    | (unfold cj_lda at h; split at h <;> first | (cases h; exact hsame rfl) | cases h)
    | (unfold cj_sti at h; split at h <;> first | (split at h <;> first | (cases h; exact hsame rfl) | cases h) | cases h)
    | (unfold cj_sta at h; split at h <;> first | (split at h <;> first | (cases h; exact hsame rfl) | cases h) | cases h)
    | (unfold cj_inc at h; split at h <;> first | (cases h; exact hsame rfl) | cases h)
    | (unfold cj_jn at h; split at h <;> first | (cases h; exact hsame rfl) | cases h)
    | (unfold cj_dup at h; split at h <;> first | (split at h <;> first | (cases h; exact hsame rfl) | cases h) | cases h)
    | (unfold cj_pop at h; split at h <;> first | (split at h <;> first | (cases h; exact hsame rfl) | cases h) | cases h)
    | (unfold cj_dx1 at h; split at h <;> first | (split at h <;> first | (cases h; exact hsame rfl) | cases h) | cases h)
    | (unfold cj_dx2 at h; split at h <;> first | (split at h <;> first | (cases h; exact hsame rfl) | cases h) | cases h)
    | (unfold cj_du2 at h; split at h <;> first | (split at h <;> first | (cases h; exact hsame rfl) | cases h) | cases h)
    | cases h
theorem cj_end_mono {i : cj_I} {st : List Value} {M : cj_M} {r : cj_O × cj_M} (h : cj_end i st M = some r) : M.2.1 ≤ r.2.2.1 ∧ M.2.2.1 ≤ r.2.2.2.1 ∧ M.2.2.2 ≤ r.2.2.2.2 := by
  unfold cj_end at h
  split at h
  · unfold cj_ri at h; split at h <;> cases h; exact ⟨Nat.le_refl _, Nat.le_refl _, Nat.le_refl _⟩
  · unfold cj_rv at h; split at h <;> cases h; exact ⟨Nat.le_refl _, Nat.le_refl _, Nat.le_refl _⟩
  · unfold cj_ra at h
    split at h
    · cases h; exact ⟨Nat.le_refl _, Nat.le_refl _, Nat.le_refl _⟩
    · cases h; exact ⟨Nat.le_refl _, Nat.le_refl _, Nat.le_refl _⟩
    · cases h
  · unfold cj_rz at h
    split at h
    · split at h
      · cases h; exact ⟨Nat.le_refl _, Nat.le_refl _, Nat.le_refl _⟩
      · cases h
    · cases h
  · unfold cj_rt at h; split at h <;> cases h; exact ⟨Nat.le_refl _, Nat.le_add_right _ _, Nat.le_add_right _ _⟩
  · cases h
theorem cj_run_grow {n : Nat} : ∀ {m pc : Nat} {ls st : List Value} {M : cj_M} {r : cj_O × cj_M}, cj_run n m pc ls st M = some r → M.2.1 ≤ r.2.2.1 ∧ M.2.2.1 ≤ r.2.2.2.1 ∧ M.2.2.2 ≤ r.2.2.2.2 := by
  induction n with
  | zero => intro m pc ls st M r h; simp [cj_run] at h
  | succ n ih =>
    intro m pc ls st M r h
    unfold cj_run at h
    by_cases c1 : cj_pl (kd_ m pc).1
    · rw [if_pos c1] at h
      cases hs : cj_step (kd_ m pc).1 (kd_ m pc).2 ls st M with
      | none => rw [hs] at h; cases h
      | some f =>
        rw [hs] at h
        have h1 := cj_step_mono hs
        have h2 := ih h
        exact ⟨Nat.le_trans h1.1 h2.1, Nat.le_trans h1.2.1 h2.2.1, Nat.le_trans h1.2.2 h2.2.2⟩
    · rw [if_neg c1] at h
      by_cases c2 : 90 ≤ (kd_ m pc).1.1
      · rw [if_pos c2] at h
        exact cj_end_mono h
      · rw [if_neg c2] at h
        by_cases c3 : cj_gq (kd_ m pc).1 m st M = true
        · rw [if_pos c3] at h
          cases hs : cj_run n (kd_ m pc).1.2.1 0 (cj_lay (st.take (kd_ m pc).1.2.2.1).reverse (km_ (kd_ m pc).1.2.1).2) [] M with
          | none => rw [hs] at h; cases h
          | some q =>
            rw [hs] at h
            have h1 := ih hs
            obtain ⟨o, M'⟩ := q
            cases o with
            | inl v =>
              have h2 := ih h
              exact ⟨Nat.le_trans h1.1 h2.1, Nat.le_trans h1.2.1 h2.2.1, Nat.le_trans h1.2.2 h2.2.2⟩
            | inr j =>
              dsimp only at h
              cases hh : cj_hdl (kh_ m) pc j with
              | none => rw [hh] at h; cases h
              | some z =>
                rw [hh] at h
                have h2 := ih h
                exact ⟨Nat.le_trans h1.1 h2.1, Nat.le_trans h1.2.1 h2.2.1, Nat.le_trans h1.2.2 h2.2.2⟩
        · rw [if_neg c3] at h
          cases h
/-- what a contract says of its end's frame, however it ended -/
def cj_FE (first t : State) (L : List Loc) (k n : Nat) : Prop := first.WarmedH t.vm ∧ first.sameButNew ({ t with vm := first.vm } : State) L k n
def cj_MQ (below : List Frame) (Qc : Array Value → State → Outcome → State → Prop) (a : Array Value) (s : State) (mc ms : Nat) (free : Addr → Prop) : State → Prop := fun t =>
  ∃ o, t.status = .running ∧ Ended t below o ∧ Qc a s o t ∧ ∃ L, cj_FE s t L mc ms ∧ ∀ q ∈ L, free q.base
theorem cj_MQ_of {below : List Frame} {Qc : Array Value → State → Outcome → State → Prop} {a : Array Value} {s : State} {mc ms : Nat} {free : Addr → Prop} {t : State} (h : MQ below Qc a s mc ms free t) : cj_MQ below Qc a s mc ms free t := by
  obtain ⟨o, h1, h2, h3, L, h4, h5⟩ := h
  exact ⟨o, h1, h2, h3, L, ⟨h4.2.1, h4.2.2⟩, h5⟩
def cj_Met (l : Launch) (y : MethodName) (ws : List Cond) (rm : Room) (Pc : Array Value → State → Prop) (Qc : Array Value → State → Outcome → State → Prop) (mc ms : Nat) (free : Addr → Prop) : Prop :=
  MetFree l y (headSpec ws rm) Pc (fun _ _ _ _ _ => True) (fun a st o t => Qc a st o t ∧ ∃ L, cj_FE st t L mc ms ∧ ∀ q ∈ L, free q.base)
theorem cj_Met_ret {l : Launch} {y : MethodName} {ws : List Cond} {rm : Room} {Pc : Array Value → State → Prop} {Qc : Array Value → State → Outcome → State → Prop} {mc ms : Nat} {free : Addr → Prop} (h : cj_Met l y ws rm Pc Qc mc ms free) (hq : ∀ a st o t, Qc a st o t → ∃ v, o = .returned v) : Met l y ws rm Pc Qc mc ms free := by
  intro p e ha hc hk s m args below hf happ hP hK
  obtain ⟨n, o, h1, h2, h3, h4, L, h5, h6⟩ := h p e ha hc hk s m args below hf happ hP hK
  exact ⟨n, o, h1, h2, h3, h4, L, ⟨hq _ _ _ _ h4, h5.1, h5.2⟩, h6⟩
theorem cj_Met_ofW {l : Launch} {y : MethodName} {ws ws' : List Cond} {rm : Room} {Pc : Array Value → State → Prop} {Qc : Array Value → State → Outcome → State → Prop} {mc ms : Nat} {free : Addr → Prop} {cc : ByteArray} {maxL : Nat} {ret : Option FieldType}
    (hy : plainName y.cls = true) (hw : ws = Cond.code y cc maxL ret :: ws')
    (body : ∀ p e s m args below meth c s₁, BodyLoose p l y (headSpec ws rm) cc maxL ret e s m args below meth c s₁ → c.maxLocals = maxL → Pc args s →
      W p l e (headSpec ws rm).room s m args below meth c s.heap [] 0 0 (cj_MQ below Qc args s mc ms free) (entryFrame m args maxL)) : cj_Met l y ws rm Pc Qc mc ms free := by
  refine MetFree.of_bodyS (code := cc) (maxLocals := maxL) (ret := ret) hy ?_ ?_
  · intro args s m h hn
    obtain ⟨meth, c, h1, h2, h3, h4, h5, h6, -, -⟩ := Cond.code_spec hn (atoms_spec (ws := ws) h _ (by rw [hw]; exact List.mem_cons_self))
    exact ⟨meth, c, h1, h2, h3, h4, h5, h6⟩
  · intro p e s m args below meth c s₁ B hml hP _
    have hh0 : s₁.heap = s.heap := by rw [B.state]; rfl
    obtain ⟨t, a1, o, b1, b2, b3⟩ := body p e s m args below meth c s₁ B hml hP s₁ hh0 (Stand.of_body B)
    exact ⟨t, o, a1, b1, b2, ⟨b3.1, b3.2⟩⟩
theorem cj_Met_ofWh {l : Launch} {y : MethodName} {ws ws' : List Cond} {rm : Room} {Pc : Array Value → State → Prop} {Qc : Array Value → State → Outcome → State → Prop} {mc ms : Nat} {free : Addr → Prop} {cc : ByteArray} {maxL : Nat} {ret : Option FieldType} {hh : List (Nat × Nat × Nat × Nat)}
    (hy : plainName y.cls = true) (hw : ws = Cond.codeWith y cc maxL ret hh :: ws')
    (body : ∀ p e s m args below meth c s₁, BodyLoose p l y (headSpec ws rm) cc maxL ret e s m args below meth c s₁ → c.maxLocals = maxL → Pc args s →
      W p l e (headSpec ws rm).room s m args below meth c s.heap [] 0 0 (cj_MQ below Qc args s mc ms free) (entryFrame m args maxL)) : cj_Met l y ws rm Pc Qc mc ms free := by
  refine MetFree.of_bodyS (code := cc) (maxLocals := maxL) (ret := ret) hy ?_ ?_
  · intro args s m h hn
    obtain ⟨m9, meth, c, hn9, h1, h2, h3, h4, -, h5, h6, -⟩ := Cond.codeWith_spec (atoms_spec (ws := ws) h _ (by rw [hw]; exact List.mem_cons_self))
    cases hn.symm.trans hn9
    exact ⟨meth, c, h1, h2, h3, h4, h5, h6⟩
  · intro p e s m args below meth c s₁ B hml hP _
    have hh0 : s₁.heap = s.heap := by rw [B.state]; rfl
    obtain ⟨t, a1, o, b1, b2, b3⟩ := body p e s m args below meth c s₁ B hml hP s₁ hh0 (Stand.of_body B)
    exact ⟨t, o, a1, b1, b2, ⟨b3.1, b3.2⟩⟩
theorem cj_Wm {p : Program} {l : Launch} {e : Env} {R : Room} {s : State} {m : MethodId} {args : Array Value} {below : List Frame} {meth : Method} {c : Code} {H : Heap} {locs : List Loc} {cells slots : Nat} {Q Q' : State → Prop} {g : JFrame} (h : ∀ t, Q t → Q' t) (k : W p l e R s m args below meth c H locs cells slots Q g) : W p l e R s m args below meth c H locs cells slots Q' g := fun T hT X => by
  obtain ⟨t, a, b⟩ := k T hT X
  exact ⟨t, a, h t b⟩
/-- an exception of the kind k lies there -/
def cj_exc (k : Nat) (x : Nat) (t : State) : Prop := ∃ (cell : Cell) (kk : Class), t.heap[x]? = some cell ∧ (∀ z, cell.vm ≠ .statics z) ∧ t.vm.findClass (kex_ k) = some cell.cls ∧ t.vm.classes[cell.cls]? = some kk
def cj_out (ad : Nat → Nat) (n : Nat) (out : cj_O) (oc : Outcome) (t : State) : Prop := match out with
  | .inl v => oc = .returned (v.map (cj_mv ad)) ∧ ∀ w ∈ v.toList, cj_wv n w
  | .inr k => ∃ x, oc = .threw x ∧ cj_exc k x t
def cj_Pc (D : va_G) (tys : cj_T) (ad : Nat → Nat) (sz : Nat) (as : List Value) (M : cj_M) : Array Value → State → Prop := va_Pc (as.map (cj_mv ad)) (fun U => U.heap.size = sz ∧ va_K D kcl_ tys U ∧ cj_R U D tys ad M U.heap)
def cj_Qc (D : va_G) (tys : cj_T) (ad : Nat → Nat) (sz : Nat) (M : cj_M) (out : cj_O) (M' : cj_M) : Array Value → State → Outcome → State → Prop := fun _ st oc t =>
  ∃ ad', (∀ o, o < M.2.1 → ad' o = ad o) ∧ (∀ o, M.2.1 ≤ o → o < M'.2.1 → sz ≤ ad' o) ∧ cj_out ad' M'.2.1 out oc t ∧ cj_R t D tys ad' M' t.heap ∧ va_F (cj_Af ad M.2.1 sz) st t
def cj_rm (mm mc ms : Nat) : Room := { frames := (kq_ mm).1, cells := mc, slots := ms, locals := (kq_ mm).2 }
/-- the contract of the method mm -/
def cj_Cn (l : Launch) (mm : Nat) : Prop := ∀ (D : va_G) (tys : cj_T) (ad : Nat → Nat) (sz : Nat) (as : List Value) (M : cj_M) (out : cj_O) (M' : cj_M),
  cj_Ty tys → as.all cj_c1 = true → as.length ≤ (km_ mm).2 → (∀ v ∈ as, cj_wv M.2.1 v) → cj_ev mm as M = some (out, M') →
  cj_Met l (ky_ mm) (kcd_ mm :: lw_kw) (cj_rm mm (M'.2.2.1 - M.2.2.1) (M'.2.2.2 - M.2.2.2)) (cj_Pc D tys ad sz as M) (cj_Qc D tys ad sz M out M') (M'.2.2.1 - M.2.2.1) (M'.2.2.2 - M.2.2.2) (cj_Af ad M.2.1 sz)
theorem cj_Pc_blind {D : va_G} {tys : cj_T} {ad : Nat → Nat} {sz : Nat} {as : List Value} {M : cj_M} : FrameBlind (cj_Pc D tys ad sz as M) := by
  intro a U g mk h
  obtain ⟨h0, h1, h2, h3⟩ := h
  exact ⟨h0, h1, va_K.moved (u := U) (U := U.calling g mk a) (Vm.Alike.refl U.vm) h2, cj_R_move (U := U) (V := U.calling g mk a) (Vm.Alike.refl U.vm) h3⟩
/-- what a call that came back gives to its caller's walk -/
theorem cj_back {s : State} {D : va_G} {tys : cj_T} {ad0 : Nat → Nat} {n0 k0 w0 nL : Nat} {ad ad' : Nat → Nat} {H : Heap} {locs L9 : List Loc} {cells slots : Nat} {ls : Array Slot} {L st : List Value} {M M' : cj_M} {B t : State} {v : Option Value} {a9 : Nat} {st9 : State} (hr : cj_Rl s D tys ad0 n0 k0 w0 nL ad H locs cells slots ls L st M) (hvm : t.vm.Alike s.vm)
    (h1 : ∀ o, o < M.2.1 → ad' o = ad o) (h2 : ∀ o, M.2.1 ≤ o → o < M'.2.1 → H.size ≤ ad' o) (h3 : ∀ w ∈ v.toList, cj_wv M'.2.1 w) (h4 : cj_R t D tys ad' M' t.heap) (h5 : va_F (cj_Af ad M.2.1 H.size) st9 t) (hst9 : st9.heap = H) (hL9 : ∀ q ∈ L9, cj_Af ad M.2.1 H.size q.base) (hg : M.2.1 ≤ M'.2.1 ∧ M.2.2.1 ≤ M'.2.2.1 ∧ M.2.2.2 ≤ M'.2.2.2) :
    cj_Rl s D tys ad0 n0 k0 w0 nL ad' t.heap (locs ++ L9) (cells + (M'.2.2.1 - M.2.2.1)) (slots + (M'.2.2.2 - M.2.2.2)) ls L (v.toList ++ st.drop a9) M' ∧ (v.toList ++ st.drop a9).map (cj_mv ad') = (v.map (cj_mv ad')).toList ++ (st.drop a9).map (cj_mv ad) := by
  obtain ⟨r1, r2, r3, ⟨r4, r5, r6⟩, r7, r8, r9⟩ := hr
  have hwd : ∀ w ∈ st.drop a9, cj_wv M.2.1 w := fun w hw => r3 w (List.mem_of_mem_drop hw)
  have hA : ∀ q, cj_Af ad M.2.1 H.size q → cj_Af ad0 n0 s.heap.size q := by
    intro q hq
    rcases hq with ⟨o, q1, q2, rfl⟩ | hq
    · exact cj_in_A ⟨r5, r6⟩ q2 (Nat.ne_of_gt q1)
    · exact Or.inr (Nat.le_trans r7.1 hq)
  refine ⟨⟨cj_R_move hvm h4, cj_L_mono r2 hg.1 h1, ?_, ⟨Nat.le_trans r4 hg.1, fun o ho => ?_, fun o ho ho' => ?_⟩, ⟨?_, fun q q1 q2 => ?_, fun q hq => ?_⟩, by omega, by omega⟩, ?_⟩
  · intro w hw
    rcases List.mem_append.mp hw with hw | hw
    · exact h3 w hw
    · exact cj_wv_mono hg.1 (hwd w hw)
  · rw [h1 o (Nat.lt_of_lt_of_le ho r4)]
    exact r5 o ho
  · by_cases hl : o < M.2.1
    · rw [h1 o hl]
      exact r6 o ho hl
    · exact Nat.le_trans r7.1 (h2 o (by omega) ho')
  · have := h5.1
    rw [hst9] at this
    exact Nat.le_trans r7.1 this
  · have h6 := h5.2 q (by rw [hst9]; exact Nat.lt_of_lt_of_le q1 r7.1) (fun z => q2 (hA q z))
    rw [h6, hst9]
    exact r7.2.1 q q1 q2
  · rcases List.mem_append.mp hq with hq | hq
    · exact r7.2.2 q hq
    · exact hA _ (hL9 q hq)
  · rw [List.map_append]
    congr 1
    · cases v <;> rfl
    · exact List.map_congr_left (fun w hw => cj_mv_eq h1 (hwd w hw))
/-- the link of a call -/
def cj_lk (own : String) (idx : Nat) (y : MethodName) : Prop := Cond.methodLink own idx y ∈ lw_kw ∨ ∃ host, Cond.methodLinkNest own idx y host ∈ lw_kw
/-- a method's code word: with handlers or without -/
def cj_cd (mm : Nat) : Prop := kcd_ mm = .code (ky_ mm) (kb_ mm) (km_ mm).2 (kr_ mm) ∨ ∃ hh, kcd_ mm = .codeWith (ky_ mm) (kb_ mm) (km_ mm).2 (kr_ mm) hh
/-- what is known of a method, whoever calls it -/
def cj_Mi (mm : Nat) : Prop := cj_cd mm ∧ kcd_ mm ∈ lw_kw ∧ plainName (ky_ mm).cls = true ∧ Cond.initialized (ky_ mm).cls ∈ lw_kw ∧ ((ky_ mm).cls ≠ "java/lang/invoke/MethodHandle" ∧ (ky_ mm).cls ≠ "java/lang/invoke/VarHandle")
section CJC
variable {p : Program} {l : Launch} {e : Env} {R : Room} {s : State} {m : MethodId} {args : Array Value} {below : List Frame} {meth : Method} {c : Code} {Q : State → Prop} {nL : Nat} {D : va_G} {tys : cj_T} {ad0 : Nat → Nat} {n0 k0 w0 : Nat} {cc : ByteArray} {own nm : String} {fr lo : Nat} {pc a : Nat} {L : List Value} {M M' : cj_M} {v : Option Value}
theorem cj_Qc_ret {ad : Nat → Nat} {sz : Nat} : ∀ (x : Array Value) (st : State) (o : Outcome) (t : State), cj_Qc D tys ad sz M (.inl v) M' x st o t → ∃ w, o = .returned w := by
  intro x st o t h
  obtain ⟨ad', -, -, ho, -⟩ := h
  exact ⟨_, ho.1⟩
theorem cj_Bk (F : cj_Fx p R s m args meth c nL D tys cc own nm fr lo) (hI : cj_Mi a) (hrk : (kq_ a).1 + 1 ≤ R.frames ∧ 8 + ((km_ a).2 + 11) + (kq_ a).2 ≤ R.locals) {Pc : Array Value → State → Prop} {Qc : Array Value → State → Outcome → State → Prop} {mc ms : Nat} {free : Addr → Prop} (hM : Met l (ky_ a) (kcd_ a :: lw_kw) (cj_rm a mc ms) Pc Qc mc ms free) (hbl : FrameBlind Pc) :
    Back l R p e below s args (ky_ a) 3 8 (PreOf R mc ms Pc) (PostOf Qc mc ms free) := by
  obtain ⟨hcd, hin, hpl, hini, hmh⟩ := hI
  have hws : ∀ w ∈ kcd_ a :: lw_kw, ∀ (a' : Array Value) (U : State), s.WarmedH U.vm → w.before a' U = true := by
    intro w hw a' U hW
    rcases List.mem_cons.mp hw with rfl | hw
    · exact cj_kww hin hW (F.2.2.2.2.1 _ hin)
    · exact cj_kww hw hW (F.2.2.2.2.1 _ hw)
  have hi2 : ∀ a' U, s.WarmedH U.vm → (Cond.initialized (ky_ a).cls).before a' U = true := fun a' U hW => cj_kww hini hW (F.2.2.2.2.1 _ hini)
  rcases hcd with h | ⟨hh, h⟩
  · exact back_of (bytes := kb_ a) (maxL := (km_ a).2) (ret := kr_ a) hM hbl rfl rfl hrk.1 hrk.2 hws (by rw [← h]; exact List.mem_cons_self) hi2
  · exact va_backW (hh := hh) (bytes := kb_ a) (maxL := (km_ a).2) (ret := kr_ a) hM hbl rfl rfl hrk.1 hrk.2 hws (by rw [← h]; exact List.mem_cons_self) hi2
/-- the rest of a walk behind a call that came back -/
theorem cj_cont {ad : Nat → Nat} {H : Heap} {locs : List Loc} {cells slots : Nat} {ls : Array Slot} {st : List Value} {b nx : Nat} {vm₁ : Vm} {T : State} {B : Pt} {v9 : Option Value} {av : Array Value} (hr : cj_Rl s D tys ad0 n0 k0 w0 nL ad H locs cells slots ls L st M) (hT : T.heap = H) (hg : M.2.1 ≤ M'.2.1 ∧ M.2.2.1 ≤ M'.2.2.1 ∧ M.2.2.2 ≤ M'.2.2.2)
    (X' : Stand p l e R s m args below meth c B.U B.locs B.cells B.slots)
    (hpost : PostOf (cj_Qc D tys ad H.size M (.inl v) M') (M'.2.2.1 - M.2.2.1) (M'.2.2.2 - M.2.2.2) (cj_Af ad M.2.1 H.size) ⟨T.setVm vm₁, locs, cells, slots⟩ av v9 B)
    (k : cj_Go p l e R s m args below meth c Q nL D tys ad0 n0 k0 w0 nx L (v.toList ++ st.drop b) M') (hst : ∀ tg, Steps p.tables e below (B.U.setTop (F0 m nx ls (v9.toList ++ (st.drop b).map (cj_mv ad)))) tg → Steps p.tables e below (T.setTop (F0 m pc ls (st.map (cj_mv ad)))) tg) : ∃ t, Steps p.tables e below (T.setTop (F0 m pc ls (st.map (cj_mv ad)))) t ∧ Q t := by
  obtain ⟨g', mk, t, L9, e1, e2, ⟨ad', q1, q2, q3, q4, q5⟩, h1, hL, h2, h3⟩ := hpost
  obtain ⟨q3, q6⟩ := q3
  have q3 : v9 = v.map (cj_mv ad') := by
    have := Outcome.returned.inj q3
    exact this
  have hst0 : ((T.setVm vm₁).calling g' mk av).heap = H := hT
  obtain ⟨k1, k2⟩ := cj_back (a9 := b) (L9 := L9) (B := B.U) (t := t) hr (by rw [← e2]; exact X'.warmed.alike.symm) q1 q2 q6 q4 q5 hst0 hL hg
  obtain ⟨U', l2, c2, s2⟩ := B
  dsimp only [Pt.U, Pt.locs, Pt.cells, Pt.slots] at X' e1 e2 h1 h2 h3 hst
  subst h1; subst h2; subst h3
  obtain ⟨t2, b1, b2⟩ := k ad' t.heap _ _ _ ls k1 U' e1 X'
  refine ⟨t2, hst t2 ?_, b2⟩
  rw [k2, ← q3] at b1
  exact b1
theorem cj_len_of {y : MethodName} {n : Nat} (h : (parseMethodDescriptor y.desc).map (fun d => d.parameters.length) = some n) {as : List Value} (hl : as.length = n) : ∀ sig, parseMethodDescriptor y.desc = some sig → as.length = sig.parameters.length := by
  intro sig hs
  rw [hs] at h
  rw [hl]
  exact (Option.some.inj h).symm
theorem cj_room_st {ad : Nat → Nat} {r : List Value} {ls : Array Slot} {st : List Value} (h : r.length ≤ 4) : 2 * (F0 m pc ls st).monitorRoom + ((r.map (cj_mv ad)).map fun v => v.category).sum ≤ 8 := by
  have := cj_catm (ad := ad) r
  show 2 * 0 + _ ≤ 8
  omega
theorem cj_split {ad : Nat → Nat} {st : List Value} {b : Nat} (hb : b ≤ st.length) : st.map (cj_mv ad) = ((st.take b).reverse.map (cj_mv ad)).reverse ++ (st.drop b).map (cj_mv ad) := by
  rw [← List.map_reverse, List.reverse_reverse, ← List.map_append, List.take_append_drop]
/-- what the guard of a call gives -/
theorem cj_gq_inv {i : cj_I} {mm : Nat} {st : List Value} (h : cj_gq i mm st M = true) : i.2.2.1 ≤ st.length ∧ st.length ≤ i.2.2.1 + 4 ∧ (km_ i.2.1).1 < (km_ mm).1 ∧ (st.take i.2.2.1).reverse.all cj_c1 = true ∧ cj_rcv i (st.take i.2.2.1).reverse M = true := by
  unfold cj_gq at h
  simp only [Bool.and_eq_true, decide_eq_true_eq] at h
  obtain ⟨⟨⟨⟨h1, h2⟩, h3⟩, h4⟩, h5⟩ := h
  refine ⟨h1, h2, h3, ?_, h5⟩
  rw [List.all_reverse]
  exact h4
/-- a call's instruction is done: the callee is to be invoked -/
def cj_Inv (p : Program) (l : Launch) (e : Env) (R : Room) (s : State) (m : MethodId) (args : Array Value) (below : List Frame) (meth : Method) (c : Code) (locs : List Loc) (cells slots : Nat) (T : State) (g : JFrame) (rest : List Value) (y : MethodName) (av : Array Value) : Prop :=
  ∃ (vm₁ : Vm) (mk : MethodId), Stand p l e R s m args below meth c (T.setVm vm₁) locs cells slots ∧ s.methodNamed? y = some mk ∧ ∀ target, Steps p.tables e below (doInvoke e ((T.setVm vm₁).setTop { g with stack := rest }) [] mk av).1 target → Steps p.tables e below (T.setTop g) target
theorem cj_known (F : cj_Fx p R s m args meth c nL D tys cc own nm fr lo) (hI : cj_Mi a) : ∃ (mk : MethodId) (mM : Method) (kP : Class), s.methodNamed? (ky_ a) = some mk ∧ s.vm.method? mk = some mM ∧ s.vm.classes[mk.cls]? = some kP ∧ kP.init = .initialized ∧ parseMethodDescriptor (ky_ a).desc = some mM.sig := by
  have hcode := F.2.2.2.2.1 _ hI.2.1
  have hini := F.2.2.2.2.1 _ hI.2.2.2.1
  rcases hI.1 with h | ⟨hh, h⟩
  · rw [h] at hcode
    obtain ⟨mk, hn⟩ := Cond.code_named hcode
    obtain ⟨mM, cM, hmM, -, -, -, -, -, -, hsig⟩ := Cond.code_spec hn hcode
    obtain ⟨kP, hkP, -⟩ := className_of_methodNamed hn
    exact ⟨mk, mM, kP, hn, hmM, hkP, Cond.initialized_spec (findClass_of_methodNamed hn) hkP hini, hsig⟩
  · rw [h] at hcode
    obtain ⟨mk, mM, cM, hn, hmM, -, -, -, -, -, -, hsig⟩ := Cond.codeWith_spec hcode
    obtain ⟨kP, hkP, -⟩ := className_of_methodNamed hn
    exact ⟨mk, mM, kP, hn, hmM, hkP, Cond.initialized_spec (findClass_of_methodNamed hn) hkP hini, hsig⟩
theorem cj_inS {idx n : Nat} (F : cj_Fx p R s m args meth c nL D tys cc own nm fr lo) (hI : cj_Mi a) (hlk : cj_lk own idx (ky_ a)) (hsta : Cond.static (ky_ a) ∈ lw_kw) (hpd : (parseMethodDescriptor (ky_ a).desc).map (fun d => d.parameters.length) = some n) {locs : List Loc} {cells slots : Nat} {T : State} (X : Stand p l e R s m args below meth c T locs cells slots) {g : JFrame} (hg : g.method = m) {As rest : List Value} (hn : As.length = n) (hstack : g.stack = As.reverse ++ rest) (hd : decode cc g.pc = .ok (.invokestatic idx, 3)) : cj_Inv p l e R s m args below meth c locs cells slots T g rest (ky_ a) As.toArray := by
  obtain ⟨mk, mM, kP, hnamed, hmM, hkP, hinit, hsig⟩ := cj_known F hI
  have hstatic : mM.isStatic = true := Cond.static_spec hnamed hmM (F.2.2.2.2.1 _ hsta)
  have hlen : As.length = mM.sig.parameters.length := cj_len_of hpd hn _ hsig
  have hd' : decode c.code g.pc = .ok (.invokestatic idx, 3) := by rw [F.2.1]; exact hd
  rcases hlk with hlk | ⟨host, hlk⟩
  · obtain ⟨vm₁, X₁, hstep⟩ := X.invokestatic F.1 F.2.2.2.1 (F.2.2.2.2.1 _ hlk) hnamed hmM hstatic hkP hinit hI.2.2.2.2 hg hlen hstack hd'
    exact ⟨vm₁, mk, X₁, hnamed, fun target h => hstep target (fun acts => by rw [doInvoke_state] at h ⊢; exact h)⟩
  · obtain ⟨vm₁, X₁, hstep⟩ := X.invokestaticNest F.1 F.2.2.2.1 (F.2.2.2.2.1 _ hlk) hnamed hmM hstatic hkP hinit hI.2.2.2.2 hg hlen hstack hd'
    exact ⟨vm₁, mk, X₁, hnamed, fun target h => hstep target (fun acts => by rw [doInvoke_state] at h ⊢; exact h)⟩
theorem cj_inV {idx n : Nat} (F : cj_Fx p R s m args meth c nL D tys cc own nm fr lo) (hI : cj_Mi a) (hlk : cj_lk own idx (ky_ a)) (hins : Cond.instanceMethod (ky_ a) ∈ lw_kw) (hsel : Cond.selects (ky_ a).cls (ky_ a) (ky_ a) ∈ lw_kw) (hpd : (parseMethodDescriptor (ky_ a).desc).map (fun d => d.parameters.length) = some n) {locs : List Loc} {cells slots : Nat} {T : State} (X : Stand p l e R s m args below meth c T locs cells slots) {o : Nat} {cellB : Cell} (hcell : T.heap[o]? = some cellB) (hvm : cellB.vm = .none) (hcls : s.vm.findClass (ky_ a).cls = some cellB.cls) {g : JFrame} (hg : g.method = m) {As rest : List Value} (hn : As.length = n) (hstack : g.stack = As.reverse ++ .ref o :: rest) (hd : decode cc g.pc = .ok (.invokevirtual idx, 3)) : cj_Inv p l e R s m args below meth c locs cells slots T g rest (ky_ a) (Value.ref o :: As).toArray := by
  obtain ⟨mk', mM', kP', hnamed', hmM', hkP', hinit', hsig'⟩ := cj_known F hI
  obtain ⟨mk, methM, hnamed, hmethM, hstM, habM⟩ := Cond.instanceMethod_spec (F.2.2.2.2.1 _ hins)
  have e1 : mk = mk' := Option.some.inj (hnamed.symm.trans hnamed')
  subst e1
  have e2 : methM = mM' := Option.some.inj (hmethM.symm.trans hmM')
  subst e2
  obtain ⟨c2, r2, m2, q1, q2, q3, q4, kP, hkP, hkPi⟩ := Cond.selects_spec (F.2.2.2.2.1 _ hsel)
  have e3 : cellB.cls = c2 := Option.some.inj (hcls.symm.trans q1)
  subst e3
  have e4 : mk = r2 := Option.some.inj ((State.methodFound?_of_named hnamed hI.2.2.2.2).symm.trans q2)
  subst e4
  have e5 : mk = m2 := Option.some.inj (hnamed.symm.trans q3)
  subst e5
  have hselP : selectMethod e.platform s.vm cellB.cls mk = .method mk := by rw [Launch.admits_selectMethod X.admits]; exact q4
  have hlen : As.length = methM.sig.parameters.length := cj_len_of hpd hn _ hsig'
  have hd' : decode c.code g.pc = .ok (.invokevirtual idx, 3) := by rw [F.2.1]; exact hd
  rcases hlk with hlk | ⟨host, hlk⟩
  · obtain ⟨vm₁, X₁, hstep⟩ := X.invokevirtual F.1 F.2.2.2.1 (F.2.2.2.2.1 _ hlk) hnamed hmethM hstM hkP hkPi hI.2.2.2.2 (a := o) (cell := cellB) hcell
      (fun z h => by rw [hvm] at h; cases h) hselP hmethM habM hkP hkPi (g := g) hg (argsL := As) (rest := rest) hlen hstack hd'
    exact ⟨vm₁, mk, X₁, hnamed, fun target h => hstep target (fun acts => by rw [doInvoke_state] at h ⊢; exact h)⟩
  · obtain ⟨vm₁, X₁, hstep⟩ := X.invokevirtualNest F.1 F.2.2.2.1 (F.2.2.2.2.1 _ hlk) hnamed hmethM hstM hkP hkPi hI.2.2.2.2 (a := o) (cell := cellB) hcell
      (fun z h => by rw [hvm] at h; cases h) hselP hmethM habM hkP hkPi (g := g) hg (argsL := As) (rest := rest) hlen hstack hd'
    exact ⟨vm₁, mk, X₁, hnamed, fun target h => hstep target (fun acts => by rw [doInvoke_state] at h ⊢; exact h)⟩
theorem cj_inI {idx n : Nat} (F : cj_Fx p R s m args meth c nL D tys cc own nm fr lo) (hI : cj_Mi a) (hcd : kcd_ a = .code (ky_ a) (kb_ a) (km_ a).2 none) (hnm : (ky_ a).name = "<init>") (hlk : cj_lk own idx (ky_ a)) (hins : Cond.instanceMethod (ky_ a) ∈ lw_kw) (hpd : (parseMethodDescriptor (ky_ a).desc).map (fun d => d.parameters.length) = some n) {locs : List Loc} {cells slots : Nat} {T : State} (X : Stand p l e R s m args below meth c T locs cells slots) {o : Nat} {g : JFrame} (hg : g.method = m) {As rest : List Value} (hn : As.length = n) (hstack : g.stack = As.reverse ++ .ref o :: rest) (hd : decode cc g.pc = .ok (.invokespecial idx, 3)) : cj_Inv p l e R s m args below meth c locs cells slots T g rest (ky_ a) (Value.ref o :: As).toArray := by
  have hpl : e.platform.magicAccessors = ({} : Platform).magicAccessors := by rw [X.admits.platform]
  have hcode := F.2.2.2.2.1 _ hI.2.1
  rw [hcd] at hcode
  have hlen := cj_len_of hpd hn
  have hd' : decode c.code g.pc = .ok (.invokespecial idx, 3) := by rw [F.2.1]; exact hd
  subst hg
  rcases hlk with hlk | ⟨host, hlk⟩
  · obtain ⟨mk, methM, cM, kP, vm₁, hnamed, hmethM, hcodeM, -, hlocalsM, -, hkP, -, hW₁, hstep₁⟩ := Steps.initColdArgs (e := e) X.here F.1 X.warmed hpl F.2.2.2.1 hnm hI.2.2.2.2 (F.2.2.2.2.1 _ hlk) (F.2.2.2.2.1 _ hins) hcode (f := g) rfl hlen hstack hd'
    exact ⟨vm₁, mk, X.noted hW₁, hnamed, fun target h => hstep₁ target (fun acts => by rw [doInvoke_state] at h ⊢; exact h)⟩
  · obtain ⟨mk, methM, cM, kP, vm₁, hnamed, hmethM, hcodeM, -, hlocalsM, -, hkP, -, hW₁, hstep₁⟩ := Steps.initColdArgsNest (e := e) X.here F.1 X.warmed hpl F.2.2.2.1 hnm hI.2.2.2.2 (F.2.2.2.2.1 _ hlk) (F.2.2.2.2.1 _ hins) hcode (f := g) rfl hlen hstack hd'
    exact ⟨vm₁, mk, X.noted hW₁, hnamed, fun target h => hstep₁ target (fun acts => by rw [doInvoke_state] at h ⊢; exact h)⟩
/-- how a call's instruction is done, whatever its kind: as the guard asks -/
def cj_Vc (mm : Nat) (cc : ByteArray) (own nm : String) (fr lo : Nat) (i : cj_I) (pc : Nat) : Prop :=
  cj_Mi i.2.1 ∧ i.2.2.1 ≤ (km_ i.2.1).2 ∧ ((kq_ i.2.1).1 + 1 ≤ fr ∧ 8 + ((km_ i.2.1).2 + 11) + (kq_ i.2.1).2 ≤ lo) ∧ ∃ ig, decode cc pc = .ok (ig, 3) ∧
  ∀ (p : Program) (l : Launch) (e : Env) (R : Room) (s : State) (m : MethodId) (args : Array Value) (below : List Frame) (meth : Method) (c : Code) (nL : Nat) (D : va_G) (tys : cj_T) (ad : Nat → Nat) (M : cj_M) (H : Heap) (ls : Array Slot) (st : List Value) (locs : List Loc) (cells slots : Nat) (T : State),
    cj_Fx p R s m args meth c nL D tys cc own nm fr lo → Stand p l e R s m args below meth c T locs cells slots → cj_R s D tys ad M H → T.heap = H → cj_gq i mm st M = true →
    cj_Inv p l e R s m args below meth c locs cells slots T (F0 m pc ls (st.map (cj_mv ad))) ((st.drop i.2.2.1).map (cj_mv ad)) (ky_ i.2.1) ((st.take i.2.2.1).reverse.map (cj_mv ad)).toArray
theorem vc_static {mm b idx pc a : Nat} {lx : List Nat} {cc : ByteArray} {own nm : String} {fr lo : Nat} (hI : cj_Mi a) (hd : decode cc pc = .ok (.invokestatic idx, 3)) (hlk : cj_lk own idx (ky_ a)) (hsta : Cond.static (ky_ a) ∈ lw_kw) (hpd : (parseMethodDescriptor (ky_ a).desc).map (fun d => d.parameters.length) = some b) (hbl : b ≤ (km_ a).2) (hrm : (kq_ a).1 + 1 ≤ fr ∧ 8 + ((km_ a).2 + 11) + (kq_ a).2 ≤ lo) : cj_Vc mm cc own nm fr lo (81, a, b, lx) pc := by
  refine ⟨hI, hbl, hrm, _, hd, ?_⟩
  intro p l e R s m args below meth c nL D tys ad M H ls st locs cells slots T F X hR hT hgq
  obtain ⟨g1, g2, g3, g4, -⟩ := cj_gq_inv hgq
  have g1 : b ≤ st.length := g1
  have hla : ((st.take b).reverse.map (cj_mv ad)).length = b := by rw [List.length_map, List.length_reverse, List.length_take]; omega
  exact cj_inS F hI hlk hsta hpd X rfl hla (cj_split g1) hd
theorem cj_rc_inv {as : List Value} {c0 : Nat} (h : cj_rc as M c0 = true) : ∃ o r fs, as = .ref o :: r ∧ M.1 o = some (.inr (c0, fs)) := by
  unfold cj_rc at h
  split at h
  · split at h
    · rename_i ho
      have e := eq_of_beq h
      subst e
      exact ⟨_, _, _, rfl, ho⟩
    · cases h
  · cases h
theorem vc_virtual {mm b n idx pc a ci : Nat} {cc : ByteArray} {own nm : String} {fr lo : Nat} {q : vw_C} (hI : cj_Mi a) (hd : decode cc pc = .ok (.invokevirtual idx, 3)) (hlk : cj_lk own idx (ky_ a)) (hins : Cond.instanceMethod (ky_ a) ∈ lw_kw) (hsel : Cond.selects (ky_ a).cls (ky_ a) (ky_ a) ∈ lw_kw) (hcl : kcl_[ci]? = some q) (hq : q.1 = (ky_ a).cls) (hpd : (parseMethodDescriptor (ky_ a).desc).map (fun d => d.parameters.length) = some n) (hbn : b = n + 1) (hbl : b ≤ (km_ a).2) (hrm : (kq_ a).1 + 1 ≤ fr ∧ 8 + ((km_ a).2 + 11) + (kq_ a).2 ≤ lo) : cj_Vc mm cc own nm fr lo (80, a, b, [ci]) pc := by
  refine ⟨hI, hbl, hrm, _, hd, ?_⟩
  intro p l e R s m args below meth c nL D tys ad M H ls st locs cells slots T F X hR hT hgq
  obtain ⟨g1, g2, g3, g4, g5⟩ := cj_gq_inv hgq
  have g1 : b ≤ st.length := g1
  have g5 : cj_rc (st.take b).reverse M ci = true := g5
  obtain ⟨o, r, fs, has, ho⟩ := cj_rc_inv g5
  have hla : (st.take b).reverse.length = b := by rw [List.length_reverse, List.length_take]; omega
  obtain ⟨ho1, q', hq', hlen, ⟨cell, q1, q2, q3, q4⟩, hwf⟩ := hR.1 o _ ho
  cases hcl.symm.trans hq'
  have hcls := (F.2.2.2.2.2.1.1 ci _ hcl).2.1
  have hst := cj_split (ad := ad) g1
  show cj_Inv p l e R s m args below meth c locs cells slots T _ _ (ky_ a) ((st.take b).reverse.map (cj_mv ad)).toArray
  rw [has] at hla hst ⊢
  have hr1 : (r.map (cj_mv ad)).length = n := by rw [List.length_map]; simp at hla; omega
  refine cj_inV (o := ad o) (cellB := cell) F hI hlk hins hsel hpd X (by rw [hT]; exact q1) q3 (by rw [← hq, q2]; exact hcls) rfl hr1 ?_ hd
  show st.map (cj_mv ad) = _
  rw [hst]
  simp [cj_mv]
theorem cj_r0_inv {as : List Value} (h : cj_r0 as = true) : ∃ o r, as = .ref o :: r := by
  unfold cj_r0 at h
  split at h
  · exact ⟨_, _, rfl⟩
  · cases h
theorem vc_special {mm b n idx pc a : Nat} {lx : List Nat} {cc : ByteArray} {own nm : String} {fr lo : Nat} (hI : cj_Mi a) (hcd : kcd_ a = .code (ky_ a) (kb_ a) (km_ a).2 none) (hnm : (ky_ a).name = "<init>") (hd : decode cc pc = .ok (.invokespecial idx, 3)) (hlk : cj_lk own idx (ky_ a)) (hins : Cond.instanceMethod (ky_ a) ∈ lw_kw) (hpd : (parseMethodDescriptor (ky_ a).desc).map (fun d => d.parameters.length) = some n) (hbn : b = n + 1) (hbl : b ≤ (km_ a).2) (hrm : (kq_ a).1 + 1 ≤ fr ∧ 8 + ((km_ a).2 + 11) + (kq_ a).2 ≤ lo) : cj_Vc mm cc own nm fr lo (82, a, b, lx) pc := by
  refine ⟨hI, hbl, hrm, _, hd, ?_⟩
  intro p l e R s m args below meth c nL D tys ad M H ls st locs cells slots T F X hR hT hgq
  obtain ⟨g1, g2, g3, g4, g5⟩ := cj_gq_inv hgq
  have g1 : b ≤ st.length := g1
  have g5 : cj_r0 (st.take b).reverse = true := g5
  obtain ⟨o, r, has⟩ := cj_r0_inv g5
  have hla : (st.take b).reverse.length = b := by rw [List.length_reverse, List.length_take]; omega
  have hst := cj_split (ad := ad) g1
  show cj_Inv p l e R s m args below meth c locs cells slots T _ _ (ky_ a) ((st.take b).reverse.map (cj_mv ad)).toArray
  rw [has] at hla hst ⊢
  have hr1 : (r.map (cj_mv ad)).length = n := by rw [List.length_map]; simp at hla; omega
  refine cj_inI (o := ad o) F hI hcd hnm hlk hins hpd X rfl hr1 ?_ hd
  show st.map (cj_mv ad) = _
  rw [hst]
  simp [cj_mv]
/-- a call that comes back -/
theorem go_call {mm nx : Nat} {i : cj_I} {st : List Value} (F : cj_Fx p R s m args meth c nL D tys cc own nm fr lo) (hty : cj_Ty tys) (hV : cj_Vc mm cc own nm fr lo i pc) (hnx : nx = pc + 3) (hC : cj_Cn l i.2.1) 
    (hgq : cj_gq i mm st M = true) (hev : cj_ev i.2.1 (st.take i.2.2.1).reverse M = some (.inl v, M')) (hc : M'.2.2.1 ≤ k0 + R.cells) (hw : M'.2.2.2 ≤ w0 + R.slots) (k : cj_Go p l e R s m args below meth c Q nL D tys ad0 n0 k0 w0 nx L (v.toList ++ st.drop i.2.2.1) M') : cj_Go p l e R s m args below meth c Q nL D tys ad0 n0 k0 w0 pc L st M := by
  intro ad H locs cells slots ls hr T hT X
  obtain ⟨hI, hbl, hrm, ig, hd, hinv⟩ := hV
  obtain ⟨vm₁, mk, X₁, hnamed, hstep⟩ := hinv p l e R s m args below meth c nL D tys ad M H ls st locs cells slots T F X hr.1 hT hgq
  obtain ⟨g1, g2, g3, g4, -⟩ := cj_gq_inv hgq
  have hla : (st.take i.2.2.1).reverse.length = i.2.2.1 := by rw [List.length_reverse, List.length_take]; omega
  obtain ⟨n9, hn9⟩ := cj_res_iff.mp hev
  have hg := cj_run_grow hn9
  have hcn := hC D tys ad H.size (st.take i.2.2.1).reverse M (.inl v) M' hty g4 (by omega) (fun w hw' => hr.2.2.1 w (List.mem_of_mem_take (List.mem_reverse.mp hw'))) hev
  have hK := cj_Bk (p := p) (e := e) (below := below) (c := c) F hI ⟨Nat.le_trans hrm.1 F.2.2.2.2.2.2.2.1, Nat.le_trans hrm.2 F.2.2.2.2.2.2.2.2.1⟩ (cj_Met_ret hcn cj_Qc_ret) cj_Pc_blind
  have hPre : PreOf R (M'.2.2.1 - M.2.2.1) (M'.2.2.2 - M.2.2.2) (cj_Pc D tys ad H.size (st.take i.2.2.1).reverse M) ⟨T.setVm vm₁, locs, cells, slots⟩ ((st.take i.2.2.1).reverse.map (cj_mv ad)).toArray := by
    have r8 := hr.2.2.2.2.2.1
    have r9 := hr.2.2.2.2.2.2
    have h8 := hg.2.1
    have h9 := hg.2.2
    have hW₁ := X₁.warmed
    dsimp only at h8 h9
    refine ⟨by show cells + _ ≤ _; omega, by show slots + _ ≤ _; omega, rfl, by show T.heap.size = _; rw [hT], va_K.moved (U := T.setVm vm₁) hW₁.alike F.2.2.2.2.2.1, ?_⟩
    show cj_R _ D tys ad M T.heap
    rw [hT]
    exact cj_R_move (V := T.setVm vm₁) hW₁.alike hr.1
  have hdrop : (st.drop i.2.2.1).length ≤ 4 := by rw [List.length_drop]; omega
  obtain ⟨v9, B, X', hpost, hsteps⟩ := hK m meth c ⟨T.setVm vm₁, locs, cells, slots⟩ (F0 m pc ls ((st.drop i.2.2.1).map (cj_mv ad))) ig mk _ X₁ rfl (by rw [F.2.2.1]; exact hr.2.1.1) (by rw [F.2.1]; exact hd) (cj_room_st hdrop) (X₁.named hnamed) hPre
  subst hnx
  exact cj_cont (b := i.2.2.1) hr hT hg X' hpost k (fun tg htg => hstep tg (hsteps.trans htg))
end CJC
