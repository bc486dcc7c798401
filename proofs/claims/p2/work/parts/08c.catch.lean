/-! a call that throws into a handler of its caller: the handler's class may be resolved then for the first time -/
section CJX
variable {E : CtlPost} {e : Env} {d : Bool} {acts : List Action} {st : State} {f : JFrame} {a : Addr} {Q : Handler → Pre}
theorem cj_fh_cold {x : ExceptionTableEntry} {t : List ExceptionTableEntry} {c : ClassId} {cell : Cell} {vm' : Vm} (hx : covers x f.pc = true) (h0 : x.catchType ≠ 0)
    (hg : (Jvm.resolveClass f.method.cls x.catchType).Gives e.toSetting st.vm (.ok c) vm') (hsz : vm'.classes.size ≤ st.vm.classes.size) (hcell : st.heap[a]? = some cell) (hobj : ∀ k, cell.vm ≠ .statics k)
    (hk : ∃ k, vm'.classes[cell.cls]? = some k) (hc : ∃ k, vm'.classes[c]? = some k) :
    wp (findHandler.go f a (x :: t)) Q E e d acts st ↔
      if vm'.assignable cell.cls c = true then Q (.found x.handlerPc) d acts (st.setVm vm') else wp (findHandler.go f a t) Q E e d acts (st.setVm vm') := by
  simp only [covers] at hx
  obtain ⟨ha, ht⟩ := hg.op (op := VmOp.resolveClass f.method.cls x.catchType) rfl
  obtain ⟨k1, hk1⟩ := hk
  obtain ⟨k2, hk2⟩ := hc
  cases hfit : vm'.assignable cell.cls c <;>
    simp [findHandler.go, hx, h0, ha, ht, hsz, hcell, hobj, hk1, hk2, hfit, VmOp.dirties, VmOp.acts]
/-- a handler as the tables have it -/
def cj_Hk (own : String) (cc : ByteArray) (q : Nat × Nat × Nat × Nat) (h : Nat × Nat × Nat × Nat × Nat) : Prop :=
  q.1 = h.1 ∧ q.2.1 = h.2.1 ∧ Cond.classLink own q.2.2.2 (kex_ h.2.2.1) ∈ lw_kw ∧ Cond.castable (kex_ h.2.2.1) (kex_ h.2.2.1) ∈ lw_kw ∧ h.2.2.1 < 3 ∧ q.2.2.2 ≠ 0 ∧ ((decode cc q.2.2.1 = .ok (.astore h.2.2.2.2, 2) ∧ h.2.2.2.1 = q.2.2.1 + 2) ∨ ∃ n : Fin 4, decode cc q.2.2.1 = .ok (.astore_n n, 1) ∧ (n : Nat) = h.2.2.2.2 ∧ h.2.2.2.1 = q.2.2.1 + 1)
def cj_Hks (own : String) (cc : ByteArray) : List (Nat × Nat × Nat × Nat) → List (Nat × Nat × Nat × Nat × Nat) → Prop
  | [], [] => True
  | q :: qs, h :: hs => cj_Hk own cc q h ∧ cj_Hks own cc qs hs
  | _, _ => False
def cj_St (cc : ByteArray) (hpc pc' j : Nat) : Prop := (decode cc hpc = .ok (.astore j, 2) ∧ pc' = hpc + 2) ∨ ∃ n : Fin 4, decode cc hpc = .ok (.astore_n n, 1) ∧ (n : Nat) = j ∧ pc' = hpc + 1
theorem cj_seek {l : Launch} {s : State} {args : Array Value} {own : String} {cc : ByteArray} {k pc' j : Nat} {cell : Cell} (hadm : l.admits e) (hk3 : k < 3) (hown : s.vm.findClass own = some f.method.cls) (hw : ∀ w ∈ lw_kw, w.before args s = true) (hnc : ∀ i j : Nat, i < 3 → j < 3 → i ≠ j → va_Nc (kex_ i) (kex_ j) s) (hobj : ∀ z, cell.vm ≠ .statics z) (hcX : s.vm.findClass (kex_ k) = some cell.cls) (hkX : ∃ kk, s.vm.classes[cell.cls]? = some kk) :
    ∀ (es : List ExceptionTableEntry) (hs : List (Nat × Nat × Nat × Nat × Nat)), cj_Hks own cc (es.map (fun h => (h.startPc, h.endPc, h.handlerPc, h.catchType))) hs → cj_hdl hs f.pc k = some (pc', j) → ∀ st : State, s.WarmedH st.vm → st.heap[a]? = some cell →
      ∃ (vm' : Vm) (hpc : Nat), s.WarmedH vm' ∧ cj_St cc hpc pc' j ∧ ∀ (Q : Handler → Pre) (E : CtlPost) (d : Bool) (acts : List Action), wp (findHandler.go f a es) Q E e d acts st ↔ Q (.found hpc) d acts (st.setVm vm') := by
  intro es
  induction es with
  | nil =>
    intro hs h1 h2
    cases hs with
    | nil => simp [cj_hdl] at h2
    | cons h hs => exact h1.elim
  | cons x es ih =>
    intro hs h1 h2 st hW hcell
    cases hs with
    | nil => exact h1.elim
    | cons h hs =>
      obtain ⟨⟨a1, a2, a3, a4, a5, a6, a7⟩, h1⟩ := h1
      have a1 : x.startPc = h.1 := a1
      have a2 : x.endPc = h.2.1 := a2
      have a6 : x.catchType ≠ 0 := a6
      by_cases hcv : h.1 ≤ f.pc ∧ f.pc < h.2.1
      · have hx : covers x f.pc = true := by
          unfold covers
          rw [a1, a2]
          simp [hcv.1, hcv.2]
        have hpl : e.platform.magicAccessors = ({} : Platform).magicAccessors := by rw [hadm.platform]
        obtain ⟨cc1, hfcc, hcl⟩ := Cond.classLink_spec hown (hw _ a3) e.platform hpl
        obtain ⟨hg₁, hwarm₁, hready₁⟩ := State.classEntry (e := e) hW hcl
        have hsz : (st.vm.noted f.method.cls x.catchType (.cls cc1)).classes.size ≤ st.vm.classes.size := by no_record
        have hk1 : ∃ kk, (st.vm.noted f.method.cls x.catchType (.cls cc1)).classes[cell.cls]? = some kk := by
          obtain ⟨kk, hkk⟩ := hkX
          obtain ⟨k9, hk9, -⟩ := hwarm₁.alike.2.2 _ _ hkk
          exact ⟨k9, hk9⟩
        have hk2 : ∃ kk, (st.vm.noted f.method.cls x.catchType (.cls cc1)).classes[cc1]? = some kk := by
          obtain ⟨kk, hkk⟩ := Vm.classAt_of_findClass hfcc
          obtain ⟨k9, hk9, -⟩ := hwarm₁.alike.2.2 _ _ hkk
          exact ⟨k9, hk9⟩
        by_cases hkk : h.2.2.1 = k
        · have hfit : (st.vm.noted f.method.cls x.catchType (.cls cc1)).assignable cell.cls cc1 = true := by
            rw [hwarm₁.alike.assignable]
            rw [hkk] at a4 hfcc
            obtain ⟨c3, c4, hc3, hc4, hasg⟩ := Cond.castable_spec (hw _ a4)
            cases hc3.symm.trans hcX
            cases hc4.symm.trans hfcc
            exact hasg
          have hfd : cj_hdl (h :: hs) f.pc k = some (h.2.2.2.1, h.2.2.2.2) := by
            simp [cj_hdl, List.find?, hcv.1, hcv.2, hkk]
          rw [hfd] at h2
          cases h2
          refine ⟨_, x.handlerPc, hwarm₁, a7, fun Q E d acts => ?_⟩
          rw [cj_fh_cold hx a6 hg₁ hsz hcell hobj hk1 hk2, if_pos hfit]
        · have hfit : (st.vm.noted f.method.cls x.catchType (.cls cc1)).assignable cell.cls cc1 = false := by
            rw [hwarm₁.alike.assignable]
            obtain ⟨c3, c4, hc3, hc4, hasg⟩ := hnc k h.2.2.1 hk3 a5 (fun q => hkk q.symm)
            cases hc3.symm.trans hcX
            cases hc4.symm.trans hfcc
            exact hasg
          have hfd : cj_hdl (h :: hs) f.pc k = cj_hdl hs f.pc k := by
            simp only [cj_hdl, List.find?]
            rw [show (h.2.2.1 == k) = false from beq_eq_false_iff_ne.mpr hkk, Bool.and_false]
          rw [hfd] at h2
          obtain ⟨vm2, hpc, hw2, hst, hgo⟩ := ih hs h1 h2 (st.setVm (st.vm.noted f.method.cls x.catchType (.cls cc1))) hwarm₁ hcell
          refine ⟨vm2, hpc, hw2, hst, fun Q E d acts => ?_⟩
          rw [cj_fh_cold hx a6 hg₁ hsz hcell hobj hk1 hk2, if_neg (by rw [hfit]; decide), hgo]
          rw [State.setVm_twice]
      · have hx : covers x f.pc = false := by
          unfold covers
          rw [a1, a2]
          by_cases z : h.1 ≤ f.pc
          · have z2 : ¬ f.pc < h.2.1 := fun q => hcv ⟨z, q⟩
            simp [z2]
          · simp [z]
        have hfd : cj_hdl (h :: hs) f.pc k = cj_hdl hs f.pc k := by
          simp only [cj_hdl, List.find?]
          rw [show (decide (h.1 ≤ f.pc ∧ f.pc < h.2.1)) = false from decide_eq_false hcv]
          rfl
        rw [hfd] at h2
        obtain ⟨vm2, hpc, hw2, hst, hgo⟩ := ih hs h1 h2 st hW hcell
        refine ⟨vm2, hpc, hw2, hst, fun Q E d acts => ?_⟩
        rw [W.findHandler_go_skip hx, hgo]
/-- the search ends in a handler, the tables warmer -/
def cj_Fd (e : Env) (s : State) (f : JFrame) (a : Addr) (pc : Nat) (vm' : Vm) : Prop := ∀ (Q : Handler → Pre) (E : CtlPost) (d : Bool) (acts : List Action), wp (findHandler f a) Q E e d acts s ↔ Q (.found pc) d acts (s.setVm vm')
theorem cj_catch {s : State} {r : List Frame} {pc : Nat} {vm' : Vm} (hfind : cj_Fd e s f a pc vm') :
    (stepThrowing e s a (.java f :: r)).Is ((s.setVm vm').setFrames (.java { f with pc := pc, stack := [.ref a] } :: r)) [] := by
  simp only [stepThrowing, searchFrame, vmDo]
  generalize hr : Sem.go _ e false [] s = res
  obtain ⟨as, rfl, ha⟩ := Sem.eq_ok_of hr (a := Handler.found pc) (s' := s.setVm vm') (acts' := []) (by simp [hfind _ _ _ _])
  exact ⟨rfl, ha⟩
theorem cj_caught {tb : Tables} {s target : State} {g : JFrame} {c : Code} {below : List Frame} (h : At s g.method c below) {pc : Nat} {vm' : Vm} (hfind : cj_Fd e ((s.setTop g).pushFrame (.throwing a)) g a pc vm')
    (hrest : Steps tb e below ((s.setVm vm').setTop { g with pc := pc, stack := [.ref a] }) target) :
    Steps tb e below ((s.setTop g).pushFrame (.throwing a)) target := by
  obtain ⟨hgo, hw⟩ := h.throwing a
  refine Steps.head hgo hw ?_
  rw [stepThread_throwing (frames_entered h.top _), (cj_catch (s := (s.setTop g).pushFrame (.throwing a)) hfind).1]
  obtain ⟨g₀, hg⟩ := Option.isSome_iff_exists.mp h.top
  obtain ⟨r, hr⟩ := State.topJava?_eq_some.mp hg
  have hr' : (s.setVm vm').frames = .java g₀ :: r := hr
  rw [State.setTop_of_frames _ hr'] at hrest
  have e1 : (((s.setTop g).pushFrame (.throwing a)).setVm vm').setFrames (.java { g with pc := pc, stack := [.ref a] } :: s.frames.tail) = (s.setVm vm').setFrames (.java { g with pc := pc, stack := [.ref a] } :: r) := by
    rw [hr]
    rw [State.pushFrame, State.setTop_of_frames _ hr, State.setFrames_setFrames]
    show ((s.setVm vm').setFrames _).setFrames _ = _
    rw [State.setFrames_setFrames]
    rfl
  rw [e1]
  exact hrest
theorem vx_none {l : Launch} {mm : Nat} {cc : ByteArray} {own nm : String} {fr lo : Nat} {i : cj_I} {pc : Nat} (h : kh_ mm = []) : cj_Vx l mm cc own nm fr lo i pc := by
  intro p e R s m args below meth c Q nL D tys ad0 n0 k0 w0 L st M M' k pc' j F hty hlocks hcd hnam hh
  rw [h] at hh
  simp [cj_hdl] at hh
/-- what a throwing callee leaves -/
theorem cj_Qc_thr {D : va_G} {tys : cj_T} {ad : Nat → Nat} {sz : Nat} {M M' : cj_M} {k : Nat} {x : Array Value} {st : State} {o : Outcome} {t : State} (h : cj_Qc D tys ad sz M (.inr k) M' x st o t) : ∃ z, o = .threw z ∧ cj_exc k z t := by
  obtain ⟨ad', -, -, ho, -⟩ := h
  exact ho
theorem cj_hdl_mem {hs : List (Nat × Nat × Nat × Nat × Nat)} {pc k pc' j : Nat} (h : cj_hdl hs pc k = some (pc', j)) : ∃ q ∈ hs, q.2.2.1 = k ∧ q.2.2.2.2 = j := by
  unfold cj_hdl at h
  cases hf : hs.find? (fun h => decide (h.1 ≤ pc ∧ pc < h.2.1) && h.2.2.1 == k) with
  | none => rw [hf] at h; cases h
  | some q =>
    rw [hf] at h
    have h := Option.some.inj h
    have h1 := List.find?_some hf
    rw [Bool.and_eq_true] at h1
    exact ⟨q, List.mem_of_find?_eq_some hf, eq_of_beq h1.2, congrArg Prod.snd h⟩
theorem cj_Hks_lt {own : String} {cc : ByteArray} : ∀ (qs : List (Nat × Nat × Nat × Nat)) (hs : List (Nat × Nat × Nat × Nat × Nat)), cj_Hks own cc qs hs → ∀ h ∈ hs, h.2.2.1 < 3 := by
  intro qs
  induction qs with
  | nil =>
    intro hs h
    cases hs with
    | nil => intro q hq; cases hq
    | cons q hs => exact h.elim
  | cons q qs ih =>
    intro hs h
    cases hs with
    | nil => exact h.elim
    | cons z hs =>
      intro w hw
      rcases List.mem_cons.mp hw with rfl | hw
      · exact h.1.2.2.2.2.1
      · exact ih hs h.2 w hw
theorem vx_some {l : Launch} {mm : Nat} {cc : ByteArray} {own nm : String} {fr lo : Nat} {i : cj_I} {pc : Nat} {hh : List (Nat × Nat × Nat × Nat)} {maxL : Nat} {ret : Option FieldType} (hcdm : kcd_ mm = .codeWith (ky_ mm) cc maxL ret hh) (hH : cj_Hks own cc hh (kh_ mm)) (hj : ∀ h ∈ kh_ mm, h.2.2.2.2 < maxL) (hV : cj_Vc mm cc own nm fr lo i pc) : cj_Vx l mm cc own nm fr lo i pc := by
  intro p e R s m args below meth c Q nL D tys ad0 n0 k0 w0 L st M M' k pc' j F hty hlocks hcd hnam hhd hgq hC hev hc hw kk
  intro ad H locs cells slots ls hr T hT X
  obtain ⟨hI, hbl, hrm, ig, hd, hinv⟩ := hV
  obtain ⟨vm₁, mk, X₁, hnamed, hstep⟩ := hinv p l e R s m args below meth c nL D tys ad M H ls st locs cells slots T F X hr.1 hT hgq
  obtain ⟨g1, g2, g3, g4, -⟩ := cj_gq_inv hgq
  have hla : (st.take i.2.2.1).reverse.length = i.2.2.1 := by rw [List.length_reverse, List.length_take]; omega
  obtain ⟨n9, hn9⟩ := cj_res_iff.mp hev
  have hg := cj_run_grow hn9
  dsimp only at hg
  have hcn := hC D tys ad H.size (st.take i.2.2.1).reverse M (.inr k) M' hty g4 (by omega) (fun w hw' => hr.2.2.1 w (List.mem_of_mem_take (List.mem_reverse.mp hw'))) hev
  have r8 := hr.2.2.2.2.2.1
  have r9 := hr.2.2.2.2.2.2
  have hW₁ := X₁.warmed
  have hdrop : (st.drop i.2.2.1).length ≤ 4 := by rw [List.length_drop]; omega
  obtain ⟨hcd9, hin9, hpl9, hini9, hmh9⟩ := hI
  -- the callee's entry
  have hstep : ∀ target, Steps p.tables e below (doInvoke e ((T.setVm vm₁).setTop (F0 m pc ls ((st.drop i.2.2.1).map (cj_mv ad)))) [] mk ((st.take i.2.2.1).reverse.map (cj_mv ad)).toArray).1 target → Steps p.tables e below (T.setTop (F0 m pc ls (st.map (cj_mv ad)))) target := hstep
  generalize hg0 : F0 m pc ls ((st.drop i.2.2.1).map (cj_mv ad)) = g at hstep
  have hgm : g.method = m := by rw [← hg0]
  have hgs : g.locals.size = c.maxLocals := by rw [← hg0, F.2.2.1]; exact hr.2.1.1
  have hgp : g.pc = pc := by rw [← hg0]
  have hdg : decode c.code g.pc = .ok (ig, 3) := by rw [hgp, F.2.1]; exact hd
  have hn : (T.setVm vm₁).methodNamed? (ky_ i.2.1) = some mk := X₁.named hnamed
  have hwU : ∀ w ∈ kcd_ i.2.1 :: lw_kw, w.before ((st.take i.2.2.1).reverse.map (cj_mv ad)).toArray (T.setVm vm₁) = true := by
    intro w hw'
    rcases List.mem_cons.mp hw' with rfl | hw'
    · exact cj_kww hin9 hW₁ (F.2.2.2.2.1 _ hin9)
    · exact cj_kww hw' hW₁ (F.2.2.2.2.1 _ hw')
  obtain ⟨methY, cY, hmY, hcY, hlY⟩ : ∃ (methY : Method) (cY : Code), (T.setVm vm₁).vm.method? mk = some methY ∧ methY.code = some cY ∧ cY.maxLocals = (km_ i.2.1).2 := by
    have hcw := hwU _ List.mem_cons_self
    rcases hcd9 with h | ⟨hh9, h⟩
    · rw [h] at hcw
      obtain ⟨mY, cY, a1, a2, -, a3, -⟩ := Cond.code_spec hn hcw
      exact ⟨mY, cY, a1, a2, a3⟩
    · rw [h] at hcw
      obtain ⟨m9, mY, cY, a0, a1, a2, -, a3, -⟩ := Cond.codeWith_spec hcw
      have e9 : mk = m9 := Option.some.inj (hn.symm.trans a0)
      subst e9
      exact ⟨mY, cY, a1, a2, a3⟩
  obtain ⟨kY, hkY, -⟩ := className_of_methodNamed hn
  have hinitY : kY.init = .initialized := Cond.initialized_spec (findClass_of_methodNamed hn) hkY (hwU _ (List.mem_cons_of_mem _ hini9))
  have h : At (T.setVm vm₁) g.method c below := by rw [hgm]; exact X₁.here
  have hst8 : 2 * g.monitorRoom + (g.stack.map fun v => v.category).sum ≤ 8 := by rw [← hg0]; exact cj_room_st hdrop
  have hf1 := F.2.2.2.2.2.2.2.1
  have hf2 := F.2.2.2.2.2.2.2.2.1
  have happ : (headSpec (kcd_ i.2.1 :: lw_kw) (cj_rm i.2.1 (M'.2.2.1 - M.2.2.1) (M'.2.2.2 - M.2.2.2))).appliesLoose (ky_ i.2.1) e.platform ((T.setVm vm₁).calling g mk ((st.take i.2.2.1).reverse.map (cj_mv ad)).toArray) = true :=
    Spec.appliesLoose_calling (g := g) h hdg hn hkY hinitY
      (X₁.room_calling (g := g) (R' := cj_rm i.2.1 (M'.2.2.1 - M.2.2.1) (M'.2.2.2 - M.2.2.2)) hgs hmY hcY (Nat.le_trans hrm.1 hf1) (by rw [hlY]; show _ + ((km_ i.2.1).2 + 11) + (kq_ i.2.1).2 ≤ _; omega) (by show cells + (M'.2.2.1 - M.2.2.1) ≤ _; omega) (by show slots + (M'.2.2.2 - M.2.2.2) ≤ _; omega)) (atoms_intro hwU)
  obtain ⟨mid, hmid⟩ := h.above
  have hfr : ((T.setVm vm₁).setTop g).frames = (.java g :: mid) ++ below := by rw [State.frames_setTop' g h.top, hmid]; rfl
  have hPc : cj_Pc D tys ad H.size (st.take i.2.2.1).reverse M ((st.take i.2.2.1).reverse.map (cj_mv ad)).toArray (T.setVm vm₁) := by
    refine ⟨rfl, by show T.heap.size = _; rw [hT], va_K.moved (U := T.setVm vm₁) hW₁.alike F.2.2.2.2.2.1, ?_⟩
    show cj_R _ D tys ad M T.heap
    rw [hT]
    exact cj_R_move (V := T.setVm vm₁) hW₁.alike hr.1
  obtain ⟨o, s₂, hsteps, -, hend, ⟨hq, L9, ⟨hWe, hse⟩, hfree⟩⟩ := Steps.callFree hcn p X₁.admits X₁.cas X₁.clock (acts := []) hfr happ (cj_Pc_blind _ _ g mk hPc) trivial
  obtain ⟨x, rfl, ce, kx, hx1, hx2, hx3, hx4⟩ := cj_Qc_thr hq
  rw [State.frames_setTop' g h.top, X₁.tail] at hend
  obtain ⟨T', X', hWT, hsm, ht⟩ := X₁.outOfThrown hgm (mk := mk) (a := ((st.take i.2.2.1).reverse.map (cj_mv ad)).toArray) hend hWe hse
  obtain ⟨ad', q1, q2, -, q4, q5⟩ := hq
  have hvm2 : s₂.vm = T'.vm := by rw [ht]; exact Stand.throwing_vm T' g x
  have hhp2 : s₂.heap = T'.heap := by rw [ht]; exact Stand.throwing_heap T' g x
  have hal : s.vm.Alike s₂.vm := by rw [hvm2]; exact X'.warmed.alike
  obtain ⟨k1, -⟩ := cj_back (a9 := st.length) (L9 := L9) (v := none) (B := T') (t := s₂) hr hal.symm q1 q2 (fun w hw' => by simp at hw') q4 q5 hT hfree hg
  rw [List.drop_length, hhp2] at k1
  -- the search
  have htab : c.exceptionTable.toList.map (fun h => (h.startPc, h.endPc, h.handlerPc, h.catchType)) = hh := by
    rw [hcdm] at hcd
    obtain ⟨m9, mY, cY9, a0, a1, a2, -, -, a5, -⟩ := Cond.codeWith_spec hcd
    have e9 : m = m9 := Option.some.inj (hnam.symm.trans a0)
    subst e9
    cases X.method.symm.trans a1
    cases X.code.symm.trans a2
    exact a5
  obtain ⟨zq, zm, zk, zj⟩ := cj_hdl_mem hhd
  have hk3 : k < 3 := by rw [← zk]; exact cj_Hks_lt _ _ hH zq zm
  have hjl : j < maxL := by rw [← zj]; exact hj zq zm
  have hcX : s.vm.findClass (kex_ k) = some ce.cls := by rw [← hal.findClass]; exact hx3
  have hmlc : c.maxLocals = maxL := by
    have hcd' := hcd
    rw [hcdm] at hcd'
    obtain ⟨m9, mY, cY9, a0, a1, a2, -, a4, -⟩ := Cond.codeWith_spec hcd'
    have e9 : m = m9 := Option.some.inj (hnam.symm.trans a0)
    subst e9
    cases X.method.symm.trans a1
    cases X.code.symm.trans a2
    exact a4
  have hjn : j < nL := by rw [← F.2.2.1, hmlc]; exact hjl
  obtain ⟨vm2, hpc, hwv, hst, hgo⟩ := cj_seek (e := e) (f := g) (a := x) (l := l) (s := s) (args := args) (own := own) (cc := cc) (k := k) (pc' := pc') (j := j) (cell := ce) X.admits hk3 (by rw [hgm]; exact F.2.2.2.1) F.2.2.2.2.1 F.2.2.2.2.2.2.2.2.2.2.2 hx2 hcX (Vm.classAt_of_findClass hcX) c.exceptionTable.toList (kh_ mm) (by rw [htab]; exact hH) (by rw [hgp]; exact hhd) ((T'.setTop g).pushFrame (.throwing x)) (by rw [Stand.throwing_vm]; exact X'.warmed) (by rw [Stand.throwing_heap, ← hhp2]; exact hx1)
  have hfd : cj_Fd e ((T'.setTop g).pushFrame (.throwing x)) g x hpc vm2 := by
    intro Q E d acts
    rw [W.findHandler_eq (s := (T'.setTop g).pushFrame (.throwing x)) (f := g) (meth := meth) (by rw [Stand.throwing_vm, hgm]; exact X'.method') X'.code]
    exact hgo Q E d acts
  have Wk : W p l e R s m args below meth c T'.heap (locs ++ L9) (cells + (M'.2.2.1 - M.2.2.1)) (slots + (M'.2.2.2 - M.2.2.2)) Q (F0 m hpc ls [.ref x]) := by
    rcases hst with ⟨hda, rfl⟩ | ⟨n, hda, rfl, rfl⟩
    · exact lv_astore F.1 F.2.1 hda (cj_L_has k1.2.1) hjn rfl (fun ls' hl => kk ad' T'.heap _ _ _ ls' (cj_Rl_ls k1 (cj_L_drop k1.2.1 hjn hl) (fun w hw' => by cases hw')))
    · exact lv_astore_n F.1 F.2.1 hda rfl (cj_L_has k1.2.1) hjn rfl (fun ls' hl => kk ad' T'.heap _ _ _ ls' (cj_Rl_ls k1 (cj_L_drop k1.2.1 hjn hl) (fun w hw' => by cases hw')))
  obtain ⟨t2, b1, b2⟩ := Wk (T'.setVm vm2) rfl (X'.noted hwv)
  refine ⟨t2, hstep t2 (hsteps.trans ?_), b2⟩
  rw [ht]
  refine cj_caught (c := c) (by rw [hgm]; exact X'.here) hfd ?_
  rw [← hg0]
  exact b1
end CJX
