/-! a throw: its state is taken as a start of its own, so that nothing old changes -/
theorem cj_rebase {p : Program} {l : Launch} {e : Env} {R : Room} {s : State} {m : MethodId} {args : Array Value} {below : List Frame} {meth : Method} {c : Code} {T : State} {locs : List Loc} {cells slots : Nat} (X : Stand p l e R s m args below meth c T locs cells slots) (hc : cells ≤ R.cells) (hs : slots ≤ R.slots) :
    Stand p l e { frames := R.frames, cells := R.cells - cells, slots := R.slots - slots, locals := R.locals } (T.setFrames (.invoking m args :: below)) m args below meth c T [] 0 0 := by
  obtain ⟨g₀, hfr⟩ := X.frames_eq
  have hcur : T.cur < T.threads.size := State.cur_lt_of_frames hfr
  have hf : (T.setFrames (.invoking m args :: below)).frames = .invoking m args :: below := State.frames_setFrames _ hcur
  have hm : (T.setFrames (.invoking m args :: below)).vm.method? m = some meth := X.method'
  have hroom : (T.setFrames (.invoking m args :: below)).hasRoom e.platform { frames := R.frames, cells := R.cells - cells, slots := R.slots - slots, locals := R.locals } = true := by
    have h := X.room
    have hb := X.book
    have hz := X.heapSize
    have hu := X.used
    have e1 := State.localsInUse_invoking X.frames X.method X.code
    have e2 := State.localsInUse_invoking hf hm X.code
    have e3 : e.platform.stackLimits (T.setFrames (.invoking m args :: below)).me = e.platform.stackLimits s.me := by rw [State.stackLimits_setFrames]; exact X.limits
    have e4 : (T.setFrames (.invoking m args :: below)).me.stackBytes = s.me.stackBytes := by rw [State.stackBytes_setFrames]; exact X.bytes
    have e5 : s.frames.length = (T.setFrames (.invoking m args :: below)).frames.length := by rw [X.frames, hf]
    simp only [State.hasRoom, Bool.and_eq_true, decide_eq_true_eq] at h ⊢
    obtain ⟨⟨⟨⟨h1, h2⟩, h3⟩, h4⟩, h5⟩ := h
    rw [e1] at h1 h2
    rw [e2, e3, e4, ← e5]
    have z1 : (T.setFrames (.invoking m args :: below)).heap.size = T.heap.size := rfl
    have z2 : (T.setFrames (.invoking m args :: below)).slotsUsed = T.slotsUsed := rfl
    rw [z1, z2]
    refine ⟨⟨⟨⟨h1, h2⟩, by omega⟩, by omega⟩, hb⟩
  have hh : (T.setFrames (.invoking m args :: below)).hears m below = true := by
    have h := X.hears
    have ha : T.vm.method? = s.vm.method? := funext X.warmed.alike.method?
    cases below with
    | nil =>
      have h : (s.vm.method? m).any (·.sig.returnType.isNone) = true := h
      show (T.vm.method? m).any (·.sig.returnType.isNone) = true
      rw [ha]; exact h
    | cons b r =>
      cases b with
      | java g =>
        have h : ((s.code? g.method).bind fun c => (decode c.code g.pc).toOption).isSome = true := h
        show (((T.setFrames (.invoking m args :: .java g :: r)).code? g.method).bind fun c => (decode c.code g.pc).toOption).isSome = true
        rw [State.code?_eq] at h ⊢
        show (((T.vm.method? g.method).bind _).bind _).isSome = true
        rw [ha]; exact h
      | native g => rfl
      | proc g => rfl
      | _ =>
        have h : (s.vm.method? m).any (·.sig.returnType.isNone) = true := h
        show (T.vm.method? m).any (·.sig.returnType.isNone) = true
        rw [ha]; exact h
  obtain ⟨t, ht, -⟩ := State.frames_cons hfr
  refine ⟨X.admits, X.cas, X.clock, hf, hroom, hh, hm, X.code, X.here, X.tail, State.WarmedH.refl _, ?_, ?_, ?_⟩
  · rw [State.stackLimits_setFrames]
  · rw [State.stackBytes_setFrames]
  · have hd : T.heap.toList.drop T.heap.size = [] := by
      rw [← Array.length_toList]
      exact List.drop_length
    refine ⟨?_, Nat.le_refl _, Nat.le_refl _, ?_, ?_, fun a c hc => ⟨c, hc, rfl, rfl, fun i _ => rfl⟩⟩
    · show T.setVm T.vm = _
      rw [State.setFrames_setFrames]
      show T = { T.setFrames T.frames with heap := T.heap, slotsUsed := T.slotsUsed }
      rw [State.setFrames_self ht]
    · show T.slotsUsed = T.slotsUsed + ((T.heap.toList.drop T.heap.size).map (·.slots.size)).sum
      rw [hd]; rfl
    · show ((T.heap.toList.drop T.heap.size).map (·.slots.size)).sum ≤ 0
      rw [hd]; exact Nat.le_refl _
/-- what is known of an exception's class: the words of its making -/
def cj_Xw (own : String) (ic : Nat) (X : String) (names : List String) : Prop := ∀ a ∈ Bundle.ownAtoms own ic X names, a ∈ lw_kw ∨ (a = .laysStatic "java/lang/Throwable" "UNASSIGNED_STACK" "[Ljava/lang/StackTraceElement;" ∨ a = .isRef (.static "java/lang/Throwable" "UNASSIGNED_STACK" "[Ljava/lang/StackTraceElement;")) ∨ (a = .laysStatic "java/lang/Throwable" "SUPPRESSED_SENTINEL" "Ljava/util/List;" ∨ a = .isRef (.static "java/lang/Throwable" "SUPPRESSED_SENTINEL" "Ljava/util/List;"))
theorem cj_Xw_use {own : String} {ic : Nat} {X : String} {names : List String} (h : cj_Xw own ic X names) {args : Array Value} {U : State} (hk : ∀ w ∈ lw_kw, w.before args U = true) (hS : cj_Sx U U.heap) : ∀ a ∈ Bundle.ownAtoms own ic X names, a.before args U = true := by
  intro a ha
  rcases h a ha with h | (rfl | rfl) | (rfl | rfl)
  · exact hk a h
  · exact cj_z_lays hS.1
  · exact cj_z_ref hS.1
  · exact cj_z_lays hS.2.1
  · exact cj_z_ref hS.2.1
/-- throw new X("..") -/
theorem vt_throw {l : Launch} (hl : l.stackTraces = false) {mm k ni si ic pc fr lo b9 : Nat} {l9 : List Nat} {X tx nm : String} {names : List String} {y : MethodName} {ret : Option FieldType} {maxL : Nat} {cc : ByteArray} (hcdm : kcd_ mm = .code (ky_ mm) cc maxL ret)
    (hd0 : decode cc pc = .ok (.new ni, 3)) (hd3 : decode cc (pc + 3) = .ok (.dup, 1)) (hd4 : decode cc (pc + 4) = .ok (.ldc si, 2)) (hd6 : decode cc (pc + 6) = .ok (.invokespecial ic, 3)) (hd9 : decode cc (pc + 9) = .ok (.athrow, 1))
    (hX : kex_ k = X) (hcl : Cond.classLink (ky_ mm).cls ni X ∈ lw_kw) (hin : Cond.instantiable X 6 ∈ lw_kw) (hini : Cond.initialized X ∈ lw_kw) (hsr : Cond.stringRef (ky_ mm).cls si tx ∈ lw_kw) (hw : cj_Xw (ky_ mm).cls ic X names) (hfx : Bundle.fit X = true) (hfn : ∀ n ∈ names, Bundle.fit n = true)
    (hfr : names.length + 3 < fr) (hlo : 13 * (names.length + 1) + 44 ≤ lo) : cj_Vt l mm cc (ky_ mm).cls nm fr lo (95, k, b9, l9) pc := by
  refine ⟨rfl, ?_⟩
  intro p e R s m args below meth c nL D tys ad0 L M M0 F hlocks hcd hnam hRc hRs ad H locs cells slots ls hr T hT Y
  obtain ⟨r1, r2, r3, ⟨r4, r5, r6⟩, r7, r8, r9⟩ := id hr
  have htr : e.platform.stackTraces = false := (show e.platform.stackTraces = l.stackTraces by rw [Y.admits.platform]).trans hl
  have hc1 : cells + 1 ≤ R.cells := by omega
  have hc2 : slots + 6 ≤ R.slots := by omega
  have X0 := cj_rebase Y (by omega) (by omega)
  have hfe : c.exceptionTable.isEmpty = true := by
    rw [hcdm] at hcd
    obtain ⟨meth', c', hm', hc', -, -, -, -, he', -⟩ := Cond.code_spec hnam hcd
    cases Y.method.symm.trans hm'
    cases Y.code.symm.trans hc'
    exact he'
  generalize hs' : T.setFrames (.invoking m args :: below) = s' at X0
  have hvm : s'.vm = T.vm := by rw [← hs']; rfl
  have hhp : s'.heap = T.heap := by rw [← hs']; rfl
  have hWs : s.WarmedH s'.vm := by rw [hvm]; exact Y.warmed
  have hk' : ∀ w ∈ lw_kw, w.before args s' = true := fun w hw => cj_kww hw hWs (F.2.2.2.2.1 w hw)
  have hown' : s'.vm.findClass (ky_ mm).cls = some m.cls := by rw [hWs.alike.findClass]; exact F.2.2.2.1
  have hSx' : cj_Sx s' s'.heap := by
    rw [hhp, hT]
    exact cj_Sx_move hWs.alike r1.2.2.2
  obtain ⟨-, -, -, sa, -, -, -, -, -, hev⟩ := Cond.stringRef_spec hown' (hk' _ hsr)
  have hZ : vk_R (ky_ mm).cls si tx sa s' := vk_R.of (hk' _ hsr) hev
  obtain ⟨cC, kC0, hfc, -⟩ := Cond.instantiable_spec (hk' _ hin)
  have key : W p l e { frames := R.frames, cells := R.cells - cells, slots := R.slots - slots, locals := R.locals } s' m args below meth c T.heap [] 0 0 (fun U => U.status = .running ∧ Ended U below (.threw T.heap.size) ∧ s'.WarmedH U.vm ∧ s'.sameButNew ({ U with vm := s'.vm } : State) [] 1 6 ∧ ∃ ce, U.heap[T.heap.size]? = some ce ∧ Bundle.OwnCell args s' X T.heap.size (.ref sa) ce ∧ ∃ kC, s'.vm.classes[cC]? = some kC) (F0 m pc ls []) := by
    refine W.newcK F.1 F.2.1 hown' (hk' _ hcl) (hk' _ hin) (hk' _ hini) rfl hd0 (by show 0 + 1 ≤ R.cells - cells; omega) (by show 0 + 6 ≤ R.slots - slots; omega) hfc rfl fun H1 kC hkC e1 z1 o1 => ?_
    refine lv_dup F.1 F.2.1 hd3 rfl ?_
    refine va_ldcS F.1 F.2.1 hown' hZ hd4 ?_
    intro T1 hT1 X1
    obtain ⟨U, hsteps, hrun, hend, hW, hsame, ce, hce, K⟩ := X1.ctorThrowS F.1 htr (own := (ky_ mm).cls) (cls := X) (names := names) (ic := ic) hown' hfx hfn (cj_Xw_use hw hk' hSx') (fun x hx => by cases hx) hfc hkC (by rw [hT1]; exact e1) (by rw [hhp]; exact Nat.le_refl _) (msg := .ref sa) rfl
      (g := F0 m (pc + 6) ls [.ref sa, .ref T.heap.size, .ref T.heap.size]) rfl (by rw [F.2.2.1]; exact r2.1) rfl rfl (rest := []) rfl (by rw [F.2.1]; exact hd6) (by rw [F.2.1]; exact hd9) (covers_of_empty hfe _) (Nat.lt_of_lt_of_le hfr F.2.2.2.2.2.2.2.1) (by
        have h9 := F.2.2.2.2.2.2.2.2.1
        show 2 * 0 + (1 + 0) + (13 * (names.length + 1) + 42) ≤ R.locals
        omega) hlocks
    exact ⟨U, hsteps, hrun, hend, hW, hsame, ce, hce, K, kC, hkC⟩
  obtain ⟨U, hsteps, h1, h2, h3, h4, ce, h5, h6, kC, h7⟩ := key T rfl X0
  have hold : ∀ q, q < H.size → U.heap[q]? = H[q]? := by
    intro q hq
    have hq' : q < s'.heap.size := by rw [hhp, hT]; exact hq
    have h8 := h4.old_cell (a := q) (c := s'.heap[q]) (Array.getElem?_eq_getElem hq')
    have h9 : U.heap[q]? = some s'.heap[q] := h8
    rw [h9, ← Array.getElem?_eq_getElem hq', hhp, hT]
  have hsz : H.size ≤ U.heap.size := by
    have h8 : s'.heap.size ≤ U.heap.size := h4.2.1
    rw [hhp, hT] at h8
    exact h8
  have hWU : s.WarmedH U.vm := State.WarmedH.trans Y.warmed (by rw [← hs'] at h3; exact h3)
  obtain ⟨g₀, hfr0⟩ := Y.frames_eq
  have hT4 : T.sameButNew (U.setVm T.vm) [] 1 6 := by
    obtain ⟨q1, q2, q3, q4, q5, q6⟩ := h4
    rw [← hs'] at q1 q2 q3 q4 q5 q6
    refine ⟨?_, q2, q3, q4, q5, q6⟩
    rw [State.setFrames_setFrames] at q1
    exact q1
  have hsame : s.sameButNew ({ U with vm := s.vm } : State) (locs ++ []) (cells + 1) (slots + 6) := Y.same.trans (hT4.setVm s.vm)
  rw [List.append_nil] at hsame
  have e8 : (cj_pay M 1 6).2.2.1 - M0.2.2.1 = cells + 1 := by show M.2.2.1 + 1 - M0.2.2.1 = _; omega
  have e9 : (cj_pay M 1 6).2.2.2 - M0.2.2.2 = slots + 6 := by show M.2.2.2 + 6 - M0.2.2.2 = _; omega
  refine ⟨U, hsteps, .threw T.heap.size, h1, h2, ⟨ad, r5, r6, ⟨T.heap.size, rfl, ?_⟩, ?_, ?_⟩, locs, ⟨hWU, by rw [e8, e9]; exact hsame⟩, r7.2.2⟩
  · have hcl9 : cC = ce.cls := Option.some.inj (hfc.symm.trans h6.cls)
    obtain ⟨k', hk9, -⟩ := h3.alike.2.2 _ _ h7
    refine ⟨ce, k', h5, (fun z hz => by rw [h6.vm] at hz; cases hz), ?_, by rw [← hcl9]; exact hk9⟩
    rw [hX, h3.alike.findClass]
    exact h6.cls
  · exact cj_R_move hWU.alike (cj_R_keep hsz hold r1)
  · refine ⟨Nat.le_trans r7.1 hsz, fun q q1 q2 => ?_⟩
    rw [hold q (Nat.lt_of_lt_of_le q1 r7.1)]
    exact r7.2.1 q q1 q2
