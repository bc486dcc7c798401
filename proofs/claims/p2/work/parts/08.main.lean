/-! a method's whole walk: its contract -/
section CJE
variable {p : Program} {l : Launch} {e : Env} {R : Room} {s : State} {m : MethodId} {args : Array Value} {below : List Frame} {meth : Method} {c : Code} {Q : State → Prop} {nL : Nat} {D : va_G} {tys : cj_T} {ad0 : Nat → Nat} {n0 k0 w0 : Nat} {cc : ByteArray} {own nm : String} {fr lo : Nat} {pc : Nat} {L : List Value} {M M' M0 : cj_M} {v : Option Value} {out : cj_O}
theorem cj_q_of {ad : Nat → Nat} {H : Heap} {locs : List Loc} {cells slots : Nat} {ls : Array Slot} {st : List Value} {t : State} (hr : cj_Rl s D tys ad0 n0 k0 w0 nL ad H locs cells slots ls L st M) (hn0 : n0 = M0.2.1) (ht : t.heap = H) (hW : s.WarmedH t.vm) (hv : ∀ w ∈ v.toList, cj_wv M.2.1 w) : cj_Qc D tys ad0 s.heap.size M0 (.inl v) M args s (.returned (v.map (cj_mv ad))) t := by
  subst hn0
  obtain ⟨r1, r2, r3, ⟨r4, r5, r6⟩, r7, r8, r9⟩ := hr
  refine ⟨ad, r5, r6, ⟨rfl, hv⟩, ?_, r7.F ht⟩
  rw [ht]
  exact cj_R_move hW.alike r1
/-- the ends of a method that returns -/
def cj_Ve (mm : Nat) (cc : ByteArray) (i : cj_I) (pc : Nat) : Prop :=
  (i.1 = 90 ∧ decode cc pc = .ok (.ireturn, 1) ∧ kr_ mm = some .int) ∨ (i.1 = 91 ∧ decode cc pc = .ok (.return_, 1) ∧ kr_ mm = none) ∨ (i.1 = 92 ∧ decode cc pc = .ok (.areturn, 1) ∧ ∃ rt, kr_ mm = some rt ∧ ((∃ n, rt = .object n) ∨ ∃ t, rt = .array t)) ∨ (i.1 = 93 ∧ decode cc pc = .ok (.ireturn, 1) ∧ kr_ mm = some .boolean)
theorem cj_cs {k0 w0 : Nat} {ad : Nat → Nat} {H : Heap} {locs : List Loc} {cells slots : Nat} {ls : Array Slot} {st : List Value} (hr : cj_Rl s D tys ad0 n0 k0 w0 nL ad H locs cells slots ls L st M) : cells = M.2.2.1 - k0 ∧ slots = M.2.2.2 - w0 := by
  have r8 := hr.2.2.2.2.2.1
  have r9 := hr.2.2.2.2.2.2
  omega
theorem go_end {mm : Nat} {i : cj_I} {st : List Value} (F : cj_Fx p R s m args meth c nL D tys cc own nm fr lo) (hret : meth.sig.returnType = kr_ mm) (hlocks : meth.locks = false) (hV : cj_Ve mm cc i pc) (hn0 : n0 = M0.2.1) (hk0 : k0 = M0.2.2.1) (hw0 : w0 = M0.2.2.2) (he : cj_end i st M = some (out, M')) :
    cj_Go p l e R s m args below meth c (cj_MQ below (cj_Qc D tys ad0 s.heap.size M0 out M') args s (M'.2.2.1 - M0.2.2.1) (M'.2.2.2 - M0.2.2.2) (cj_Af ad0 M0.2.1 s.heap.size)) nL D tys ad0 n0 k0 w0 pc L st M := by
  subst hk0 hw0
  obtain ⟨op, a9, b9, l9⟩ := i
  rcases hV with ⟨h1, hd, hk⟩ | ⟨h1, hd, hk⟩ | ⟨h1, hd, rt, hk, hrt⟩ | ⟨h1, hd, hk⟩
  · have h1 : op = 90 := h1
    subst h1
    have he : cj_ri st M = some (out, M') := he
    unfold cj_ri at he
    split at he
    · cases he
      intro ad H locs cells slots ls hr
      obtain ⟨rfl, rfl⟩ := cj_cs hr
      have hf := hr.2.2.2.2.1.2.2
      rw [hn0] at hf
      exact cj_Wm (fun t h => cj_MQ_of h) (W.iret F.1 F.2.1 (by rw [hret]; exact hk) (fun t ht hW => cj_q_of hr hn0 ht hW (fun w hw => by simp at hw; subst hw; trivial)) hf hd hlocks)
    · cases he
  · have h1 : op = 91 := h1
    subst h1
    have he : cj_rv st M = some (out, M') := he
    unfold cj_rv at he
    split at he
    · cases he
      intro ad H locs cells slots ls hr
      obtain ⟨rfl, rfl⟩ := cj_cs hr
      have hf := hr.2.2.2.2.1.2.2
      rw [hn0] at hf
      exact cj_Wm (fun t h => cj_MQ_of h) (W.vret F.1 F.2.1 (by rw [hret]; exact hk) (fun t ht hW => cj_q_of hr hn0 ht hW (fun w hw => by simp at hw)) hf hd hlocks)
    · cases he
  · have h1 : op = 92 := h1
    subst h1
    have he : cj_ra st M = some (out, M') := he
    unfold cj_ra at he
    split at he
    · cases he
      intro ad H locs cells slots ls hr
      obtain ⟨rfl, rfl⟩ := cj_cs hr
      have hf := hr.2.2.2.2.1.2.2
      rw [hn0] at hf
      exact cj_Wm (fun t h => cj_MQ_of h) (W.aret F.1 F.2.1 (by rw [hret]; exact hk) hrt (Or.inr ⟨_, rfl⟩) (fun t ht hW => cj_q_of hr hn0 ht hW (fun w hw => by simp at hw; subst hw; exact cj_wh hr.2.2.1)) hf hd hlocks)
    · cases he
      intro ad H locs cells slots ls hr
      obtain ⟨rfl, rfl⟩ := cj_cs hr
      have hf := hr.2.2.2.2.1.2.2
      rw [hn0] at hf
      exact cj_Wm (fun t h => cj_MQ_of h) (W.aret F.1 F.2.1 (by rw [hret]; exact hk) hrt (Or.inl rfl) (fun t ht hW => cj_q_of hr hn0 ht hW (fun w hw => by simp at hw; subst hw; trivial)) hf hd hlocks)
    · cases he
  · have h1 : op = 93 := h1
    subst h1
    have he : cj_rz st M = some (out, M') := he
    unfold cj_rz at he
    split at he
    · rename_i x
      split at he
      · rename_i hx
        cases he
        intro ad H locs cells slots ls hr
        obtain ⟨rfl, rfl⟩ := cj_cs hr
        have hf := hr.2.2.2.2.1.2.2
        rw [hn0] at hf
        exact cj_Wm (fun t h => cj_MQ_of h) (W.zret (ty := .boolean) F.1 F.2.1 (by rw [hret]; exact hk) (by rcases hx with rfl | rfl <;> decide +kernel) (fun t ht hW => cj_q_of hr hn0 ht hW (fun w hw => by simp at hw; subst hw; trivial)) hf hd hlocks)
      · cases he
    · cases he
/-- a throw, and a call that throws: as their own rows say -/
def cj_Vt (l : Launch) (mm : Nat) (cc : ByteArray) (own nm : String) (fr lo : Nat) (i : cj_I) (pc : Nat) : Prop := i.1 = 95 ∧
  ∀ (p : Program) (e : Env) (R : Room) (s : State) (m : MethodId) (args : Array Value) (below : List Frame) (meth : Method) (c : Code) (nL : Nat) (D : va_G) (tys : cj_T) (ad0 : Nat → Nat) (L : List Value) (M M0 : cj_M),
    cj_Fx p R s m args meth c nL D tys cc own nm fr lo → meth.locks = false → (kcd_ mm).before args s = true → s.methodNamed? (ky_ mm) = some m → M.2.2.1 + 1 ≤ M0.2.2.1 + R.cells → M.2.2.2 + 6 ≤ M0.2.2.2 + R.slots →
    cj_Go p l e R s m args below meth c (cj_MQ below (cj_Qc D tys ad0 s.heap.size M0 (.inr i.2.1) (cj_pay M 1 6)) args s ((cj_pay M 1 6).2.2.1 - M0.2.2.1) ((cj_pay M 1 6).2.2.2 - M0.2.2.2) (cj_Af ad0 M0.2.1 s.heap.size)) nL D tys ad0 M0.2.1 M0.2.2.1 M0.2.2.2 pc L [] M
def cj_Vx (l : Launch) (mm : Nat) (cc : ByteArray) (own nm : String) (fr lo : Nat) (i : cj_I) (pc : Nat) : Prop :=
  ∀ (p : Program) (e : Env) (R : Room) (s : State) (m : MethodId) (args : Array Value) (below : List Frame) (meth : Method) (c : Code) (Q : State → Prop) (nL : Nat) (D : va_G) (tys : cj_T) (ad0 : Nat → Nat) (n0 k0 w0 : Nat) (L st : List Value) (M M' : cj_M) (k pc' j : Nat),
    cj_Fx p R s m args meth c nL D tys cc own nm fr lo → cj_Ty tys → meth.locks = false → (kcd_ mm).before args s = true → s.methodNamed? (ky_ mm) = some m → cj_hdl (kh_ mm) pc k = some (pc', j) → cj_gq i mm st M = true →
    cj_Cn l i.2.1 → cj_ev i.2.1 (st.take i.2.2.1).reverse M = some (.inr k, M') → M'.2.2.1 ≤ k0 + R.cells → M'.2.2.2 ≤ w0 + R.slots →
    cj_Go p l e R s m args below meth c Q nL D tys ad0 n0 k0 w0 pc' (L.set j (.retAddr 0)) [] M' → cj_Go p l e R s m args below meth c Q nL D tys ad0 n0 k0 w0 pc L st M
/-- all that is known of the instructions of the method mm -/
def cj_Vm (l : Launch) (mm : Nat) : Prop := ∀ pc i nx, kd_ mm pc = (i, nx) →
  (cj_pl i ∧ cj_Ok (kb_ mm) (ky_ mm).cls (ky_ mm).name (kq_ mm).1 (kq_ mm).2 i pc nx) ∨ (90 ≤ i.1 ∧ (cj_Ve mm (kb_ mm) i pc ∨ cj_Vt l mm (kb_ mm) (ky_ mm).cls (ky_ mm).name (kq_ mm).1 (kq_ mm).2 i pc)) ∨ (¬ cj_pl i ∧ i.1 < 90 ∧ nx = pc + 3 ∧ cj_Vc mm (kb_ mm) (ky_ mm).cls (ky_ mm).name (kq_ mm).1 (kq_ mm).2 i pc ∧ cj_Vx l mm (kb_ mm) (ky_ mm).cls (ky_ mm).name (kq_ mm).1 (kq_ mm).2 i pc) ∨ i.1 = 86
theorem cj_walk {mm : Nat} (hV : cj_Vm l mm) (hC : ∀ a, (km_ a).1 < (km_ mm).1 → cj_Cn l a) (F : cj_Fx p R s m args meth c nL D tys (kb_ mm) (ky_ mm).cls (ky_ mm).name (kq_ mm).1 (kq_ mm).2) (hty : cj_Ty tys) (hret : meth.sig.returnType = kr_ mm) (hlocks : meth.locks = false) (hcd : (kcd_ mm).before args s = true) (hnam : s.methodNamed? (ky_ mm) = some m)
    (hRc : M'.2.2.1 ≤ M0.2.2.1 + R.cells) (hRs : M'.2.2.2 ≤ M0.2.2.2 + R.slots) :
    ∀ (n pc : Nat) (L st : List Value) (M : cj_M), cj_run n mm pc L st M = some (out, M') →
      cj_Go p l e R s m args below meth c (cj_MQ below (cj_Qc D tys ad0 s.heap.size M0 out M') args s (M'.2.2.1 - M0.2.2.1) (M'.2.2.2 - M0.2.2.2) (cj_Af ad0 M0.2.1 s.heap.size)) nL D tys ad0 M0.2.1 M0.2.2.1 M0.2.2.2 pc L st M := by
  intro n
  induction n with
  | zero => intro pc L st M h; simp [cj_run] at h
  | succ n ih =>
    intro pc L st M h
    unfold cj_run at h
    cases hk : kd_ mm pc with
    | mk i nx =>
      rw [hk] at h
      have hv := hV pc i nx hk
      by_cases c1 : cj_pl i
      · rw [if_pos c1] at h
        dsimp only at h
        cases hs : cj_step i nx L st M with
        | none => rw [hs] at h; cases h
        | some f =>
          rw [hs] at h
          have hg := cj_run_grow h
          dsimp only at hg
          rcases hv with hv | hv | hv | hv
          · exact hv.2 p l e R s m args below meth c _ nL D tys ad0 M0.2.1 M0.2.2.1 M0.2.2.2 F hty L st M f hs (by omega) (by omega) (ih _ _ _ _ h)
          · exact absurd c1 (by unfold cj_pl; omega)
          · exact absurd c1 hv.1
          · exact absurd c1 (by unfold cj_pl; omega)
      · rw [if_neg c1] at h
        dsimp only at h
        by_cases c2 : 90 ≤ i.1
        · rw [if_pos c2] at h
          rcases hv with hv | hv | hv | hv
          · exact absurd hv.1 c1
          · rcases hv.2 with hv | hv
            · exact go_end F hret hlocks hv rfl rfl rfl h
            · obtain ⟨hv1, hv⟩ := hv
              obtain ⟨op, a9, b9, l9⟩ := i
              have hv1 : op = 95 := hv1
              subst hv1
              have h : cj_rt a9 st M = some (out, M') := h
              unfold cj_rt at h
              split at h
              · cases h
                exact hv p e R s m args below meth c nL D tys ad0 L M M0 F hlocks hcd hnam hRc hRs
              · cases h
          · exact absurd hv.2.1 (by omega)
          · exact absurd hv (by omega)
        · rw [if_neg c2] at h
          by_cases c3 : cj_gq i mm st M = true
          · rw [if_pos c3] at h
            rcases hv with hv | hv | hv | hv
            · exact absurd hv.1 c1
            · exact absurd hv.1 c2
            · obtain ⟨-, -, hnx, hvc, hvx⟩ := hv
              have hrk := (cj_gq_inv c3).2.2.1
              cases hs : cj_run n i.2.1 0 (cj_lay (st.take i.2.2.1).reverse (km_ i.2.1).2) [] M with
              | none => rw [hs] at h; cases h
              | some q =>
                rw [hs] at h
                obtain ⟨o, M1⟩ := q
                have hev : cj_ev i.2.1 (st.take i.2.2.1).reverse M = some (o, M1) := cj_res_iff.mpr ⟨n, hs⟩
                cases o with
                | inl v =>
                  have hg := cj_run_grow h
                  dsimp only at hg
                  exact go_call F hty hvc hnx (hC _ hrk) c3 hev (by omega) (by omega) (ih _ _ _ _ h)
                | inr k =>
                  dsimp only at h
                  cases hh : cj_hdl (kh_ mm) pc k with
                  | none => rw [hh] at h; cases h
                  | some z =>
                    obtain ⟨pc', j⟩ := z
                    rw [hh] at h
                    have hg := cj_run_grow h
                    dsimp only at hg
                    exact hvx p e R s m args below meth c _ nL D tys ad0 M0.2.1 M0.2.2.1 M0.2.2.2 L st M M1 k pc' j F hty hlocks hcd hnam hh c3 (hC _ hrk) hev (by omega) (by omega) (ih _ _ _ _ h)
            · obtain ⟨op, a9, b9, l9⟩ := i
              have hv : op = 86 := hv
              subst hv
              have h9 := (cj_gq_inv c3).2.2.2.2
              cases h9
          · rw [if_neg c3] at h
            cases h
/-- the locals at the entry -/
theorem cj_entry {ad : Nat → Nat} {n nL : Nat} {as : List Value} (hall : as.all cj_c1 = true) (hl : as.length ≤ nL) (hw : ∀ v ∈ as, cj_wv n v) :
    ∃ ls : Array Slot, entryFrame m ((as.map (cj_mv ad)).toArray) nL = F0 m 0 ls [] ∧ cj_L ad n nL ls (cj_lay as nL) := by
  have hc : ∀ v ∈ as, cj_c1 v = true := fun v hv => List.all_eq_true.mp hall v hv
  have hsl : lg_sl (as.map (cj_mv ad)) = (as.map (cj_mv ad)).map Slot.val := by
    unfold lg_sl
    rw [List.flatMap_def]
    have : ∀ (as : List Value), (∀ v ∈ as, cj_c1 v = true) → (List.map (fun v => if v.category = 2 then [Slot.val v, Slot.second] else [Slot.val v]) (as.map (cj_mv ad))).flatten = (as.map (cj_mv ad)).map Slot.val := by
      intro as
      induction as with
      | nil => intro _; rfl
      | cons v as ih =>
        intro h
        have hv := cj_c1_cat (h v List.mem_cons_self)
        have h2 : ¬ (cj_mv ad v).category = 2 := by rw [cj_mv_cat, hv]; decide
        simp only [List.map_cons, List.flatten_cons, if_neg h2]
        rw [ih (fun w hw => h w (List.mem_cons_of_mem _ hw))]
        rfl
    exact this as hc
  have hlen : (lg_sl (as.map (cj_mv ad))).length = as.length := by rw [hsl]; simp
  refine ⟨_, lg_entry_eq m (as.map (cj_mv ad)) nL, ?_⟩
  have he := lv_entry (as.map (cj_mv ad)) (n := nL) (by rw [hlen]; exact hl)
  refine ⟨he.1, ?_, he.2.1, fun i v hv => ?_⟩
  · unfold cj_lay
    rw [List.length_append, List.length_replicate]
    omega
  · unfold cj_lay at hv
    by_cases hi : i < as.length
    · rw [List.getElem?_append_left hi] at hv
      have hm := List.mem_of_getElem? hv
      refine ⟨cj_c1_cat (hc v hm), hw v hm, fun _ => ?_⟩
      rw [List.getElem?_toArray, hsl, List.getElem?_append_left (by simpa using hi), List.getElem?_map, List.getElem?_map, hv]
      rfl
    · rw [List.getElem?_append_right (by omega)] at hv
      have hz := List.getElem?_eq_some_iff.mp hv
      obtain ⟨h1, h2⟩ := hz
      rw [List.getElem_replicate] at h2
      subst h2
      exact ⟨rfl, trivial, fun hr => absurd rfl (hr 0)⟩
/-- a method's contract, out of its instructions -/
theorem cj_contract {mm : Nat} (hMi : cj_Mi mm) (hV : cj_Vm l mm) (hC : ∀ a, (km_ a).1 < (km_ mm).1 → cj_Cn l a) : cj_Cn l mm := by
  intro D tys ad sz as M out M' hty hall hlen hwf hev
  obtain ⟨n, hn⟩ := cj_res_iff.mp hev
  have hg := cj_run_grow hn
  dsimp only at hg
  have body : ∀ (p : Program) (e : Env) (s : State) (m : MethodId) (args : Array Value) (below : List Frame) (meth : Method) (c : Code) (s₁ : State), BodyLoose p l (ky_ mm) (headSpec (kcd_ mm :: lw_kw) (cj_rm mm (M'.2.2.1 - M.2.2.1) (M'.2.2.2 - M.2.2.2))) (kb_ mm) (km_ mm).2 (kr_ mm) e s m args below meth c s₁ → c.maxLocals = (km_ mm).2 → cj_Pc D tys ad sz as M args s →
      W p l e (headSpec (kcd_ mm :: lw_kw) (cj_rm mm (M'.2.2.1 - M.2.2.1) (M'.2.2.2 - M.2.2.2))).room s m args below meth c s.heap [] 0 0 (cj_MQ below (cj_Qc D tys ad sz M out M') args s (M'.2.2.1 - M.2.2.1) (M'.2.2.2 - M.2.2.2) (cj_Af ad M.2.1 sz)) (entryFrame m args (km_ mm).2) := by
    intro p e s m args below meth c s₁ B hml hP
    obtain ⟨rfl, hsz, hK, hR⟩ := hP
    subst hsz
    have hts := atoms_spec (ws := kcd_ mm :: lw_kw) B.pre
    have F : cj_Fx p (cj_rm mm (M'.2.2.1 - M.2.2.1) (M'.2.2.2 - M.2.2.2)) s m _ meth c (km_ mm).2 D tys (kb_ mm) (ky_ mm).cls (ky_ mm).name (kq_ mm).1 (kq_ mm).2 :=
      ⟨B.exec, B.bytes, hml, findClass_of_methodNamed B.named, fun w hw => hts w (List.mem_cons_of_mem _ hw), hK, (name_of_methodNamed B.named B.method).1, Nat.le_refl _, Nat.le_refl _, hR.2.2.2⟩
    obtain ⟨ls, hl1, hl2⟩ := cj_entry (m := m) (ad := ad) hall hlen hwf
    rw [hl1]
    have hw := cj_walk (e := e) (below := below) (out := out) (ad0 := ad) (M0 := M) (M' := M') hV hC F hty B.returns B.notSynchronized (hts _ List.mem_cons_self) B.named (by show M'.2.2.1 ≤ M.2.2.1 + (M'.2.2.1 - M.2.2.1); omega) (by show M'.2.2.2 ≤ M.2.2.2 + (M'.2.2.2 - M.2.2.2); omega) n 0 _ _ M hn
    exact hw ad s.heap [] 0 0 ls ⟨hR, hl2, (fun v hv => by cases hv), ⟨Nat.le_refl _, fun _ _ => rfl, fun o h1 h2 => absurd h2 (Nat.not_lt.mpr h1)⟩, va_S.rf, rfl, rfl⟩
  rcases hMi.1 with h | ⟨hh, h⟩
  · exact cj_Met_ofW (cc := kb_ mm) (maxL := (km_ mm).2) (ret := kr_ mm) hMi.2.2.1 (by rw [h]) body
  · exact cj_Met_ofWh (cc := kb_ mm) (maxL := (km_ mm).2) (ret := kr_ mm) hMi.2.2.1 (by rw [h]) body
end CJE
