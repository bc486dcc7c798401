/-! the small machine's instructions on cells -/
theorem cj_fd_inv {oc : Option cj_C} {a b : Nat} {v : Value} (h : cj_fd oc a b = some v) : ∃ fs, oc = some (.inr (a, fs)) ∧ fs[b]? = some v := by
  unfold cj_fd at h
  split at h
  · split at h
    · rename_i e; subst e; exact ⟨_, rfl, h⟩
    · cases h
  · cases h
theorem cj_getf_inv {a b nx : Nat} {ls st : List Value} {M : cj_M} {q : cj_F} (h : cj_getf a b nx ls st M = some q) : ∃ o r fs v, st = .ref o :: r ∧ M.1 o = some (.inr (a, fs)) ∧ fs[b]? = some v ∧ q = (nx, ls, v :: r, M) := by
  unfold cj_getf at h
  split at h
  · split at h
    · rename_i hv
      cases h
      obtain ⟨fs, h1, h2⟩ := cj_fd_inv hv
      exact ⟨_, _, fs, _, rfl, h1, h2, rfl⟩
    · cases h
  · cases h
theorem cj_pf_inv {oc : Option cj_C} {o a b k : Nat} {v : Value} {d : cj_C} (h : cj_pf oc o a b k v = some d) : ∃ fs, oc = some (.inr (a, fs)) ∧ b < fs.length ∧ cj_fit k v = true ∧ o ≠ 0 ∧ d = .inr (a, fs.set b v) := by
  unfold cj_pf at h
  split at h
  · split at h
    · rename_i e
      cases h
      obtain ⟨rfl, e2, e3, e4⟩ := e
      exact ⟨_, rfl, e2, e3, e4, rfl⟩
    · cases h
  · cases h
theorem cj_putf_inv {a b k nx : Nat} {ls st : List Value} {M : cj_M} {q : cj_F} (h : cj_putf a b k nx ls st M = some q) : ∃ v o r fs, st = v :: .ref o :: r ∧ M.1 o = some (.inr (a, fs)) ∧ b < fs.length ∧ cj_fit k v = true ∧ o ≠ 0 ∧ q = (nx, ls, r, cj_set M o (.inr (a, fs.set b v))) := by
  unfold cj_putf at h
  split at h
  · split at h
    · rename_i hd
      cases h
      obtain ⟨fs, h1, h2, h3, h4, rfl⟩ := cj_pf_inv hd
      exact ⟨_, _, _, fs, rfl, h1, h2, h3, h4, rfl⟩
    · cases h
  · cases h
theorem cj_rd_inv {oc : Option cj_C} {t : Nat} {j : Int32} {v : Value} (h : cj_rd oc t j = some v) : ∃ n x, oc = some (.inl (t, n, x)) ∧ ¬ (j < 0 ∨ n ≤ j.toNatClampNeg) ∧ v = cj_el x j.toNatClampNeg := by
  unfold cj_rd at h
  split at h
  · split at h
    · rename_i e
      cases h
      obtain ⟨rfl, e2⟩ := e
      exact ⟨_, _, rfl, e2, rfl⟩
    · cases h
  · cases h
theorem cj_ald_inv {t nx : Nat} {ls st : List Value} {M : cj_M} {q : cj_F} (h : cj_ald t nx ls st M = some q) : ∃ j o r n x, st = .int j :: .ref o :: r ∧ M.1 o = some (.inl (t, n, x)) ∧ ¬ (j < 0 ∨ n ≤ j.toNatClampNeg) ∧ q = (nx, ls, cj_el x j.toNatClampNeg :: r, M) := by
  unfold cj_ald at h
  split at h
  · split at h
    · rename_i hv
      cases h
      obtain ⟨n, x, h1, h2, rfl⟩ := cj_rd_inv hv
      exact ⟨_, _, _, n, x, rfl, h1, h2, rfl⟩
    · cases h
  · cases h
theorem cj_ln_inv {oc : Option cj_C} {n : Nat} (h : cj_ln oc = some n) : ∃ t x, oc = some (.inl (t, n, x)) := by
  unfold cj_ln at h
  split at h
  · cases h; exact ⟨_, _, rfl⟩
  · cases h
theorem cj_len_inv {nx : Nat} {ls st : List Value} {M : cj_M} {q : cj_F} (h : cj_len nx ls st M = some q) : ∃ o r t n x, st = .ref o :: r ∧ M.1 o = some (.inl (t, n, x)) ∧ q = (nx, ls, .int (nI n) :: r, M) := by
  unfold cj_len at h
  split at h
  · split at h
    · rename_i hv
      cases h
      obtain ⟨t, x, h1⟩ := cj_ln_inv hv
      exact ⟨_, _, t, _, x, rfl, h1, rfl⟩
    · cases h
  · cases h
theorem cj_wi_inv {oc : Option cj_C} {o t : Nat} {j x : Int32} {d : cj_C} (h : cj_wi oc o t j x = some d) : ∃ n g, oc = some (.inl (t, n, .inl g)) ∧ ¬ (j < 0 ∨ n ≤ j.toNatClampNeg) ∧ o ≠ 0 ∧ d = .inl (t, n, .inl (cj_up g j.toNatClampNeg x)) := by
  unfold cj_wi at h
  split at h
  · split at h
    · rename_i e
      cases h
      obtain ⟨rfl, e2, e3⟩ := e
      exact ⟨_, _, rfl, e2, e3, rfl⟩
    · cases h
  · cases h
theorem cj_ast_inv {t nx : Nat} {nar : Int32 → Int32} {ls st : List Value} {M : cj_M} {q : cj_F} (h : cj_ast t nar nx ls st M = some q) : ∃ x j o r n g, st = .int x :: .int j :: .ref o :: r ∧ M.1 o = some (.inl (t, n, .inl g)) ∧ ¬ (j < 0 ∨ n ≤ j.toNatClampNeg) ∧ o ≠ 0 ∧ q = (nx, ls, r, cj_set M o (.inl (t, n, .inl (cj_up g j.toNatClampNeg (nar x))))) := by
  unfold cj_ast at h
  split at h
  · split at h
    · rename_i hv
      cases h
      obtain ⟨n, g, h1, h2, h3, rfl⟩ := cj_wi_inv hv
      exact ⟨_, _, _, _, n, g, rfl, h1, h2, h3, rfl⟩
    · cases h
  · cases h
theorem cj_wl_inv {oc : Option cj_C} {o t : Nat} {j : Int32} {x : Int64} {d : cj_C} (h : cj_wl oc o t j x = some d) : ∃ n g, oc = some (.inl (t, n, .inr (.inl g))) ∧ ¬ (j < 0 ∨ n ≤ j.toNatClampNeg) ∧ o ≠ 0 ∧ d = .inl (t, n, .inr (.inl (cj_up g j.toNatClampNeg x))) := by
  unfold cj_wl at h
  split at h
  · split at h
    · rename_i e
      cases h
      obtain ⟨rfl, e2, e3⟩ := e
      exact ⟨_, _, rfl, e2, e3, rfl⟩
    · cases h
  · cases h
theorem cj_asl_inv {t nx : Nat} {ls st : List Value} {M : cj_M} {q : cj_F} (h : cj_asl t nx ls st M = some q) : ∃ x j o r n g, st = .long x :: .int j :: .ref o :: r ∧ M.1 o = some (.inl (t, n, .inr (.inl g))) ∧ ¬ (j < 0 ∨ n ≤ j.toNatClampNeg) ∧ o ≠ 0 ∧ q = (nx, ls, r, cj_set M o (.inl (t, n, .inr (.inl (cj_up g j.toNatClampNeg x))))) := by
  unfold cj_asl at h
  split at h
  · split at h
    · rename_i hv
      cases h
      obtain ⟨n, g, h1, h2, h3, rfl⟩ := cj_wl_inv hv
      exact ⟨_, _, _, _, n, g, rfl, h1, h2, h3, rfl⟩
    · cases h
  · cases h
theorem cj_wq_inv {oc ov : Option cj_C} {o v c t : Nat} {j : Int32} {d : cj_C} (h : cj_wq oc ov o v c t j = some d) : ∃ n g fs, oc = some (.inl (t, n, .inr (.inr g))) ∧ ov = some (.inr (c, fs)) ∧ ¬ (j < 0 ∨ n ≤ j.toNatClampNeg) ∧ o ≠ 0 ∧ d = .inl (t, n, .inr (.inr (cj_up g j.toNatClampNeg (some v)))) := by
  unfold cj_wq at h
  split at h
  · split at h
    · rename_i e
      cases h
      obtain ⟨rfl, rfl, e2, e3⟩ := e
      exact ⟨_, _, _, rfl, rfl, e2, e3, rfl⟩
    · cases h
  · cases h
theorem cj_asq_inv {c t nx : Nat} {ls st : List Value} {M : cj_M} {q : cj_F} (h : cj_asq c t nx ls st M = some q) : ∃ v j o r n g fs, st = .ref v :: .int j :: .ref o :: r ∧ M.1 o = some (.inl (t, n, .inr (.inr g))) ∧ M.1 v = some (.inr (c, fs)) ∧ ¬ (j < 0 ∨ n ≤ j.toNatClampNeg) ∧ o ≠ 0 ∧ q = (nx, ls, r, cj_set M o (.inl (t, n, .inr (.inr (cj_up g j.toNatClampNeg (some v)))))) := by
  unfold cj_asq at h
  split at h
  · split at h
    · rename_i hv
      cases h
      obtain ⟨n, g, fs, h1, h2, h3, h4, rfl⟩ := cj_wq_inv hv
      exact ⟨_, _, _, _, n, g, fs, rfl, h1, h2, h3, h4, rfl⟩
    · cases h
  · cases h
theorem cj_na_inv {t nx : Nat} {x : cj_A} {ls st : List Value} {M : cj_M} {q : cj_F} (h : cj_na t x nx ls st M = some q) : ∃ n r, st = .int n :: r ∧ ¬ n < 0 ∧ n.toNatClampNeg ≤ 1000000 ∧ q = (nx, ls, .ref M.2.1 :: r, cj_new M (.inl (t, n.toNatClampNeg, x)) n.toNatClampNeg) := by
  unfold cj_na at h
  split at h
  · split at h
    · rename_i e
      cases h
      exact ⟨_, _, rfl, e.1, e.2, rfl⟩
    · cases h
  · cases h
theorem cj_oi_inv {nx : Nat} {ls st : List Value} {M : cj_M} {q : cj_F} (h : cj_oi nx ls st M = some q) : ∃ o r, st = .ref o :: r ∧ r.length ≤ 4 ∧ q = (nx, ls, r, M) := by
  unfold cj_oi at h
  split at h
  · split at h
    · rename_i e
      cases h
      exact ⟨_, _, rfl, e, rfl⟩
    · cases h
  · cases h
theorem cj_cat2 : ∀ (r : List Value), (r.map fun v => v.category).sum ≤ 2 * r.length := by
  intro r
  induction r with
  | nil => simp
  | cons v r ih =>
    have h := lv_cat v
    simp only [List.map_cons, List.sum_cons, List.length_cons]
    omega
theorem cj_catm {ad : Nat → Nat} : ∀ (r : List Value), ((r.map (cj_mv ad)).map fun v => v.category).sum ≤ 2 * r.length := by
  intro r
  have h := cj_cat2 (r.map (cj_mv ad))
  rw [List.length_map] at h
  exact h
/-- a cell of one's own may be written -/
theorem cj_in_A {s : State} {ad0 ad : Nat → Nat} {n0 n o : Nat} (h : (∀ o, o < n0 → ad o = ad0 o) ∧ ∀ o, n0 ≤ o → o < n → s.heap.size ≤ ad o) (ho : o < n) (h0 : o ≠ 0) : cj_Af ad0 n0 s.heap.size (ad o) := by
  by_cases hl : o < n0
  · exact Or.inl ⟨o, Nat.pos_of_ne_zero h0, hl, (h.1 o hl).symm⟩
  · exact Or.inr (h.2 o (by omega) ho)
theorem cj_Rl_set {s : State} {D : va_G} {tys : cj_T} {ad0 : Nat → Nat} {n0 k0 w0 nL : Nat} {ad : Nat → Nat} {H H' : Heap} {locs : List Loc} {cells slots : Nat} {ls : Array Slot} {L st : List Value} {M : cj_M} {o kk : Nat} {c0 d : cj_C} (hr : cj_Rl s D tys ad0 n0 k0 w0 nL ad H locs cells slots ls L st M) (ho : M.1 o = some c0) (h0 : o ≠ 0) (hz : H'.size = H.size) (hk : ∀ q, q ≠ ad o → H'[q]? = H[q]?) (hc : cj_at s D tys ad M.2.1 (ad o) d H') {st' : List Value} (hst : ∀ v ∈ st', cj_wv M.2.1 v) :
    cj_Rl s D tys ad0 n0 k0 w0 nL ad H' (locs ++ [⟨ad o, kk⟩]) cells slots ls L st' (cj_set M o d) := by
  have hlt := (hr.1.1 o c0 ho).1
  exact ⟨cj_R_set hr.1 ho hz hk hc, hr.2.1, hst, hr.2.2.2.1, hr.2.2.2.2.1.put hz hk (cj_in_A hr.2.2.2.1.2 hlt h0), hr.2.2.2.2.2⟩
theorem cj_Rl_new {s : State} {D : va_G} {tys : cj_T} {ad0 : Nat → Nat} {n0 k0 w0 nL : Nat} {ad : Nat → Nat} {H H' : Heap} {locs : List Loc} {cells slots : Nat} {ls : Array Slot} {L st : List Value} {M : cj_M} {w : Nat} {d : cj_C} (hr : cj_Rl s D tys ad0 n0 k0 w0 nL ad H locs cells slots ls L st M) (hz : H'.size = H.size + 1) (hk : ∀ q, q < H.size → H'[q]? = H[q]?) (hc : cj_at s D tys (cj_up ad M.2.1 H.size) (M.2.1 + 1) H.size d H') {st' : List Value} (hst : ∀ v ∈ st', cj_wv M.2.1 v) :
    cj_Rl s D tys ad0 n0 k0 w0 nL (cj_up ad M.2.1 H.size) H' locs (cells + 1) (slots + w) ls L (.ref M.2.1 :: st') (cj_new M d w) ∧ (Value.ref M.2.1 :: st').map (cj_mv (cj_up ad M.2.1 H.size)) = .ref H.size :: st'.map (cj_mv ad) := by
  obtain ⟨h1, h2, h3, ⟨h4, h5, h6⟩, h7, h8, h9⟩ := hr
  have hag : ∀ o, o < M.2.1 → cj_up ad M.2.1 H.size o = ad o := fun o ho => cj_up_n _ _ (Nat.ne_of_lt ho)
  refine ⟨⟨cj_R_new h1 hz hk hc, cj_L_mono h2 (Nat.le_succ _) hag, ?_, ⟨Nat.le_succ_of_le h4, fun o ho => ?_, fun o ho ho' => ?_⟩, ⟨Nat.le_trans h7.1 (by omega), fun q q1 q2 => (hk q (Nat.lt_of_lt_of_le q1 h7.1)).trans (h7.2.1 q q1 q2), h7.2.2⟩, ?_, ?_⟩, ?_⟩
  · intro v hv
    rcases List.mem_cons.mp hv with rfl | hv
    · exact Nat.lt_succ_self _
    · exact cj_wv_mono (Nat.le_succ _) (hst v hv)
  · rw [hag o (Nat.lt_of_lt_of_le ho h4)]
    exact h5 o ho
  · have ho' : o < M.2.1 + 1 := ho'
    by_cases e : o = M.2.1
    · rw [e, cj_up_s]
      exact h7.1
    · rw [hag o (by omega)]
      exact h6 o ho (by omega)
  · show M.2.2.1 + 1 = k0 + (cells + 1)
    omega
  · show M.2.2.2 + w = w0 + (slots + w)
    omega
  · rw [List.map_cons]
    congr 1
    · simp only [cj_mv]
      rw [cj_up_s]
    · exact List.map_congr_left (fun v hv => cj_mv_up (hst v hv))
section CJM
variable {cc : ByteArray} {own nm : String} {fr lo pc a b : Nat} {lx : List Nat}
theorem ok_getfield {idx N : Nat} {C : String} {T : u_T} (hd : decode cc pc = .ok (.getfield idx, 3)) (hcl : kcl_[a]? = some (C, T, N)) (hin : ∀ w ∈ u_ws C T N, w ∈ lw_kw) (hb : b < N) (hlk : Cond.fieldLink own idx (T b).1 (T b).2.1 (T b).2.2.1 ∈ lw_kw) : cj_Ok cc own nm fr lo (50, a, b, lx) pc (pc + 3) := by
  intro p l e R s m args below meth c Q nL D tys ad0 n0 k0 w0 F hty L st M f hs hc hw k
  obtain ⟨o, r, fs, v, rfl, ho, hv, rfl⟩ := cj_getf_inv (show cj_getf a b (pc + 3) L st M = some f from hs)
  intro ad H locs cells slots ls hr
  obtain ⟨ho1, q, hq, hlen, ⟨cell, q1, q2, q3, q4⟩, hwf⟩ := hr.1.1 o _ ho
  cases hcl.symm.trans hq
  obtain ⟨hS, hfc, kC, hkC, hkind⟩ := F.2.2.2.2.2.1.1 a _ hcl
  obtain ⟨cf, kf, fi, fd, hi, hsl⟩ := hS b hb
  refine W.getf F.1 F.2.1 F.2.2.2.1 (F.2.2.2.2.1 _ hlk) hi (u_facts hfc hkC (u_lays F.2.2.2.2.1 hin hb) hi).1 q1 (by rw [q3]; exact fun h => by cases h) (v := cj_mv ad v) ?_ rfl rfl hd ?_
  · rw [hsl, q4 b hb]
    show some (cj_mv ad (fs.getD b .null)) = _
    rw [List.getD_eq_getElem?_getD, hv]
    rfl
  · exact k ad H locs cells slots ls (cj_Rl_st hr (cj_wc (hwf v (List.mem_of_getElem? hv)) (cj_wt hr.2.2.1)))
/-- a field's kind and its type -/
def cj_kt (k : Nat) (ty : FieldType) : Prop := (k = 0 ∧ ty = .int) ∨ (k = 1 ∧ ty = .boolean) ∨ (k = 2 ∧ ((∃ n, ty = .object n) ∨ ∃ t, ty = .array t)) ∨ (k = 3 ∧ ty = .long)
theorem cj_kt_fit {k : Nat} {ty : FieldType} {v : Value} {ad : Nat → Nat} (hk : cj_kt k ty) (h : cj_fit k v = true) : narrow ty (cj_mv ad v) = cj_mv ad v ∧ fits ty (cj_mv ad v) = true := by
  rcases hk with ⟨rfl, rfl⟩ | ⟨rfl, rfl⟩ | ⟨rfl, hk⟩ | ⟨rfl, rfl⟩
  · cases v <;> first | exact ⟨rfl, rfl⟩ | simp [cj_fit] at h
  · cases v with
    | int x =>
      have h : x = 0 ∨ x = 1 := by simpa [cj_fit] using h
      rcases h with rfl | rfl
      · exact ⟨(by decide +kernel : narrow .boolean (.int 0) = .int 0), (by decide +kernel : fits .boolean (.int 0) = true)⟩
      · exact ⟨(by decide +kernel : narrow .boolean (.int 1) = .int 1), (by decide +kernel : fits .boolean (.int 1) = true)⟩
    | _ => simp [cj_fit] at h
  · cases v <;> first | (rcases hk with ⟨n, rfl⟩ | ⟨t, rfl⟩ <;> exact ⟨rfl, rfl⟩) | simp [cj_fit] at h
  · cases v <;> first | exact ⟨rfl, rfl⟩ | simp [cj_fit] at h
theorem cj_ob_set {D : va_G} {ad : Nat → Nat} {n0 o a b : Nat} {fs : List Value} {v : Value} {q : vw_C} {H' : Heap} {cell : Cell} (hq : kcl_[a]? = some q) (hlen : fs.length = q.2.2) (hb : b < fs.length) (e1 : H'[o]? = some (cell.setSlot (D.2 a b) (cj_mv ad v))) (q2 : cell.cls = D.1 a) (q3 : cell.vm = .none) (q4 : ∀ k, k < q.2.2 → cell.slots[D.2 a k]? = some (cj_mv ad (fs.getD k .null))) (hap : ∀ x y, x < q.2.2 → y < q.2.2 → x ≠ y → (D.2 a) x ≠ (D.2 a) y) (hwf : ∀ v ∈ fs, cj_wv n0 v) (hv : cj_wv n0 v) : cj_ob D ad n0 o a (fs.set b v) H' := by
  refine ⟨q, hq, by rw [List.length_set]; exact hlen, ⟨_, e1, q2, q3, fun j hj => ?_⟩, fun w hw => ?_⟩
  · rw [t_set q4 hap (by rw [← hlen]; exact hb) (cj_mv ad v) j hj]
    congr 1
    by_cases e : j = b
    · subst e
      simp [updV, hb]
    · simp [updV, e, List.getElem?_set, Ne.symm e]
  · rcases List.mem_or_eq_of_mem_set hw with h | h
    · exact hwf w h
    · rw [h]; exact hv
theorem ok_putfield {idx N : Nat} {C : String} {T : u_T} {ty0 : Nat → FieldType} (hd : decode cc pc = .ok (.putfield idx, 3)) (hcl : kcl_[a]? = some (C, T, N)) (hin : ∀ w ∈ u_ws C T N, w ∈ lw_kw) (hb : b < N) (hlk : Cond.fieldLink own idx (T b).1 (T b).2.1 (T b).2.2.1 ∈ lw_kw)
    (hty0 : ∀ k, k < N → parseFieldDescriptor (T k).2.2.1 = some (ty0 k)) (hnm : ∀ x, x < N → ∀ y, y < N → x ≠ y → (T x).2.1 ≠ (T y).2.1) (hfin : (T b).2.2.2 = false ∨ ((T b).2.2.2 = true ∧ nm = "<init>" ∧ (T b).1 = own)) (hkt : cj_kt (lx.getD 0 9) (ty0 b)) : cj_Ok cc own nm fr lo (51, a, b, lx) pc (pc + 3) := by
  intro p l e R s m args below meth c Q nL D tys ad0 n0 k0 w0 F hty L st M f hs hc hw k
  obtain ⟨v, o, r, fs, rfl, ho, hbl, hfit, h0, rfl⟩ := cj_putf_inv (show cj_putf a b (lx.getD 0 9) (pc + 3) L st M = some f from hs)
  intro ad H locs cells slots ls hr
  obtain ⟨ho1, q, hq, hlen, ⟨cell, q1, q2, q3, q4⟩, hwf⟩ := hr.1.1 o _ ho
  cases hcl.symm.trans hq
  have hap := va_apart (own := own) F.2.2.2.2.1 hin ty0 hty0 hnm F.2.2.2.2.2.1 hcl
  obtain ⟨hS, hfc, kC, hkC, hkind⟩ := F.2.2.2.2.2.1.1 a _ hcl
  obtain ⟨cf, kf, fi, fd, hi, hsl⟩ := hS b hb
  obtain ⟨hn, hft⟩ := cj_kt_fit (ad := ad) hkt hfit
  have hst := (u_facts hfc hkC (u_lays F.2.2.2.2.1 hin hb) hi).1
  have hlay := F.2.2.2.2.1 _ (hin _ (u_in_lay hb))
  unfold u_lay at hlay
  rcases hfin with hfin | ⟨hfin, hin2, hdecl⟩
  · rw [if_neg (by rw [hfin]; decide)] at hlay
    have h6 := u_store hfc hkC hkind hlay hi (hty0 b hb) hn hft
    refine W.putK F.1 F.2.1 (f := fd) ⟨F.2.2.2.1, F.2.2.2.2.1 _ hlk, ⟨_, _, _, hi⟩, hst⟩ (by rw [q2]; exact h6) q1 q3 (by rw [hsl]; exact k2_hasslot (q4 b hb)) rfl rfl hd fun H' e1 e2 e3 => ?_
    rw [hsl] at e1 ⊢
    exact k ad H' _ cells slots ls (cj_Rl_set (d := .inr (a, fs.set b v)) hr ho h0 e2 e3 (cj_ob_set hcl hlen hbl e1 q2 q3 q4 hap hwf (cj_wh hr.2.2.1)) (cj_wt (cj_wt hr.2.2.1)))
  · rw [if_pos hfin] at hlay
    have hcf : m.cls = cf := by
      obtain ⟨_, _, c', _, _, _, -, -, hf', -, -, -, hown2, -⟩ := Cond.laysFinal_spec hlay
      have e1 : c' = cf := by have := hi.symm.trans hf'; simp at this; exact this.1.symm
      rw [hdecl] at hown2
      rw [← e1]; exact Option.some.inj (F.2.2.2.1.symm.trans hown2)
    have h6 := u_fits hfc hkC hkind (Or.inr hlay) hi (hty0 b hb) hn hft
    refine W.putFinK F.1 F.2.1 F.2.2.2.1 (F.2.2.2.2.1 _ hlk) hi hst hcf (by rw [F.2.2.2.2.2.2.1]; exact hin2) (by rw [q2]; exact h6) q1 q3 (by rw [hsl]; exact k2_hasslot (q4 b hb)) rfl rfl hd fun H' e1 e2 e3 => ?_
    rw [hsl] at e1 ⊢
    exact k ad H' _ cells slots ls (cj_Rl_set (d := .inr (a, fs.set b v)) hr ho h0 e2 e3 (cj_ob_set hcl hlen hbl e1 q2 q3 q4 hap hwf (cj_wh hr.2.2.1)) (cj_wt (cj_wt hr.2.2.1)))
theorem ok_arraylength (hd : decode cc pc = .ok (.arraylength, 1)) : cj_Ok cc own nm fr lo (53, a, b, lx) pc (pc + 1) := by
  intro p l e R s m args below meth c Q nL D tys ad0 n0 k0 w0 F hty L st M f hs hc hw k
  obtain ⟨o, r, t, n, x, rfl, ho, rfl⟩ := cj_len_inv (show cj_len (pc + 1) L st M = some f from hs)
  intro ad H locs cells slots ls hr
  obtain ⟨ho1, cell, q, h1, h2, h3, h4, h5, h6, h7, h8⟩ := hr.1.1 o _ ho
  exact W.alen (n := nI n) F.1 F.2.1 h1 h3 (by rw [h5]; rfl) rfl rfl hd (k ad H locs cells slots ls (cj_Rl_st hr (cj_wc cj_wvi (cj_wt hr.2.2.1))))
theorem ok_iaload (hd : decode cc pc = .ok (.iaload, 1)) (hta : kty_[a]? = some .int) : cj_Ok cc own nm fr lo (54, a, b, lx) pc (pc + 1) := by
  intro p l e R s m args below meth c Q nL D tys ad0 n0 k0 w0 F hty L st M f hs hc hw k
  obtain ⟨j, o, r, n, x, rfl, ho, hj, rfl⟩ := cj_ald_inv (show cj_ald a (pc + 1) L st M = some f from hs)
  intro ad H locs cells slots ls hr
  obtain ⟨ho1, cell, q, h1, h2, h3, h4, h5, h6, h7, h8⟩ := hr.1.1 o _ ho
  have hq : q.2 = .int := by
    have h9 := hty a
    rw [h2, hta] at h9
    exact Option.some.inj h9
  have hlt : j.toNatClampNeg < n := Nat.not_le.mp fun z => hj (Or.inr z)
  exact W.iald (v := cj_va ad x j.toNatClampNeg) F.1 F.2.1 h1 (by rw [← hq]; exact h3) h4 (by rw [h5]; exact hj) (h6 _ hlt) rfl rfl hd (k ad H locs cells slots ls (cj_Rl_st hr (cj_wc (cj_el_wv h8 hlt) (cj_wt (cj_wt hr.2.2.1)))))
theorem ok_caload (hd : decode cc pc = .ok (.caload, 1)) (hta : kty_[a]? = some .char) : cj_Ok cc own nm fr lo (54, a, b, lx) pc (pc + 1) := by
  intro p l e R s m args below meth c Q nL D tys ad0 n0 k0 w0 F hty L st M f hs hc hw k
  obtain ⟨j, o, r, n, x, rfl, ho, hj, rfl⟩ := cj_ald_inv (show cj_ald a (pc + 1) L st M = some f from hs)
  intro ad H locs cells slots ls hr
  obtain ⟨ho1, cell, q, h1, h2, h3, h4, h5, h6, h7, h8⟩ := hr.1.1 o _ ho
  have hq : q.2 = .char := by
    have h9 := hty a
    rw [h2, hta] at h9
    exact Option.some.inj h9
  have hlt : j.toNatClampNeg < n := Nat.not_le.mp fun z => hj (Or.inr z)
  exact W.cald (v := cj_va ad x j.toNatClampNeg) F.1 F.2.1 h1 (by rw [← hq]; exact h3) h4 (by rw [h5]; exact hj) (h6 _ hlt) rfl rfl hd (k ad H locs cells slots ls (cj_Rl_st hr (cj_wc (cj_el_wv h8 hlt) (cj_wt (cj_wt hr.2.2.1)))))
theorem ok_laload (hd : decode cc pc = .ok (.laload, 1)) (hta : kty_[a]? = some .long) : cj_Ok cc own nm fr lo (54, a, b, lx) pc (pc + 1) := by
  intro p l e R s m args below meth c Q nL D tys ad0 n0 k0 w0 F hty L st M f hs hc hw k
  obtain ⟨j, o, r, n, x, rfl, ho, hj, rfl⟩ := cj_ald_inv (show cj_ald a (pc + 1) L st M = some f from hs)
  intro ad H locs cells slots ls hr
  obtain ⟨ho1, cell, q, h1, h2, h3, h4, h5, h6, h7, h8⟩ := hr.1.1 o _ ho
  have hq : q.2 = .long := by
    have h9 := hty a
    rw [h2, hta] at h9
    exact Option.some.inj h9
  have hlt : j.toNatClampNeg < n := Nat.not_le.mp fun z => hj (Or.inr z)
  exact W.lald (v := cj_va ad x j.toNatClampNeg) F.1 F.2.1 h1 (by rw [← hq]; exact h3) h4 (by rw [h5]; exact hj) (h6 _ hlt) rfl rfl hd (k ad H locs cells slots ls (cj_Rl_st hr (cj_wc (cj_el_wv h8 hlt) (cj_wt (cj_wt hr.2.2.1)))))
theorem ok_baload (hd : decode cc pc = .ok (.baload, 1)) (hta : kty_[a]? = some .boolean) : cj_Ok cc own nm fr lo (54, a, b, lx) pc (pc + 1) := by
  intro p l e R s m args below meth c Q nL D tys ad0 n0 k0 w0 F hty L st M f hs hc hw k
  obtain ⟨j, o, r, n, x, rfl, ho, hj, rfl⟩ := cj_ald_inv (show cj_ald a (pc + 1) L st M = some f from hs)
  intro ad H locs cells slots ls hr
  obtain ⟨ho1, cell, q, h1, h2, h3, h4, h5, h6, h7, h8⟩ := hr.1.1 o _ ho
  have hq : q.2 = .boolean := by
    have h9 := hty a
    rw [h2, hta] at h9
    exact Option.some.inj h9
  have hlt : j.toNatClampNeg < n := Nat.not_le.mp fun z => hj (Or.inr z)
  exact W.zald (v := cj_va ad x j.toNatClampNeg) F.1 F.2.1 h1 (by rw [← hq]; exact h3) h4 (by rw [h5]; exact hj) (h6 _ hlt) rfl rfl hd (k ad H locs cells slots ls (cj_Rl_st hr (cj_wc (cj_el_wv h8 hlt) (cj_wt (cj_wt hr.2.2.1)))))
theorem ok_aaload {C : String} (hd : decode cc pc = .ok (.aaload, 1)) (hta : kty_[a]? = some (.object C)) : cj_Ok cc own nm fr lo (54, a, b, lx) pc (pc + 1) := by
  intro p l e R s m args below meth c Q nL D tys ad0 n0 k0 w0 F hty L st M f hs hc hw k
  obtain ⟨j, o, r, n, x, rfl, ho, hj, rfl⟩ := cj_ald_inv (show cj_ald a (pc + 1) L st M = some f from hs)
  intro ad H locs cells slots ls hr
  obtain ⟨ho1, cell, q, h1, h2, h3, h4, h5, h6, h7, h8⟩ := hr.1.1 o _ ho
  have hq : q.2 = .object C := by
    have h9 := hty a
    rw [h2, hta] at h9
    exact Option.some.inj h9
  have hlt : j.toNatClampNeg < n := Nat.not_le.mp fun z => hj (Or.inr z)
  exact W.aald (v := cj_va ad x j.toNatClampNeg) (ty := q.2) F.1 F.2.1 h1 h3 (by rw [hq]; rfl) h4 (by rw [h5]; exact hj) (h6 _ hlt) rfl rfl hd (k ad H locs cells slots ls (cj_Rl_st hr (cj_wc (cj_el_wv h8 hlt) (cj_wt (cj_wt hr.2.2.1)))))
theorem cj_ar_set {s : State} {tys : cj_T} {ad : Nat → Nat} {n0 o t n j : Nat} {x x' : cj_A} {H' : Heap} {cell : Cell} {q : ClassId × FieldType} {v : Value} (e1 : H'[o]? = some (cell.setSlot j v)) (h2 : tys[t]? = some q) (h3 : s.isArrayOf cell q.2) (h4 : cell.vm ≠ .unknown) (h5 : cell.slots.size = n) (h6 : ∀ i, i < n → cell.slots[i]? = some (cj_va ad x i)) (h7 : q.2.isReference = true → cell.cls = q.1) (hj : j < n) (hv : cj_va ad x' j = v) (ho : ∀ i, i ≠ j → cj_va ad x' i = cj_va ad x i) (hw : cj_wx n0 n x') : cj_ar s tys ad n0 o t n x' H' := by
  refine ⟨_, q, e1, h2, h3, h4, by rw [← h5]; exact Array.size_setIfInBounds, fun i hi => ?_, h7, hw⟩
  by_cases e : i = j
  · subst e
    rw [Cell.slots_setSlot_self _ (by rw [h5]; exact hi), hv]
  · rw [slot_ne _ _ (Ne.symm e), h6 i hi, ho i e]
theorem ok_iastore (hd : decode cc pc = .ok (.iastore, 1)) (hta : kty_[a]? = some .int) : cj_Ok cc own nm fr lo (56, a, b, lx) pc (pc + 1) := by
  intro p l e R s m args below meth c Q nL D tys ad0 n0 k0 w0 F hty L st M f hs hc hw k
  obtain ⟨x, j, o, r, n, g, rfl, ho, hj, h0, rfl⟩ := cj_ast_inv (show cj_ast a _ (pc + 1) L st M = some f from hs)
  intro ad H locs cells slots ls hr
  obtain ⟨ho1, cell, q, h1, h2, h3, h4, h5, h6, h7, h8⟩ := hr.1.1 o _ ho
  have hq : q.2 = .int := by
    have h9 := hty a
    rw [h2, hta] at h9
    exact Option.some.inj h9
  have hlt : j.toNatClampNeg < n := Nat.not_le.mp fun z => hj (Or.inr z)
  refine W.iast F.1 F.2.1 h1 (by rw [← hq]; exact h3) h4 (by rw [h5]; exact hj) rfl rfl hd fun H' e1 e2 e3 => ?_
  refine k ad H' _ cells slots ls (cj_Rl_set (d := .inl (a, n, .inl (cj_up g j.toNatClampNeg (x)))) hr ho h0 e2 e3 (cj_ar_set e1 h2 h3 h4 h5 h6 h7 hlt ?_ (fun i hi => ?_) trivial) (cj_wt (cj_wt (cj_wt hr.2.2.1))))
  · show Value.int (cj_up g j.toNatClampNeg (x) j.toNatClampNeg) = _
    rw [cj_up_s]
    try rfl
  · show Value.int (cj_up g j.toNatClampNeg (x) i) = Value.int (g i)
    rw [cj_up_n _ _ hi]
theorem ok_castore (hd : decode cc pc = .ok (.castore, 1)) (hta : kty_[a]? = some .char) : cj_Ok cc own nm fr lo (57, a, b, lx) pc (pc + 1) := by
  intro p l e R s m args below meth c Q nL D tys ad0 n0 k0 w0 F hty L st M f hs hc hw k
  obtain ⟨x, j, o, r, n, g, rfl, ho, hj, h0, rfl⟩ := cj_ast_inv (show cj_ast a _ (pc + 1) L st M = some f from hs)
  intro ad H locs cells slots ls hr
  obtain ⟨ho1, cell, q, h1, h2, h3, h4, h5, h6, h7, h8⟩ := hr.1.1 o _ ho
  have hq : q.2 = .char := by
    have h9 := hty a
    rw [h2, hta] at h9
    exact Option.some.inj h9
  have hlt : j.toNatClampNeg < n := Nat.not_le.mp fun z => hj (Or.inr z)
  refine W.cast F.1 F.2.1 h1 (by rw [← hq]; exact h3) h4 (by rw [h5]; exact hj) rfl rfl hd fun H' e1 e2 e3 => ?_
  refine k ad H' _ cells slots ls (cj_Rl_set (d := .inl (a, n, .inl (cj_up g j.toNatClampNeg (vp_nar .char x)))) hr ho h0 e2 e3 (cj_ar_set e1 h2 h3 h4 h5 h6 h7 hlt ?_ (fun i hi => ?_) trivial) (cj_wt (cj_wt (cj_wt hr.2.2.1))))
  · show Value.int (cj_up g j.toNatClampNeg (vp_nar .char x) j.toNatClampNeg) = _
    rw [cj_up_s]
    try rfl
  · show Value.int (cj_up g j.toNatClampNeg (vp_nar .char x) i) = Value.int (g i)
    rw [cj_up_n _ _ hi]
theorem ok_bastore (hd : decode cc pc = .ok (.bastore, 1)) (hta : kty_[a]? = some .boolean) : cj_Ok cc own nm fr lo (58, a, b, lx) pc (pc + 1) := by
  intro p l e R s m args below meth c Q nL D tys ad0 n0 k0 w0 F hty L st M f hs hc hw k
  obtain ⟨x, j, o, r, n, g, rfl, ho, hj, h0, rfl⟩ := cj_ast_inv (show cj_ast a _ (pc + 1) L st M = some f from hs)
  intro ad H locs cells slots ls hr
  obtain ⟨ho1, cell, q, h1, h2, h3, h4, h5, h6, h7, h8⟩ := hr.1.1 o _ ho
  have hq : q.2 = .boolean := by
    have h9 := hty a
    rw [h2, hta] at h9
    exact Option.some.inj h9
  have hlt : j.toNatClampNeg < n := Nat.not_le.mp fun z => hj (Or.inr z)
  refine W.zast F.1 F.2.1 h1 (by rw [← hq]; exact h3) h4 (by rw [h5]; exact hj) rfl rfl hd fun H' e1 e2 e3 => ?_
  refine k ad H' _ cells slots ls (cj_Rl_set (d := .inl (a, n, .inl (cj_up g j.toNatClampNeg (vp_nar .boolean x)))) hr ho h0 e2 e3 (cj_ar_set e1 h2 h3 h4 h5 h6 h7 hlt ?_ (fun i hi => ?_) trivial) (cj_wt (cj_wt (cj_wt hr.2.2.1))))
  · show Value.int (cj_up g j.toNatClampNeg (vp_nar .boolean x) j.toNatClampNeg) = _
    rw [cj_up_s]
    try rfl
  · show Value.int (cj_up g j.toNatClampNeg (vp_nar .boolean x) i) = Value.int (g i)
    rw [cj_up_n _ _ hi]
theorem ok_lastore (hd : decode cc pc = .ok (.lastore, 1)) (hta : kty_[a]? = some .long) : cj_Ok cc own nm fr lo (59, a, b, lx) pc (pc + 1) := by
  intro p l e R s m args below meth c Q nL D tys ad0 n0 k0 w0 F hty L st M f hs hc hw k
  obtain ⟨x, j, o, r, n, g, rfl, ho, hj, h0, rfl⟩ := cj_asl_inv (show cj_asl a (pc + 1) L st M = some f from hs)
  intro ad H locs cells slots ls hr
  obtain ⟨ho1, cell, q, h1, h2, h3, h4, h5, h6, h7, h8⟩ := hr.1.1 o _ ho
  have hq : q.2 = .long := by
    have h9 := hty a
    rw [h2, hta] at h9
    exact Option.some.inj h9
  have hlt : j.toNatClampNeg < n := Nat.not_le.mp fun z => hj (Or.inr z)
  refine W.last F.1 F.2.1 h1 (by rw [← hq]; exact h3) h4 (by rw [h5]; exact hj) rfl rfl hd fun H' e1 e2 e3 => ?_
  refine k ad H' _ cells slots ls (cj_Rl_set (d := .inl (a, n, .inr (.inl (cj_up g j.toNatClampNeg x)))) hr ho h0 e2 e3 (cj_ar_set e1 h2 h3 h4 h5 h6 h7 hlt ?_ (fun i hi => ?_) trivial) (cj_wt (cj_wt (cj_wt hr.2.2.1))))
  · show Value.long (cj_up g j.toNatClampNeg x j.toNatClampNeg) = _
    rw [cj_up_s]
  · show Value.long (cj_up g j.toNatClampNeg x i) = Value.long (g i)
    rw [cj_up_n _ _ hi]
theorem ok_aastore {q1 : vw_C} (hd : decode cc pc = .ok (.aastore, 1)) (hta : kty_[b]? = some (.object q1.1)) (hcl : kcl_[a]? = some q1) : cj_Ok cc own nm fr lo (60, a, b, lx) pc (pc + 1) := by
  intro p l e R s m args below meth c Q nL D tys ad0 n0 k0 w0 F hty L st M f hs hc hw k
  obtain ⟨v, j, o, r, n, g, fs, rfl, ho, hv, hj, h0, rfl⟩ := cj_asq_inv (show cj_asq a b (pc + 1) L st M = some f from hs)
  intro ad H locs cells slots ls hr
  obtain ⟨ho1, cell, q, h1, h2, h3, h4, h5, h6, h7, h8⟩ := hr.1.1 o _ ho
  obtain ⟨hv1, q', hq', hlen, ⟨cv, g1, g2, g3, g4⟩, hwf⟩ := hr.1.1 v _ hv
  cases hcl.symm.trans hq'
  have hq : q.2 = .object q1.1 := by
    have h9 := hty b
    rw [h2, hta] at h9
    exact Option.some.inj h9
  obtain ⟨qc, qt⟩ := q
  cases hq
  have hlt : j.toNatClampNeg < n := Nat.not_le.mp fun z => hj (Or.inr z)
  have hn0 : ¬ j < 0 := fun z => hj (Or.inl z)
  have hcls := (F.2.2.2.2.2.1.1 a _ hcl).2
  obtain ⟨kA, comp, k1, k2, k3, -⟩ := (F.2.2.2.2.2.1.2 b _ h2).2
  have hcomp : comp = D.1 a := Option.some.inj (k3.symm.trans hcls.1)
  subst hcomp
  obtain ⟨kC, hkC, -⟩ := hcls.2
  have hcc : cell.cls = qc := h7 rfl
  refine W.aast F.1 F.2.1 h1 (fun z hz => h3.1 z hz) h4 (by rw [hcc]; exact k1) k2 rfl hkC ⟨hn0, by rw [h5]; exact hlt⟩ g1 (fun z h => by rw [g3] at h; cases h) (by rw [g2]; exact hkC) (by rw [g2]; exact va_assign hcls) rfl rfl hd fun H' e1 e2 e3 => ?_
  refine k ad H' _ cells slots ls (cj_Rl_set (d := .inl (b, n, .inr (.inr (cj_up g j.toNatClampNeg (some v))))) hr ho h0 e2 e3 (cj_ar_set e1 h2 h3 h4 h5 h6 h7 hlt ?_ (fun i hi => ?_) (fun i hi z hz => ?_)) (cj_wt (cj_wt (cj_wt hr.2.2.1))))
  · show cj_mv ad (cj_rf (cj_up g j.toNatClampNeg (some v) j.toNatClampNeg)) = _
    rw [cj_up_s]
    rfl
  · show cj_mv ad (cj_rf (cj_up g j.toNatClampNeg (some v) i)) = cj_mv ad (cj_rf (g i))
    rw [cj_up_n _ _ hi]
  · by_cases e : i = j.toNatClampNeg
    · subst e
      have hz : cj_up g _ (some v) _ = some z := hz
      rw [cj_up_s] at hz
      cases hz
      exact hv1
    · have hz : cj_up g j.toNatClampNeg (some v) i = some z := hz
      rw [cj_up_n _ _ e] at hz
      exact h8 i hi z hz
theorem cj_mv_dfl {ad : Nat → Nat} {k : Nat} : cj_mv ad (cj_dfl k) = cj_dfl k := by
  unfold cj_dfl
  split
  · rfl
  · split <;> rfl
theorem ok_new {idx N : Nat} {C : String} {T : u_T} {ty0 : Nat → FieldType} (hd : decode cc pc = .ok (.new idx, 3)) (hcl : kcl_[a]? = some (C, T, N)) (hin : ∀ w ∈ u_ws C T N, w ∈ lw_kw) (hlk : Cond.classLink own idx C ∈ lw_kw) (hins : Cond.instantiable C N ∈ lw_kw) (hini : Cond.initialized C ∈ lw_kw) (hN : b = N) (hlx : lx.length = N)
    (hty0 : ∀ k, k < N → parseFieldDescriptor (T k).2.2.1 = some (ty0 k)) (hdf : ∀ k, k < N → defaultValue (ty0 k) = cj_dfl (lx.getD k 9)) : cj_Ok cc own nm fr lo (70, a, b, lx) pc (pc + 3) := by
  intro p l e R s m args below meth c Q nL D tys ad0 n0 k0 w0 F hty L st M f hs hc hw k
  have hs : some (pc + 3, L, Value.ref M.2.1 :: st, cj_new M (.inr (a, lx.map cj_dfl)) b) = some f := hs
  cases hs
  subst hN
  intro ad H locs cells slots ls hr
  have hc' : M.2.2.1 + 1 ≤ k0 + R.cells := hc
  have hw' : M.2.2.2 + b ≤ w0 + R.slots := hw
  have g8 := hr.2.2.2.2.2.1
  have g9 := hr.2.2.2.2.2.2
  have hKn := F.2.2.2.2.2.1.1 a _ hcl
  refine W.newcK F.1 F.2.1 F.2.2.2.1 (F.2.2.2.2.1 _ hlk) (F.2.2.2.2.1 _ hins) (F.2.2.2.2.1 _ hini) rfl hd (by omega) (by omega) hKn.2.1 rfl fun H1 kC hkC e1 z1 o1 => ?_
  have hdv : ∀ n, ∀ v ∈ lx.map cj_dfl, cj_wv n v := by
    intro n v hv
    obtain ⟨z, -, rfl⟩ := List.mem_map.mp hv
    unfold cj_dfl
    split
    · trivial
    · split <;> trivial
  have hob : cj_at s D tys (cj_up ad M.2.1 H.size) (M.2.1 + 1) H.size (.inr (a, lx.map cj_dfl)) H1 := by
    refine ⟨_, hcl, by rw [List.length_map]; exact hlx, (u_born ty0 F.2.2.2.2.1 hin hKn hkC e1 hty0).to (fun j hj => ?_), hdv _⟩
    rw [hdf j hj, List.getD_eq_getElem?_getD, List.getD_eq_getElem?_getD, List.getElem?_map, List.getElem?_eq_getElem (by rw [hlx]; exact hj)]
    exact (cj_mv_dfl (k := lx[j])).symm
  obtain ⟨k1, k2⟩ := cj_Rl_new (w := b) hr z1 o1 hob hr.2.2.1
  have hk := k _ _ _ _ _ _ k1
  dsimp only at hk
  rw [k2] at hk
  exact hk
theorem ok_newarray {at0 : ArrayType} {ty : FieldType} {x : cj_A} {op : Nat} (hd : decode cc pc = .ok (.newarray at0, 2)) (hty0 : newarray.typeOf at0 = ty) (hta : kty_[a]? = some ty) (harr : Cond.arrayClass ty ∈ lw_kw) (hx : ∀ ad j, cj_va ad x j = defaultValue ty) (hwx : ∀ n0 n, cj_wx n0 n x) (hcb : componentBytes ty ≤ 8) (hnr : ty.isReference = false) (hop : ∀ nx L st M, cj_step (op, a, b, lx) nx L st M = cj_na a x nx L st M) : cj_Ok cc own nm fr lo (op, a, b, lx) pc (pc + 2) := by
  intro p l e R s m args below meth c Q nL D tys ad0 n0 k0 w0 F hty L st M f hs hc hw k
  rw [hop] at hs
  obtain ⟨n, r, rfl, hn, hn2, rfl⟩ := cj_na_inv hs
  subst hty0
  intro ad H locs cells slots ls hr
  have hc' : M.2.2.1 + 1 ≤ k0 + R.cells := hc
  have hw' : M.2.2.2 + n.toNatClampNeg ≤ w0 + R.slots := hw
  have g8 := hr.2.2.2.2.2.1
  have g9 := hr.2.2.2.2.2.2
  have hbytes : n.toNatClampNeg * componentBytes (newarray.typeOf at0) ≤ 536870912 := Nat.le_trans (Nat.mul_le_mul hn2 hcb) (by decide)
  refine va_newaK F.1 F.2.1 (F.2.2.2.2.1 _ harr) rfl hd rfl hn rfl hbytes (by omega) (by omega) rfl fun H1 cA e1 z1 o1 hAr hNm => ?_
  have h9 := hty a
  rw [hta] at h9
  cases hq : tys[a]? with
  | none => rw [hq] at h9; cases h9
  | some q =>
    rw [hq] at h9
    have hq2 : q.2 = newarray.typeOf at0 := Option.some.inj h9
    have hob : cj_at s D tys (cj_up ad M.2.1 H.size) (M.2.1 + 1) H.size (.inl (a, n.toNatClampNeg, x)) H1 := by
      refine ⟨_, q, e1, hq, by rw [hq2]; exact hAr _ _, (fun h => by cases h), arrV_size _ _ _, fun j hj => ?_, fun h => ?_, hwx _ _⟩
      · rw [arrV_read _ _ hj, hx]
      · rw [hq2, hnr] at h; cases h
    obtain ⟨k1, k2⟩ := cj_Rl_new (w := n.toNatClampNeg) hr z1 o1 hob (cj_wt hr.2.2.1)
    have hk := k _ _ _ _ _ _ k1
    dsimp only at hk
    rw [k2] at hk
    exact hk
theorem ok_anewarray {idx : Nat} {C : String} (hd : decode cc pc = .ok (.anewarray idx, 3)) (hlk : Cond.classLink own idx C ∈ lw_kw) (hov : Cond.arrayOver (.object C) ∈ lw_kw) (hta : kty_[a]? = some (.object C)) : cj_Ok cc own nm fr lo (73, a, b, lx) pc (pc + 3) := by
  intro p l e R s m args below meth c Q nL D tys ad0 n0 k0 w0 F hty L st M f hs hc hw k
  obtain ⟨n, r, rfl, hn, hn2, rfl⟩ := cj_na_inv (show cj_na a (.inr (.inr (fun _ => none))) (pc + 3) L st M = some f from hs)
  intro ad H locs cells slots ls hr
  have hc' : M.2.2.1 + 1 ≤ k0 + R.cells := hc
  have hw' : M.2.2.2 + n.toNatClampNeg ≤ w0 + R.slots := hw
  have g8 := hr.2.2.2.2.2.1
  have g9 := hr.2.2.2.2.2.2
  refine W.anew F.1 F.2.1 F.2.2.2.1 (F.2.2.2.2.1 _ hlk) (F.2.2.2.2.1 _ hov) rfl hd rfl hn (by omega) (by omega) (by omega) fun cA kA comp f1 f2 f3 f4 => ?_
  generalize hH1 : H.push ({ cls := cA, slots := Array.replicate n.toNatClampNeg .null, vm := .none } : Cell) = H1
  have z1 : H1.size = H.size + 1 := by rw [← hH1, Array.size_push]
  have e1 : H1[H.size]? = some (arrV cA n.toNatClampNeg (fun _ => .null)) := by rw [← hH1, Array.getElem?_push_size, ← arrV_new]
  have o1 : ∀ q : Nat, q < H.size → H1[q]? = H[q]? := fun q hq => by rw [← hH1, Array.getElem?_push, if_neg (Nat.ne_of_lt hq)]
  have h9 := hty a
  rw [hta] at h9
  cases hq : tys[a]? with
  | none => rw [hq] at h9; cases h9
  | some q =>
    rw [hq] at h9
    have hq2 : q.2 = .object C := Option.some.inj h9
    obtain ⟨qc, qt⟩ := q
    cases hq2
    have hcq : cA = qc := by
      obtain ⟨kA', comp', -, -, -, k4⟩ := (F.2.2.2.2.2.1.2 a _ hq).2
      exact Option.some.inj (f1.symm.trans k4)
    have hob : cj_at s D tys (cj_up ad M.2.1 H.size) (M.2.1 + 1) H.size (.inl (a, n.toNatClampNeg, .inr (.inr (fun _ => none)))) H1 := by
      refine ⟨_, _, e1, hq, ⟨(fun k h => by cases h), kA, f2, comp, f3⟩, (fun h => by cases h), arrV_size _ _ _, fun j hj => ?_, fun _ => hcq, fun j _ o ho => by cases ho⟩
      rw [arrV_read _ _ hj]
      rfl
    obtain ⟨k1, k2⟩ := cj_Rl_new (w := n.toNatClampNeg) hr z1 o1 hob (cj_wt hr.2.2.1)
    have hk := k _ _ _ _ _ _ k1
    dsimp only at hk
    rw [k2] at hk
    exact hk
theorem ok_objInit {idx : Nat} (hd : decode cc pc = .ok (.invokespecial idx, 3)) (h1 : Cond.methodLink own idx Lib.objectInit ∈ lw_kw) (h2 : Cond.instanceMethod Lib.objectInit ∈ lw_kw) (h3 : Cond.code Lib.objectInit ⟨#[0xb1]⟩ 1 none ∈ lw_kw) (hfr : 1 ≤ fr) (hlo : 20 ≤ lo) : cj_Ok cc own nm fr lo (83, a, b, lx) pc (pc + 3) := by
  intro p l e R s m args below meth c Q nL D tys ad0 n0 k0 w0 F hty L st M f hs hc hw k
  obtain ⟨o, r, rfl, hl, rfl⟩ := cj_oi_inv (show cj_oi (pc + 3) L st M = some f from hs)
  intro ad H locs cells slots ls hr
  have h5 := cj_catm (ad := ad) r
  have h6 := F.2.2.2.2.2.2.2.1
  have h7 := F.2.2.2.2.2.2.2.2.1
  refine W.objInit F.1 F.2.1 F.2.2.2.1 (F.2.2.2.2.1 _ h1) (F.2.2.2.2.1 _ h2) (F.2.2.2.2.1 _ h3) rfl (by rw [F.2.2.1]; exact hr.2.1.1) rfl hd (by omega) ?_ (k ad H locs cells slots ls (cj_Rl_st hr (cj_wt hr.2.2.1)))
  show 2 * 0 + _ + 12 ≤ _
  omega
theorem ok_max {idx : Nat} (hd : decode cc pc = .ok (.invokestatic idx, 3)) (h1 : Cond.methodLink own idx Lib.Math.max.name ∈ lw_kw) (h2 : Cond.static Lib.Math.max.name ∈ lw_kw) (h3 : Cond.initialized "java/lang/Math" ∈ lw_kw) (h4 : Cond.code Lib.Math.max.name Lib.Math.max.code 2 (some .int) ∈ lw_kw) (hfr : 1 ≤ fr) (hlo : 21 ≤ lo) : cj_Ok cc own nm fr lo (84, a, b, lx) pc (pc + 3) := by
  intro p l e R s m args below meth c Q nL D tys ad0 n0 k0 w0 F hty L st M f hs hc hw k
  obtain ⟨x, y, r, hl, rfl, rfl⟩ := cj_mm_inv (show cj_mm _ (pc + 3) L st M = some f from hs)
  intro ad H locs cells slots ls hr
  have h5 := cj_catm (ad := ad) r
  have h6 := F.2.2.2.2.2.2.2.1
  have h7 := F.2.2.2.2.2.2.2.2.1
  have hc' : M.2.2.1 ≤ k0 + R.cells := hc
  have hw' : M.2.2.2 ≤ w0 + R.slots := hw
  have g8 := hr.2.2.2.2.2.1
  have g9 := hr.2.2.2.2.2.2
  exact va_mmax F.1 F.2.1 (by rw [F.2.2.1]; exact hr.2.1.1.symm) F.2.2.2.1 (F.2.2.2.2.1 _ h1) (F.2.2.2.2.1 _ h2) (F.2.2.2.2.1 _ h3) (F.2.2.2.2.1 _ h4) (by omega) (by omega) (by omega) (by omega) hd (k ad H locs cells slots ls (cj_Rl_st hr (cj_wc cj_wvi (cj_wt (cj_wt hr.2.2.1)))))
theorem ok_min {idx : Nat} (hd : decode cc pc = .ok (.invokestatic idx, 3)) (h1 : Cond.methodLink own idx Lib.Math.min.name ∈ lw_kw) (h2 : Cond.static Lib.Math.min.name ∈ lw_kw) (h3 : Cond.initialized "java/lang/Math" ∈ lw_kw) (h4 : Cond.code Lib.Math.min.name Lib.Math.min.code 2 (some .int) ∈ lw_kw) (hfr : 1 ≤ fr) (hlo : 21 ≤ lo) : cj_Ok cc own nm fr lo (85, a, b, lx) pc (pc + 3) := by
  intro p l e R s m args below meth c Q nL D tys ad0 n0 k0 w0 F hty L st M f hs hc hw k
  obtain ⟨x, y, r, hl, rfl, rfl⟩ := cj_mm_inv (show cj_mm _ (pc + 3) L st M = some f from hs)
  intro ad H locs cells slots ls hr
  have h5 := cj_catm (ad := ad) r
  have h6 := F.2.2.2.2.2.2.2.1
  have h7 := F.2.2.2.2.2.2.2.2.1
  have hc' : M.2.2.1 ≤ k0 + R.cells := hc
  have hw' : M.2.2.2 ≤ w0 + R.slots := hw
  have g8 := hr.2.2.2.2.2.1
  have g9 := hr.2.2.2.2.2.2
  exact va_mmin F.1 F.2.1 (by rw [F.2.2.1]; exact hr.2.1.1.symm) F.2.2.2.1 (F.2.2.2.2.1 _ h1) (F.2.2.2.2.1 _ h2) (F.2.2.2.2.1 _ h3) (F.2.2.2.2.1 _ h4) (by omega) (by omega) (by omega) (by omega) hd (k ad H locs cells slots ls (cj_Rl_st hr (cj_wc cj_wvi (cj_wt (cj_wt hr.2.2.1)))))
end CJM
