/-! how objects are made: one instruction at a time, over any cells -/
section
variable {m pc nx i b k : Nat} {l : List Nat} {ls st : List Value} {C : Nat → Option cj_C} {n x y : Nat}
theorem n_70 (hk : kd_ m pc = ((70, i, b, l), nx)) {d : List Value} (hd : l.map cj_dfl = d) : cj_res m pc ls st (C, n, x, y) = cj_res m nx ls (.ref n :: st) (cj_up C n (some (.inr (i, d))), n + 1, x + 1, y + b) := by
  subst hd
  exact cj_res_plain hk (by simp [cj_pl])
theorem n_na {t v : Nat} {z : cj_A} (hv : v ≤ 1000000) : cj_na t z nx ls (.int (nI v) :: st) (C, n, x, y) = some (nx, ls, .ref n :: st, (cj_up C n (some (.inl (t, v, z))), n + 1, x + 1, y + v)) := by
  have e1 : (nI v).toNatClampNeg = v := nI_clamp (by omega)
  have e2 : ¬ nI v < 0 := by rw [t_lt, nI_toInt (by omega), t_0]; omega
  show (if ¬ nI v < 0 ∧ (nI v).toNatClampNeg ≤ 1000000 then _ else none) = _
  rw [if_pos ⟨e2, by rw [e1]; exact hv⟩, e1]
  rfl
theorem n_71 (hk : kd_ m pc = ((71, i, b, l), nx)) {v : Nat} (hv : v ≤ 1000000) : cj_res m pc ls (.int (nI v) :: st) (C, n, x, y) = cj_res m nx ls (.ref n :: st) (cj_up C n (some (.inl (i, v, .inl (fun _ => 0)))), n + 1, x + 1, y + v) := (cj_res_plain hk (by simp [cj_pl])).trans (by
  show cj_go m (cj_na i (.inl (fun _ => 0)) nx ls (.int (nI v) :: st) (C, n, x, y)) = _
  rw [n_na hv]; rfl)
theorem n_72 (hk : kd_ m pc = ((72, i, b, l), nx)) {v : Nat} (hv : v ≤ 1000000) : cj_res m pc ls (.int (nI v) :: st) (C, n, x, y) = cj_res m nx ls (.ref n :: st) (cj_up C n (some (.inl (i, v, .inr (.inl (fun _ => 0))))), n + 1, x + 1, y + v) := (cj_res_plain hk (by simp [cj_pl])).trans (by
  show cj_go m (cj_na i (.inr (.inl (fun _ => 0))) nx ls (.int (nI v) :: st) (C, n, x, y)) = _
  rw [n_na hv]; rfl)
theorem n_73 (hk : kd_ m pc = ((73, i, b, l), nx)) {v : Nat} (hv : v ≤ 1000000) : cj_res m pc ls (.int (nI v) :: st) (C, n, x, y) = cj_res m nx ls (.ref n :: st) (cj_up C n (some (.inl (i, v, .inr (.inr (fun _ => none))))), n + 1, x + 1, y + v) := (cj_res_plain hk (by simp [cj_pl])).trans (by
  show cj_go m (cj_na i (.inr (.inr (fun _ => none))) nx ls (.int (nI v) :: st) (C, n, x, y)) = _
  rw [n_na hv]; rfl)
theorem n_51 (hk : kd_ m pc = ((51, i, b, [k]), nx)) {o : Nat} {fs fs' : List Value} {v : Value} (hM : C o = some (.inr (i, fs))) (hb : b < fs.length) (hf : cj_fit k v = true) (h0 : o ≠ 0) (hs : fs.set b v = fs') : cj_res m pc ls (v :: .ref o :: st) (C, n, x, y) = cj_res m nx ls st (cj_up C o (some (.inr (i, fs'))), n, x, y) := (cj_res_plain hk (by simp [cj_pl])).trans (by
  subst hs
  have e : cj_pf (C o) o i b k v = some (.inr (i, fs.set b v)) := by
    rw [hM]
    show (if i = i ∧ b < fs.length ∧ cj_fit k v = true ∧ o ≠ 0 then _ else none) = _
    rw [if_pos ⟨rfl, hb, hf, h0⟩]
  show cj_go m (match cj_pf (C o) o i b k v with | some c => some (nx, ls, st, cj_set (C, n, x, y) o c) | none => none) = _
  rw [e]; rfl)
theorem n_50 (hk : kd_ m pc = ((50, i, b, l), nx)) {o : Nat} {fs : List Value} {v : Value} (hM : C o = some (.inr (i, fs))) (hv : fs[b]? = some v) : cj_res m pc ls (.ref o :: st) (C, n, x, y) = cj_res m nx ls (v :: st) (C, n, x, y) := (cj_res_plain hk (by simp [cj_pl])).trans (by
  have e : cj_fd (C o) i b = some v := by
    rw [hM]
    show (if i = i then fs[b]? else none) = _
    rw [if_pos rfl, hv]
  show cj_go m (match cj_fd (C o) i b with | some v => some (nx, ls, v :: st, ((C, n, x, y) : cj_M)) | none => none) = _
  rw [e]; rfl)
theorem n_54 (hk : kd_ m pc = ((54, i, b, l), nx)) {o q : Nat} {j : Int32} {g : Nat → Option Nat} {r : Nat} (hM : C o = some (.inl (i, q, .inr (.inr g)))) (hj : ¬ (j < 0 ∨ q ≤ j.toNatClampNeg)) (hg : g j.toNatClampNeg = some r) : cj_res m pc ls (.int j :: .ref o :: st) (C, n, x, y) = cj_res m nx ls (.ref r :: st) (C, n, x, y) := (cj_res_plain hk (by simp [cj_pl])).trans (by
  have e : cj_rd (C o) i j = some (.ref r) := by
    rw [hM]
    show (if i = i ∧ ¬ (j < 0 ∨ q ≤ j.toNatClampNeg) then some (cj_rf (g j.toNatClampNeg)) else none) = _
    rw [if_pos ⟨rfl, hj⟩, hg]; rfl
  show cj_go m (match cj_rd (C o) i j with | some v => some (nx, ls, v :: st, ((C, n, x, y) : cj_M)) | none => none) = _
  rw [e]; rfl)
theorem n_56 (hk : kd_ m pc = ((56, i, b, l), nx)) {o q : Nat} {j v : Int32} {g : Nat → Int32} (hM : C o = some (.inl (i, q, .inl g))) (hj : ¬ (j < 0 ∨ q ≤ j.toNatClampNeg)) (h0 : o ≠ 0) : cj_res m pc ls (.int v :: .int j :: .ref o :: st) (C, n, x, y) = cj_res m nx ls st (cj_up C o (some (.inl (i, q, .inl (cj_up g j.toNatClampNeg v)))), n, x, y) := (cj_res_plain hk (by simp [cj_pl])).trans (by
  have e : cj_wi (C o) o i j v = some (.inl (i, q, .inl (cj_up g j.toNatClampNeg v))) := by
    rw [hM]
    show (if i = i ∧ ¬ (j < 0 ∨ q ≤ j.toNatClampNeg) ∧ o ≠ 0 then _ else none) = _
    rw [if_pos ⟨rfl, hj, h0⟩]
  show cj_go m (match cj_wi (C o) o i j v with | some c => some (nx, ls, st, cj_set (C, n, x, y) o c) | none => none) = _
  rw [e]; rfl)
theorem n_60 (hk : kd_ m pc = ((60, i, b, l), nx)) {o q v : Nat} {j : Int32} {g : Nat → Option Nat} {fs : List Value} (hM : C o = some (.inl (b, q, .inr (.inr g)))) (hv : C v = some (.inr (i, fs))) (hj : ¬ (j < 0 ∨ q ≤ j.toNatClampNeg)) (h0 : o ≠ 0) : cj_res m pc ls (.ref v :: .int j :: .ref o :: st) (C, n, x, y) = cj_res m nx ls st (cj_up C o (some (.inl (b, q, .inr (.inr (cj_up g j.toNatClampNeg (some v)))))), n, x, y) := (cj_res_plain hk (by simp [cj_pl])).trans (by
  have e : cj_wq (C o) (C v) o v i b j = some (.inl (b, q, .inr (.inr (cj_up g j.toNatClampNeg (some v))))) := by
    rw [hM, hv]
    show (if b = b ∧ i = i ∧ ¬ (j < 0 ∨ q ≤ j.toNatClampNeg) ∧ o ≠ 0 then _ else none) = _
    rw [if_pos ⟨rfl, rfl, hj, h0⟩]
  show cj_go m (match cj_wq (C o) (C v) o v i b j with | some d => some (nx, ls, st, cj_set (C, n, x, y) o d) | none => none) = _
  rw [e]; rfl)
theorem n_83 (hk : kd_ m pc = ((83, i, b, l), nx)) {o : Nat} (h : st.length ≤ 4) {M : cj_M} : cj_res m pc ls (.ref o :: st) M = cj_res m nx ls st M := (cj_res_plain hk (by simp [cj_pl])).trans (by
  show cj_go m (if st.length ≤ 4 then some (nx, ls, st, M) else none) = _
  rw [if_pos h]; rfl)
theorem n_aft {ls' : List Value} {r as : List Value} {a : Nat} {M M' : cj_M} {R : Option (cj_O × cj_M)} (h : cj_ev a as M = some (.inl none, M')) (h2 : cj_res m nx ls' r M' = R) : cj_aft m pc nx ls' r (cj_ev a as M) = R := by
  rw [h]; exact h2
end
