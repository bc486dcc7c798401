/-! the reference's constructor, its last lines -/
section
variable {C : Nat → Option cj_C} {n x y : Nat} {w h : Int32} {u : Value} {fs : List Value}
theorem mi_put {m pc nx b : Nat} {ls : List Value} (hk : kd_ m pc = ((51, 7, b, [0]), nx)) {v : Int32} (hM : C 206 = some (.inr (7, fs))) (hb : b < fs.length) : cj_res m pc ls [.int v, .ref 206] (C, n, x, y) = cj_res m nx ls [] (cj_up C 206 (some (.inr (7, fs.set b (.int v)))), n, x, y) := n_51 hk hM hb rfl (by decide) rfl
theorem mi_w (hM : C 206 = some (.inr (7, fs))) (hl : fs.length = 39) : ∃ v : Int32, (6 ≤ v.toInt ∧ v.toInt ≤ 40) ∧ cj_res 41 255 [.ref 206, .int w, .int h, u] [] (C, n, x, y) = cj_res 41 282 [.ref 206, .int w, .int h, u] [] (cj_up C 206 (some (.inr (7, fs.set 0 (.int v)))), n, x, y) := by
  have z6 : (nI 6).toInt = 6 := nI_toInt (by decide)
  have z40 : (nI 40).toInt = 40 := nI_toInt (by decide)
  have e1 : cj_res 41 255 [.ref 206, .int w, .int h, u] [] (C, n, x, y) = if nI 6 ≤ w then cj_res 41 267 [.ref 206, .int w, .int h, u] [.ref 206] (C, n, x, y) else cj_res 41 262 [.ref 206, .int w, .int h, u] [.ref 206] (C, n, x, y) := by
    refine (g_3 (by decide +kernel : kd_ 41 255 = ((3, 0, 0, []), 256)) rfl).trans ?_
    refine (g_2 (by decide +kernel : kd_ 41 256 = ((2, 1, 0, []), 257)) rfl).trans ?_
    refine (g_0 (by decide +kernel : kd_ 41 257 = ((0, 6, 0, []), 259))).trans ?_
    exact g_40 (by decide +kernel : kd_ 41 259 = ((40, 267, 0, []), 262))
  have e2 : cj_res 41 267 [.ref 206, .int w, .int h, u] [.ref 206] (C, n, x, y) = if w ≤ nI 40 then cj_res 41 278 [.ref 206, .int w, .int h, u] [.ref 206] (C, n, x, y) else cj_res 41 273 [.ref 206, .int w, .int h, u] [.ref 206] (C, n, x, y) := by
    refine (g_2 (by decide +kernel : kd_ 41 267 = ((2, 1, 0, []), 268)) rfl).trans ?_
    refine (g_0 (by decide +kernel : kd_ 41 268 = ((0, 40, 0, []), 270))).trans ?_
    exact g_42 (by decide +kernel : kd_ 41 270 = ((42, 278, 0, []), 273))
  have kp : kd_ 41 279 = ((51, 7, 0, [0]), 282) := by decide +kernel
  by_cases c1 : nI 6 ≤ w
  · by_cases c2 : w ≤ nI 40
    · refine ⟨w, ?_, ?_⟩
      · rw [t_le] at c1 c2; omega
      · rw [e1, if_pos c1, e2, if_pos c2]
        refine (g_2 (by decide +kernel : kd_ 41 278 = ((2, 1, 0, []), 279)) rfl).trans ?_
        exact mi_put kp hM (by omega)
    · refine ⟨nI 40, by omega, ?_⟩
      rw [e1, if_pos c1, e2, if_neg c2]
      refine (g_0 (by decide +kernel : kd_ 41 273 = ((0, 40, 0, []), 275))).trans ?_
      refine (g_30 (by decide +kernel : kd_ 41 275 = ((30, 279, 0, []), 278))).trans ?_
      exact mi_put kp hM (by omega)
  · refine ⟨nI 6, by omega, ?_⟩
    rw [e1, if_neg c1]
    refine (g_0 (by decide +kernel : kd_ 41 262 = ((0, 6, 0, []), 264))).trans ?_
    refine (g_30 (by decide +kernel : kd_ 41 264 = ((30, 279, 0, []), 267))).trans ?_
    exact mi_put kp hM (by omega)
theorem mi_h (hM : C 206 = some (.inr (7, fs))) (hl : fs.length = 39) : ∃ v : Int32, (3 ≤ v.toInt ∧ v.toInt ≤ 30) ∧ cj_res 41 282 [.ref 206, .int w, .int h, u] [] (C, n, x, y) = cj_res 41 307 [.ref 206, .int w, .int h, u] [] (cj_up C 206 (some (.inr (7, fs.set 1 (.int v)))), n, x, y) := by
  have z6 : (nI 3).toInt = 3 := nI_toInt (by decide)
  have z40 : (nI 30).toInt = 30 := nI_toInt (by decide)
  have e1 : cj_res 41 282 [.ref 206, .int w, .int h, u] [] (C, n, x, y) = if nI 3 ≤ h then cj_res 41 292 [.ref 206, .int w, .int h, u] [.ref 206] (C, n, x, y) else cj_res 41 288 [.ref 206, .int w, .int h, u] [.ref 206] (C, n, x, y) := by
    refine (g_3 (by decide +kernel : kd_ 41 282 = ((3, 0, 0, []), 283)) rfl).trans ?_
    refine (g_2 (by decide +kernel : kd_ 41 283 = ((2, 2, 0, []), 284)) rfl).trans ?_
    refine (g_0 (by decide +kernel : kd_ 41 284 = ((0, 3, 0, []), 285))).trans ?_
    exact g_40 (by decide +kernel : kd_ 41 285 = ((40, 292, 0, []), 288))
  have e2 : cj_res 41 292 [.ref 206, .int w, .int h, u] [.ref 206] (C, n, x, y) = if h ≤ nI 30 then cj_res 41 303 [.ref 206, .int w, .int h, u] [.ref 206] (C, n, x, y) else cj_res 41 298 [.ref 206, .int w, .int h, u] [.ref 206] (C, n, x, y) := by
    refine (g_2 (by decide +kernel : kd_ 41 292 = ((2, 2, 0, []), 293)) rfl).trans ?_
    refine (g_0 (by decide +kernel : kd_ 41 293 = ((0, 30, 0, []), 295))).trans ?_
    exact g_42 (by decide +kernel : kd_ 41 295 = ((42, 303, 0, []), 298))
  have kp : kd_ 41 304 = ((51, 7, 1, [0]), 307) := by decide +kernel
  by_cases c1 : nI 3 ≤ h
  · by_cases c2 : h ≤ nI 30
    · refine ⟨h, ?_, ?_⟩
      · rw [t_le] at c1 c2; omega
      · rw [e1, if_pos c1, e2, if_pos c2]
        refine (g_2 (by decide +kernel : kd_ 41 303 = ((2, 2, 0, []), 304)) rfl).trans ?_
        exact mi_put kp hM (by omega)
    · refine ⟨nI 30, by omega, ?_⟩
      rw [e1, if_pos c1, e2, if_neg c2]
      refine (g_0 (by decide +kernel : kd_ 41 298 = ((0, 30, 0, []), 300))).trans ?_
      refine (g_30 (by decide +kernel : kd_ 41 300 = ((30, 304, 0, []), 303))).trans ?_
      exact mi_put kp hM (by omega)
  · refine ⟨nI 3, by omega, ?_⟩
    rw [e1, if_neg c1]
    refine (g_0 (by decide +kernel : kd_ 41 288 = ((0, 3, 0, []), 289))).trans ?_
    refine (g_30 (by decide +kernel : kd_ 41 289 = ((30, 304, 0, []), 292))).trans ?_
    exact mi_put kp hM (by omega)
def clm : Nat → Nat → Int32
  | 0 => fun _ => 0
  | k + 1 => cj_up (clm k) k (- nI 1)
theorem mi_l (hv : fs[13]? = some (.ref 214)) : ∀ (r k : Nat) {C : Nat → Option cj_C}, k + r = 32 → C 206 = some (.inr (7, fs)) → C 214 = some (.inl (0, 32, .inl (clm k))) → ∃ C' : Nat → Option cj_C, cj_res 41 309 [.ref 206, .int w, .int h, .int (nI k)] [] (C, n, x, y) = some (.inl none, (C', n, x, y)) ∧ C' 214 = some (.inl (0, 32, .inl (clm 32))) ∧ ∀ o, o ≠ 214 → C' o = C o := by
  intro r
  induction r with
  | zero =>
    intro k C hk h1 h2
    have e : k = 32 := by omega
    subst e
    refine ⟨C, ?_, h2, fun o _ => rfl⟩
    refine (g_2 (by decide +kernel : kd_ 41 309 = ((2, 3, 0, []), 310)) rfl).trans ?_
    refine (g_0 (by decide +kernel : kd_ 41 310 = ((0, 32, 0, []), 312))).trans ?_
    refine (g_40 (by decide +kernel : kd_ 41 312 = ((40, 328, 0, []), 315))).trans ?_
    rw [if_pos (by decide)]
    exact g_91 (by decide +kernel : kd_ 41 328 = ((91, 0, 0, []), 329))
  | succ r ih =>
    intro k C hk h1 h2
    have zk : (nI k).toInt = (k : Int) := nI_toInt (by omega)
    have ck : (nI k).toNatClampNeg = k := nI_clamp (by omega)
    have z32 : (nI 32).toInt = 32 := nI_toInt (by decide)
    have z1 : (nI 1).toInt = 1 := nI_toInt (by decide)
    have ek : nI k + nI 1 = nI (k + 1) := by rw [t_eq, t_addn (by omega), zk, z1, nI_toInt (by omega)]; omega
    have hj : ¬ (nI k < 0 ∨ 32 ≤ (nI k).toNatClampNeg) := by rw [t_lt, zk, t_0, ck]; omega
    obtain ⟨C', a1, a2, a3⟩ := ih (k + 1) (C := cj_up C 214 (some (.inl (0, 32, .inl (cj_up (clm k) (nI k).toNatClampNeg (- nI 1)))))) (by omega) ((cj_up_n _ _ (by decide)).trans h1) (by rw [cj_up_s, ck]; rfl)
    refine ⟨C', ?_, a2, fun o ho => (a3 o ho).trans (cj_up_n _ _ ho)⟩
    refine (g_2 (by decide +kernel : kd_ 41 309 = ((2, 3, 0, []), 310)) rfl).trans ?_
    refine (g_0 (by decide +kernel : kd_ 41 310 = ((0, 32, 0, []), 312))).trans ?_
    refine (g_40 (by decide +kernel : kd_ 41 312 = ((40, 328, 0, []), 315))).trans ?_
    rw [if_neg (by rw [t_le, zk, z32]; omega)]
    refine (g_3 (by decide +kernel : kd_ 41 315 = ((3, 0, 0, []), 316)) rfl).trans ?_
    refine (n_50 (by decide +kernel : kd_ 41 316 = ((50, 7, 13, []), 319)) h1 hv).trans ?_
    refine (g_2 (by decide +kernel : kd_ 41 319 = ((2, 3, 0, []), 320)) rfl).trans ?_
    refine (g_1 (by decide +kernel : kd_ 41 320 = ((1, 1, 0, []), 321))).trans ?_
    refine (n_56 (o := 214) (by decide +kernel : kd_ 41 321 = ((56, 0, 0, []), 322)) h2 hj (by decide)).trans ?_
    refine (g_6 (ls' := [.ref 206, .int w, .int h, .int (nI (k + 1))]) (by decide +kernel : kd_ 41 322 = ((6, 3, 1, []), 325)) rfl (by rw [ek]; rfl)).trans ?_
    exact (g_30 (by decide +kernel : kd_ 41 325 = ((30, 309, 0, []), 328))).trans a1
theorem n_53 {m pc nx i b : Nat} {l : List Nat} {ls st : List Value} (hk : kd_ m pc = ((53, i, b, l), nx)) {o q t : Nat} {z : cj_A} (hM : C o = some (.inl (t, q, z))) : cj_res m pc ls (.ref o :: st) (C, n, x, y) = cj_res m nx ls (.int (nI q) :: st) (C, n, x, y) := (cj_res_plain hk (by simp [cj_pl])).trans (by
  show cj_go m (match cj_ln (C o) with | some n' => some (nx, ls, .int (nI n') :: st, ((C, n, x, y) : cj_M)) | none => none) = _
  rw [hM]; rfl)
theorem n_54i {m pc nx i b : Nat} {l : List Nat} {ls st : List Value} (hk : kd_ m pc = ((54, i, b, l), nx)) {o q : Nat} {j : Int32} {g : Nat → Int32} (hM : C o = some (.inl (i, q, .inl g))) (hj : ¬ (j < 0 ∨ q ≤ j.toNatClampNeg)) : cj_res m pc ls (.int j :: .ref o :: st) (C, n, x, y) = cj_res m nx ls (.int (g j.toNatClampNeg) :: st) (C, n, x, y) := (cj_res_plain hk (by simp [cj_pl])).trans (by
  have e : cj_rd (C o) i j = some (.int (g j.toNatClampNeg)) := by
    rw [hM]
    show (if i = i ∧ ¬ (j < 0 ∨ q ≤ j.toNatClampNeg) then some (Value.int (g j.toNatClampNeg)) else none) = _
    rw [if_pos ⟨rfl, hj⟩]
  show cj_go m (match cj_rd (C o) i j with | some v => some (nx, ls, v :: st, ((C, n, x, y) : cj_M)) | none => none) = _
  rw [e]; rfl)
/-- a cell of the script, or 0 -/
theorem w_cell {L j : Nat} {xs : Nat → Int32} (hL : L ≤ 2050) (hj : j < 2) (hM : C 0 = some (.inl (0, L, .inl xs))) : ∃ v : Int32, cj_ev 40 [.ref 0, .int (nI j)] (C, n, x, y) = some (.inl (some (.int v)), (C, n, x, y)) := by
  have zj : (nI j).toInt = (j : Int) := nI_toInt (by omega)
  have cj : (nI j).toNatClampNeg = j := nI_clamp (by omega)
  have zL : (nI L).toInt = (L : Int) := nI_toInt (by omega)
  have e1 : cj_ev 40 [.ref 0, .int (nI j)] (C, n, x, y) = if nI L ≤ nI j then cj_res 40 12 [.ref 0, .int (nI j)] [] (C, n, x, y) else cj_res 40 6 [.ref 0, .int (nI j)] [] (C, n, x, y) := by
    show cj_res 40 0 [.ref 0, .int (nI j)] [] _ = _
    refine (g_2 (by decide +kernel : kd_ 40 0 = ((2, 1, 0, []), 1)) rfl).trans ?_
    refine (g_3 (by decide +kernel : kd_ 40 1 = ((3, 0, 0, []), 2)) rfl).trans ?_
    refine (n_53 (by decide +kernel : kd_ 40 2 = ((53, 0, 0, []), 3)) hM).trans ?_
    exact g_40 (by decide +kernel : kd_ 40 3 = ((40, 12, 0, []), 6))
  by_cases c : nI L ≤ nI j
  · refine ⟨nI 0, ?_⟩
    rw [e1, if_pos c]
    refine (g_0 (by decide +kernel : kd_ 40 12 = ((0, 0, 0, []), 13))).trans ?_
    exact g_90 (by decide +kernel : kd_ 40 13 = ((90, 0, 0, []), 14))
  · refine ⟨xs (nI j).toNatClampNeg, ?_⟩
    rw [e1, if_neg c]
    rw [t_le, zL, zj] at c
    refine (g_3 (by decide +kernel : kd_ 40 6 = ((3, 0, 0, []), 7)) rfl).trans ?_
    refine (g_2 (by decide +kernel : kd_ 40 7 = ((2, 1, 0, []), 8)) rfl).trans ?_
    refine (n_54i (by decide +kernel : kd_ 40 8 = ((54, 0, 0, []), 9)) hM (by rw [t_lt, zj, t_0, cj]; omega)).trans ?_
    refine (g_30 (by decide +kernel : kd_ 40 9 = ((30, 13, 0, []), 12))).trans ?_
    exact g_90 (by decide +kernel : kd_ 40 13 = ((90, 0, 0, []), 14))
end
