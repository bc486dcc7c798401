theorem b_W_index_0 {L : Nat} {f : cg_G} {e : Nat × Nat} {x1 x2 : Int32} {a0 a3 : Nat} {u4 : Value} (h1 : sh_ a0 = 0): cj_res 144 0 [.ref a0, .int x1, .int x2, .ref a3, u4] [] (cg_M L f e) = cj_aft 144 5 8 [.ref a0, .int x1, .int x2, .ref a3, u4] [.int (nI 0), .ref a3] (cj_ev 137 [.ref a0, .int x1, .int x2] (cg_M L f e)) := by
  refine (g_3 (by decide +kernel : kd_ 144 0 = ((3, 3, 0, []), 1)) rfl).trans ?_
  refine (g_0 (by decide +kernel : kd_ 144 1 = ((0, 0, 0, []), 2))).trans ?_
  refine (g_3 (by decide +kernel : kd_ 144 2 = ((3, 0, 0, []), 3)) rfl).trans ?_
  refine (g_2 (by decide +kernel : kd_ 144 3 = ((2, 1, 0, []), 4)) rfl).trans ?_
  refine (g_2 (by decide +kernel : kd_ 144 4 = ((2, 2, 0, []), 5)) rfl).trans ?_
  exact g_80 (by decide +kernel : kd_ 144 5 = ((80, 137, 3, [0]), 8)) rfl h1 rfl rfl rfl
theorem b_W_index_8 {L : Nat} {f : cg_G} {e : Nat × Nat} {x1 x2 y0 y1 : Int32} {a0 a3 c2 : Nat} {u4 : Value} (h1 : sh_ c2 = 102) (h2 : cg_in y1 (ln_ L c2)): cj_res 144 8 [.ref a0, .int x1, .int x2, .ref a3, u4] [.int y0, .int y1, .ref c2] (cg_M L f e) = cj_res 144 17 [.ref a0, .int x1, .int x2, .ref a3, u4] [] (cg_M L (cg_up f c2 y1.toNatClampNeg y0) e) := by
  refine (g_23 (by decide +kernel : kd_ 144 8 = ((23, 0, 0, []), 9))).trans ?_
  refine (g_59 (by decide +kernel : kd_ 144 9 = ((59, 2, 0, []), 10)) h1 (fun _ => rfl) h2 (sz_102 h1)).trans ?_
  refine (g_30 (by decide +kernel : kd_ 144 10 = ((30, 17, 0, []), 13))).trans ?_
  rfl
theorem b_W_index_15 {L : Nat} {f : cg_G} {e : Nat × Nat} {x1 x2 : Int32} {a0 a3 : Nat} {u4 : Value} : cj_res 144 15 [.ref a0, .int x1, .int x2, .ref a3, u4] [] (cg_M L f e) = some (.inl (some (.int (nI 1))), cg_M L f e) := by
  refine (g_0 (by decide +kernel : kd_ 144 15 = ((0, 1, 0, []), 16))).trans ?_
  exact g_90 (by decide +kernel : kd_ 144 16 = ((90, 0, 0, []), 17))
theorem b_W_index_17 {L : Nat} {f : cg_G} {e : Nat × Nat} {x1 x2 : Int32} {a0 a3 : Nat} {u4 : Value} : cj_res 144 17 [.ref a0, .int x1, .int x2, .ref a3, u4] [] (cg_M L f e) = some (.inl (some (.int (nI 0))), cg_M L f e) := by
  refine (g_0 (by decide +kernel : kd_ 144 17 = ((0, 0, 0, []), 18))).trans ?_
  exact g_90 (by decide +kernel : kd_ 144 18 = ((90, 0, 0, []), 19))
theorem b_C_run_0 {L : Nat} {f : cg_G} {e : Nat × Nat} {a0 : Nat} {u1 u2 u3 : Value} (h1 : sh_ a0 = 0): cj_res 145 0 [.ref a0, u1, u2, u3] [] (cg_M L f e) = cj_aft 145 1 4 [.ref a0, u1, u2, u3] [] (cj_ev 62 [.ref a0] (cg_M L f e)) := by
  refine (g_3 (by decide +kernel : kd_ 145 0 = ((3, 0, 0, []), 1)) rfl).trans ?_
  exact g_80 (by decide +kernel : kd_ 145 1 = ((80, 62, 1, [0]), 4)) rfl h1 rfl rfl rfl
theorem b_C_run_4 {L : Nat} {f : cg_G} {e : Nat × Nat} {y0 : Int32} {a0 : Nat} {u1 u2 u3 : Value} : cj_res 145 4 [.ref a0, u1, u2, u3] [.int y0] (cg_M L f e) = if y0 = (- nI 1) then cj_res 145 14 [.ref a0, .int y0, u2, u3] [] (cg_M L f e) else cj_res 145 10 [.ref a0, .int y0, u2, u3] [] (cg_M L f e) := by
  refine (g_4 (ls' := [.ref a0, .int y0, u2, u3]) (by decide +kernel : kd_ 145 4 = ((4, 1, 0, []), 5)) rfl rfl).trans ?_
  refine (g_2 (by decide +kernel : kd_ 145 5 = ((2, 1, 0, []), 6)) rfl).trans ?_
  refine (g_1 (by decide +kernel : kd_ 145 6 = ((1, 1, 0, []), 7))).trans ?_
  exact g_37 (by decide +kernel : kd_ 145 7 = ((37, 14, 0, []), 10))
theorem b_C_run_10 {L : Nat} {f : cg_G} {e : Nat × Nat} {x1 : Int32} {a0 : Nat} {u2 u3 : Value} : cj_res 145 10 [.ref a0, .int x1, u2, u3] [] (cg_M L f e) = some (.inl (some (.int ((- nI 1) - x1))), cg_M L f e) := by
  refine (g_1 (by decide +kernel : kd_ 145 10 = ((1, 1, 0, []), 11))).trans ?_
  refine (g_2 (by decide +kernel : kd_ 145 11 = ((2, 1, 0, []), 12)) rfl).trans ?_
  refine (g_11 (by decide +kernel : kd_ 145 12 = ((11, 0, 0, []), 13))).trans ?_
  exact g_90 (by decide +kernel : kd_ 145 13 = ((90, 0, 0, []), 14))
theorem b_C_run_14 {L : Nat} {f : cg_G} {e : Nat × Nat} {x1 : Int32} {a0 : Nat} {u2 u3 : Value} (h1 : sh_ a0 = 0): cj_res 145 14 [.ref a0, .int x1, u2, u3] [] (cg_M L f e) = cj_aft 145 30 33 [.ref a0, .int x1, u2, u3] [] (cj_ev 143 [.ref (a0 + 123), .ref (a0 + 18), .int (f a0 7), .ref (f a0 10).toNatClampNeg] (cg_M L f e)) := by
  refine (g_3 (by decide +kernel : kd_ 145 14 = ((3, 0, 0, []), 15)) rfl).trans ?_
  refine (g_50 (v := .ref (a0 + 123)) (by decide +kernel : kd_ 145 15 = ((50, 0, 5, []), 18)) h1 rfl).trans ?_
  refine (g_3 (by decide +kernel : kd_ 145 18 = ((3, 0, 0, []), 19)) rfl).trans ?_
  refine (g_50 (v := .ref (a0 + 18)) (by decide +kernel : kd_ 145 19 = ((50, 0, 4, []), 22)) h1 rfl).trans ?_
  refine (g_3 (by decide +kernel : kd_ 145 22 = ((3, 0, 0, []), 23)) rfl).trans ?_
  refine (g_50 (v := .int (f a0 7)) (by decide +kernel : kd_ 145 23 = ((50, 0, 7, []), 26)) h1 rfl).trans ?_
  refine (g_3 (by decide +kernel : kd_ 145 26 = ((3, 0, 0, []), 27)) rfl).trans ?_
  refine (g_50 (v := .ref (f a0 10).toNatClampNeg) (by decide +kernel : kd_ 145 27 = ((50, 0, 10, []), 30)) h1 rfl).trans ?_
  exact g_80 (by decide +kernel : kd_ 145 30 = ((80, 143, 4, [4]), 33)) rfl (sc_0_5 h1) rfl rfl rfl
theorem b_C_run_33 {L : Nat} {f : cg_G} {e : Nat × Nat} {x1 y0 : Int32} {a0 : Nat} {u2 u3 : Value} : cj_res 145 33 [.ref a0, .int x1, u2, u3] [.int y0] (cg_M L f e) = if y0 = (- nI 1) then cj_res 145 44 [.ref a0, .int x1, .int y0, u3] [] (cg_M L f e) else cj_res 145 39 [.ref a0, .int x1, .int y0, u3] [] (cg_M L f e) := by
  refine (g_4 (ls' := [.ref a0, .int x1, .int y0, u3]) (by decide +kernel : kd_ 145 33 = ((4, 2, 0, []), 34)) rfl rfl).trans ?_
  refine (g_2 (by decide +kernel : kd_ 145 34 = ((2, 2, 0, []), 35)) rfl).trans ?_
  refine (g_1 (by decide +kernel : kd_ 145 35 = ((1, 1, 0, []), 36))).trans ?_
  exact g_37 (by decide +kernel : kd_ 145 36 = ((37, 44, 0, []), 39))
theorem b_C_run_39 {L : Nat} {f : cg_G} {e : Nat × Nat} {x1 x2 : Int32} {a0 : Nat} {u3 : Value} : cj_res 145 39 [.ref a0, .int x1, .int x2, u3] [] (cg_M L f e) = some (.inl (some (.int ((- nI 101) - x2))), cg_M L f e) := by
  refine (g_1 (by decide +kernel : kd_ 145 39 = ((1, 101, 0, []), 41))).trans ?_
  refine (g_2 (by decide +kernel : kd_ 145 41 = ((2, 2, 0, []), 42)) rfl).trans ?_
  refine (g_11 (by decide +kernel : kd_ 145 42 = ((11, 0, 0, []), 43))).trans ?_
  exact g_90 (by decide +kernel : kd_ 145 43 = ((90, 0, 0, []), 44))
theorem b_C_run_44 {L : Nat} {f : cg_G} {e : Nat × Nat} {x1 x2 : Int32} {a0 : Nat} {u3 : Value} (h1 : sh_ a0 = 0) (h2 : ((f a0 10).toNatClampNeg) < 2 ^ 31) (h3 : ((f a0 9).toNatClampNeg) < 2 ^ 31) (h4 : sh_ (((cg_up (cg_up (cg_up f a0 9 (nI ((f a0 10).toNatClampNeg))) a0 10 (nI ((f a0 9).toNatClampNeg))) a0 8 (nI 1)) a0 9).toNatClampNeg) = 5): cj_res 145 44 [.ref a0, .int x1, .int x2, u3] [] (cg_M L f e) = cj_aft 145 71 74 [.ref a0, .int x1, .int x2, .ref (f a0 9).toNatClampNeg] [] (cj_ev 30 [.ref ((cg_up (cg_up (cg_up f a0 9 (nI ((f a0 10).toNatClampNeg))) a0 10 (nI ((f a0 9).toNatClampNeg))) a0 8 (nI 1)) a0 9).toNatClampNeg] (cg_M L (cg_up (cg_up (cg_up f a0 9 (nI ((f a0 10).toNatClampNeg))) a0 10 (nI ((f a0 9).toNatClampNeg))) a0 8 (nI 1)) e)) := by
  refine (g_3 (by decide +kernel : kd_ 145 44 = ((3, 0, 0, []), 45)) rfl).trans ?_
  refine (g_50 (v := .ref (f a0 9).toNatClampNeg) (by decide +kernel : kd_ 145 45 = ((50, 0, 9, []), 48)) h1 rfl).trans ?_
  refine (g_5 (ls' := [.ref a0, .int x1, .int x2, .ref (f a0 9).toNatClampNeg]) (by decide +kernel : kd_ 145 48 = ((5, 3, 0, []), 49)) rfl rfl).trans ?_
  refine (g_3 (by decide +kernel : kd_ 145 49 = ((3, 0, 0, []), 50)) rfl).trans ?_
  refine (g_3 (by decide +kernel : kd_ 145 50 = ((3, 0, 0, []), 51)) rfl).trans ?_
  refine (g_50 (v := .ref (f a0 10).toNatClampNeg) (by decide +kernel : kd_ 145 51 = ((50, 0, 10, []), 54)) h1 rfl).trans ?_
  refine (g_51 (x := nI ((f a0 10).toNatClampNeg)) (by decide +kernel : kd_ 145 54 = ((51, 0, 9, [2]), 57)) h1 rfl rfl rfl (sz_0 h1) (cg_dyn_0_9 h2)).trans ?_
  refine (g_3 (by decide +kernel : kd_ 145 57 = ((3, 0, 0, []), 58)) rfl).trans ?_
  refine (g_3 (by decide +kernel : kd_ 145 58 = ((3, 3, 0, []), 59)) rfl).trans ?_
  refine (g_51 (x := nI ((f a0 9).toNatClampNeg)) (by decide +kernel : kd_ 145 59 = ((51, 0, 10, [2]), 62)) h1 rfl rfl rfl (sz_0 h1) (cg_dyn_0_10 h3)).trans ?_
  refine (g_3 (by decide +kernel : kd_ 145 62 = ((3, 0, 0, []), 63)) rfl).trans ?_
  refine (g_0 (by decide +kernel : kd_ 145 63 = ((0, 1, 0, []), 64))).trans ?_
  refine (g_51 (x := nI 1) (v := .int (nI 1)) (by decide +kernel : kd_ 145 64 = ((51, 0, 8, [1]), 67)) h1 rfl rfl (by decide) (sz_0 h1) rfl).trans ?_
  refine (g_3 (by decide +kernel : kd_ 145 67 = ((3, 0, 0, []), 68)) rfl).trans ?_
  refine (g_50 (v := .ref ((cg_up (cg_up (cg_up f a0 9 (nI ((f a0 10).toNatClampNeg))) a0 10 (nI ((f a0 9).toNatClampNeg))) a0 8 (nI 1)) a0 9).toNatClampNeg) (by decide +kernel : kd_ 145 68 = ((50, 0, 9, []), 71)) h1 rfl).trans ?_
  exact g_80 (by decide +kernel : kd_ 145 71 = ((80, 30, 1, [5]), 74)) rfl h4 rfl rfl rfl
theorem b_C_run_74 {L : Nat} {f : cg_G} {e : Nat × Nat} {x1 x2 y0 : Int32} {a0 a3 : Nat} : cj_res 145 74 [.ref a0, .int x1, .int x2, .ref a3] [.int y0] (cg_M L f e) = some (.inl (some (.int y0)), cg_M L f e) := by
  exact g_90 (by decide +kernel : kd_ 145 74 = ((90, 0, 0, []), 75))
