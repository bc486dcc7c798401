theorem b_M_count_0 {L : Nat} {f : cg_G} {e : Nat × Nat} {x1 : Int32} {a0 : Nat} : cj_res 86 0 [.ref a0, .int x1] [] (cg_M L f e) = cj_aft 86 3 6 [.ref a0, .int x1] [.ref a0] (cj_ev 44 [.int x1, .int (nI 3)] (cg_M L f e)) := by
  refine (g_3 (by decide +kernel : kd_ 86 0 = ((3, 0, 0, []), 1)) rfl).trans ?_
  refine (g_2 (by decide +kernel : kd_ 86 1 = ((2, 1, 0, []), 2)) rfl).trans ?_
  refine (g_0 (by decide +kernel : kd_ 86 2 = ((0, 3, 0, []), 3))).trans ?_
  exact g_81 (by decide +kernel : kd_ 86 3 = ((81, 44, 2, []), 6)) rfl rfl rfl
theorem b_M_count_6 {L : Nat} {f : cg_G} {e : Nat × Nat} {x1 y0 : Int32} {a0 c1 : Nat} (h1 : sh_ c1 = 7): cj_res 86 6 [.ref a0, .int x1] [.int y0, .ref c1] (cg_M L f e) = cj_aft 86 7 10 [.ref a0, .int x1] [] (cj_ev 46 [.ref c1, .int y0, .int (nI 1)] (cg_M L f e)) := by
  refine (g_0 (by decide +kernel : kd_ 86 6 = ((0, 1, 0, []), 7))).trans ?_
  exact g_80 (by decide +kernel : kd_ 86 7 = ((80, 46, 3, [7]), 10)) rfl h1 rfl rfl rfl
theorem b_M_count_10 {L : Nat} {f : cg_G} {e : Nat × Nat} {x1 y0 : Int32} {a0 : Nat} : cj_res 86 10 [.ref a0, .int x1] [.int y0] (cg_M L f e) = if y0 = 0 then cj_res 86 13 [.ref a0, .int x1] [] (cg_M L f e) else cj_res 86 15 [.ref a0, .int x1] [] (cg_M L f e) := by
  exact g_32 (by decide +kernel : kd_ 86 10 = ((32, 15, 0, []), 13))
theorem b_M_count_13 {L : Nat} {f : cg_G} {e : Nat × Nat} {x1 : Int32} {a0 : Nat} : cj_res 86 13 [.ref a0, .int x1] [] (cg_M L f e) = some (.inl (some (.int (nI 0))), cg_M L f e) := by
  refine (g_0 (by decide +kernel : kd_ 86 13 = ((0, 0, 0, []), 14))).trans ?_
  exact g_90 (by decide +kernel : kd_ 86 14 = ((90, 0, 0, []), 15))
theorem b_M_count_15 {L : Nat} {f : cg_G} {e : Nat × Nat} {x1 : Int32} {a0 : Nat} : cj_res 86 15 [.ref a0, .int x1] [] (cg_M L f e) = if x1 = 0 then cj_res 86 19 [.ref a0, .int x1] [] (cg_M L f e) else cj_res 86 26 [.ref a0, .int x1] [] (cg_M L f e) := by
  refine (g_2 (by decide +kernel : kd_ 86 15 = ((2, 1, 0, []), 16)) rfl).trans ?_
  exact g_32 (by decide +kernel : kd_ 86 16 = ((32, 26, 0, []), 19))
theorem b_M_count_19 {L : Nat} {f : cg_G} {e : Nat × Nat} {x1 : Int32} {a0 : Nat} (h1 : sh_ a0 = 7): cj_res 86 19 [.ref a0, .int x1] [] (cg_M L f e) = cj_res 86 42 [.ref a0, .int x1] [.int (f a0 3)] (cg_M L f e) := by
  refine (g_3 (by decide +kernel : kd_ 86 19 = ((3, 0, 0, []), 20)) rfl).trans ?_
  refine (g_50 (v := .int (f a0 3)) (by decide +kernel : kd_ 86 20 = ((50, 7, 3, []), 23)) h1 rfl).trans ?_
  refine (g_30 (by decide +kernel : kd_ 86 23 = ((30, 42, 0, []), 26))).trans ?_
  rfl
theorem b_M_count_26 {L : Nat} {f : cg_G} {e : Nat × Nat} {x1 : Int32} {a0 : Nat} : cj_res 86 26 [.ref a0, .int x1] [] (cg_M L f e) = if x1 = (nI 1) then cj_res 86 31 [.ref a0, .int x1] [] (cg_M L f e) else cj_res 86 38 [.ref a0, .int x1] [] (cg_M L f e) := by
  refine (g_2 (by decide +kernel : kd_ 86 26 = ((2, 1, 0, []), 27)) rfl).trans ?_
  refine (g_0 (by decide +kernel : kd_ 86 27 = ((0, 1, 0, []), 28))).trans ?_
  exact g_38 (by decide +kernel : kd_ 86 28 = ((38, 38, 0, []), 31))
theorem b_M_count_31 {L : Nat} {f : cg_G} {e : Nat × Nat} {x1 : Int32} {a0 : Nat} (h1 : sh_ a0 = 7): cj_res 86 31 [.ref a0, .int x1] [] (cg_M L f e) = cj_res 86 42 [.ref a0, .int x1] [.int (f a0 5)] (cg_M L f e) := by
  refine (g_3 (by decide +kernel : kd_ 86 31 = ((3, 0, 0, []), 32)) rfl).trans ?_
  refine (g_50 (v := .int (f a0 5)) (by decide +kernel : kd_ 86 32 = ((50, 7, 5, []), 35)) h1 rfl).trans ?_
  refine (g_30 (by decide +kernel : kd_ 86 35 = ((30, 42, 0, []), 38))).trans ?_
  rfl
theorem b_M_count_38 {L : Nat} {f : cg_G} {e : Nat × Nat} {x1 : Int32} {a0 : Nat} (h1 : sh_ a0 = 7): cj_res 86 38 [.ref a0, .int x1] [] (cg_M L f e) = cj_res 86 42 [.ref a0, .int x1] [.int (f a0 8)] (cg_M L f e) := by
  refine (g_3 (by decide +kernel : kd_ 86 38 = ((3, 0, 0, []), 39)) rfl).trans ?_
  refine (g_50 (v := .int (f a0 8)) (by decide +kernel : kd_ 86 39 = ((50, 7, 8, []), 42)) h1 rfl).trans ?_
  rfl
theorem b_M_count_42 {L : Nat} {f : cg_G} {e : Nat × Nat} {x1 y0 : Int32} {a0 : Nat} : cj_res 86 42 [.ref a0, .int x1] [.int y0] (cg_M L f e) = some (.inl (some (.int y0)), cg_M L f e) := by
  exact g_90 (by decide +kernel : kd_ 86 42 = ((90, 0, 0, []), 43))
theorem b_M_entry_0 {L : Nat} {f : cg_G} {e : Nat × Nat} {x1 : Int32} {a0 : Nat} (h1 : sh_ a0 = 7): cj_res 87 0 [.ref a0, .int x1] [] (cg_M L f e) = cj_aft 87 6 9 [.ref a0, .int x1] [.ref a0] (cj_ev 44 [.int x1, .int (f a0 5)] (cg_M L f e)) := by
  refine (g_3 (by decide +kernel : kd_ 87 0 = ((3, 0, 0, []), 1)) rfl).trans ?_
  refine (g_2 (by decide +kernel : kd_ 87 1 = ((2, 1, 0, []), 2)) rfl).trans ?_
  refine (g_3 (by decide +kernel : kd_ 87 2 = ((3, 0, 0, []), 3)) rfl).trans ?_
  refine (g_50 (v := .int (f a0 5)) (by decide +kernel : kd_ 87 3 = ((50, 7, 5, []), 6)) h1 rfl).trans ?_
  exact g_81 (by decide +kernel : kd_ 87 6 = ((81, 44, 2, []), 9)) rfl rfl rfl
theorem b_M_entry_9 {L : Nat} {f : cg_G} {e : Nat × Nat} {x1 y0 : Int32} {a0 c1 : Nat} (h1 : sh_ a0 = 7): cj_res 87 9 [.ref a0, .int x1] [.int y0, .ref c1] (cg_M L f e) = if (nI 8) ≤ (f a0 8) then cj_res 87 22 [.ref a0, .int x1] [.int y0, .ref c1] (cg_M L f e) else cj_res 87 18 [.ref a0, .int x1] [.int y0, .ref c1] (cg_M L f e) := by
  refine (g_3 (by decide +kernel : kd_ 87 9 = ((3, 0, 0, []), 10)) rfl).trans ?_
  refine (g_50 (v := .int (f a0 8)) (by decide +kernel : kd_ 87 10 = ((50, 7, 8, []), 13)) h1 rfl).trans ?_
  refine (g_0 (by decide +kernel : kd_ 87 13 = ((0, 8, 0, []), 15))).trans ?_
  exact g_40 (by decide +kernel : kd_ 87 15 = ((40, 22, 0, []), 18))
theorem b_M_entry_18 {L : Nat} {f : cg_G} {e : Nat × Nat} {x1 y0 : Int32} {a0 c1 : Nat} : cj_res 87 18 [.ref a0, .int x1] [.int y0, .ref c1] (cg_M L f e) = cj_res 87 23 [.ref a0, .int x1] [.int (nI 1), .int y0, .ref c1] (cg_M L f e) := by
  refine (g_0 (by decide +kernel : kd_ 87 18 = ((0, 1, 0, []), 19))).trans ?_
  refine (g_30 (by decide +kernel : kd_ 87 19 = ((30, 23, 0, []), 22))).trans ?_
  rfl
theorem b_M_entry_22 {L : Nat} {f : cg_G} {e : Nat × Nat} {x1 y0 : Int32} {a0 c1 : Nat} : cj_res 87 22 [.ref a0, .int x1] [.int y0, .ref c1] (cg_M L f e) = cj_res 87 23 [.ref a0, .int x1] [.int (nI 0), .int y0, .ref c1] (cg_M L f e) := by
  refine (g_0 (by decide +kernel : kd_ 87 22 = ((0, 0, 0, []), 23))).trans ?_
  rfl
theorem b_M_entry_23 {L : Nat} {f : cg_G} {e : Nat × Nat} {x1 y0 y1 : Int32} {a0 c2 : Nat} (h1 : sh_ c2 = 7): cj_res 87 23 [.ref a0, .int x1] [.int y0, .int y1, .ref c2] (cg_M L f e) = cj_aft 87 23 26 [.ref a0, .int x1] [] (cj_ev 46 [.ref c2, .int y1, .int y0] (cg_M L f e)) := by
  exact g_80 (by decide +kernel : kd_ 87 23 = ((80, 46, 3, [7]), 26)) rfl h1 rfl rfl rfl
theorem b_M_entry_26 {L : Nat} {f : cg_G} {e : Nat × Nat} {x1 y0 : Int32} {a0 : Nat} : cj_res 87 26 [.ref a0, .int x1] [.int y0] (cg_M L f e) = if y0 = 0 then cj_res 87 29 [.ref a0, .int x1] [] (cg_M L f e) else cj_res 87 31 [.ref a0, .int x1] [] (cg_M L f e) := by
  exact g_32 (by decide +kernel : kd_ 87 26 = ((32, 31, 0, []), 29))
theorem b_M_entry_29 {L : Nat} {f : cg_G} {e : Nat × Nat} {x1 : Int32} {a0 : Nat} : cj_res 87 29 [.ref a0, .int x1] [] (cg_M L f e) = some (.inl (some (.int (nI 0))), cg_M L f e) := by
  refine (g_0 (by decide +kernel : kd_ 87 29 = ((0, 0, 0, []), 30))).trans ?_
  exact g_90 (by decide +kernel : kd_ 87 30 = ((90, 0, 0, []), 31))
theorem b_M_entry_31 {L : Nat} {f : cg_G} {e : Nat × Nat} {x1 : Int32} {a0 : Nat} (h1 : sh_ a0 = 7) (h2 : cg_in (f a0 8) 8): cj_res 87 31 [.ref a0, .int x1] [] (cg_M L f e) = some (.inl (some (.int (((cg_up (cg_up f (a0 + 4) (f a0 8).toNatClampNeg x1) a0 8 (((cg_up f (a0 + 4) (f a0 8).toNatClampNeg x1) a0 8) + (nI 1))) a0 8) - (nI 1)))), cg_M L (cg_up (cg_up f (a0 + 4) (f a0 8).toNatClampNeg x1) a0 8 (((cg_up f (a0 + 4) (f a0 8).toNatClampNeg x1) a0 8) + (nI 1))) e) := by
  refine (g_3 (by decide +kernel : kd_ 87 31 = ((3, 0, 0, []), 32)) rfl).trans ?_
  refine (g_50 (v := .ref (a0 + 4)) (by decide +kernel : kd_ 87 32 = ((50, 7, 9, []), 35)) h1 rfl).trans ?_
  refine (g_3 (by decide +kernel : kd_ 87 35 = ((3, 0, 0, []), 36)) rfl).trans ?_
  refine (g_50 (v := .int (f a0 8)) (by decide +kernel : kd_ 87 36 = ((50, 7, 8, []), 39)) h1 rfl).trans ?_
  refine (g_2 (by decide +kernel : kd_ 87 39 = ((2, 1, 0, []), 40)) rfl).trans ?_
  refine (g_56 (by decide +kernel : kd_ 87 40 = ((56, 0, 0, []), 41)) (sc_7_9 h1) (fun _ => rfl) (by rw [sl_7_9 h1]; exact h2) (by omega)).trans ?_
  refine (g_3 (by decide +kernel : kd_ 87 41 = ((3, 0, 0, []), 42)) rfl).trans ?_
  refine (g_25 (by decide +kernel : kd_ 87 42 = ((25, 0, 0, []), 43)) rfl).trans ?_
  refine (g_50 (v := .int ((cg_up f (a0 + 4) (f a0 8).toNatClampNeg x1) a0 8)) (by decide +kernel : kd_ 87 43 = ((50, 7, 8, []), 46)) h1 rfl).trans ?_
  refine (g_0 (by decide +kernel : kd_ 87 46 = ((0, 1, 0, []), 47))).trans ?_
  refine (g_10 (by decide +kernel : kd_ 87 47 = ((10, 0, 0, []), 48))).trans ?_
  refine (g_51 (x := ((cg_up f (a0 + 4) (f a0 8).toNatClampNeg x1) a0 8) + (nI 1)) (v := .int (((cg_up f (a0 + 4) (f a0 8).toNatClampNeg x1) a0 8) + (nI 1))) (by decide +kernel : kd_ 87 48 = ((51, 7, 8, [0]), 51)) h1 rfl rfl rfl (sz_7 h1) rfl).trans ?_
  refine (g_3 (by decide +kernel : kd_ 87 51 = ((3, 0, 0, []), 52)) rfl).trans ?_
  refine (g_50 (v := .int ((cg_up (cg_up f (a0 + 4) (f a0 8).toNatClampNeg x1) a0 8 (((cg_up f (a0 + 4) (f a0 8).toNatClampNeg x1) a0 8) + (nI 1))) a0 8)) (by decide +kernel : kd_ 87 52 = ((50, 7, 8, []), 55)) h1 rfl).trans ?_
  refine (g_0 (by decide +kernel : kd_ 87 55 = ((0, 1, 0, []), 56))).trans ?_
  refine (g_11 (by decide +kernel : kd_ 87 56 = ((11, 0, 0, []), 57))).trans ?_
  exact g_90 (by decide +kernel : kd_ 87 57 = ((90, 0, 0, []), 58))
theorem b_M_fault_0 {L : Nat} {f : cg_G} {e : Nat × Nat} {a0 : Nat} {u1 u2 u3 u4 u5 u6 : Value} : cj_res 88 0 [.ref a0, u1, u2, u3, u4, u5, u6] [] (cg_M L f e) = cj_res 88 9 [.ref a0, .int (nI 0), .int (nI 0), .int (nI 0), .int (nI 0), u5, u6] [] (cg_M L f e) := by
  refine (g_0 (by decide +kernel : kd_ 88 0 = ((0, 0, 0, []), 1))).trans ?_
  refine (g_4 (ls' := [.ref a0, .int (nI 0), u2, u3, u4, u5, u6]) (by decide +kernel : kd_ 88 1 = ((4, 1, 0, []), 2)) rfl rfl).trans ?_
  refine (g_0 (by decide +kernel : kd_ 88 2 = ((0, 0, 0, []), 3))).trans ?_
  refine (g_4 (ls' := [.ref a0, .int (nI 0), .int (nI 0), u3, u4, u5, u6]) (by decide +kernel : kd_ 88 3 = ((4, 2, 0, []), 4)) rfl rfl).trans ?_
  refine (g_0 (by decide +kernel : kd_ 88 4 = ((0, 0, 0, []), 5))).trans ?_
  refine (g_4 (ls' := [.ref a0, .int (nI 0), .int (nI 0), .int (nI 0), u4, u5, u6]) (by decide +kernel : kd_ 88 5 = ((4, 3, 0, []), 6)) rfl rfl).trans ?_
  refine (g_0 (by decide +kernel : kd_ 88 6 = ((0, 0, 0, []), 7))).trans ?_
  refine (g_4 (ls' := [.ref a0, .int (nI 0), .int (nI 0), .int (nI 0), .int (nI 0), u5, u6]) (by decide +kernel : kd_ 88 7 = ((4, 4, 0, []), 9)) rfl rfl).trans ?_
  rfl
theorem b_M_fault_9 {L : Nat} {f : cg_G} {e : Nat × Nat} {x1 x2 x3 x4 : Int32} {a0 : Nat} {u5 u6 : Value} (h1 : sh_ a0 = 7): cj_res 88 9 [.ref a0, .int x1, .int x2, .int x3, .int x4, u5, u6] [] (cg_M L f e) = if (f a0 3) ≤ x4 then cj_res 88 180 [.ref a0, .int x1, .int x2, .int x3, .int x4, u5, u6] [] (cg_M L f e) else cj_res 88 18 [.ref a0, .int x1, .int x2, .int x3, .int x4, u5, u6] [] (cg_M L f e) := by
  refine (g_2 (by decide +kernel : kd_ 88 9 = ((2, 4, 0, []), 11)) rfl).trans ?_
  refine (g_3 (by decide +kernel : kd_ 88 11 = ((3, 0, 0, []), 12)) rfl).trans ?_
  refine (g_50 (v := .int (f a0 3)) (by decide +kernel : kd_ 88 12 = ((50, 7, 3, []), 15)) h1 rfl).trans ?_
  exact g_40 (by decide +kernel : kd_ 88 15 = ((40, 180, 0, []), 18))
theorem b_M_fault_18 {L : Nat} {f : cg_G} {e : Nat × Nat} {x1 x2 x3 x4 : Int32} {a0 : Nat} {u5 u6 : Value} (h1 : sh_ a0 = 7) (h2 : cg_in x4 32): cj_res 88 18 [.ref a0, .int x1, .int x2, .int x3, .int x4, u5, u6] [] (cg_M L f e) = if x1 ≤ 0 then cj_res 88 59 [.ref a0, .int x1, .int x2, .int x3, .int x4, .int (f (a0 + 1) x4.toNatClampNeg), u6] [] (cg_M L f e) else cj_res 88 31 [.ref a0, .int x1, .int x2, .int x3, .int x4, .int (f (a0 + 1) x4.toNatClampNeg), u6] [] (cg_M L f e) := by
  refine (g_3 (by decide +kernel : kd_ 88 18 = ((3, 0, 0, []), 19)) rfl).trans ?_
  refine (g_50 (v := .ref (a0 + 1)) (by decide +kernel : kd_ 88 19 = ((50, 7, 4, []), 22)) h1 rfl).trans ?_
  refine (g_2 (by decide +kernel : kd_ 88 22 = ((2, 4, 0, []), 24)) rfl).trans ?_
  refine (g_54 (v := .int (f (a0 + 1) x4.toNatClampNeg)) (by decide +kernel : kd_ 88 24 = ((54, 0, 0, []), 25)) (sc_7_4 h1) rfl (by rw [sl_7_4 h1]; exact h2) rfl).trans ?_
  refine (g_4 (ls' := [.ref a0, .int x1, .int x2, .int x3, .int x4, .int (f (a0 + 1) x4.toNatClampNeg), u6]) (by decide +kernel : kd_ 88 25 = ((4, 5, 0, []), 27)) rfl rfl).trans ?_
  refine (g_2 (by decide +kernel : kd_ 88 27 = ((2, 1, 0, []), 28)) rfl).trans ?_
  exact g_36 (by decide +kernel : kd_ 88 28 = ((36, 59, 0, []), 31))
theorem b_M_fault_31 {L : Nat} {f : cg_G} {e : Nat × Nat} {x1 x2 x3 x4 x5 : Int32} {a0 : Nat} {u6 : Value} : cj_res 88 31 [.ref a0, .int x1, .int x2, .int x3, .int x4, .int x5, u6] [] (cg_M L f e) = if x5 < (nI 48) then cj_res 88 51 [.ref a0, .int x1, .int x2, .int x3, .int x4, .int x5, u6] [] (cg_M L f e) else cj_res 88 38 [.ref a0, .int x1, .int x2, .int x3, .int x4, .int x5, u6] [] (cg_M L f e) := by
  refine (g_2 (by decide +kernel : kd_ 88 31 = ((2, 5, 0, []), 33)) rfl).trans ?_
  refine (g_0 (by decide +kernel : kd_ 88 33 = ((0, 48, 0, []), 35))).trans ?_
  exact g_39 (by decide +kernel : kd_ 88 35 = ((39, 51, 0, []), 38))
theorem b_M_fault_38 {L : Nat} {f : cg_G} {e : Nat × Nat} {x1 x2 x3 x4 x5 : Int32} {a0 : Nat} {u6 : Value} : cj_res 88 38 [.ref a0, .int x1, .int x2, .int x3, .int x4, .int x5, u6] [] (cg_M L f e) = if ((nI 48) + x1) < x5 then cj_res 88 51 [.ref a0, .int x1, .int x2, .int x3, .int x4, .int x5, u6] [] (cg_M L f e) else cj_res 88 47 [.ref a0, .int x1, .int x2, .int x3, .int x4, .int x5, u6] [] (cg_M L f e) := by
  refine (g_2 (by decide +kernel : kd_ 88 38 = ((2, 5, 0, []), 40)) rfl).trans ?_
  refine (g_0 (by decide +kernel : kd_ 88 40 = ((0, 48, 0, []), 42))).trans ?_
  refine (g_2 (by decide +kernel : kd_ 88 42 = ((2, 1, 0, []), 43)) rfl).trans ?_
  refine (g_10 (by decide +kernel : kd_ 88 43 = ((10, 0, 0, []), 44))).trans ?_
  exact g_41 (by decide +kernel : kd_ 88 44 = ((41, 51, 0, []), 47))
theorem b_M_fault_47 {L : Nat} {f : cg_G} {e : Nat × Nat} {x1 x2 x3 x4 x5 : Int32} {a0 : Nat} {u6 : Value} : cj_res 88 47 [.ref a0, .int x1, .int x2, .int x3, .int x4, .int x5, u6] [] (cg_M L f e) = cj_res 88 52 [.ref a0, .int x1, .int x2, .int x3, .int x4, .int x5, u6] [.int (nI 1)] (cg_M L f e) := by
  refine (g_0 (by decide +kernel : kd_ 88 47 = ((0, 1, 0, []), 48))).trans ?_
  refine (g_30 (by decide +kernel : kd_ 88 48 = ((30, 52, 0, []), 51))).trans ?_
  rfl
theorem b_M_fault_51 {L : Nat} {f : cg_G} {e : Nat × Nat} {x1 x2 x3 x4 x5 : Int32} {a0 : Nat} {u6 : Value} : cj_res 88 51 [.ref a0, .int x1, .int x2, .int x3, .int x4, .int x5, u6] [] (cg_M L f e) = cj_res 88 52 [.ref a0, .int x1, .int x2, .int x3, .int x4, .int x5, u6] [.int (nI 0)] (cg_M L f e) := by
  refine (g_0 (by decide +kernel : kd_ 88 51 = ((0, 0, 0, []), 52))).trans ?_
  rfl
theorem b_M_fault_52 {L : Nat} {f : cg_G} {e : Nat × Nat} {x1 x2 x3 x4 x5 y0 : Int32} {a0 : Nat} {u6 : Value} : cj_res 88 52 [.ref a0, .int x1, .int x2, .int x3, .int x4, .int x5, u6] [.int y0] (cg_M L f e) = cj_res 88 166 [.ref a0, .int (nI 0), .int x2, .int x3, .int x4, .int x5, .int y0] [] (cg_M L f e) := by
  refine (g_4 (ls' := [.ref a0, .int x1, .int x2, .int x3, .int x4, .int x5, .int y0]) (by decide +kernel : kd_ 88 52 = ((4, 6, 0, []), 54)) rfl rfl).trans ?_
  refine (g_0 (by decide +kernel : kd_ 88 54 = ((0, 0, 0, []), 55))).trans ?_
  refine (g_4 (ls' := [.ref a0, .int (nI 0), .int x2, .int x3, .int x4, .int x5, .int y0]) (by decide +kernel : kd_ 88 55 = ((4, 1, 0, []), 56)) rfl rfl).trans ?_
  refine (g_30 (by decide +kernel : kd_ 88 56 = ((30, 166, 0, []), 59))).trans ?_
  rfl
theorem b_M_fault_59 {L : Nat} {f : cg_G} {e : Nat × Nat} {x1 x2 x3 x4 x5 : Int32} {a0 : Nat} {u6 : Value} : cj_res 88 59 [.ref a0, .int x1, .int x2, .int x3, .int x4, .int x5, u6] [] (cg_M L f e) = if x5 = (nI 35) then cj_res 88 73 [.ref a0, .int x1, .int x2, .int x3, .int x4, .int x5, u6] [] (cg_M L f e) else cj_res 88 66 [.ref a0, .int x1, .int x2, .int x3, .int x4, .int x5, u6] [] (cg_M L f e) := by
  refine (g_2 (by decide +kernel : kd_ 88 59 = ((2, 5, 0, []), 61)) rfl).trans ?_
  refine (g_0 (by decide +kernel : kd_ 88 61 = ((0, 35, 0, []), 63))).trans ?_
  exact g_37 (by decide +kernel : kd_ 88 63 = ((37, 73, 0, []), 66))
theorem b_M_fault_66 {L : Nat} {f : cg_G} {e : Nat × Nat} {x1 x2 x3 x4 x5 : Int32} {a0 : Nat} {u6 : Value} : cj_res 88 66 [.ref a0, .int x1, .int x2, .int x3, .int x4, .int x5, u6] [] (cg_M L f e) = if x5 = (nI 64) then cj_res 88 73 [.ref a0, .int x1, .int x2, .int x3, .int x4, .int x5, u6] [] (cg_M L f e) else cj_res 88 106 [.ref a0, .int x1, .int x2, .int x3, .int x4, .int x5, u6] [] (cg_M L f e) := by
  refine (g_2 (by decide +kernel : kd_ 88 66 = ((2, 5, 0, []), 68)) rfl).trans ?_
  refine (g_0 (by decide +kernel : kd_ 88 68 = ((0, 64, 0, []), 70))).trans ?_
  exact g_38 (by decide +kernel : kd_ 88 70 = ((38, 106, 0, []), 73))
theorem b_M_fault_73 {L : Nat} {f : cg_G} {e : Nat × Nat} {x1 x2 x3 x4 x5 : Int32} {a0 : Nat} {u6 : Value} : cj_res 88 73 [.ref a0, .int x1, .int x2, .int x3, .int x4, .int x5, u6] [] (cg_M L f e) = if (nI 6) ≤ x2 then cj_res 88 83 [.ref a0, .int x1, .int x2, .int x3, .int x4, .int x5, u6] [] (cg_M L f e) else cj_res 88 79 [.ref a0, .int x1, .int x2, .int x3, .int x4, .int x5, u6] [] (cg_M L f e) := by
  refine (g_2 (by decide +kernel : kd_ 88 73 = ((2, 2, 0, []), 74)) rfl).trans ?_
  refine (g_0 (by decide +kernel : kd_ 88 74 = ((0, 6, 0, []), 76))).trans ?_
  exact g_40 (by decide +kernel : kd_ 88 76 = ((40, 83, 0, []), 79))
theorem b_M_fault_79 {L : Nat} {f : cg_G} {e : Nat × Nat} {x1 x2 x3 x4 x5 : Int32} {a0 : Nat} {u6 : Value} : cj_res 88 79 [.ref a0, .int x1, .int x2, .int x3, .int x4, .int x5, u6] [] (cg_M L f e) = cj_res 88 84 [.ref a0, .int x1, .int x2, .int x3, .int x4, .int x5, u6] [.int (nI 1)] (cg_M L f e) := by
  refine (g_0 (by decide +kernel : kd_ 88 79 = ((0, 1, 0, []), 80))).trans ?_
  refine (g_30 (by decide +kernel : kd_ 88 80 = ((30, 84, 0, []), 83))).trans ?_
  rfl
theorem b_M_fault_83 {L : Nat} {f : cg_G} {e : Nat × Nat} {x1 x2 x3 x4 x5 : Int32} {a0 : Nat} {u6 : Value} : cj_res 88 83 [.ref a0, .int x1, .int x2, .int x3, .int x4, .int x5, u6] [] (cg_M L f e) = cj_res 88 84 [.ref a0, .int x1, .int x2, .int x3, .int x4, .int x5, u6] [.int (nI 0)] (cg_M L f e) := by
  refine (g_0 (by decide +kernel : kd_ 88 83 = ((0, 0, 0, []), 84))).trans ?_
  rfl
theorem b_M_fault_84 {L : Nat} {f : cg_G} {e : Nat × Nat} {x1 x2 x3 x4 x5 y0 : Int32} {a0 : Nat} {u6 : Value} : cj_res 88 84 [.ref a0, .int x1, .int x2, .int x3, .int x4, .int x5, u6] [.int y0] (cg_M L f e) = if x5 = (nI 35) then cj_res 88 96 [.ref a0, .int x1, .int (x2 + nI 1), .int x3, .int x4, .int x5, .int y0] [] (cg_M L f e) else cj_res 88 100 [.ref a0, .int x1, .int (x2 + nI 1), .int x3, .int x4, .int x5, .int y0] [] (cg_M L f e) := by
  refine (g_4 (ls' := [.ref a0, .int x1, .int x2, .int x3, .int x4, .int x5, .int y0]) (by decide +kernel : kd_ 88 84 = ((4, 6, 0, []), 86)) rfl rfl).trans ?_
  refine (g_6 (ls' := [.ref a0, .int x1, .int (x2 + nI 1), .int x3, .int x4, .int x5, .int y0]) (by decide +kernel : kd_ 88 86 = ((6, 2, 1, []), 89)) rfl rfl).trans ?_
  refine (g_2 (by decide +kernel : kd_ 88 89 = ((2, 5, 0, []), 91)) rfl).trans ?_
  refine (g_0 (by decide +kernel : kd_ 88 91 = ((0, 35, 0, []), 93))).trans ?_
  exact g_38 (by decide +kernel : kd_ 88 93 = ((38, 100, 0, []), 96))
theorem b_M_fault_96 {L : Nat} {f : cg_G} {e : Nat × Nat} {x1 x2 x3 x4 x5 x6 : Int32} {a0 : Nat} : cj_res 88 96 [.ref a0, .int x1, .int x2, .int x3, .int x4, .int x5, .int x6] [] (cg_M L f e) = cj_res 88 102 [.ref a0, .int x1, .int x2, .int x3, .int x4, .int x5, .int x6] [.int (nI 3)] (cg_M L f e) := by
  refine (g_0 (by decide +kernel : kd_ 88 96 = ((0, 3, 0, []), 97))).trans ?_
  refine (g_30 (by decide +kernel : kd_ 88 97 = ((30, 102, 0, []), 100))).trans ?_
  rfl
theorem b_M_fault_100 {L : Nat} {f : cg_G} {e : Nat × Nat} {x1 x2 x3 x4 x5 x6 : Int32} {a0 : Nat} : cj_res 88 100 [.ref a0, .int x1, .int x2, .int x3, .int x4, .int x5, .int x6] [] (cg_M L f e) = cj_res 88 102 [.ref a0, .int x1, .int x2, .int x3, .int x4, .int x5, .int x6] [.int (nI 7)] (cg_M L f e) := by
  refine (g_0 (by decide +kernel : kd_ 88 100 = ((0, 7, 0, []), 102))).trans ?_
  rfl
theorem b_M_fault_102 {L : Nat} {f : cg_G} {e : Nat × Nat} {x1 x2 x3 x4 x5 x6 y0 : Int32} {a0 : Nat} : cj_res 88 102 [.ref a0, .int x1, .int x2, .int x3, .int x4, .int x5, .int x6] [.int y0] (cg_M L f e) = cj_res 88 166 [.ref a0, .int y0, .int x2, .int x3, .int x4, .int x5, .int x6] [] (cg_M L f e) := by
  refine (g_4 (ls' := [.ref a0, .int y0, .int x2, .int x3, .int x4, .int x5, .int x6]) (by decide +kernel : kd_ 88 102 = ((4, 1, 0, []), 103)) rfl rfl).trans ?_
  refine (g_30 (by decide +kernel : kd_ 88 103 = ((30, 166, 0, []), 106))).trans ?_
  rfl
theorem b_M_fault_106 {L : Nat} {f : cg_G} {e : Nat × Nat} {x1 x2 x3 x4 x5 : Int32} {a0 : Nat} {u6 : Value} : cj_res 88 106 [.ref a0, .int x1, .int x2, .int x3, .int x4, .int x5, u6] [] (cg_M L f e) = if x5 = (nI 91) then cj_res 88 113 [.ref a0, .int x1, .int x2, .int x3, .int x4, .int x5, u6] [] (cg_M L f e) else cj_res 88 129 [.ref a0, .int x1, .int x2, .int x3, .int x4, .int x5, u6] [] (cg_M L f e) := by
  refine (g_2 (by decide +kernel : kd_ 88 106 = ((2, 5, 0, []), 108)) rfl).trans ?_
  refine (g_0 (by decide +kernel : kd_ 88 108 = ((0, 91, 0, []), 110))).trans ?_
  exact g_38 (by decide +kernel : kd_ 88 110 = ((38, 129, 0, []), 113))
theorem b_M_fault_113 {L : Nat} {f : cg_G} {e : Nat × Nat} {x1 x2 x3 x4 x5 : Int32} {a0 : Nat} {u6 : Value} : cj_res 88 113 [.ref a0, .int x1, .int x2, .int x3, .int x4, .int x5, u6] [] (cg_M L f e) = if x3 = 0 then cj_res 88 117 [.ref a0, .int x1, .int x2, .int x3, .int x4, .int x5, u6] [] (cg_M L f e) else cj_res 88 121 [.ref a0, .int x1, .int x2, .int x3, .int x4, .int x5, u6] [] (cg_M L f e) := by
  refine (g_2 (by decide +kernel : kd_ 88 113 = ((2, 3, 0, []), 114)) rfl).trans ?_
  exact g_32 (by decide +kernel : kd_ 88 114 = ((32, 121, 0, []), 117))
theorem b_M_fault_117 {L : Nat} {f : cg_G} {e : Nat × Nat} {x1 x2 x3 x4 x5 : Int32} {a0 : Nat} {u6 : Value} : cj_res 88 117 [.ref a0, .int x1, .int x2, .int x3, .int x4, .int x5, u6] [] (cg_M L f e) = cj_res 88 122 [.ref a0, .int x1, .int x2, .int x3, .int x4, .int x5, u6] [.int (nI 1)] (cg_M L f e) := by
  refine (g_0 (by decide +kernel : kd_ 88 117 = ((0, 1, 0, []), 118))).trans ?_
  refine (g_30 (by decide +kernel : kd_ 88 118 = ((30, 122, 0, []), 121))).trans ?_
  rfl
theorem b_M_fault_121 {L : Nat} {f : cg_G} {e : Nat × Nat} {x1 x2 x3 x4 x5 : Int32} {a0 : Nat} {u6 : Value} : cj_res 88 121 [.ref a0, .int x1, .int x2, .int x3, .int x4, .int x5, u6] [] (cg_M L f e) = cj_res 88 122 [.ref a0, .int x1, .int x2, .int x3, .int x4, .int x5, u6] [.int (nI 0)] (cg_M L f e) := by
  refine (g_0 (by decide +kernel : kd_ 88 121 = ((0, 0, 0, []), 122))).trans ?_
  rfl
theorem b_M_fault_122 {L : Nat} {f : cg_G} {e : Nat × Nat} {x1 x2 x3 x4 x5 y0 : Int32} {a0 : Nat} {u6 : Value} : cj_res 88 122 [.ref a0, .int x1, .int x2, .int x3, .int x4, .int x5, u6] [.int y0] (cg_M L f e) = cj_res 88 166 [.ref a0, .int x1, .int x2, .int (nI 1), .int x4, .int x5, .int y0] [] (cg_M L f e) := by
  refine (g_4 (ls' := [.ref a0, .int x1, .int x2, .int x3, .int x4, .int x5, .int y0]) (by decide +kernel : kd_ 88 122 = ((4, 6, 0, []), 124)) rfl rfl).trans ?_
  refine (g_0 (by decide +kernel : kd_ 88 124 = ((0, 1, 0, []), 125))).trans ?_
  refine (g_4 (ls' := [.ref a0, .int x1, .int x2, .int (nI 1), .int x4, .int x5, .int y0]) (by decide +kernel : kd_ 88 125 = ((4, 3, 0, []), 126)) rfl rfl).trans ?_
  refine (g_30 (by decide +kernel : kd_ 88 126 = ((30, 166, 0, []), 129))).trans ?_
  rfl
theorem b_M_fault_129 {L : Nat} {f : cg_G} {e : Nat × Nat} {x1 x2 x3 x4 x5 : Int32} {a0 : Nat} {u6 : Value} : cj_res 88 129 [.ref a0, .int x1, .int x2, .int x3, .int x4, .int x5, u6] [] (cg_M L f e) = if x5 = (nI 93) then cj_res 88 136 [.ref a0, .int x1, .int x2, .int x3, .int x4, .int x5, u6] [] (cg_M L f e) else cj_res 88 144 [.ref a0, .int x1, .int x2, .int x3, .int x4, .int x5, u6] [] (cg_M L f e) := by
  refine (g_2 (by decide +kernel : kd_ 88 129 = ((2, 5, 0, []), 131)) rfl).trans ?_
  refine (g_0 (by decide +kernel : kd_ 88 131 = ((0, 93, 0, []), 133))).trans ?_
  exact g_38 (by decide +kernel : kd_ 88 133 = ((38, 144, 0, []), 136))
theorem b_M_fault_136 {L : Nat} {f : cg_G} {e : Nat × Nat} {x1 x2 x3 x4 x5 : Int32} {a0 : Nat} {u6 : Value} : cj_res 88 136 [.ref a0, .int x1, .int x2, .int x3, .int x4, .int x5, u6] [] (cg_M L f e) = cj_res 88 166 [.ref a0, .int x1, .int x2, .int (nI 0), .int x4, .int x5, .int x3] [] (cg_M L f e) := by
  refine (g_2 (by decide +kernel : kd_ 88 136 = ((2, 3, 0, []), 137)) rfl).trans ?_
  refine (g_4 (ls' := [.ref a0, .int x1, .int x2, .int x3, .int x4, .int x5, .int x3]) (by decide +kernel : kd_ 88 137 = ((4, 6, 0, []), 139)) rfl rfl).trans ?_
  refine (g_0 (by decide +kernel : kd_ 88 139 = ((0, 0, 0, []), 140))).trans ?_
  refine (g_4 (ls' := [.ref a0, .int x1, .int x2, .int (nI 0), .int x4, .int x5, .int x3]) (by decide +kernel : kd_ 88 140 = ((4, 3, 0, []), 141)) rfl rfl).trans ?_
  refine (g_30 (by decide +kernel : kd_ 88 141 = ((30, 166, 0, []), 144))).trans ?_
  rfl
theorem b_M_fault_144 {L : Nat} {f : cg_G} {e : Nat × Nat} {x1 x2 x3 x4 x5 : Int32} {a0 : Nat} {u6 : Value} : cj_res 88 144 [.ref a0, .int x1, .int x2, .int x3, .int x4, .int x5, u6] [] (cg_M L f e) = cj_aft 88 146 149 [.ref a0, .int x1, .int x2, .int x3, .int x4, .int x5, u6] [] (cj_ev 49 [.int x5] (cg_M L f e)) := by
  refine (g_2 (by decide +kernel : kd_ 88 144 = ((2, 5, 0, []), 146)) rfl).trans ?_
  exact g_81 (by decide +kernel : kd_ 88 146 = ((81, 49, 1, []), 149)) rfl rfl rfl
theorem b_M_fault_149 {L : Nat} {f : cg_G} {e : Nat × Nat} {x1 x2 x3 x4 x5 y0 : Int32} {a0 : Nat} {u6 : Value} : cj_res 88 149 [.ref a0, .int x1, .int x2, .int x3, .int x4, .int x5, u6] [.int y0] (cg_M L f e) = if y0 = 0 then cj_res 88 152 [.ref a0, .int x1, .int x2, .int x3, .int x4, .int x5, u6] [] (cg_M L f e) else cj_res 88 159 [.ref a0, .int x1, .int x2, .int x3, .int x4, .int x5, u6] [] (cg_M L f e) := by
  exact g_32 (by decide +kernel : kd_ 88 149 = ((32, 159, 0, []), 152))
theorem b_M_fault_152 {L : Nat} {f : cg_G} {e : Nat × Nat} {x1 x2 x3 x4 x5 : Int32} {a0 : Nat} {u6 : Value} : cj_res 88 152 [.ref a0, .int x1, .int x2, .int x3, .int x4, .int x5, u6] [] (cg_M L f e) = if x5 = (nI 32) then cj_res 88 159 [.ref a0, .int x1, .int x2, .int x3, .int x4, .int x5, u6] [] (cg_M L f e) else cj_res 88 163 [.ref a0, .int x1, .int x2, .int x3, .int x4, .int x5, u6] [] (cg_M L f e) := by
  refine (g_2 (by decide +kernel : kd_ 88 152 = ((2, 5, 0, []), 154)) rfl).trans ?_
  refine (g_0 (by decide +kernel : kd_ 88 154 = ((0, 32, 0, []), 156))).trans ?_
  exact g_38 (by decide +kernel : kd_ 88 156 = ((38, 163, 0, []), 159))
theorem b_M_fault_159 {L : Nat} {f : cg_G} {e : Nat × Nat} {x1 x2 x3 x4 x5 : Int32} {a0 : Nat} {u6 : Value} : cj_res 88 159 [.ref a0, .int x1, .int x2, .int x3, .int x4, .int x5, u6] [] (cg_M L f e) = cj_res 88 164 [.ref a0, .int x1, .int x2, .int x3, .int x4, .int x5, u6] [.int (nI 1)] (cg_M L f e) := by
  refine (g_0 (by decide +kernel : kd_ 88 159 = ((0, 1, 0, []), 160))).trans ?_
  refine (g_30 (by decide +kernel : kd_ 88 160 = ((30, 164, 0, []), 163))).trans ?_
  rfl
theorem b_M_fault_163 {L : Nat} {f : cg_G} {e : Nat × Nat} {x1 x2 x3 x4 x5 : Int32} {a0 : Nat} {u6 : Value} : cj_res 88 163 [.ref a0, .int x1, .int x2, .int x3, .int x4, .int x5, u6] [] (cg_M L f e) = cj_res 88 164 [.ref a0, .int x1, .int x2, .int x3, .int x4, .int x5, u6] [.int (nI 0)] (cg_M L f e) := by
  refine (g_0 (by decide +kernel : kd_ 88 163 = ((0, 0, 0, []), 164))).trans ?_
  rfl
theorem b_M_fault_164 {L : Nat} {f : cg_G} {e : Nat × Nat} {x1 x2 x3 x4 x5 y0 : Int32} {a0 : Nat} {u6 : Value} : cj_res 88 164 [.ref a0, .int x1, .int x2, .int x3, .int x4, .int x5, u6] [.int y0] (cg_M L f e) = cj_res 88 166 [.ref a0, .int x1, .int x2, .int x3, .int x4, .int x5, .int y0] [] (cg_M L f e) := by
  refine (g_4 (ls' := [.ref a0, .int x1, .int x2, .int x3, .int x4, .int x5, .int y0]) (by decide +kernel : kd_ 88 164 = ((4, 6, 0, []), 166)) rfl rfl).trans ?_
  rfl
theorem b_M_fault_166 {L : Nat} {f : cg_G} {e : Nat × Nat} {x1 x2 x3 x4 x5 x6 : Int32} {a0 : Nat} : cj_res 88 166 [.ref a0, .int x1, .int x2, .int x3, .int x4, .int x5, .int x6] [] (cg_M L f e) = if x6 = 0 then cj_res 88 171 [.ref a0, .int x1, .int x2, .int x3, .int x4, .int x5, .int x6] [] (cg_M L f e) else cj_res 88 174 [.ref a0, .int x1, .int x2, .int x3, .int x4, .int x5, .int x6] [] (cg_M L f e) := by
  refine (g_2 (by decide +kernel : kd_ 88 166 = ((2, 6, 0, []), 168)) rfl).trans ?_
  exact g_32 (by decide +kernel : kd_ 88 168 = ((32, 174, 0, []), 171))
theorem b_M_fault_171 {L : Nat} {f : cg_G} {e : Nat × Nat} {x1 x2 x3 x4 x5 x6 : Int32} {a0 : Nat} : cj_res 88 171 [.ref a0, .int x1, .int x2, .int x3, .int x4, .int x5, .int x6] [] (cg_M L f e) = some (.inl (some (.int x4)), cg_M L f e) := by
  refine (g_2 (by decide +kernel : kd_ 88 171 = ((2, 4, 0, []), 173)) rfl).trans ?_
  exact g_90 (by decide +kernel : kd_ 88 173 = ((90, 0, 0, []), 174))
theorem b_M_fault_174 {L : Nat} {f : cg_G} {e : Nat × Nat} {x1 x2 x3 x4 x5 x6 : Int32} {a0 : Nat} : cj_res 88 174 [.ref a0, .int x1, .int x2, .int x3, .int x4, .int x5, .int x6] [] (cg_M L f e) = cj_res 88 9 [.ref a0, .int x1, .int x2, .int x3, .int (x4 + nI 1), .int x5, .int x6] [] (cg_M L f e) := by
  refine (g_6 (ls' := [.ref a0, .int x1, .int x2, .int x3, .int (x4 + nI 1), .int x5, .int x6]) (by decide +kernel : kd_ 88 174 = ((6, 4, 1, []), 177)) rfl rfl).trans ?_
  refine (g_30 (by decide +kernel : kd_ 88 177 = ((30, 9, 0, []), 180))).trans ?_
  rfl
theorem b_M_fault_180 {L : Nat} {f : cg_G} {e : Nat × Nat} {x1 x2 x3 x4 : Int32} {a0 : Nat} {u5 u6 : Value} : cj_res 88 180 [.ref a0, .int x1, .int x2, .int x3, .int x4, u5, u6] [] (cg_M L f e) = if 0 < x1 then cj_res 88 188 [.ref a0, .int x1, .int x2, .int x3, .int x4, u5, u6] [] (cg_M L f e) else cj_res 88 184 [.ref a0, .int x1, .int x2, .int x3, .int x4, u5, u6] [] (cg_M L f e) := by
  refine (g_2 (by decide +kernel : kd_ 88 180 = ((2, 1, 0, []), 181)) rfl).trans ?_
  exact g_35 (by decide +kernel : kd_ 88 181 = ((35, 188, 0, []), 184))
theorem b_M_fault_184 {L : Nat} {f : cg_G} {e : Nat × Nat} {x1 x2 x3 x4 : Int32} {a0 : Nat} {u5 u6 : Value} : cj_res 88 184 [.ref a0, .int x1, .int x2, .int x3, .int x4, u5, u6] [] (cg_M L f e) = if x3 = 0 then cj_res 88 195 [.ref a0, .int x1, .int x2, .int x3, .int x4, u5, u6] [] (cg_M L f e) else cj_res 88 188 [.ref a0, .int x1, .int x2, .int x3, .int x4, u5, u6] [] (cg_M L f e) := by
  refine (g_2 (by decide +kernel : kd_ 88 184 = ((2, 3, 0, []), 185)) rfl).trans ?_
  exact g_31 (by decide +kernel : kd_ 88 185 = ((31, 195, 0, []), 188))
theorem b_M_fault_188 {L : Nat} {f : cg_G} {e : Nat × Nat} {x1 x2 x3 x4 : Int32} {a0 : Nat} {u5 u6 : Value} (h1 : sh_ a0 = 7): cj_res 88 188 [.ref a0, .int x1, .int x2, .int x3, .int x4, u5, u6] [] (cg_M L f e) = cj_res 88 196 [.ref a0, .int x1, .int x2, .int x3, .int x4, u5, u6] [.int (f a0 3)] (cg_M L f e) := by
  refine (g_3 (by decide +kernel : kd_ 88 188 = ((3, 0, 0, []), 189)) rfl).trans ?_
  refine (g_50 (v := .int (f a0 3)) (by decide +kernel : kd_ 88 189 = ((50, 7, 3, []), 192)) h1 rfl).trans ?_
  refine (g_30 (by decide +kernel : kd_ 88 192 = ((30, 196, 0, []), 195))).trans ?_
  rfl
theorem b_M_fault_195 {L : Nat} {f : cg_G} {e : Nat × Nat} {x1 x2 x3 x4 : Int32} {a0 : Nat} {u5 u6 : Value} : cj_res 88 195 [.ref a0, .int x1, .int x2, .int x3, .int x4, u5, u6] [] (cg_M L f e) = cj_res 88 196 [.ref a0, .int x1, .int x2, .int x3, .int x4, u5, u6] [.int (- nI 1)] (cg_M L f e) := by
  refine (g_1 (by decide +kernel : kd_ 88 195 = ((1, 1, 0, []), 196))).trans ?_
  rfl
theorem b_M_fault_196 {L : Nat} {f : cg_G} {e : Nat × Nat} {x1 x2 x3 x4 y0 : Int32} {a0 : Nat} {u5 u6 : Value} : cj_res 88 196 [.ref a0, .int x1, .int x2, .int x3, .int x4, u5, u6] [.int y0] (cg_M L f e) = some (.inl (some (.int y0)), cg_M L f e) := by
  exact g_90 (by decide +kernel : kd_ 88 196 = ((90, 0, 0, []), 197))
theorem b_M_isAhead_0 {L : Nat} {f : cg_G} {e : Nat × Nat} {x1 x2 x3 : Int32} {a0 : Nat} {u4 u5 u6 u7 u8 : Value} : cj_res 89 0 [.ref a0, .int x1, .int x2, .int x3, u4, u5, u6, u7, u8] [] (cg_M L f e) = cj_res 89 17 [.ref a0, .int x1, .int x2, .int x3, .int (((nI 4) * x1) + x3), .int (((nI 4) * x2) + x3), .int (nI 0), u7, u8] [] (cg_M L f e) := by
  refine (g_0 (by decide +kernel : kd_ 89 0 = ((0, 4, 0, []), 1))).trans ?_
  refine (g_2 (by decide +kernel : kd_ 89 1 = ((2, 1, 0, []), 2)) rfl).trans ?_
  refine (g_12 (by decide +kernel : kd_ 89 2 = ((12, 0, 0, []), 3))).trans ?_
  refine (g_2 (by decide +kernel : kd_ 89 3 = ((2, 3, 0, []), 4)) rfl).trans ?_
  refine (g_10 (by decide +kernel : kd_ 89 4 = ((10, 0, 0, []), 5))).trans ?_
  refine (g_4 (ls' := [.ref a0, .int x1, .int x2, .int x3, .int (((nI 4) * x1) + x3), u5, u6, u7, u8]) (by decide +kernel : kd_ 89 5 = ((4, 4, 0, []), 7)) rfl rfl).trans ?_
  refine (g_0 (by decide +kernel : kd_ 89 7 = ((0, 4, 0, []), 8))).trans ?_
  refine (g_2 (by decide +kernel : kd_ 89 8 = ((2, 2, 0, []), 9)) rfl).trans ?_
  refine (g_12 (by decide +kernel : kd_ 89 9 = ((12, 0, 0, []), 10))).trans ?_
  refine (g_2 (by decide +kernel : kd_ 89 10 = ((2, 3, 0, []), 11)) rfl).trans ?_
  refine (g_10 (by decide +kernel : kd_ 89 11 = ((10, 0, 0, []), 12))).trans ?_
  refine (g_4 (ls' := [.ref a0, .int x1, .int x2, .int x3, .int (((nI 4) * x1) + x3), .int (((nI 4) * x2) + x3), u6, u7, u8]) (by decide +kernel : kd_ 89 12 = ((4, 5, 0, []), 14)) rfl rfl).trans ?_
  refine (g_0 (by decide +kernel : kd_ 89 14 = ((0, 0, 0, []), 15))).trans ?_
  refine (g_4 (ls' := [.ref a0, .int x1, .int x2, .int x3, .int (((nI 4) * x1) + x3), .int (((nI 4) * x2) + x3), .int (nI 0), u7, u8]) (by decide +kernel : kd_ 89 15 = ((4, 6, 0, []), 17)) rfl rfl).trans ?_
  rfl
theorem b_M_isAhead_17 {L : Nat} {f : cg_G} {e : Nat × Nat} {x1 x2 x3 x4 x5 x6 : Int32} {a0 : Nat} {u7 u8 : Value} (h1 : sh_ a0 = 7) (h2 : cg_in x4 32): cj_res 89 17 [.ref a0, .int x1, .int x2, .int x3, .int x4, .int x5, .int x6, u7, u8] [] (cg_M L f e) = if (f (a0 + 5) x4.toNatClampNeg) ≤ x6 then cj_res 89 105 [.ref a0, .int x1, .int x2, .int x3, .int x4, .int x5, .int x6, u7, u8] [] (cg_M L f e) else cj_res 89 29 [.ref a0, .int x1, .int x2, .int x3, .int x4, .int x5, .int x6, u7, u8] [] (cg_M L f e) := by
  refine (g_2 (by decide +kernel : kd_ 89 17 = ((2, 6, 0, []), 19)) rfl).trans ?_
  refine (g_3 (by decide +kernel : kd_ 89 19 = ((3, 0, 0, []), 20)) rfl).trans ?_
  refine (g_50 (v := .ref (a0 + 5)) (by decide +kernel : kd_ 89 20 = ((50, 7, 10, []), 23)) h1 rfl).trans ?_
  refine (g_2 (by decide +kernel : kd_ 89 23 = ((2, 4, 0, []), 25)) rfl).trans ?_
  refine (g_54 (v := .int (f (a0 + 5) x4.toNatClampNeg)) (by decide +kernel : kd_ 89 25 = ((54, 0, 0, []), 26)) (sc_7_10 h1) rfl (by rw [sl_7_10 h1]; exact h2) rfl).trans ?_
  exact g_40 (by decide +kernel : kd_ 89 26 = ((40, 105, 0, []), 29))
theorem b_M_isAhead_29 {L : Nat} {f : cg_G} {e : Nat × Nat} {x1 x2 x3 x4 x5 x6 : Int32} {a0 : Nat} {u7 u8 : Value} (h1 : sh_ a0 = 7) (h2 : cg_in x5 32): cj_res 89 29 [.ref a0, .int x1, .int x2, .int x3, .int x4, .int x5, .int x6, u7, u8] [] (cg_M L f e) = if (f (a0 + 5) x5.toNatClampNeg) ≤ x6 then cj_res 89 105 [.ref a0, .int x1, .int x2, .int x3, .int x4, .int x5, .int x6, u7, u8] [] (cg_M L f e) else cj_res 89 41 [.ref a0, .int x1, .int x2, .int x3, .int x4, .int x5, .int x6, u7, u8] [] (cg_M L f e) := by
  refine (g_2 (by decide +kernel : kd_ 89 29 = ((2, 6, 0, []), 31)) rfl).trans ?_
  refine (g_3 (by decide +kernel : kd_ 89 31 = ((3, 0, 0, []), 32)) rfl).trans ?_
  refine (g_50 (v := .ref (a0 + 5)) (by decide +kernel : kd_ 89 32 = ((50, 7, 10, []), 35)) h1 rfl).trans ?_
  refine (g_2 (by decide +kernel : kd_ 89 35 = ((2, 5, 0, []), 37)) rfl).trans ?_
  refine (g_54 (v := .int (f (a0 + 5) x5.toNatClampNeg)) (by decide +kernel : kd_ 89 37 = ((54, 0, 0, []), 38)) (sc_7_10 h1) rfl (by rw [sl_7_10 h1]; exact h2) rfl).trans ?_
  exact g_40 (by decide +kernel : kd_ 89 38 = ((40, 105, 0, []), 41))
theorem b_M_isAhead_41 {L : Nat} {f : cg_G} {e : Nat × Nat} {x1 x2 x3 x4 x5 x6 : Int32} {a0 : Nat} {u7 u8 : Value} (h1 : sh_ a0 = 7) (h2 : cg_in (((nI 32) * x4) + x6) 1024): cj_res 89 41 [.ref a0, .int x1, .int x2, .int x3, .int x4, .int x5, .int x6, u7, u8] [] (cg_M L f e) = cj_aft 89 55 58 [.ref a0, .int x1, .int x2, .int x3, .int x4, .int x5, .int x6, u7, u8] [] (cj_ev 51 [.ref a0, .int (f (a0 + 6) (((nI 32) * x4) + x6).toNatClampNeg)] (cg_M L f e)) := by
  refine (g_3 (by decide +kernel : kd_ 89 41 = ((3, 0, 0, []), 42)) rfl).trans ?_
  refine (g_3 (by decide +kernel : kd_ 89 42 = ((3, 0, 0, []), 43)) rfl).trans ?_
  refine (g_50 (v := .ref (a0 + 6)) (by decide +kernel : kd_ 89 43 = ((50, 7, 11, []), 46)) h1 rfl).trans ?_
  refine (g_0 (by decide +kernel : kd_ 89 46 = ((0, 32, 0, []), 48))).trans ?_
  refine (g_2 (by decide +kernel : kd_ 89 48 = ((2, 4, 0, []), 50)) rfl).trans ?_
  refine (g_12 (by decide +kernel : kd_ 89 50 = ((12, 0, 0, []), 51))).trans ?_
  refine (g_2 (by decide +kernel : kd_ 89 51 = ((2, 6, 0, []), 53)) rfl).trans ?_
  refine (g_10 (by decide +kernel : kd_ 89 53 = ((10, 0, 0, []), 54))).trans ?_
  refine (g_54 (v := .int (f (a0 + 6) (((nI 32) * x4) + x6).toNatClampNeg)) (by decide +kernel : kd_ 89 54 = ((54, 0, 0, []), 55)) (sc_7_11 h1) rfl (by rw [sl_7_11 h1]; exact h2) rfl).trans ?_
  exact g_80 (by decide +kernel : kd_ 89 55 = ((80, 51, 2, [7]), 58)) rfl h1 rfl rfl rfl
theorem b_M_isAhead_58 {L : Nat} {f : cg_G} {e : Nat × Nat} {x1 x2 x3 x4 x5 x6 y0 : Int32} {a0 : Nat} {u7 u8 : Value} (h1 : sh_ a0 = 7) (h2 : cg_in (((nI 32) * x5) + x6) 1024): cj_res 89 58 [.ref a0, .int x1, .int x2, .int x3, .int x4, .int x5, .int x6, u7, u8] [.int y0] (cg_M L f e) = cj_aft 89 74 77 [.ref a0, .int x1, .int x2, .int x3, .int x4, .int x5, .int x6, .int y0, u8] [] (cj_ev 51 [.ref a0, .int (f (a0 + 6) (((nI 32) * x5) + x6).toNatClampNeg)] (cg_M L f e)) := by
  refine (g_4 (ls' := [.ref a0, .int x1, .int x2, .int x3, .int x4, .int x5, .int x6, .int y0, u8]) (by decide +kernel : kd_ 89 58 = ((4, 7, 0, []), 60)) rfl rfl).trans ?_
  refine (g_3 (by decide +kernel : kd_ 89 60 = ((3, 0, 0, []), 61)) rfl).trans ?_
  refine (g_3 (by decide +kernel : kd_ 89 61 = ((3, 0, 0, []), 62)) rfl).trans ?_
  refine (g_50 (v := .ref (a0 + 6)) (by decide +kernel : kd_ 89 62 = ((50, 7, 11, []), 65)) h1 rfl).trans ?_
  refine (g_0 (by decide +kernel : kd_ 89 65 = ((0, 32, 0, []), 67))).trans ?_
  refine (g_2 (by decide +kernel : kd_ 89 67 = ((2, 5, 0, []), 69)) rfl).trans ?_
  refine (g_12 (by decide +kernel : kd_ 89 69 = ((12, 0, 0, []), 70))).trans ?_
  refine (g_2 (by decide +kernel : kd_ 89 70 = ((2, 6, 0, []), 72)) rfl).trans ?_
  refine (g_10 (by decide +kernel : kd_ 89 72 = ((10, 0, 0, []), 73))).trans ?_
  refine (g_54 (v := .int (f (a0 + 6) (((nI 32) * x5) + x6).toNatClampNeg)) (by decide +kernel : kd_ 89 73 = ((54, 0, 0, []), 74)) (sc_7_11 h1) rfl (by rw [sl_7_11 h1]; exact h2) rfl).trans ?_
  exact g_80 (by decide +kernel : kd_ 89 74 = ((80, 51, 2, [7]), 77)) rfl h1 rfl rfl rfl
theorem b_M_isAhead_77 {L : Nat} {f : cg_G} {e : Nat × Nat} {x1 x2 x3 x4 x5 x6 x7 y0 : Int32} {a0 : Nat} {u8 : Value} : cj_res 89 77 [.ref a0, .int x1, .int x2, .int x3, .int x4, .int x5, .int x6, .int x7, u8] [.int y0] (cg_M L f e) = if x7 = y0 then cj_res 89 99 [.ref a0, .int x1, .int x2, .int x3, .int x4, .int x5, .int x6, .int x7, .int y0] [] (cg_M L f e) else cj_res 89 86 [.ref a0, .int x1, .int x2, .int x3, .int x4, .int x5, .int x6, .int x7, .int y0] [] (cg_M L f e) := by
  refine (g_4 (ls' := [.ref a0, .int x1, .int x2, .int x3, .int x4, .int x5, .int x6, .int x7, .int y0]) (by decide +kernel : kd_ 89 77 = ((4, 8, 0, []), 79)) rfl rfl).trans ?_
  refine (g_2 (by decide +kernel : kd_ 89 79 = ((2, 7, 0, []), 81)) rfl).trans ?_
  refine (g_2 (by decide +kernel : kd_ 89 81 = ((2, 8, 0, []), 83)) rfl).trans ?_
  exact g_37 (by decide +kernel : kd_ 89 83 = ((37, 99, 0, []), 86))
theorem b_M_isAhead_86 {L : Nat} {f : cg_G} {e : Nat × Nat} {x1 x2 x3 x4 x5 x6 x7 x8 : Int32} {a0 : Nat} : cj_res 89 86 [.ref a0, .int x1, .int x2, .int x3, .int x4, .int x5, .int x6, .int x7, .int x8] [] (cg_M L f e) = if x8 ≤ x7 then cj_res 89 97 [.ref a0, .int x1, .int x2, .int x3, .int x4, .int x5, .int x6, .int x7, .int x8] [] (cg_M L f e) else cj_res 89 93 [.ref a0, .int x1, .int x2, .int x3, .int x4, .int x5, .int x6, .int x7, .int x8] [] (cg_M L f e) := by
  refine (g_2 (by decide +kernel : kd_ 89 86 = ((2, 7, 0, []), 88)) rfl).trans ?_
  refine (g_2 (by decide +kernel : kd_ 89 88 = ((2, 8, 0, []), 90)) rfl).trans ?_
  exact g_40 (by decide +kernel : kd_ 89 90 = ((40, 97, 0, []), 93))
theorem b_M_isAhead_93 {L : Nat} {f : cg_G} {e : Nat × Nat} {x1 x2 x3 x4 x5 x6 x7 x8 : Int32} {a0 : Nat} : cj_res 89 93 [.ref a0, .int x1, .int x2, .int x3, .int x4, .int x5, .int x6, .int x7, .int x8] [] (cg_M L f e) = cj_res 89 98 [.ref a0, .int x1, .int x2, .int x3, .int x4, .int x5, .int x6, .int x7, .int x8] [.int (nI 1)] (cg_M L f e) := by
  refine (g_0 (by decide +kernel : kd_ 89 93 = ((0, 1, 0, []), 94))).trans ?_
  refine (g_30 (by decide +kernel : kd_ 89 94 = ((30, 98, 0, []), 97))).trans ?_
  rfl
theorem b_M_isAhead_97 {L : Nat} {f : cg_G} {e : Nat × Nat} {x1 x2 x3 x4 x5 x6 x7 x8 : Int32} {a0 : Nat} : cj_res 89 97 [.ref a0, .int x1, .int x2, .int x3, .int x4, .int x5, .int x6, .int x7, .int x8] [] (cg_M L f e) = cj_res 89 98 [.ref a0, .int x1, .int x2, .int x3, .int x4, .int x5, .int x6, .int x7, .int x8] [.int (nI 0)] (cg_M L f e) := by
  refine (g_0 (by decide +kernel : kd_ 89 97 = ((0, 0, 0, []), 98))).trans ?_
  rfl
theorem b_M_isAhead_98 {L : Nat} {f : cg_G} {e : Nat × Nat} {x1 x2 x3 x4 x5 x6 x7 x8 y0 : Int32} {a0 : Nat} (h1 : y0 = 0 ∨ y0 = 1): cj_res 89 98 [.ref a0, .int x1, .int x2, .int x3, .int x4, .int x5, .int x6, .int x7, .int x8] [.int y0] (cg_M L f e) = some (.inl (some (.int y0)), cg_M L f e) := by
  exact g_93 (by decide +kernel : kd_ 89 98 = ((93, 0, 0, []), 99)) h1
theorem b_M_isAhead_99 {L : Nat} {f : cg_G} {e : Nat × Nat} {x1 x2 x3 x4 x5 x6 x7 x8 : Int32} {a0 : Nat} : cj_res 89 99 [.ref a0, .int x1, .int x2, .int x3, .int x4, .int x5, .int x6, .int x7, .int x8] [] (cg_M L f e) = cj_res 89 17 [.ref a0, .int x1, .int x2, .int x3, .int x4, .int x5, .int (x6 + nI 1), .int x7, .int x8] [] (cg_M L f e) := by
  refine (g_6 (ls' := [.ref a0, .int x1, .int x2, .int x3, .int x4, .int x5, .int (x6 + nI 1), .int x7, .int x8]) (by decide +kernel : kd_ 89 99 = ((6, 6, 1, []), 102)) rfl rfl).trans ?_
  refine (g_30 (by decide +kernel : kd_ 89 102 = ((30, 17, 0, []), 105))).trans ?_
  rfl
theorem b_M_isAhead_105 {L : Nat} {f : cg_G} {e : Nat × Nat} {x1 x2 x3 x4 x5 x6 : Int32} {a0 : Nat} {u7 u8 : Value} (h1 : sh_ a0 = 7) (h2 : cg_in x4 32) (h3 : cg_in x5 32): cj_res 89 105 [.ref a0, .int x1, .int x2, .int x3, .int x4, .int x5, .int x6, u7, u8] [] (cg_M L f e) = if (f (a0 + 5) x4.toNatClampNeg) < (f (a0 + 5) x5.toNatClampNeg) then cj_res 89 144 [.ref a0, .int x1, .int x2, .int x3, .int x4, .int x5, .int x6, u7, u8] [] (cg_M L f e) else cj_res 89 122 [.ref a0, .int x1, .int x2, .int x3, .int x4, .int x5, .int x6, u7, u8] [] (cg_M L f e) := by
  refine (g_3 (by decide +kernel : kd_ 89 105 = ((3, 0, 0, []), 106)) rfl).trans ?_
  refine (g_50 (v := .ref (a0 + 5)) (by decide +kernel : kd_ 89 106 = ((50, 7, 10, []), 109)) h1 rfl).trans ?_
  refine (g_2 (by decide +kernel : kd_ 89 109 = ((2, 4, 0, []), 111)) rfl).trans ?_
  refine (g_54 (v := .int (f (a0 + 5) x4.toNatClampNeg)) (by decide +kernel : kd_ 89 111 = ((54, 0, 0, []), 112)) (sc_7_10 h1) rfl (by rw [sl_7_10 h1]; exact h2) rfl).trans ?_
  refine (g_3 (by decide +kernel : kd_ 89 112 = ((3, 0, 0, []), 113)) rfl).trans ?_
  refine (g_50 (v := .ref (a0 + 5)) (by decide +kernel : kd_ 89 113 = ((50, 7, 10, []), 116)) h1 rfl).trans ?_
  refine (g_2 (by decide +kernel : kd_ 89 116 = ((2, 5, 0, []), 118)) rfl).trans ?_
  refine (g_54 (v := .int (f (a0 + 5) x5.toNatClampNeg)) (by decide +kernel : kd_ 89 118 = ((54, 0, 0, []), 119)) (sc_7_10 h1) rfl (by rw [sl_7_10 h1]; exact h3) rfl).trans ?_
  exact g_39 (by decide +kernel : kd_ 89 119 = ((39, 144, 0, []), 122))
theorem b_M_isAhead_122 {L : Nat} {f : cg_G} {e : Nat × Nat} {x1 x2 x3 x4 x5 x6 : Int32} {a0 : Nat} {u7 u8 : Value} (h1 : sh_ a0 = 7) (h2 : cg_in x4 32) (h3 : cg_in x5 32): cj_res 89 122 [.ref a0, .int x1, .int x2, .int x3, .int x4, .int x5, .int x6, u7, u8] [] (cg_M L f e) = if (f (a0 + 5) x4.toNatClampNeg) = (f (a0 + 5) x5.toNatClampNeg) then cj_res 89 139 [.ref a0, .int x1, .int x2, .int x3, .int x4, .int x5, .int x6, u7, u8] [] (cg_M L f e) else cj_res 89 148 [.ref a0, .int x1, .int x2, .int x3, .int x4, .int x5, .int x6, u7, u8] [] (cg_M L f e) := by
  refine (g_3 (by decide +kernel : kd_ 89 122 = ((3, 0, 0, []), 123)) rfl).trans ?_
  refine (g_50 (v := .ref (a0 + 5)) (by decide +kernel : kd_ 89 123 = ((50, 7, 10, []), 126)) h1 rfl).trans ?_
  refine (g_2 (by decide +kernel : kd_ 89 126 = ((2, 4, 0, []), 128)) rfl).trans ?_
  refine (g_54 (v := .int (f (a0 + 5) x4.toNatClampNeg)) (by decide +kernel : kd_ 89 128 = ((54, 0, 0, []), 129)) (sc_7_10 h1) rfl (by rw [sl_7_10 h1]; exact h2) rfl).trans ?_
  refine (g_3 (by decide +kernel : kd_ 89 129 = ((3, 0, 0, []), 130)) rfl).trans ?_
  refine (g_50 (v := .ref (a0 + 5)) (by decide +kernel : kd_ 89 130 = ((50, 7, 10, []), 133)) h1 rfl).trans ?_
  refine (g_2 (by decide +kernel : kd_ 89 133 = ((2, 5, 0, []), 135)) rfl).trans ?_
  refine (g_54 (v := .int (f (a0 + 5) x5.toNatClampNeg)) (by decide +kernel : kd_ 89 135 = ((54, 0, 0, []), 136)) (sc_7_10 h1) rfl (by rw [sl_7_10 h1]; exact h3) rfl).trans ?_
  exact g_38 (by decide +kernel : kd_ 89 136 = ((38, 148, 0, []), 139))
theorem b_M_isAhead_139 {L : Nat} {f : cg_G} {e : Nat × Nat} {x1 x2 x3 x4 x5 x6 : Int32} {a0 : Nat} {u7 u8 : Value} : cj_res 89 139 [.ref a0, .int x1, .int x2, .int x3, .int x4, .int x5, .int x6, u7, u8] [] (cg_M L f e) = if x2 ≤ x1 then cj_res 89 148 [.ref a0, .int x1, .int x2, .int x3, .int x4, .int x5, .int x6, u7, u8] [] (cg_M L f e) else cj_res 89 144 [.ref a0, .int x1, .int x2, .int x3, .int x4, .int x5, .int x6, u7, u8] [] (cg_M L f e) := by
  refine (g_2 (by decide +kernel : kd_ 89 139 = ((2, 1, 0, []), 140)) rfl).trans ?_
  refine (g_2 (by decide +kernel : kd_ 89 140 = ((2, 2, 0, []), 141)) rfl).trans ?_
  exact g_40 (by decide +kernel : kd_ 89 141 = ((40, 148, 0, []), 144))
theorem b_M_isAhead_144 {L : Nat} {f : cg_G} {e : Nat × Nat} {x1 x2 x3 x4 x5 x6 : Int32} {a0 : Nat} {u7 u8 : Value} : cj_res 89 144 [.ref a0, .int x1, .int x2, .int x3, .int x4, .int x5, .int x6, u7, u8] [] (cg_M L f e) = cj_res 89 149 [.ref a0, .int x1, .int x2, .int x3, .int x4, .int x5, .int x6, u7, u8] [.int (nI 1)] (cg_M L f e) := by
  refine (g_0 (by decide +kernel : kd_ 89 144 = ((0, 1, 0, []), 145))).trans ?_
  refine (g_30 (by decide +kernel : kd_ 89 145 = ((30, 149, 0, []), 148))).trans ?_
  rfl
theorem b_M_isAhead_148 {L : Nat} {f : cg_G} {e : Nat × Nat} {x1 x2 x3 x4 x5 x6 : Int32} {a0 : Nat} {u7 u8 : Value} : cj_res 89 148 [.ref a0, .int x1, .int x2, .int x3, .int x4, .int x5, .int x6, u7, u8] [] (cg_M L f e) = cj_res 89 149 [.ref a0, .int x1, .int x2, .int x3, .int x4, .int x5, .int x6, u7, u8] [.int (nI 0)] (cg_M L f e) := by
  refine (g_0 (by decide +kernel : kd_ 89 148 = ((0, 0, 0, []), 149))).trans ?_
  rfl
theorem b_M_isAhead_149 {L : Nat} {f : cg_G} {e : Nat × Nat} {x1 x2 x3 x4 x5 x6 y0 : Int32} {a0 : Nat} {u7 u8 : Value} (h1 : y0 = 0 ∨ y0 = 1): cj_res 89 149 [.ref a0, .int x1, .int x2, .int x3, .int x4, .int x5, .int x6, u7, u8] [.int y0] (cg_M L f e) = some (.inl (some (.int y0)), cg_M L f e) := by
  exact g_93 (by decide +kernel : kd_ 89 149 = ((93, 0, 0, []), 150)) h1
theorem b_M_isEntry_0 {L : Nat} {f : cg_G} {e : Nat × Nat} {x1 : Int32} {a0 : Nat} (h1 : sh_ a0 = 7): cj_res 90 0 [.ref a0, .int x1] [] (cg_M L f e) = cj_aft 90 5 8 [.ref a0, .int x1] [] (cj_ev 44 [.int x1, .int (f a0 8)] (cg_M L f e)) := by
  refine (g_2 (by decide +kernel : kd_ 90 0 = ((2, 1, 0, []), 1)) rfl).trans ?_
  refine (g_3 (by decide +kernel : kd_ 90 1 = ((3, 0, 0, []), 2)) rfl).trans ?_
  refine (g_50 (v := .int (f a0 8)) (by decide +kernel : kd_ 90 2 = ((50, 7, 8, []), 5)) h1 rfl).trans ?_
  exact g_81 (by decide +kernel : kd_ 90 5 = ((81, 44, 2, []), 8)) rfl rfl rfl
theorem b_M_isEntry_8 {L : Nat} {f : cg_G} {e : Nat × Nat} {x1 y0 : Int32} {a0 : Nat} (h1 : y0 = 0 ∨ y0 = 1): cj_res 90 8 [.ref a0, .int x1] [.int y0] (cg_M L f e) = some (.inl (some (.int y0)), cg_M L f e) := by
  exact g_93 (by decide +kernel : kd_ 90 8 = ((93, 0, 0, []), 9)) h1
theorem b_M_lay_0 {L : Nat} {f : cg_G} {e : Nat × Nat} {x1 x2 : Int32} {a0 : Nat} {u3 u4 u5 u6 u7 : Value} (h1 : sh_ a0 = 7): cj_res 91 0 [.ref a0, .int x1, .int x2, u3, u4, u5, u6, u7] [] (cg_M L f e) = cj_res 91 21 [.ref a0, .int x1, .int x2, .int (((nI 8) * x1) + x2), .int (nI 0), .int (nI 1), .int (nI 0), u7] [] (cg_M L (cg_up f a0 18 (nI 0)) e) := by
  refine (g_0 (by decide +kernel : kd_ 91 0 = ((0, 8, 0, []), 2))).trans ?_
  refine (g_2 (by decide +kernel : kd_ 91 2 = ((2, 1, 0, []), 3)) rfl).trans ?_
  refine (g_12 (by decide +kernel : kd_ 91 3 = ((12, 0, 0, []), 4))).trans ?_
  refine (g_2 (by decide +kernel : kd_ 91 4 = ((2, 2, 0, []), 5)) rfl).trans ?_
  refine (g_10 (by decide +kernel : kd_ 91 5 = ((10, 0, 0, []), 6))).trans ?_
  refine (g_4 (ls' := [.ref a0, .int x1, .int x2, .int (((nI 8) * x1) + x2), u4, u5, u6, u7]) (by decide +kernel : kd_ 91 6 = ((4, 3, 0, []), 7)) rfl rfl).trans ?_
  refine (g_3 (by decide +kernel : kd_ 91 7 = ((3, 0, 0, []), 8)) rfl).trans ?_
  refine (g_0 (by decide +kernel : kd_ 91 8 = ((0, 0, 0, []), 9))).trans ?_
  refine (g_51 (x := nI 0) (v := .int (nI 0)) (by decide +kernel : kd_ 91 9 = ((51, 7, 18, [0]), 12)) h1 rfl rfl rfl (sz_7 h1) rfl).trans ?_
  refine (g_0 (by decide +kernel : kd_ 91 12 = ((0, 0, 0, []), 13))).trans ?_
  refine (g_4 (ls' := [.ref a0, .int x1, .int x2, .int (((nI 8) * x1) + x2), .int (nI 0), u5, u6, u7]) (by decide +kernel : kd_ 91 13 = ((4, 4, 0, []), 15)) rfl rfl).trans ?_
  refine (g_0 (by decide +kernel : kd_ 91 15 = ((0, 1, 0, []), 16))).trans ?_
  refine (g_4 (ls' := [.ref a0, .int x1, .int x2, .int (((nI 8) * x1) + x2), .int (nI 0), .int (nI 1), u6, u7]) (by decide +kernel : kd_ 91 16 = ((4, 5, 0, []), 18)) rfl rfl).trans ?_
  refine (g_0 (by decide +kernel : kd_ 91 18 = ((0, 0, 0, []), 19))).trans ?_
  refine (g_4 (ls' := [.ref a0, .int x1, .int x2, .int (((nI 8) * x1) + x2), .int (nI 0), .int (nI 1), .int (nI 0), u7]) (by decide +kernel : kd_ 91 19 = ((4, 6, 0, []), 21)) rfl rfl).trans ?_
  rfl
theorem b_M_lay_21 {L : Nat} {f : cg_G} {e : Nat × Nat} {x1 x2 x3 x4 x5 x6 : Int32} {a0 : Nat} {u7 : Value} (h1 : sh_ a0 = 7): cj_res 91 21 [.ref a0, .int x1, .int x2, .int x3, .int x4, .int x5, .int x6, u7] [] (cg_M L f e) = if (f a0 16) ≤ x6 then cj_res 91 182 [.ref a0, .int x1, .int x2, .int x3, .int x4, .int x5, .int x6, u7] [] (cg_M L f e) else cj_res 91 30 [.ref a0, .int x1, .int x2, .int x3, .int x4, .int x5, .int x6, u7] [] (cg_M L f e) := by
  refine (g_2 (by decide +kernel : kd_ 91 21 = ((2, 6, 0, []), 23)) rfl).trans ?_
  refine (g_3 (by decide +kernel : kd_ 91 23 = ((3, 0, 0, []), 24)) rfl).trans ?_
  refine (g_50 (v := .int (f a0 16)) (by decide +kernel : kd_ 91 24 = ((50, 7, 16, []), 27)) h1 rfl).trans ?_
  exact g_40 (by decide +kernel : kd_ 91 27 = ((40, 182, 0, []), 30))
theorem b_M_lay_30 {L : Nat} {f : cg_G} {e : Nat × Nat} {x1 x2 x3 x4 x5 x6 : Int32} {a0 : Nat} {u7 : Value} (h1 : sh_ a0 = 7) (h2 : cg_in x6 256): cj_res 91 30 [.ref a0, .int x1, .int x2, .int x3, .int x4, .int x5, .int x6, u7] [] (cg_M L f e) = if (f (a0 + 10) x6.toNatClampNeg) = (nI 32) then cj_res 91 176 [.ref a0, .int x1, .int x2, .int x3, .int x4, .int x5, .int x6, u7] [] (cg_M L f e) else cj_res 91 42 [.ref a0, .int x1, .int x2, .int x3, .int x4, .int x5, .int x6, u7] [] (cg_M L f e) := by
  refine (g_3 (by decide +kernel : kd_ 91 30 = ((3, 0, 0, []), 31)) rfl).trans ?_
  refine (g_50 (v := .ref (a0 + 10)) (by decide +kernel : kd_ 91 31 = ((50, 7, 17, []), 34)) h1 rfl).trans ?_
  refine (g_2 (by decide +kernel : kd_ 91 34 = ((2, 6, 0, []), 36)) rfl).trans ?_
  refine (g_54 (v := .int (f (a0 + 10) x6.toNatClampNeg)) (by decide +kernel : kd_ 91 36 = ((54, 0, 0, []), 37)) (sc_7_17 h1) rfl (by rw [sl_7_17 h1]; exact h2) rfl).trans ?_
  refine (g_0 (by decide +kernel : kd_ 91 37 = ((0, 32, 0, []), 39))).trans ?_
  exact g_37 (by decide +kernel : kd_ 91 39 = ((37, 176, 0, []), 42))
theorem b_M_lay_42 {L : Nat} {f : cg_G} {e : Nat × Nat} {x1 x2 x3 x4 x5 x6 : Int32} {a0 : Nat} {u7 : Value} : cj_res 91 42 [.ref a0, .int x1, .int x2, .int x3, .int x4, .int x5, .int x6, u7] [] (cg_M L f e) = if x6 = 0 then cj_res 91 61 [.ref a0, .int x1, .int x2, .int x3, .int x4, .int x5, .int x6, u7] [] (cg_M L f e) else cj_res 91 47 [.ref a0, .int x1, .int x2, .int x3, .int x4, .int x5, .int x6, u7] [] (cg_M L f e) := by
  refine (g_2 (by decide +kernel : kd_ 91 42 = ((2, 6, 0, []), 44)) rfl).trans ?_
  exact g_31 (by decide +kernel : kd_ 91 44 = ((31, 61, 0, []), 47))
theorem b_M_lay_47 {L : Nat} {f : cg_G} {e : Nat × Nat} {x1 x2 x3 x4 x5 x6 : Int32} {a0 : Nat} {u7 : Value} (h1 : sh_ a0 = 7) (h2 : cg_in (x6 - (nI 1)) 256): cj_res 91 47 [.ref a0, .int x1, .int x2, .int x3, .int x4, .int x5, .int x6, u7] [] (cg_M L f e) = if (f (a0 + 10) (x6 - (nI 1)).toNatClampNeg) = (nI 32) then cj_res 91 61 [.ref a0, .int x1, .int x2, .int x3, .int x4, .int x5, .int x6, u7] [] (cg_M L f e) else cj_res 91 107 [.ref a0, .int x1, .int x2, .int x3, .int x4, .int x5, .int x6, u7] [] (cg_M L f e) := by
  refine (g_3 (by decide +kernel : kd_ 91 47 = ((3, 0, 0, []), 48)) rfl).trans ?_
  refine (g_50 (v := .ref (a0 + 10)) (by decide +kernel : kd_ 91 48 = ((50, 7, 17, []), 51)) h1 rfl).trans ?_
  refine (g_2 (by decide +kernel : kd_ 91 51 = ((2, 6, 0, []), 53)) rfl).trans ?_
  refine (g_0 (by decide +kernel : kd_ 91 53 = ((0, 1, 0, []), 54))).trans ?_
  refine (g_11 (by decide +kernel : kd_ 91 54 = ((11, 0, 0, []), 55))).trans ?_
  refine (g_54 (v := .int (f (a0 + 10) (x6 - (nI 1)).toNatClampNeg)) (by decide +kernel : kd_ 91 55 = ((54, 0, 0, []), 56)) (sc_7_17 h1) rfl (by rw [sl_7_17 h1]; exact h2) rfl).trans ?_
  refine (g_0 (by decide +kernel : kd_ 91 56 = ((0, 32, 0, []), 58))).trans ?_
  exact g_38 (by decide +kernel : kd_ 91 58 = ((38, 107, 0, []), 61))
theorem b_M_lay_61 {L : Nat} {f : cg_G} {e : Nat × Nat} {x1 x2 x3 x4 x5 x6 : Int32} {a0 : Nat} {u7 : Value} (h1 : sh_ a0 = 7): cj_res 91 61 [.ref a0, .int x1, .int x2, .int x3, .int x4, .int x5, .int x6, u7] [] (cg_M L f e) = if (f a0 18) ≤ 0 then cj_res 91 86 [.ref a0, .int x1, .int x2, .int x3, .int x4, .int x5, .int x6, u7] [] (cg_M L f e) else cj_res 91 68 [.ref a0, .int x1, .int x2, .int x3, .int x4, .int x5, .int x6, u7] [] (cg_M L f e) := by
  refine (g_3 (by decide +kernel : kd_ 91 61 = ((3, 0, 0, []), 62)) rfl).trans ?_
  refine (g_50 (v := .int (f a0 18)) (by decide +kernel : kd_ 91 62 = ((50, 7, 18, []), 65)) h1 rfl).trans ?_
  exact g_36 (by decide +kernel : kd_ 91 65 = ((36, 86, 0, []), 68))
theorem b_M_lay_68 {L : Nat} {f : cg_G} {e : Nat × Nat} {x1 x2 x3 x4 x5 x6 : Int32} {a0 : Nat} {u7 : Value} (h1 : sh_ a0 = 7) (h2 : cg_in (((nI 240) * x3) + x4) 3840): cj_res 91 68 [.ref a0, .int x1, .int x2, .int x3, .int x4, .int x5, .int x6, u7] [] (cg_M L f e) = cj_res 91 86 [.ref a0, .int x1, .int x2, .int x3, .int (x4 + nI 1), .int x5, .int x6, u7] [] (cg_M L (cg_up f (a0 + 22) (((nI 240) * x3) + x4).toNatClampNeg (nI 32)) e) := by
  refine (g_3 (by decide +kernel : kd_ 91 68 = ((3, 0, 0, []), 69)) rfl).trans ?_
  refine (g_50 (v := .ref (a0 + 22)) (by decide +kernel : kd_ 91 69 = ((50, 7, 31, []), 72)) h1 rfl).trans ?_
  refine (g_0 (by decide +kernel : kd_ 91 72 = ((0, 240, 0, []), 75))).trans ?_
  refine (g_2 (by decide +kernel : kd_ 91 75 = ((2, 3, 0, []), 76)) rfl).trans ?_
  refine (g_12 (by decide +kernel : kd_ 91 76 = ((12, 0, 0, []), 77))).trans ?_
  refine (g_2 (by decide +kernel : kd_ 91 77 = ((2, 4, 0, []), 79)) rfl).trans ?_
  refine (g_10 (by decide +kernel : kd_ 91 79 = ((10, 0, 0, []), 80))).trans ?_
  refine (g_0 (by decide +kernel : kd_ 91 80 = ((0, 32, 0, []), 82))).trans ?_
  refine (g_56 (by decide +kernel : kd_ 91 82 = ((56, 0, 0, []), 83)) (sc_7_31 h1) (fun _ => rfl) (by rw [sl_7_31 h1]; exact h2) (by omega)).trans ?_
  refine (g_6 (ls' := [.ref a0, .int x1, .int x2, .int x3, .int (x4 + nI 1), .int x5, .int x6, u7]) (by decide +kernel : kd_ 91 83 = ((6, 4, 1, []), 86)) rfl rfl).trans ?_
  rfl
theorem b_M_lay_86 {L : Nat} {f : cg_G} {e : Nat × Nat} {x1 x2 x3 x4 x5 x6 : Int32} {a0 : Nat} {u7 : Value} (h1 : sh_ a0 = 7) (h2 : cg_in (f a0 18) 130): cj_res 91 86 [.ref a0, .int x1, .int x2, .int x3, .int x4, .int x5, .int x6, u7] [] (cg_M L f e) = cj_res 91 107 [.ref a0, .int x1, .int x2, .int x3, .int x4, .int x5, .int x6, u7] [] (cg_M L (cg_up (cg_up f (a0 + 11) (f a0 18).toNatClampNeg x4) a0 18 (((cg_up f (a0 + 11) (f a0 18).toNatClampNeg x4) a0 18) + (nI 1))) e) := by
  refine (g_3 (by decide +kernel : kd_ 91 86 = ((3, 0, 0, []), 87)) rfl).trans ?_
  refine (g_50 (v := .ref (a0 + 11)) (by decide +kernel : kd_ 91 87 = ((50, 7, 19, []), 90)) h1 rfl).trans ?_
  refine (g_3 (by decide +kernel : kd_ 91 90 = ((3, 0, 0, []), 91)) rfl).trans ?_
  refine (g_50 (v := .int (f a0 18)) (by decide +kernel : kd_ 91 91 = ((50, 7, 18, []), 94)) h1 rfl).trans ?_
  refine (g_2 (by decide +kernel : kd_ 91 94 = ((2, 4, 0, []), 96)) rfl).trans ?_
  refine (g_56 (by decide +kernel : kd_ 91 96 = ((56, 0, 0, []), 97)) (sc_7_19 h1) (fun _ => rfl) (by rw [sl_7_19 h1]; exact h2) (by omega)).trans ?_
  refine (g_3 (by decide +kernel : kd_ 91 97 = ((3, 0, 0, []), 98)) rfl).trans ?_
  refine (g_25 (by decide +kernel : kd_ 91 98 = ((25, 0, 0, []), 99)) rfl).trans ?_
  refine (g_50 (v := .int ((cg_up f (a0 + 11) (f a0 18).toNatClampNeg x4) a0 18)) (by decide +kernel : kd_ 91 99 = ((50, 7, 18, []), 102)) h1 rfl).trans ?_
  refine (g_0 (by decide +kernel : kd_ 91 102 = ((0, 1, 0, []), 103))).trans ?_
  refine (g_10 (by decide +kernel : kd_ 91 103 = ((10, 0, 0, []), 104))).trans ?_
  refine (g_51 (x := ((cg_up f (a0 + 11) (f a0 18).toNatClampNeg x4) a0 18) + (nI 1)) (v := .int (((cg_up f (a0 + 11) (f a0 18).toNatClampNeg x4) a0 18) + (nI 1))) (by decide +kernel : kd_ 91 104 = ((51, 7, 18, [0]), 107)) h1 rfl rfl rfl (sz_7 h1) rfl).trans ?_
  rfl
theorem b_M_lay_107 {L : Nat} {f : cg_G} {e : Nat × Nat} {x1 x2 x3 x4 x5 x6 : Int32} {a0 : Nat} {u7 : Value} (h1 : sh_ a0 = 7) (h2 : cg_in x6 256) (h3 : cg_in (((nI 240) * x3) + x4) 3840) (h4 : cg_in (((cg_up f (a0 + 22) (((nI 240) * x3) + x4).toNatClampNeg (f (a0 + 10) x6.toNatClampNeg)) a0 18) - (nI 1)) 130): cj_res 91 107 [.ref a0, .int x1, .int x2, .int x3, .int x4, .int x5, .int x6, u7] [] (cg_M L f e) = if x5 = 0 then cj_res 91 173 [.ref a0, .int x1, .int x2, .int x3, .int (x4 + nI 1), .int x5, .int x6, u7] [] (cg_M L (cg_up (cg_up f (a0 + 22) (((nI 240) * x3) + x4).toNatClampNeg (f (a0 + 10) x6.toNatClampNeg)) (a0 + 12) (((cg_up f (a0 + 22) (((nI 240) * x3) + x4).toNatClampNeg (f (a0 + 10) x6.toNatClampNeg)) a0 18) - (nI 1)).toNatClampNeg (x4 + nI 1)) e) else cj_res 91 148 [.ref a0, .int x1, .int x2, .int x3, .int (x4 + nI 1), .int x5, .int x6, u7] [] (cg_M L (cg_up (cg_up f (a0 + 22) (((nI 240) * x3) + x4).toNatClampNeg (f (a0 + 10) x6.toNatClampNeg)) (a0 + 12) (((cg_up f (a0 + 22) (((nI 240) * x3) + x4).toNatClampNeg (f (a0 + 10) x6.toNatClampNeg)) a0 18) - (nI 1)).toNatClampNeg (x4 + nI 1)) e) := by
  refine (g_3 (by decide +kernel : kd_ 91 107 = ((3, 0, 0, []), 108)) rfl).trans ?_
  refine (g_50 (v := .ref (a0 + 22)) (by decide +kernel : kd_ 91 108 = ((50, 7, 31, []), 111)) h1 rfl).trans ?_
  refine (g_0 (by decide +kernel : kd_ 91 111 = ((0, 240, 0, []), 114))).trans ?_
  refine (g_2 (by decide +kernel : kd_ 91 114 = ((2, 3, 0, []), 115)) rfl).trans ?_
  refine (g_12 (by decide +kernel : kd_ 91 115 = ((12, 0, 0, []), 116))).trans ?_
  refine (g_2 (by decide +kernel : kd_ 91 116 = ((2, 4, 0, []), 118)) rfl).trans ?_
  refine (g_10 (by decide +kernel : kd_ 91 118 = ((10, 0, 0, []), 119))).trans ?_
  refine (g_3 (by decide +kernel : kd_ 91 119 = ((3, 0, 0, []), 120)) rfl).trans ?_
  refine (g_50 (v := .ref (a0 + 10)) (by decide +kernel : kd_ 91 120 = ((50, 7, 17, []), 123)) h1 rfl).trans ?_
  refine (g_2 (by decide +kernel : kd_ 91 123 = ((2, 6, 0, []), 125)) rfl).trans ?_
  refine (g_54 (v := .int (f (a0 + 10) x6.toNatClampNeg)) (by decide +kernel : kd_ 91 125 = ((54, 0, 0, []), 126)) (sc_7_17 h1) rfl (by rw [sl_7_17 h1]; exact h2) rfl).trans ?_
  refine (g_56 (by decide +kernel : kd_ 91 126 = ((56, 0, 0, []), 127)) (sc_7_31 h1) (fun _ => rfl) (by rw [sl_7_31 h1]; exact h3) (by omega)).trans ?_
  refine (g_6 (ls' := [.ref a0, .int x1, .int x2, .int x3, .int (x4 + nI 1), .int x5, .int x6, u7]) (by decide +kernel : kd_ 91 127 = ((6, 4, 1, []), 130)) rfl rfl).trans ?_
  refine (g_3 (by decide +kernel : kd_ 91 130 = ((3, 0, 0, []), 131)) rfl).trans ?_
  refine (g_50 (v := .ref (a0 + 12)) (by decide +kernel : kd_ 91 131 = ((50, 7, 20, []), 134)) h1 rfl).trans ?_
  refine (g_3 (by decide +kernel : kd_ 91 134 = ((3, 0, 0, []), 135)) rfl).trans ?_
  refine (g_50 (v := .int ((cg_up f (a0 + 22) (((nI 240) * x3) + x4).toNatClampNeg (f (a0 + 10) x6.toNatClampNeg)) a0 18)) (by decide +kernel : kd_ 91 135 = ((50, 7, 18, []), 138)) h1 rfl).trans ?_
  refine (g_0 (by decide +kernel : kd_ 91 138 = ((0, 1, 0, []), 139))).trans ?_
  refine (g_11 (by decide +kernel : kd_ 91 139 = ((11, 0, 0, []), 140))).trans ?_
  refine (g_2 (by decide +kernel : kd_ 91 140 = ((2, 4, 0, []), 142)) rfl).trans ?_
  refine (g_56 (by decide +kernel : kd_ 91 142 = ((56, 0, 0, []), 143)) (sc_7_20 h1) (fun _ => rfl) (by rw [sl_7_20 h1]; exact h4) (by omega)).trans ?_
  refine (g_2 (by decide +kernel : kd_ 91 143 = ((2, 5, 0, []), 145)) rfl).trans ?_
  exact g_31 (by decide +kernel : kd_ 91 145 = ((31, 173, 0, []), 148))
theorem b_M_lay_148 {L : Nat} {f : cg_G} {e : Nat × Nat} {x1 x2 x3 x4 x5 x6 : Int32} {a0 : Nat} {u7 : Value} (h1 : sh_ a0 = 7) (h2 : cg_in ((f a0 18) - (nI 1)) 130): cj_res 91 148 [.ref a0, .int x1, .int x2, .int x3, .int x4, .int x5, .int x6, u7] [] (cg_M L f e) = if (f a0 0) < (x4 - (f (a0 + 11) ((f a0 18) - (nI 1)).toNatClampNeg)) then cj_res 91 173 [.ref a0, .int x1, .int x2, .int x3, .int x4, .int x5, .int x6, u7] [] (cg_M L f e) else cj_res 91 169 [.ref a0, .int x1, .int x2, .int x3, .int x4, .int x5, .int x6, u7] [] (cg_M L f e) := by
  refine (g_2 (by decide +kernel : kd_ 91 148 = ((2, 4, 0, []), 150)) rfl).trans ?_
  refine (g_3 (by decide +kernel : kd_ 91 150 = ((3, 0, 0, []), 151)) rfl).trans ?_
  refine (g_50 (v := .ref (a0 + 11)) (by decide +kernel : kd_ 91 151 = ((50, 7, 19, []), 154)) h1 rfl).trans ?_
  refine (g_3 (by decide +kernel : kd_ 91 154 = ((3, 0, 0, []), 155)) rfl).trans ?_
  refine (g_50 (v := .int (f a0 18)) (by decide +kernel : kd_ 91 155 = ((50, 7, 18, []), 158)) h1 rfl).trans ?_
  refine (g_0 (by decide +kernel : kd_ 91 158 = ((0, 1, 0, []), 159))).trans ?_
  refine (g_11 (by decide +kernel : kd_ 91 159 = ((11, 0, 0, []), 160))).trans ?_
  refine (g_54 (v := .int (f (a0 + 11) ((f a0 18) - (nI 1)).toNatClampNeg)) (by decide +kernel : kd_ 91 160 = ((54, 0, 0, []), 161)) (sc_7_19 h1) rfl (by rw [sl_7_19 h1]; exact h2) rfl).trans ?_
  refine (g_11 (by decide +kernel : kd_ 91 161 = ((11, 0, 0, []), 162))).trans ?_
  refine (g_3 (by decide +kernel : kd_ 91 162 = ((3, 0, 0, []), 163)) rfl).trans ?_
  refine (g_50 (v := .int (f a0 0)) (by decide +kernel : kd_ 91 163 = ((50, 7, 0, []), 166)) h1 rfl).trans ?_
  exact g_41 (by decide +kernel : kd_ 91 166 = ((41, 173, 0, []), 169))
theorem b_M_lay_169 {L : Nat} {f : cg_G} {e : Nat × Nat} {x1 x2 x3 x4 x5 x6 : Int32} {a0 : Nat} {u7 : Value} : cj_res 91 169 [.ref a0, .int x1, .int x2, .int x3, .int x4, .int x5, .int x6, u7] [] (cg_M L f e) = cj_res 91 174 [.ref a0, .int x1, .int x2, .int x3, .int x4, .int x5, .int x6, u7] [.int (nI 1)] (cg_M L f e) := by
  refine (g_0 (by decide +kernel : kd_ 91 169 = ((0, 1, 0, []), 170))).trans ?_
  refine (g_30 (by decide +kernel : kd_ 91 170 = ((30, 174, 0, []), 173))).trans ?_
  rfl
theorem b_M_lay_173 {L : Nat} {f : cg_G} {e : Nat × Nat} {x1 x2 x3 x4 x5 x6 : Int32} {a0 : Nat} {u7 : Value} : cj_res 91 173 [.ref a0, .int x1, .int x2, .int x3, .int x4, .int x5, .int x6, u7] [] (cg_M L f e) = cj_res 91 174 [.ref a0, .int x1, .int x2, .int x3, .int x4, .int x5, .int x6, u7] [.int (nI 0)] (cg_M L f e) := by
  refine (g_0 (by decide +kernel : kd_ 91 173 = ((0, 0, 0, []), 174))).trans ?_
  rfl
theorem b_M_lay_174 {L : Nat} {f : cg_G} {e : Nat × Nat} {x1 x2 x3 x4 x5 x6 y0 : Int32} {a0 : Nat} {u7 : Value} : cj_res 91 174 [.ref a0, .int x1, .int x2, .int x3, .int x4, .int x5, .int x6, u7] [.int y0] (cg_M L f e) = cj_res 91 176 [.ref a0, .int x1, .int x2, .int x3, .int x4, .int y0, .int x6, u7] [] (cg_M L f e) := by
  refine (g_4 (ls' := [.ref a0, .int x1, .int x2, .int x3, .int x4, .int y0, .int x6, u7]) (by decide +kernel : kd_ 91 174 = ((4, 5, 0, []), 176)) rfl rfl).trans ?_
  rfl
theorem b_M_lay_176 {L : Nat} {f : cg_G} {e : Nat × Nat} {x1 x2 x3 x4 x5 x6 : Int32} {a0 : Nat} {u7 : Value} : cj_res 91 176 [.ref a0, .int x1, .int x2, .int x3, .int x4, .int x5, .int x6, u7] [] (cg_M L f e) = cj_res 91 21 [.ref a0, .int x1, .int x2, .int x3, .int x4, .int x5, .int (x6 + nI 1), u7] [] (cg_M L f e) := by
  refine (g_6 (ls' := [.ref a0, .int x1, .int x2, .int x3, .int x4, .int x5, .int (x6 + nI 1), u7]) (by decide +kernel : kd_ 91 176 = ((6, 6, 1, []), 179)) rfl rfl).trans ?_
  refine (g_30 (by decide +kernel : kd_ 91 179 = ((30, 21, 0, []), 182))).trans ?_
  rfl
theorem b_M_lay_182 {L : Nat} {f : cg_G} {e : Nat × Nat} {x1 x2 x3 x4 x5 x6 : Int32} {a0 : Nat} {u7 : Value} (h1 : sh_ a0 = 7) (h2 : cg_in x3 16): cj_res 91 182 [.ref a0, .int x1, .int x2, .int x3, .int x4, .int x5, .int x6, u7] [] (cg_M L f e) = cj_res 91 197 [.ref a0, .int x1, .int x2, .int x3, .int x4, .int x5, .int (((cg_up f (a0 + 19) x3.toNatClampNeg (nI 0)) a0 18) - (nI 1)), u7] [] (cg_M L (cg_up f (a0 + 19) x3.toNatClampNeg (nI 0)) e) := by
  refine (g_3 (by decide +kernel : kd_ 91 182 = ((3, 0, 0, []), 183)) rfl).trans ?_
  refine (g_50 (v := .ref (a0 + 19)) (by decide +kernel : kd_ 91 183 = ((50, 7, 28, []), 186)) h1 rfl).trans ?_
  refine (g_2 (by decide +kernel : kd_ 91 186 = ((2, 3, 0, []), 187)) rfl).trans ?_
  refine (g_0 (by decide +kernel : kd_ 91 187 = ((0, 0, 0, []), 188))).trans ?_
  refine (g_56 (by decide +kernel : kd_ 91 188 = ((56, 0, 0, []), 189)) (sc_7_28 h1) (fun _ => rfl) (by rw [sl_7_28 h1]; exact h2) (by omega)).trans ?_
  refine (g_3 (by decide +kernel : kd_ 91 189 = ((3, 0, 0, []), 190)) rfl).trans ?_
  refine (g_50 (v := .int ((cg_up f (a0 + 19) x3.toNatClampNeg (nI 0)) a0 18)) (by decide +kernel : kd_ 91 190 = ((50, 7, 18, []), 193)) h1 rfl).trans ?_
  refine (g_0 (by decide +kernel : kd_ 91 193 = ((0, 1, 0, []), 194))).trans ?_
  refine (g_11 (by decide +kernel : kd_ 91 194 = ((11, 0, 0, []), 195))).trans ?_
  refine (g_4 (ls' := [.ref a0, .int x1, .int x2, .int x3, .int x4, .int x5, .int (((cg_up f (a0 + 19) x3.toNatClampNeg (nI 0)) a0 18) - (nI 1)), u7]) (by decide +kernel : kd_ 91 195 = ((4, 6, 0, []), 197)) rfl rfl).trans ?_
  rfl
theorem b_M_lay_197 {L : Nat} {f : cg_G} {e : Nat × Nat} {x1 x2 x3 x4 x5 x6 : Int32} {a0 : Nat} {u7 : Value} : cj_res 91 197 [.ref a0, .int x1, .int x2, .int x3, .int x4, .int x5, .int x6, u7] [] (cg_M L f e) = if x6 < 0 then cj_res 91 219 [.ref a0, .int x1, .int x2, .int x3, .int x4, .int x5, .int x6, u7] [] (cg_M L f e) else cj_res 91 202 [.ref a0, .int x1, .int x2, .int x3, .int x4, .int x5, .int x6, u7] [] (cg_M L f e) := by
  refine (g_2 (by decide +kernel : kd_ 91 197 = ((2, 6, 0, []), 199)) rfl).trans ?_
  exact g_33 (by decide +kernel : kd_ 91 199 = ((33, 219, 0, []), 202))
theorem b_M_lay_202 {L : Nat} {f : cg_G} {e : Nat × Nat} {x1 x2 x3 x4 x5 x6 : Int32} {a0 : Nat} {u7 : Value} : cj_res 91 202 [.ref a0, .int x1, .int x2, .int x3, .int x4, .int x5, .int x6, u7] [] (cg_M L f e) = if x5 = 0 then cj_res 91 219 [.ref a0, .int x1, .int x2, .int x3, .int x4, .int x5, .int x6, u7] [] (cg_M L f e) else cj_res 91 207 [.ref a0, .int x1, .int x2, .int x3, .int x4, .int x5, .int x6, u7] [] (cg_M L f e) := by
  refine (g_2 (by decide +kernel : kd_ 91 202 = ((2, 5, 0, []), 204)) rfl).trans ?_
  exact g_31 (by decide +kernel : kd_ 91 204 = ((31, 219, 0, []), 207))
theorem b_M_lay_207 {L : Nat} {f : cg_G} {e : Nat × Nat} {x1 x2 x3 x4 x5 x6 : Int32} {a0 : Nat} {u7 : Value} (h1 : sh_ a0 = 7): cj_res 91 207 [.ref a0, .int x1, .int x2, .int x3, .int x4, .int x5, .int x6, u7] [] (cg_M L f e) = cj_aft 91 210 213 [.ref a0, .int x1, .int x2, .int x3, .int x4, .int x5, .int x6, u7] [] (cj_ev 54 [.ref a0, .int x6] (cg_M L f e)) := by
  refine (g_3 (by decide +kernel : kd_ 91 207 = ((3, 0, 0, []), 208)) rfl).trans ?_
  refine (g_2 (by decide +kernel : kd_ 91 208 = ((2, 6, 0, []), 210)) rfl).trans ?_
  exact g_80 (by decide +kernel : kd_ 91 210 = ((80, 54, 2, [7]), 213)) rfl h1 rfl rfl rfl
theorem b_M_lay_213 {L : Nat} {f : cg_G} {e : Nat × Nat} {x1 x2 x3 x4 x5 x6 : Int32} {a0 : Nat} {u7 : Value} : cj_res 91 213 [.ref a0, .int x1, .int x2, .int x3, .int x4, .int x5, .int x6, u7] [] (cg_M L f e) = cj_res 91 197 [.ref a0, .int x1, .int x2, .int x3, .int x4, .int x5, .int (x6 + - nI 1), u7] [] (cg_M L f e) := by
  refine (g_7 (ls' := [.ref a0, .int x1, .int x2, .int x3, .int x4, .int x5, .int (x6 + - nI 1), u7]) (by decide +kernel : kd_ 91 213 = ((7, 6, 1, []), 216)) rfl rfl).trans ?_
  refine (g_30 (by decide +kernel : kd_ 91 216 = ((30, 197, 0, []), 219))).trans ?_
  rfl
theorem b_M_lay_219 {L : Nat} {f : cg_G} {e : Nat × Nat} {x1 x2 x3 x4 x5 x6 : Int32} {a0 : Nat} {u7 : Value} : cj_res 91 219 [.ref a0, .int x1, .int x2, .int x3, .int x4, .int x5, .int x6, u7] [] (cg_M L f e) = cj_res 91 222 [.ref a0, .int x1, .int x2, .int x3, .int x4, .int x5, .int (nI 0), u7] [] (cg_M L f e) := by
  refine (g_0 (by decide +kernel : kd_ 91 219 = ((0, 0, 0, []), 220))).trans ?_
  refine (g_4 (ls' := [.ref a0, .int x1, .int x2, .int x3, .int x4, .int x5, .int (nI 0), u7]) (by decide +kernel : kd_ 91 220 = ((4, 6, 0, []), 222)) rfl rfl).trans ?_
  rfl
theorem b_M_lay_222 {L : Nat} {f : cg_G} {e : Nat × Nat} {x1 x2 x3 x4 x5 x6 : Int32} {a0 : Nat} {u7 : Value} (h1 : sh_ a0 = 7): cj_res 91 222 [.ref a0, .int x1, .int x2, .int x3, .int x4, .int x5, .int x6, u7] [] (cg_M L f e) = if (f a0 18) ≤ x6 then cj_res 91 320 [.ref a0, .int x1, .int x2, .int x3, .int x4, .int x5, .int x6, u7] [] (cg_M L f e) else cj_res 91 231 [.ref a0, .int x1, .int x2, .int x3, .int x4, .int x5, .int x6, u7] [] (cg_M L f e) := by
  refine (g_2 (by decide +kernel : kd_ 91 222 = ((2, 6, 0, []), 224)) rfl).trans ?_
  refine (g_3 (by decide +kernel : kd_ 91 224 = ((3, 0, 0, []), 225)) rfl).trans ?_
  refine (g_50 (v := .int (f a0 18)) (by decide +kernel : kd_ 91 225 = ((50, 7, 18, []), 228)) h1 rfl).trans ?_
  exact g_40 (by decide +kernel : kd_ 91 228 = ((40, 320, 0, []), 231))
theorem b_M_lay_231 {L : Nat} {f : cg_G} {e : Nat × Nat} {x1 x2 x3 x4 x5 x6 : Int32} {a0 : Nat} {u7 : Value} : cj_res 91 231 [.ref a0, .int x1, .int x2, .int x3, .int x4, .int x5, .int x6, u7] [] (cg_M L f e) = if x5 = 0 then cj_res 91 320 [.ref a0, .int x1, .int x2, .int x3, .int x4, .int x5, .int x6, u7] [] (cg_M L f e) else cj_res 91 236 [.ref a0, .int x1, .int x2, .int x3, .int x4, .int x5, .int x6, u7] [] (cg_M L f e) := by
  refine (g_2 (by decide +kernel : kd_ 91 231 = ((2, 5, 0, []), 233)) rfl).trans ?_
  exact g_31 (by decide +kernel : kd_ 91 233 = ((31, 320, 0, []), 236))
theorem b_M_lay_236 {L : Nat} {f : cg_G} {e : Nat × Nat} {x1 x2 x3 x4 x5 x6 : Int32} {a0 : Nat} {u7 : Value} (h1 : sh_ a0 = 7) (h2 : cg_in x3 16) (h3 : cg_in x6 130) (h4 : cg_in (((nI 112) * x3) + (f (a0 + 19) x3.toNatClampNeg)) 1792) (h5 : cg_in x6 901) (h6 : cg_in ((x6 + ((cg_up f (a0 + 20) (((nI 112) * x3) + (f (a0 + 19) x3.toNatClampNeg)).toNatClampNeg (f (a0 + 11) x6.toNatClampNeg)) (a0 + 14) x6.toNatClampNeg)) - (nI 1)) 130): cj_res 91 236 [.ref a0, .int x1, .int x2, .int x3, .int x4, .int x5, .int x6, u7] [] (cg_M L f e) = cj_res 91 222 [.ref a0, .int x1, .int x2, .int x3, .int x4, .int x5, .int (x6 + ((cg_up (cg_up (cg_up f (a0 + 20) (((nI 112) * x3) + (f (a0 + 19) x3.toNatClampNeg)).toNatClampNeg (f (a0 + 11) x6.toNatClampNeg)) (a0 + 21) (((nI 112) * x3) + (f (a0 + 19) x3.toNatClampNeg)).toNatClampNeg (((cg_up f (a0 + 20) (((nI 112) * x3) + (f (a0 + 19) x3.toNatClampNeg)).toNatClampNeg (f (a0 + 11) x6.toNatClampNeg)) (a0 + 12) ((x6 + ((cg_up f (a0 + 20) (((nI 112) * x3) + (f (a0 + 19) x3.toNatClampNeg)).toNatClampNeg (f (a0 + 11) x6.toNatClampNeg)) (a0 + 14) x6.toNatClampNeg)) - (nI 1)).toNatClampNeg) - ((cg_up f (a0 + 20) (((nI 112) * x3) + (f (a0 + 19) x3.toNatClampNeg)).toNatClampNeg (f (a0 + 11) x6.toNatClampNeg)) (a0 + 11) x6.toNatClampNeg))) (a0 + 19) x3.toNatClampNeg (((cg_up (cg_up f (a0 + 20) (((nI 112) * x3) + (f (a0 + 19) x3.toNatClampNeg)).toNatClampNeg (f (a0 + 11) x6.toNatClampNeg)) (a0 + 21) (((nI 112) * x3) + (f (a0 + 19) x3.toNatClampNeg)).toNatClampNeg (((cg_up f (a0 + 20) (((nI 112) * x3) + (f (a0 + 19) x3.toNatClampNeg)).toNatClampNeg (f (a0 + 11) x6.toNatClampNeg)) (a0 + 12) ((x6 + ((cg_up f (a0 + 20) (((nI 112) * x3) + (f (a0 + 19) x3.toNatClampNeg)).toNatClampNeg (f (a0 + 11) x6.toNatClampNeg)) (a0 + 14) x6.toNatClampNeg)) - (nI 1)).toNatClampNeg) - ((cg_up f (a0 + 20) (((nI 112) * x3) + (f (a0 + 19) x3.toNatClampNeg)).toNatClampNeg (f (a0 + 11) x6.toNatClampNeg)) (a0 + 11) x6.toNatClampNeg))) (a0 + 19) x3.toNatClampNeg) + (nI 1))) (a0 + 14) x6.toNatClampNeg)), .int (((nI 112) * x3) + (f (a0 + 19) x3.toNatClampNeg))] [] (cg_M L (cg_up (cg_up (cg_up f (a0 + 20) (((nI 112) * x3) + (f (a0 + 19) x3.toNatClampNeg)).toNatClampNeg (f (a0 + 11) x6.toNatClampNeg)) (a0 + 21) (((nI 112) * x3) + (f (a0 + 19) x3.toNatClampNeg)).toNatClampNeg (((cg_up f (a0 + 20) (((nI 112) * x3) + (f (a0 + 19) x3.toNatClampNeg)).toNatClampNeg (f (a0 + 11) x6.toNatClampNeg)) (a0 + 12) ((x6 + ((cg_up f (a0 + 20) (((nI 112) * x3) + (f (a0 + 19) x3.toNatClampNeg)).toNatClampNeg (f (a0 + 11) x6.toNatClampNeg)) (a0 + 14) x6.toNatClampNeg)) - (nI 1)).toNatClampNeg) - ((cg_up f (a0 + 20) (((nI 112) * x3) + (f (a0 + 19) x3.toNatClampNeg)).toNatClampNeg (f (a0 + 11) x6.toNatClampNeg)) (a0 + 11) x6.toNatClampNeg))) (a0 + 19) x3.toNatClampNeg (((cg_up (cg_up f (a0 + 20) (((nI 112) * x3) + (f (a0 + 19) x3.toNatClampNeg)).toNatClampNeg (f (a0 + 11) x6.toNatClampNeg)) (a0 + 21) (((nI 112) * x3) + (f (a0 + 19) x3.toNatClampNeg)).toNatClampNeg (((cg_up f (a0 + 20) (((nI 112) * x3) + (f (a0 + 19) x3.toNatClampNeg)).toNatClampNeg (f (a0 + 11) x6.toNatClampNeg)) (a0 + 12) ((x6 + ((cg_up f (a0 + 20) (((nI 112) * x3) + (f (a0 + 19) x3.toNatClampNeg)).toNatClampNeg (f (a0 + 11) x6.toNatClampNeg)) (a0 + 14) x6.toNatClampNeg)) - (nI 1)).toNatClampNeg) - ((cg_up f (a0 + 20) (((nI 112) * x3) + (f (a0 + 19) x3.toNatClampNeg)).toNatClampNeg (f (a0 + 11) x6.toNatClampNeg)) (a0 + 11) x6.toNatClampNeg))) (a0 + 19) x3.toNatClampNeg) + (nI 1))) e) := by
  refine (g_0 (by decide +kernel : kd_ 91 236 = ((0, 112, 0, []), 238))).trans ?_
  refine (g_2 (by decide +kernel : kd_ 91 238 = ((2, 3, 0, []), 239)) rfl).trans ?_
  refine (g_12 (by decide +kernel : kd_ 91 239 = ((12, 0, 0, []), 240))).trans ?_
  refine (g_3 (by decide +kernel : kd_ 91 240 = ((3, 0, 0, []), 241)) rfl).trans ?_
  refine (g_50 (v := .ref (a0 + 19)) (by decide +kernel : kd_ 91 241 = ((50, 7, 28, []), 244)) h1 rfl).trans ?_
  refine (g_2 (by decide +kernel : kd_ 91 244 = ((2, 3, 0, []), 245)) rfl).trans ?_
  refine (g_54 (v := .int (f (a0 + 19) x3.toNatClampNeg)) (by decide +kernel : kd_ 91 245 = ((54, 0, 0, []), 246)) (sc_7_28 h1) rfl (by rw [sl_7_28 h1]; exact h2) rfl).trans ?_
  refine (g_10 (by decide +kernel : kd_ 91 246 = ((10, 0, 0, []), 247))).trans ?_
  refine (g_4 (ls' := [.ref a0, .int x1, .int x2, .int x3, .int x4, .int x5, .int x6, .int (((nI 112) * x3) + (f (a0 + 19) x3.toNatClampNeg))]) (by decide +kernel : kd_ 91 247 = ((4, 7, 0, []), 249)) rfl rfl).trans ?_
  refine (g_3 (by decide +kernel : kd_ 91 249 = ((3, 0, 0, []), 250)) rfl).trans ?_
  refine (g_50 (v := .ref (a0 + 20)) (by decide +kernel : kd_ 91 250 = ((50, 7, 29, []), 253)) h1 rfl).trans ?_
  refine (g_2 (by decide +kernel : kd_ 91 253 = ((2, 7, 0, []), 255)) rfl).trans ?_
  refine (g_3 (by decide +kernel : kd_ 91 255 = ((3, 0, 0, []), 256)) rfl).trans ?_
  refine (g_50 (v := .ref (a0 + 11)) (by decide +kernel : kd_ 91 256 = ((50, 7, 19, []), 259)) h1 rfl).trans ?_
  refine (g_2 (by decide +kernel : kd_ 91 259 = ((2, 6, 0, []), 261)) rfl).trans ?_
  refine (g_54 (v := .int (f (a0 + 11) x6.toNatClampNeg)) (by decide +kernel : kd_ 91 261 = ((54, 0, 0, []), 262)) (sc_7_19 h1) rfl (by rw [sl_7_19 h1]; exact h3) rfl).trans ?_
  refine (g_56 (by decide +kernel : kd_ 91 262 = ((56, 0, 0, []), 263)) (sc_7_29 h1) (fun _ => rfl) (by rw [sl_7_29 h1]; exact h4) (by omega)).trans ?_
  refine (g_3 (by decide +kernel : kd_ 91 263 = ((3, 0, 0, []), 264)) rfl).trans ?_
  refine (g_50 (v := .ref (a0 + 21)) (by decide +kernel : kd_ 91 264 = ((50, 7, 30, []), 267)) h1 rfl).trans ?_
  refine (g_2 (by decide +kernel : kd_ 91 267 = ((2, 7, 0, []), 269)) rfl).trans ?_
  refine (g_3 (by decide +kernel : kd_ 91 269 = ((3, 0, 0, []), 270)) rfl).trans ?_
  refine (g_50 (v := .ref (a0 + 12)) (by decide +kernel : kd_ 91 270 = ((50, 7, 20, []), 273)) h1 rfl).trans ?_
  refine (g_2 (by decide +kernel : kd_ 91 273 = ((2, 6, 0, []), 275)) rfl).trans ?_
  refine (g_3 (by decide +kernel : kd_ 91 275 = ((3, 0, 0, []), 276)) rfl).trans ?_
  refine (g_50 (v := .ref (a0 + 14)) (by decide +kernel : kd_ 91 276 = ((50, 7, 22, []), 279)) h1 rfl).trans ?_
  refine (g_2 (by decide +kernel : kd_ 91 279 = ((2, 6, 0, []), 281)) rfl).trans ?_
  refine (g_54 (v := .int ((cg_up f (a0 + 20) (((nI 112) * x3) + (f (a0 + 19) x3.toNatClampNeg)).toNatClampNeg (f (a0 + 11) x6.toNatClampNeg)) (a0 + 14) x6.toNatClampNeg)) (by decide +kernel : kd_ 91 281 = ((54, 0, 0, []), 282)) (sc_7_22 h1) rfl (by rw [sl_7_22 h1]; exact h5) rfl).trans ?_
  refine (g_10 (by decide +kernel : kd_ 91 282 = ((10, 0, 0, []), 283))).trans ?_
  refine (g_0 (by decide +kernel : kd_ 91 283 = ((0, 1, 0, []), 284))).trans ?_
  refine (g_11 (by decide +kernel : kd_ 91 284 = ((11, 0, 0, []), 285))).trans ?_
  refine (g_54 (v := .int ((cg_up f (a0 + 20) (((nI 112) * x3) + (f (a0 + 19) x3.toNatClampNeg)).toNatClampNeg (f (a0 + 11) x6.toNatClampNeg)) (a0 + 12) ((x6 + ((cg_up f (a0 + 20) (((nI 112) * x3) + (f (a0 + 19) x3.toNatClampNeg)).toNatClampNeg (f (a0 + 11) x6.toNatClampNeg)) (a0 + 14) x6.toNatClampNeg)) - (nI 1)).toNatClampNeg)) (by decide +kernel : kd_ 91 285 = ((54, 0, 0, []), 286)) (sc_7_20 h1) rfl (by rw [sl_7_20 h1]; exact h6) rfl).trans ?_
  refine (g_3 (by decide +kernel : kd_ 91 286 = ((3, 0, 0, []), 287)) rfl).trans ?_
  refine (g_50 (v := .ref (a0 + 11)) (by decide +kernel : kd_ 91 287 = ((50, 7, 19, []), 290)) h1 rfl).trans ?_
  refine (g_2 (by decide +kernel : kd_ 91 290 = ((2, 6, 0, []), 292)) rfl).trans ?_
  refine (g_54 (v := .int ((cg_up f (a0 + 20) (((nI 112) * x3) + (f (a0 + 19) x3.toNatClampNeg)).toNatClampNeg (f (a0 + 11) x6.toNatClampNeg)) (a0 + 11) x6.toNatClampNeg)) (by decide +kernel : kd_ 91 292 = ((54, 0, 0, []), 293)) (sc_7_19 h1) rfl (by rw [sl_7_19 h1]; exact h3) rfl).trans ?_
  refine (g_11 (by decide +kernel : kd_ 91 293 = ((11, 0, 0, []), 294))).trans ?_
  refine (g_56 (by decide +kernel : kd_ 91 294 = ((56, 0, 0, []), 295)) (sc_7_30 h1) (fun _ => rfl) (by rw [sl_7_30 h1]; exact h4) (by omega)).trans ?_
  refine (g_3 (by decide +kernel : kd_ 91 295 = ((3, 0, 0, []), 296)) rfl).trans ?_
  refine (g_50 (v := .ref (a0 + 19)) (by decide +kernel : kd_ 91 296 = ((50, 7, 28, []), 299)) h1 rfl).trans ?_
  refine (g_2 (by decide +kernel : kd_ 91 299 = ((2, 3, 0, []), 300)) rfl).trans ?_
  refine (g_28 (by decide +kernel : kd_ 91 300 = ((28, 0, 0, []), 301)) rfl rfl).trans ?_
  refine (g_54 (v := .int ((cg_up (cg_up f (a0 + 20) (((nI 112) * x3) + (f (a0 + 19) x3.toNatClampNeg)).toNatClampNeg (f (a0 + 11) x6.toNatClampNeg)) (a0 + 21) (((nI 112) * x3) + (f (a0 + 19) x3.toNatClampNeg)).toNatClampNeg (((cg_up f (a0 + 20) (((nI 112) * x3) + (f (a0 + 19) x3.toNatClampNeg)).toNatClampNeg (f (a0 + 11) x6.toNatClampNeg)) (a0 + 12) ((x6 + ((cg_up f (a0 + 20) (((nI 112) * x3) + (f (a0 + 19) x3.toNatClampNeg)).toNatClampNeg (f (a0 + 11) x6.toNatClampNeg)) (a0 + 14) x6.toNatClampNeg)) - (nI 1)).toNatClampNeg) - ((cg_up f (a0 + 20) (((nI 112) * x3) + (f (a0 + 19) x3.toNatClampNeg)).toNatClampNeg (f (a0 + 11) x6.toNatClampNeg)) (a0 + 11) x6.toNatClampNeg))) (a0 + 19) x3.toNatClampNeg)) (by decide +kernel : kd_ 91 301 = ((54, 0, 0, []), 302)) (sc_7_28 h1) rfl (by rw [sl_7_28 h1]; exact h2) rfl).trans ?_
  refine (g_0 (by decide +kernel : kd_ 91 302 = ((0, 1, 0, []), 303))).trans ?_
  refine (g_10 (by decide +kernel : kd_ 91 303 = ((10, 0, 0, []), 304))).trans ?_
  refine (g_56 (by decide +kernel : kd_ 91 304 = ((56, 0, 0, []), 305)) (sc_7_28 h1) (fun _ => rfl) (by rw [sl_7_28 h1]; exact h2) (by omega)).trans ?_
  refine (g_2 (by decide +kernel : kd_ 91 305 = ((2, 6, 0, []), 307)) rfl).trans ?_
  refine (g_3 (by decide +kernel : kd_ 91 307 = ((3, 0, 0, []), 308)) rfl).trans ?_
  refine (g_50 (v := .ref (a0 + 14)) (by decide +kernel : kd_ 91 308 = ((50, 7, 22, []), 311)) h1 rfl).trans ?_
  refine (g_2 (by decide +kernel : kd_ 91 311 = ((2, 6, 0, []), 313)) rfl).trans ?_
  refine (g_54 (v := .int ((cg_up (cg_up (cg_up f (a0 + 20) (((nI 112) * x3) + (f (a0 + 19) x3.toNatClampNeg)).toNatClampNeg (f (a0 + 11) x6.toNatClampNeg)) (a0 + 21) (((nI 112) * x3) + (f (a0 + 19) x3.toNatClampNeg)).toNatClampNeg (((cg_up f (a0 + 20) (((nI 112) * x3) + (f (a0 + 19) x3.toNatClampNeg)).toNatClampNeg (f (a0 + 11) x6.toNatClampNeg)) (a0 + 12) ((x6 + ((cg_up f (a0 + 20) (((nI 112) * x3) + (f (a0 + 19) x3.toNatClampNeg)).toNatClampNeg (f (a0 + 11) x6.toNatClampNeg)) (a0 + 14) x6.toNatClampNeg)) - (nI 1)).toNatClampNeg) - ((cg_up f (a0 + 20) (((nI 112) * x3) + (f (a0 + 19) x3.toNatClampNeg)).toNatClampNeg (f (a0 + 11) x6.toNatClampNeg)) (a0 + 11) x6.toNatClampNeg))) (a0 + 19) x3.toNatClampNeg (((cg_up (cg_up f (a0 + 20) (((nI 112) * x3) + (f (a0 + 19) x3.toNatClampNeg)).toNatClampNeg (f (a0 + 11) x6.toNatClampNeg)) (a0 + 21) (((nI 112) * x3) + (f (a0 + 19) x3.toNatClampNeg)).toNatClampNeg (((cg_up f (a0 + 20) (((nI 112) * x3) + (f (a0 + 19) x3.toNatClampNeg)).toNatClampNeg (f (a0 + 11) x6.toNatClampNeg)) (a0 + 12) ((x6 + ((cg_up f (a0 + 20) (((nI 112) * x3) + (f (a0 + 19) x3.toNatClampNeg)).toNatClampNeg (f (a0 + 11) x6.toNatClampNeg)) (a0 + 14) x6.toNatClampNeg)) - (nI 1)).toNatClampNeg) - ((cg_up f (a0 + 20) (((nI 112) * x3) + (f (a0 + 19) x3.toNatClampNeg)).toNatClampNeg (f (a0 + 11) x6.toNatClampNeg)) (a0 + 11) x6.toNatClampNeg))) (a0 + 19) x3.toNatClampNeg) + (nI 1))) (a0 + 14) x6.toNatClampNeg)) (by decide +kernel : kd_ 91 313 = ((54, 0, 0, []), 314)) (sc_7_22 h1) rfl (by rw [sl_7_22 h1]; exact h5) rfl).trans ?_
  refine (g_10 (by decide +kernel : kd_ 91 314 = ((10, 0, 0, []), 315))).trans ?_
  refine (g_4 (ls' := [.ref a0, .int x1, .int x2, .int x3, .int x4, .int x5, .int (x6 + ((cg_up (cg_up (cg_up f (a0 + 20) (((nI 112) * x3) + (f (a0 + 19) x3.toNatClampNeg)).toNatClampNeg (f (a0 + 11) x6.toNatClampNeg)) (a0 + 21) (((nI 112) * x3) + (f (a0 + 19) x3.toNatClampNeg)).toNatClampNeg (((cg_up f (a0 + 20) (((nI 112) * x3) + (f (a0 + 19) x3.toNatClampNeg)).toNatClampNeg (f (a0 + 11) x6.toNatClampNeg)) (a0 + 12) ((x6 + ((cg_up f (a0 + 20) (((nI 112) * x3) + (f (a0 + 19) x3.toNatClampNeg)).toNatClampNeg (f (a0 + 11) x6.toNatClampNeg)) (a0 + 14) x6.toNatClampNeg)) - (nI 1)).toNatClampNeg) - ((cg_up f (a0 + 20) (((nI 112) * x3) + (f (a0 + 19) x3.toNatClampNeg)).toNatClampNeg (f (a0 + 11) x6.toNatClampNeg)) (a0 + 11) x6.toNatClampNeg))) (a0 + 19) x3.toNatClampNeg (((cg_up (cg_up f (a0 + 20) (((nI 112) * x3) + (f (a0 + 19) x3.toNatClampNeg)).toNatClampNeg (f (a0 + 11) x6.toNatClampNeg)) (a0 + 21) (((nI 112) * x3) + (f (a0 + 19) x3.toNatClampNeg)).toNatClampNeg (((cg_up f (a0 + 20) (((nI 112) * x3) + (f (a0 + 19) x3.toNatClampNeg)).toNatClampNeg (f (a0 + 11) x6.toNatClampNeg)) (a0 + 12) ((x6 + ((cg_up f (a0 + 20) (((nI 112) * x3) + (f (a0 + 19) x3.toNatClampNeg)).toNatClampNeg (f (a0 + 11) x6.toNatClampNeg)) (a0 + 14) x6.toNatClampNeg)) - (nI 1)).toNatClampNeg) - ((cg_up f (a0 + 20) (((nI 112) * x3) + (f (a0 + 19) x3.toNatClampNeg)).toNatClampNeg (f (a0 + 11) x6.toNatClampNeg)) (a0 + 11) x6.toNatClampNeg))) (a0 + 19) x3.toNatClampNeg) + (nI 1))) (a0 + 14) x6.toNatClampNeg)), .int (((nI 112) * x3) + (f (a0 + 19) x3.toNatClampNeg))]) (by decide +kernel : kd_ 91 315 = ((4, 6, 0, []), 317)) rfl rfl).trans ?_
  refine (g_30 (by decide +kernel : kd_ 91 317 = ((30, 222, 0, []), 320))).trans ?_
  rfl
theorem b_M_lay_320 {L : Nat} {f : cg_G} {e : Nat × Nat} {x1 x2 x3 x4 x5 x6 : Int32} {a0 : Nat} {u7 : Value} (h1 : sh_ a0 = 7) (h2 : cg_in (((nI 5) * x1) + (nI 3)) 10): cj_res 91 320 [.ref a0, .int x1, .int x2, .int x3, .int x4, .int x5, .int x6, u7] [] (cg_M L f e) = if (f a0 18) ≤ 0 then cj_res 91 360 [.ref a0, .int x1, .int x2, .int x3, .int x4, .int x5, .int x6, u7] [.int (f (a0 + 16) (((nI 5) * x1) + (nI 3)).toNatClampNeg), .int (((nI 5) * x1) + (nI 3)), .ref (a0 + 16)] (cg_M L f e) else cj_res 91 346 [.ref a0, .int x1, .int x2, .int x3, .int x4, .int x5, .int x6, u7] [.int (f (a0 + 16) (((nI 5) * x1) + (nI 3)).toNatClampNeg), .int (((nI 5) * x1) + (nI 3)), .ref (a0 + 16)] (cg_M L f e) := by
  refine (g_3 (by decide +kernel : kd_ 91 320 = ((3, 0, 0, []), 321)) rfl).trans ?_
  refine (g_50 (v := .ref (a0 + 16)) (by decide +kernel : kd_ 91 321 = ((50, 7, 25, []), 324)) h1 rfl).trans ?_
  refine (g_0 (by decide +kernel : kd_ 91 324 = ((0, 5, 0, []), 325))).trans ?_
  refine (g_2 (by decide +kernel : kd_ 91 325 = ((2, 1, 0, []), 326)) rfl).trans ?_
  refine (g_12 (by decide +kernel : kd_ 91 326 = ((12, 0, 0, []), 327))).trans ?_
  refine (g_0 (by decide +kernel : kd_ 91 327 = ((0, 3, 0, []), 328))).trans ?_
  refine (g_10 (by decide +kernel : kd_ 91 328 = ((10, 0, 0, []), 329))).trans ?_
  refine (g_3 (by decide +kernel : kd_ 91 329 = ((3, 0, 0, []), 330)) rfl).trans ?_
  refine (g_50 (v := .ref (a0 + 16)) (by decide +kernel : kd_ 91 330 = ((50, 7, 25, []), 333)) h1 rfl).trans ?_
  refine (g_0 (by decide +kernel : kd_ 91 333 = ((0, 5, 0, []), 334))).trans ?_
  refine (g_2 (by decide +kernel : kd_ 91 334 = ((2, 1, 0, []), 335)) rfl).trans ?_
  refine (g_12 (by decide +kernel : kd_ 91 335 = ((12, 0, 0, []), 336))).trans ?_
  refine (g_0 (by decide +kernel : kd_ 91 336 = ((0, 3, 0, []), 337))).trans ?_
  refine (g_10 (by decide +kernel : kd_ 91 337 = ((10, 0, 0, []), 338))).trans ?_
  refine (g_54 (v := .int (f (a0 + 16) (((nI 5) * x1) + (nI 3)).toNatClampNeg)) (by decide +kernel : kd_ 91 338 = ((54, 0, 0, []), 339)) (sc_7_25 h1) rfl (by rw [sl_7_25 h1]; exact h2) rfl).trans ?_
  refine (g_3 (by decide +kernel : kd_ 91 339 = ((3, 0, 0, []), 340)) rfl).trans ?_
  refine (g_50 (v := .int (f a0 18)) (by decide +kernel : kd_ 91 340 = ((50, 7, 18, []), 343)) h1 rfl).trans ?_
  exact g_36 (by decide +kernel : kd_ 91 343 = ((36, 360, 0, []), 346))
theorem b_M_lay_346 {L : Nat} {f : cg_G} {e : Nat × Nat} {x1 x2 x3 x4 x5 x6 y0 y1 : Int32} {a0 c2 : Nat} {u7 : Value} : cj_res 91 346 [.ref a0, .int x1, .int x2, .int x3, .int x4, .int x5, .int x6, u7] [.int y0, .int y1, .ref c2] (cg_M L f e) = if x5 = 0 then cj_res 91 360 [.ref a0, .int x1, .int x2, .int x3, .int x4, .int x5, .int x6, u7] [.int y0, .int y1, .ref c2] (cg_M L f e) else cj_res 91 351 [.ref a0, .int x1, .int x2, .int x3, .int x4, .int x5, .int x6, u7] [.int y0, .int y1, .ref c2] (cg_M L f e) := by
  refine (g_2 (by decide +kernel : kd_ 91 346 = ((2, 5, 0, []), 348)) rfl).trans ?_
  exact g_31 (by decide +kernel : kd_ 91 348 = ((31, 360, 0, []), 351))
theorem b_M_lay_351 {L : Nat} {f : cg_G} {e : Nat × Nat} {x1 x2 x3 x4 x5 x6 y0 y1 : Int32} {a0 c2 : Nat} {u7 : Value} (h1 : sh_ a0 = 7) (h2 : cg_in (nI 0) 901): cj_res 91 351 [.ref a0, .int x1, .int x2, .int x3, .int x4, .int x5, .int x6, u7] [.int y0, .int y1, .ref c2] (cg_M L f e) = cj_res 91 361 [.ref a0, .int x1, .int x2, .int x3, .int x4, .int x5, .int x6, u7] [.int (f (a0 + 13) (nI 0).toNatClampNeg), .int y0, .int y1, .ref c2] (cg_M L f e) := by
  refine (g_3 (by decide +kernel : kd_ 91 351 = ((3, 0, 0, []), 352)) rfl).trans ?_
  refine (g_50 (v := .ref (a0 + 13)) (by decide +kernel : kd_ 91 352 = ((50, 7, 21, []), 355)) h1 rfl).trans ?_
  refine (g_0 (by decide +kernel : kd_ 91 355 = ((0, 0, 0, []), 356))).trans ?_
  refine (g_54 (v := .int (f (a0 + 13) (nI 0).toNatClampNeg)) (by decide +kernel : kd_ 91 356 = ((54, 0, 0, []), 357)) (sc_7_21 h1) rfl (by rw [sl_7_21 h1]; exact h2) rfl).trans ?_
  refine (g_30 (by decide +kernel : kd_ 91 357 = ((30, 361, 0, []), 360))).trans ?_
  rfl
theorem b_M_lay_360 {L : Nat} {f : cg_G} {e : Nat × Nat} {x1 x2 x3 x4 x5 x6 y0 y1 : Int32} {a0 c2 : Nat} {u7 : Value} : cj_res 91 360 [.ref a0, .int x1, .int x2, .int x3, .int x4, .int x5, .int x6, u7] [.int y0, .int y1, .ref c2] (cg_M L f e) = cj_res 91 361 [.ref a0, .int x1, .int x2, .int x3, .int x4, .int x5, .int x6, u7] [.int (nI 0), .int y0, .int y1, .ref c2] (cg_M L f e) := by
  refine (g_0 (by decide +kernel : kd_ 91 360 = ((0, 0, 0, []), 361))).trans ?_
  rfl
theorem b_M_lay_361 {L : Nat} {f : cg_G} {e : Nat × Nat} {x1 x2 x3 x4 x5 x6 y0 y1 y2 : Int32} {a0 c3 : Nat} {u7 : Value} (h1 : sh_ c3 = 100) (h2 : cg_in y2 (ln_ L c3)) (h3 : c3 ≠ 0) (h4 : x5 = 0 ∨ x5 = 1): cj_res 91 361 [.ref a0, .int x1, .int x2, .int x3, .int x4, .int x5, .int x6, u7] [.int y0, .int y1, .int y2, .ref c3] (cg_M L f e) = some (.inl (some (.int x5)), cg_M L (cg_up f c3 y2.toNatClampNeg (y1 + y0)) e) := by
  refine (g_10 (by decide +kernel : kd_ 91 361 = ((10, 0, 0, []), 362))).trans ?_
  refine (g_56 (by decide +kernel : kd_ 91 362 = ((56, 0, 0, []), 363)) h1 (fun _ => rfl) h2 h3).trans ?_
  refine (g_2 (by decide +kernel : kd_ 91 363 = ((2, 5, 0, []), 365)) rfl).trans ?_
  exact g_93 (by decide +kernel : kd_ 91 365 = ((93, 0, 0, []), 366)) h4
theorem b_M_line_0 {L : Nat} {f : cg_G} {e : Nat × Nat} {x1 x2 x3 : Int32} {a0 : Nat} {u4 u5 u6 u7 : Value} (h1 : sh_ a0 = 7): cj_res 92 0 [.ref a0, .int x1, .int x2, .int x3, u4, u5, u6, u7] [] (cg_M L f e) = cj_aft 92 5 8 [.ref a0, .int x1, .int x2, .int x3, u4, u5, u6, u7] [] (cj_ev 44 [.int x2, .int (f a0 1)] (cg_M L f e)) := by
  refine (g_2 (by decide +kernel : kd_ 92 0 = ((2, 2, 0, []), 1)) rfl).trans ?_
  refine (g_3 (by decide +kernel : kd_ 92 1 = ((3, 0, 0, []), 2)) rfl).trans ?_
  refine (g_50 (v := .int (f a0 1)) (by decide +kernel : kd_ 92 2 = ((50, 7, 1, []), 5)) h1 rfl).trans ?_
  exact g_81 (by decide +kernel : kd_ 92 5 = ((81, 44, 2, []), 8)) rfl rfl rfl
theorem b_M_line_8 {L : Nat} {f : cg_G} {e : Nat × Nat} {x1 x2 x3 y0 : Int32} {a0 : Nat} {u4 u5 u6 u7 : Value} : cj_res 92 8 [.ref a0, .int x1, .int x2, .int x3, u4, u5, u6, u7] [.int y0] (cg_M L f e) = if y0 = 0 then cj_res 92 51 [.ref a0, .int x1, .int x2, .int x3, u4, u5, u6, u7] [] (cg_M L f e) else cj_res 92 11 [.ref a0, .int x1, .int x2, .int x3, u4, u5, u6, u7] [] (cg_M L f e) := by
  exact g_31 (by decide +kernel : kd_ 92 8 = ((31, 51, 0, []), 11))
theorem b_M_line_11 {L : Nat} {f : cg_G} {e : Nat × Nat} {x1 x2 x3 : Int32} {a0 : Nat} {u4 u5 u6 u7 : Value} : cj_res 92 11 [.ref a0, .int x1, .int x2, .int x3, u4, u5, u6, u7] [] (cg_M L f e) = cj_aft 92 13 16 [.ref a0, .int x1, .int x2, .int x3, u4, u5, u6, u7] [] (cj_ev 44 [.int x3, .int (nI 2)] (cg_M L f e)) := by
  refine (g_2 (by decide +kernel : kd_ 92 11 = ((2, 3, 0, []), 12)) rfl).trans ?_
  refine (g_0 (by decide +kernel : kd_ 92 12 = ((0, 2, 0, []), 13))).trans ?_
  exact g_81 (by decide +kernel : kd_ 92 13 = ((81, 44, 2, []), 16)) rfl rfl rfl
theorem b_M_line_16 {L : Nat} {f : cg_G} {e : Nat × Nat} {x1 x2 x3 y0 : Int32} {a0 : Nat} {u4 u5 u6 u7 : Value} : cj_res 92 16 [.ref a0, .int x1, .int x2, .int x3, u4, u5, u6, u7] [.int y0] (cg_M L f e) = if y0 = 0 then cj_res 92 51 [.ref a0, .int x1, .int x2, .int x3, u4, u5, u6, u7] [] (cg_M L f e) else cj_res 92 19 [.ref a0, .int x1, .int x2, .int x3, u4, u5, u6, u7] [] (cg_M L f e) := by
  exact g_31 (by decide +kernel : kd_ 92 16 = ((31, 51, 0, []), 19))
theorem b_M_line_19 {L : Nat} {f : cg_G} {e : Nat × Nat} {x1 x2 x3 : Int32} {a0 : Nat} {u4 u5 u6 u7 : Value} (h1 : sh_ a0 = 7): cj_res 92 19 [.ref a0, .int x1, .int x2, .int x3, u4, u5, u6, u7] [] (cg_M L f e) = if (f a0 23) = (- nI 1) then cj_res 92 47 [.ref a0, .int x1, .int x2, .int x3, u4, u5, u6, u7] [] (cg_M L f e) else cj_res 92 27 [.ref a0, .int x1, .int x2, .int x3, u4, u5, u6, u7] [] (cg_M L f e) := by
  refine (g_3 (by decide +kernel : kd_ 92 19 = ((3, 0, 0, []), 20)) rfl).trans ?_
  refine (g_50 (v := .int (f a0 23)) (by decide +kernel : kd_ 92 20 = ((50, 7, 23, []), 23)) h1 rfl).trans ?_
  refine (g_1 (by decide +kernel : kd_ 92 23 = ((1, 1, 0, []), 24))).trans ?_
  exact g_37 (by decide +kernel : kd_ 92 24 = ((37, 47, 0, []), 27))
theorem b_M_line_27 {L : Nat} {f : cg_G} {e : Nat × Nat} {x1 x2 x3 : Int32} {a0 : Nat} {u4 u5 u6 u7 : Value} : cj_res 92 27 [.ref a0, .int x1, .int x2, .int x3, u4, u5, u6, u7] [] (cg_M L f e) = if x1 < (nI 1) then cj_res 92 51 [.ref a0, .int x1, .int x2, .int x3, u4, u5, u6, u7] [] (cg_M L f e) else cj_res 92 32 [.ref a0, .int x1, .int x2, .int x3, u4, u5, u6, u7] [] (cg_M L f e) := by
  refine (g_2 (by decide +kernel : kd_ 92 27 = ((2, 1, 0, []), 28)) rfl).trans ?_
  refine (g_0 (by decide +kernel : kd_ 92 28 = ((0, 1, 0, []), 29))).trans ?_
  exact g_39 (by decide +kernel : kd_ 92 29 = ((39, 51, 0, []), 32))
theorem b_M_line_32 {L : Nat} {f : cg_G} {e : Nat × Nat} {x1 x2 x3 : Int32} {a0 : Nat} {u4 u5 u6 u7 : Value} (h1 : sh_ a0 = 7) (h2 : cg_in ((nI 5) * (f a0 23)) 10): cj_res 92 32 [.ref a0, .int x1, .int x2, .int x3, u4, u5, u6, u7] [] (cg_M L f e) = if (f (a0 + 16) ((nI 5) * (f a0 23)).toNatClampNeg) < x1 then cj_res 92 51 [.ref a0, .int x1, .int x2, .int x3, u4, u5, u6, u7] [] (cg_M L f e) else cj_res 92 47 [.ref a0, .int x1, .int x2, .int x3, u4, u5, u6, u7] [] (cg_M L f e) := by
  refine (g_2 (by decide +kernel : kd_ 92 32 = ((2, 1, 0, []), 33)) rfl).trans ?_
  refine (g_3 (by decide +kernel : kd_ 92 33 = ((3, 0, 0, []), 34)) rfl).trans ?_
  refine (g_50 (v := .ref (a0 + 16)) (by decide +kernel : kd_ 92 34 = ((50, 7, 25, []), 37)) h1 rfl).trans ?_
  refine (g_0 (by decide +kernel : kd_ 92 37 = ((0, 5, 0, []), 38))).trans ?_
  refine (g_3 (by decide +kernel : kd_ 92 38 = ((3, 0, 0, []), 39)) rfl).trans ?_
  refine (g_50 (v := .int (f a0 23)) (by decide +kernel : kd_ 92 39 = ((50, 7, 23, []), 42)) h1 rfl).trans ?_
  refine (g_12 (by decide +kernel : kd_ 92 42 = ((12, 0, 0, []), 43))).trans ?_
  refine (g_54 (v := .int (f (a0 + 16) ((nI 5) * (f a0 23)).toNatClampNeg)) (by decide +kernel : kd_ 92 43 = ((54, 0, 0, []), 44)) (sc_7_25 h1) rfl (by rw [sl_7_25 h1]; exact h2) rfl).trans ?_
  exact g_41 (by decide +kernel : kd_ 92 44 = ((41, 51, 0, []), 47))
theorem b_M_line_47 {L : Nat} {f : cg_G} {e : Nat × Nat} {x1 x2 x3 : Int32} {a0 : Nat} {u4 u5 u6 u7 : Value} : cj_res 92 47 [.ref a0, .int x1, .int x2, .int x3, u4, u5, u6, u7] [] (cg_M L f e) = cj_res 92 52 [.ref a0, .int x1, .int x2, .int x3, u4, u5, u6, u7] [.int (nI 1)] (cg_M L f e) := by
  refine (g_0 (by decide +kernel : kd_ 92 47 = ((0, 1, 0, []), 48))).trans ?_
  refine (g_30 (by decide +kernel : kd_ 92 48 = ((30, 52, 0, []), 51))).trans ?_
  rfl
theorem b_M_line_51 {L : Nat} {f : cg_G} {e : Nat × Nat} {x1 x2 x3 : Int32} {a0 : Nat} {u4 u5 u6 u7 : Value} : cj_res 92 51 [.ref a0, .int x1, .int x2, .int x3, u4, u5, u6, u7] [] (cg_M L f e) = cj_res 92 52 [.ref a0, .int x1, .int x2, .int x3, u4, u5, u6, u7] [.int (nI 0)] (cg_M L f e) := by
  refine (g_0 (by decide +kernel : kd_ 92 51 = ((0, 0, 0, []), 52))).trans ?_
  rfl
theorem b_M_line_52 {L : Nat} {f : cg_G} {e : Nat × Nat} {x1 x2 x3 y0 : Int32} {a0 : Nat} {u4 u5 u6 u7 : Value} (h1 : sh_ a0 = 7): cj_res 92 52 [.ref a0, .int x1, .int x2, .int x3, u4, u5, u6, u7] [.int y0] (cg_M L f e) = if (f a0 23) = (- nI 1) then cj_res 92 69 [.ref a0, .int x1, .int x2, .int x3, .int y0, u5, u6, u7] [.int y0, .ref a0] (cg_M L f e) else cj_res 92 65 [.ref a0, .int x1, .int x2, .int x3, .int y0, u5, u6, u7] [.int y0, .ref a0] (cg_M L f e) := by
  refine (g_4 (ls' := [.ref a0, .int x1, .int x2, .int x3, .int y0, u5, u6, u7]) (by decide +kernel : kd_ 92 52 = ((4, 4, 0, []), 54)) rfl rfl).trans ?_
  refine (g_3 (by decide +kernel : kd_ 92 54 = ((3, 0, 0, []), 55)) rfl).trans ?_
  refine (g_2 (by decide +kernel : kd_ 92 55 = ((2, 4, 0, []), 57)) rfl).trans ?_
  refine (g_3 (by decide +kernel : kd_ 92 57 = ((3, 0, 0, []), 58)) rfl).trans ?_
  refine (g_50 (v := .int (f a0 23)) (by decide +kernel : kd_ 92 58 = ((50, 7, 23, []), 61)) h1 rfl).trans ?_
  refine (g_1 (by decide +kernel : kd_ 92 61 = ((1, 1, 0, []), 62))).trans ?_
  exact g_37 (by decide +kernel : kd_ 92 62 = ((37, 69, 0, []), 65))
theorem b_M_line_65 {L : Nat} {f : cg_G} {e : Nat × Nat} {x1 x2 x3 x4 y0 : Int32} {a0 c1 : Nat} {u5 u6 u7 : Value} : cj_res 92 65 [.ref a0, .int x1, .int x2, .int x3, .int x4, u5, u6, u7] [.int y0, .ref c1] (cg_M L f e) = cj_res 92 70 [.ref a0, .int x1, .int x2, .int x3, .int x4, u5, u6, u7] [.int (nI 1), .int y0, .ref c1] (cg_M L f e) := by
  refine (g_0 (by decide +kernel : kd_ 92 65 = ((0, 1, 0, []), 66))).trans ?_
  refine (g_30 (by decide +kernel : kd_ 92 66 = ((30, 70, 0, []), 69))).trans ?_
  rfl
theorem b_M_line_69 {L : Nat} {f : cg_G} {e : Nat × Nat} {x1 x2 x3 x4 y0 : Int32} {a0 c1 : Nat} {u5 u6 u7 : Value} : cj_res 92 69 [.ref a0, .int x1, .int x2, .int x3, .int x4, u5, u6, u7] [.int y0, .ref c1] (cg_M L f e) = cj_res 92 70 [.ref a0, .int x1, .int x2, .int x3, .int x4, u5, u6, u7] [.int (nI 0), .int y0, .ref c1] (cg_M L f e) := by
  refine (g_0 (by decide +kernel : kd_ 92 69 = ((0, 0, 0, []), 70))).trans ?_
  rfl
theorem b_M_line_70 {L : Nat} {f : cg_G} {e : Nat × Nat} {x1 x2 x3 x4 y0 y1 : Int32} {a0 c2 : Nat} {u5 u6 u7 : Value} (h1 : sh_ c2 = 7): cj_res 92 70 [.ref a0, .int x1, .int x2, .int x3, .int x4, u5, u6, u7] [.int y0, .int y1, .ref c2] (cg_M L f e) = cj_aft 92 70 73 [.ref a0, .int x1, .int x2, .int x3, .int x4, u5, u6, u7] [] (cj_ev 46 [.ref c2, .int y1, .int y0] (cg_M L f e)) := by
  exact g_80 (by decide +kernel : kd_ 92 70 = ((80, 46, 3, [7]), 73)) rfl h1 rfl rfl rfl
theorem b_M_line_73 {L : Nat} {f : cg_G} {e : Nat × Nat} {x1 x2 x3 x4 y0 : Int32} {a0 : Nat} {u5 u6 u7 : Value} : cj_res 92 73 [.ref a0, .int x1, .int x2, .int x3, .int x4, u5, u6, u7] [.int y0] (cg_M L f e) = if y0 = 0 then cj_res 92 76 [.ref a0, .int x1, .int x2, .int x3, .int x4, u5, u6, u7] [] (cg_M L f e) else cj_res 92 78 [.ref a0, .int x1, .int x2, .int x3, .int x4, u5, u6, u7] [] (cg_M L f e) := by
  exact g_32 (by decide +kernel : kd_ 92 73 = ((32, 78, 0, []), 76))
theorem b_M_line_76 {L : Nat} {f : cg_G} {e : Nat × Nat} {x1 x2 x3 x4 : Int32} {a0 : Nat} {u5 u6 u7 : Value} : cj_res 92 76 [.ref a0, .int x1, .int x2, .int x3, .int x4, u5, u6, u7] [] (cg_M L f e) = some (.inl (some (.int (nI 0))), cg_M L f e) := by
  refine (g_0 (by decide +kernel : kd_ 92 76 = ((0, 0, 0, []), 77))).trans ?_
  exact g_90 (by decide +kernel : kd_ 92 77 = ((90, 0, 0, []), 78))
theorem b_M_line_78 {L : Nat} {f : cg_G} {e : Nat × Nat} {x1 x2 x3 x4 : Int32} {a0 : Nat} {u5 u6 u7 : Value} (h1 : sh_ a0 = 7): cj_res 92 78 [.ref a0, .int x1, .int x2, .int x3, .int x4, u5, u6, u7] [] (cg_M L f e) = cj_res 92 91 [.ref a0, .int x1, .int x2, .int x3, .int x4, .int (- nI 1), .int ((nI 900) * (f a0 23)), u7] [] (cg_M L f e) := by
  refine (g_1 (by decide +kernel : kd_ 92 78 = ((1, 1, 0, []), 79))).trans ?_
  refine (g_4 (ls' := [.ref a0, .int x1, .int x2, .int x3, .int x4, .int (- nI 1), u6, u7]) (by decide +kernel : kd_ 92 79 = ((4, 5, 0, []), 81)) rfl rfl).trans ?_
  refine (g_0 (by decide +kernel : kd_ 92 81 = ((0, 900, 0, []), 84))).trans ?_
  refine (g_3 (by decide +kernel : kd_ 92 84 = ((3, 0, 0, []), 85)) rfl).trans ?_
  refine (g_50 (v := .int (f a0 23)) (by decide +kernel : kd_ 92 85 = ((50, 7, 23, []), 88)) h1 rfl).trans ?_
  refine (g_12 (by decide +kernel : kd_ 92 88 = ((12, 0, 0, []), 89))).trans ?_
  refine (g_4 (ls' := [.ref a0, .int x1, .int x2, .int x3, .int x4, .int (- nI 1), .int ((nI 900) * (f a0 23)), u7]) (by decide +kernel : kd_ 92 89 = ((4, 6, 0, []), 91)) rfl rfl).trans ?_
  rfl
theorem b_M_line_91 {L : Nat} {f : cg_G} {e : Nat × Nat} {x1 x2 x3 x4 x5 x6 : Int32} {a0 : Nat} {u7 : Value} (h1 : sh_ a0 = 7) (h2 : cg_in (f a0 23) 2): cj_res 92 91 [.ref a0, .int x1, .int x2, .int x3, .int x4, .int x5, .int x6, u7] [] (cg_M L f e) = if (((nI 900) * (f a0 23)) + (f (a0 + 23) (f a0 23).toNatClampNeg)) ≤ x6 then cj_res 92 208 [.ref a0, .int x1, .int x2, .int x3, .int x4, .int x5, .int x6, u7] [] (cg_M L f e) else cj_res 92 114 [.ref a0, .int x1, .int x2, .int x3, .int x4, .int x5, .int x6, u7] [] (cg_M L f e) := by
  refine (g_2 (by decide +kernel : kd_ 92 91 = ((2, 6, 0, []), 93)) rfl).trans ?_
  refine (g_0 (by decide +kernel : kd_ 92 93 = ((0, 900, 0, []), 96))).trans ?_
  refine (g_3 (by decide +kernel : kd_ 92 96 = ((3, 0, 0, []), 97)) rfl).trans ?_
  refine (g_50 (v := .int (f a0 23)) (by decide +kernel : kd_ 92 97 = ((50, 7, 23, []), 100)) h1 rfl).trans ?_
  refine (g_12 (by decide +kernel : kd_ 92 100 = ((12, 0, 0, []), 101))).trans ?_
  refine (g_3 (by decide +kernel : kd_ 92 101 = ((3, 0, 0, []), 102)) rfl).trans ?_
  refine (g_50 (v := .ref (a0 + 23)) (by decide +kernel : kd_ 92 102 = ((50, 7, 32, []), 105)) h1 rfl).trans ?_
  refine (g_3 (by decide +kernel : kd_ 92 105 = ((3, 0, 0, []), 106)) rfl).trans ?_
  refine (g_50 (v := .int (f a0 23)) (by decide +kernel : kd_ 92 106 = ((50, 7, 23, []), 109)) h1 rfl).trans ?_
  refine (g_54 (v := .int (f (a0 + 23) (f a0 23).toNatClampNeg)) (by decide +kernel : kd_ 92 109 = ((54, 0, 0, []), 110)) (sc_7_32 h1) rfl (by rw [sl_7_32 h1]; exact h2) rfl).trans ?_
  refine (g_10 (by decide +kernel : kd_ 92 110 = ((10, 0, 0, []), 111))).trans ?_
  exact g_40 (by decide +kernel : kd_ 92 111 = ((40, 208, 0, []), 114))
theorem b_M_line_114 {L : Nat} {f : cg_G} {e : Nat × Nat} {x1 x2 x3 x4 x5 x6 : Int32} {a0 : Nat} {u7 : Value} (h1 : sh_ a0 = 7) (h2 : cg_in x6 1800): cj_res 92 114 [.ref a0, .int x1, .int x2, .int x3, .int x4, .int x5, .int x6, u7] [] (cg_M L f e) = if (f (a0 + 28) x6.toNatClampNeg) = x1 then cj_res 92 136 [.ref a0, .int x1, .int x2, .int x3, .int x4, .int x5, .int x6, .int (x2 - (f (a0 + 29) x6.toNatClampNeg))] [] (cg_M L f e) else cj_res 92 202 [.ref a0, .int x1, .int x2, .int x3, .int x4, .int x5, .int x6, .int (x2 - (f (a0 + 29) x6.toNatClampNeg))] [] (cg_M L f e) := by
  refine (g_2 (by decide +kernel : kd_ 92 114 = ((2, 2, 0, []), 115)) rfl).trans ?_
  refine (g_3 (by decide +kernel : kd_ 92 115 = ((3, 0, 0, []), 116)) rfl).trans ?_
  refine (g_50 (v := .ref (a0 + 29)) (by decide +kernel : kd_ 92 116 = ((50, 7, 38, []), 119)) h1 rfl).trans ?_
  refine (g_2 (by decide +kernel : kd_ 92 119 = ((2, 6, 0, []), 121)) rfl).trans ?_
  refine (g_54 (v := .int (f (a0 + 29) x6.toNatClampNeg)) (by decide +kernel : kd_ 92 121 = ((54, 0, 0, []), 122)) (sc_7_38 h1) rfl (by rw [sl_7_38 h1]; exact h2) rfl).trans ?_
  refine (g_11 (by decide +kernel : kd_ 92 122 = ((11, 0, 0, []), 123))).trans ?_
  refine (g_4 (ls' := [.ref a0, .int x1, .int x2, .int x3, .int x4, .int x5, .int x6, .int (x2 - (f (a0 + 29) x6.toNatClampNeg))]) (by decide +kernel : kd_ 92 123 = ((4, 7, 0, []), 125)) rfl rfl).trans ?_
  refine (g_3 (by decide +kernel : kd_ 92 125 = ((3, 0, 0, []), 126)) rfl).trans ?_
  refine (g_50 (v := .ref (a0 + 28)) (by decide +kernel : kd_ 92 126 = ((50, 7, 37, []), 129)) h1 rfl).trans ?_
  refine (g_2 (by decide +kernel : kd_ 92 129 = ((2, 6, 0, []), 131)) rfl).trans ?_
  refine (g_54 (v := .int (f (a0 + 28) x6.toNatClampNeg)) (by decide +kernel : kd_ 92 131 = ((54, 0, 0, []), 132)) (sc_7_37 h1) rfl (by rw [sl_7_37 h1]; exact h2) rfl).trans ?_
  refine (g_2 (by decide +kernel : kd_ 92 132 = ((2, 1, 0, []), 133)) rfl).trans ?_
  exact g_38 (by decide +kernel : kd_ 92 133 = ((38, 202, 0, []), 136))
theorem b_M_line_136 {L : Nat} {f : cg_G} {e : Nat × Nat} {x1 x2 x3 x4 x5 x6 x7 : Int32} {a0 : Nat} : cj_res 92 136 [.ref a0, .int x1, .int x2, .int x3, .int x4, .int x5, .int x6, .int x7] [] (cg_M L f e) = if x7 < 0 then cj_res 92 202 [.ref a0, .int x1, .int x2, .int x3, .int x4, .int x5, .int x6, .int x7] [] (cg_M L f e) else cj_res 92 141 [.ref a0, .int x1, .int x2, .int x3, .int x4, .int x5, .int x6, .int x7] [] (cg_M L f e) := by
  refine (g_2 (by decide +kernel : kd_ 92 136 = ((2, 7, 0, []), 138)) rfl).trans ?_
  exact g_33 (by decide +kernel : kd_ 92 138 = ((33, 202, 0, []), 141))
theorem b_M_line_141 {L : Nat} {f : cg_G} {e : Nat × Nat} {x1 x2 x3 x4 x5 x6 x7 : Int32} {a0 : Nat} (h1 : sh_ a0 = 7): cj_res 92 141 [.ref a0, .int x1, .int x2, .int x3, .int x4, .int x5, .int x6, .int x7] [] (cg_M L f e) = cj_aft 92 146 149 [.ref a0, .int x1, .int x2, .int x3, .int x4, .int x5, .int x6, .int x7] [.int x7] (cj_ev 48 [.ref a0, .int x6] (cg_M L f e)) := by
  refine (g_2 (by decide +kernel : kd_ 92 141 = ((2, 7, 0, []), 143)) rfl).trans ?_
  refine (g_3 (by decide +kernel : kd_ 92 143 = ((3, 0, 0, []), 144)) rfl).trans ?_
  refine (g_2 (by decide +kernel : kd_ 92 144 = ((2, 6, 0, []), 146)) rfl).trans ?_
  exact g_80 (by decide +kernel : kd_ 92 146 = ((80, 48, 2, [7]), 149)) rfl h1 rfl rfl rfl
theorem b_M_line_149 {L : Nat} {f : cg_G} {e : Nat × Nat} {x1 x2 x3 x4 x5 x6 x7 y0 y1 : Int32} {a0 : Nat} : cj_res 92 149 [.ref a0, .int x1, .int x2, .int x3, .int x4, .int x5, .int x6, .int x7] [.int y0, .int y1] (cg_M L f e) = if y0 ≤ y1 then cj_res 92 202 [.ref a0, .int x1, .int x2, .int x3, .int x4, .int x5, .int x6, .int x7] [] (cg_M L f e) else cj_res 92 152 [.ref a0, .int x1, .int x2, .int x3, .int x4, .int x5, .int x6, .int x7] [] (cg_M L f e) := by
  exact g_40 (by decide +kernel : kd_ 92 149 = ((40, 202, 0, []), 152))
theorem b_M_line_152 {L : Nat} {f : cg_G} {e : Nat × Nat} {x1 x2 x3 x4 x5 x6 x7 : Int32} {a0 : Nat} : cj_res 92 152 [.ref a0, .int x1, .int x2, .int x3, .int x4, .int x5, .int x6, .int x7] [] (cg_M L f e) = if x3 = 0 then cj_res 92 156 [.ref a0, .int x1, .int x2, .int x3, .int x4, .int x5, .int x6, .int x7] [] (cg_M L f e) else cj_res 92 166 [.ref a0, .int x1, .int x2, .int x3, .int x4, .int x5, .int x6, .int x7] [] (cg_M L f e) := by
  refine (g_2 (by decide +kernel : kd_ 92 152 = ((2, 3, 0, []), 153)) rfl).trans ?_
  exact g_32 (by decide +kernel : kd_ 92 153 = ((32, 166, 0, []), 156))
theorem b_M_line_156 {L : Nat} {f : cg_G} {e : Nat × Nat} {x1 x2 x3 x4 x5 x6 x7 : Int32} {a0 : Nat} (h1 : sh_ a0 = 7) (h2 : cg_in x6 1800): cj_res 92 156 [.ref a0, .int x1, .int x2, .int x3, .int x4, .int x5, .int x6, .int x7] [] (cg_M L f e) = cj_res 92 200 [.ref a0, .int x1, .int x2, .int x3, .int x4, .int x5, .int x6, .int x7] [.int (f (a0 + 24) x6.toNatClampNeg)] (cg_M L f e) := by
  refine (g_3 (by decide +kernel : kd_ 92 156 = ((3, 0, 0, []), 157)) rfl).trans ?_
  refine (g_50 (v := .ref (a0 + 24)) (by decide +kernel : kd_ 92 157 = ((50, 7, 33, []), 160)) h1 rfl).trans ?_
  refine (g_2 (by decide +kernel : kd_ 92 160 = ((2, 6, 0, []), 162)) rfl).trans ?_
  refine (g_54 (v := .int (f (a0 + 24) x6.toNatClampNeg)) (by decide +kernel : kd_ 92 162 = ((54, 0, 0, []), 163)) (sc_7_33 h1) rfl (by rw [sl_7_33 h1]; exact h2) rfl).trans ?_
  refine (g_30 (by decide +kernel : kd_ 92 163 = ((30, 200, 0, []), 166))).trans ?_
  rfl
theorem b_M_line_166 {L : Nat} {f : cg_G} {e : Nat × Nat} {x1 x2 x3 x4 x5 x6 x7 : Int32} {a0 : Nat} (h1 : sh_ a0 = 7) (h2 : cg_in x6 1800): cj_res 92 166 [.ref a0, .int x1, .int x2, .int x3, .int x4, .int x5, .int x6, .int x7] [] (cg_M L f e) = if (f (a0 + 25) x6.toNatClampNeg) ≤ x7 then cj_res 92 182 [.ref a0, .int x1, .int x2, .int x3, .int x4, .int x5, .int x6, .int x7] [] (cg_M L f e) else cj_res 92 178 [.ref a0, .int x1, .int x2, .int x3, .int x4, .int x5, .int x6, .int x7] [] (cg_M L f e) := by
  refine (g_2 (by decide +kernel : kd_ 92 166 = ((2, 7, 0, []), 168)) rfl).trans ?_
  refine (g_3 (by decide +kernel : kd_ 92 168 = ((3, 0, 0, []), 169)) rfl).trans ?_
  refine (g_50 (v := .ref (a0 + 25)) (by decide +kernel : kd_ 92 169 = ((50, 7, 34, []), 172)) h1 rfl).trans ?_
  refine (g_2 (by decide +kernel : kd_ 92 172 = ((2, 6, 0, []), 174)) rfl).trans ?_
  refine (g_54 (v := .int (f (a0 + 25) x6.toNatClampNeg)) (by decide +kernel : kd_ 92 174 = ((54, 0, 0, []), 175)) (sc_7_34 h1) rfl (by rw [sl_7_34 h1]; exact h2) rfl).trans ?_
  exact g_40 (by decide +kernel : kd_ 92 175 = ((40, 182, 0, []), 178))
theorem b_M_line_178 {L : Nat} {f : cg_G} {e : Nat × Nat} {x1 x2 x3 x4 x5 x6 x7 : Int32} {a0 : Nat} : cj_res 92 178 [.ref a0, .int x1, .int x2, .int x3, .int x4, .int x5, .int x6, .int x7] [] (cg_M L f e) = cj_res 92 200 [.ref a0, .int x1, .int x2, .int x3, .int x4, .int x5, .int x6, .int x7] [.int (- nI 1)] (cg_M L f e) := by
  refine (g_1 (by decide +kernel : kd_ 92 178 = ((1, 1, 0, []), 179))).trans ?_
  refine (g_30 (by decide +kernel : kd_ 92 179 = ((30, 200, 0, []), 182))).trans ?_
  rfl
theorem b_M_line_182 {L : Nat} {f : cg_G} {e : Nat × Nat} {x1 x2 x3 x4 x5 x6 x7 : Int32} {a0 : Nat} (h1 : sh_ a0 = 7) (h2 : cg_in x6 1800): cj_res 92 182 [.ref a0, .int x1, .int x2, .int x3, .int x4, .int x5, .int x6, .int x7] [] (cg_M L f e) = cj_res 92 200 [.ref a0, .int x1, .int x2, .int x3, .int x4, .int x5, .int x6, .int x7] [.int (((f (a0 + 26) x6.toNatClampNeg) + x7) - (f (a0 + 25) x6.toNatClampNeg))] (cg_M L f e) := by
  refine (g_3 (by decide +kernel : kd_ 92 182 = ((3, 0, 0, []), 183)) rfl).trans ?_
  refine (g_50 (v := .ref (a0 + 26)) (by decide +kernel : kd_ 92 183 = ((50, 7, 35, []), 186)) h1 rfl).trans ?_
  refine (g_2 (by decide +kernel : kd_ 92 186 = ((2, 6, 0, []), 188)) rfl).trans ?_
  refine (g_54 (v := .int (f (a0 + 26) x6.toNatClampNeg)) (by decide +kernel : kd_ 92 188 = ((54, 0, 0, []), 189)) (sc_7_35 h1) rfl (by rw [sl_7_35 h1]; exact h2) rfl).trans ?_
  refine (g_2 (by decide +kernel : kd_ 92 189 = ((2, 7, 0, []), 191)) rfl).trans ?_
  refine (g_10 (by decide +kernel : kd_ 92 191 = ((10, 0, 0, []), 192))).trans ?_
  refine (g_3 (by decide +kernel : kd_ 92 192 = ((3, 0, 0, []), 193)) rfl).trans ?_
  refine (g_50 (v := .ref (a0 + 25)) (by decide +kernel : kd_ 92 193 = ((50, 7, 34, []), 196)) h1 rfl).trans ?_
  refine (g_2 (by decide +kernel : kd_ 92 196 = ((2, 6, 0, []), 198)) rfl).trans ?_
  refine (g_54 (v := .int (f (a0 + 25) x6.toNatClampNeg)) (by decide +kernel : kd_ 92 198 = ((54, 0, 0, []), 199)) (sc_7_34 h1) rfl (by rw [sl_7_34 h1]; exact h2) rfl).trans ?_
  refine (g_11 (by decide +kernel : kd_ 92 199 = ((11, 0, 0, []), 200))).trans ?_
  rfl
theorem b_M_line_200 {L : Nat} {f : cg_G} {e : Nat × Nat} {x1 x2 x3 x4 x5 x6 x7 y0 : Int32} {a0 : Nat} : cj_res 92 200 [.ref a0, .int x1, .int x2, .int x3, .int x4, .int x5, .int x6, .int x7] [.int y0] (cg_M L f e) = cj_res 92 202 [.ref a0, .int x1, .int x2, .int x3, .int x4, .int y0, .int x6, .int x7] [] (cg_M L f e) := by
  refine (g_4 (ls' := [.ref a0, .int x1, .int x2, .int x3, .int x4, .int y0, .int x6, .int x7]) (by decide +kernel : kd_ 92 200 = ((4, 5, 0, []), 202)) rfl rfl).trans ?_
  rfl
theorem b_M_line_202 {L : Nat} {f : cg_G} {e : Nat × Nat} {x1 x2 x3 x4 x5 x6 x7 : Int32} {a0 : Nat} : cj_res 92 202 [.ref a0, .int x1, .int x2, .int x3, .int x4, .int x5, .int x6, .int x7] [] (cg_M L f e) = cj_res 92 91 [.ref a0, .int x1, .int x2, .int x3, .int x4, .int x5, .int (x6 + nI 1), .int x7] [] (cg_M L f e) := by
  refine (g_6 (ls' := [.ref a0, .int x1, .int x2, .int x3, .int x4, .int x5, .int (x6 + nI 1), .int x7]) (by decide +kernel : kd_ 92 202 = ((6, 6, 1, []), 205)) rfl rfl).trans ?_
  refine (g_30 (by decide +kernel : kd_ 92 205 = ((30, 91, 0, []), 208))).trans ?_
  rfl
theorem b_M_line_208 {L : Nat} {f : cg_G} {e : Nat × Nat} {x1 x2 x3 x4 x5 x6 : Int32} {a0 : Nat} {u7 : Value} : cj_res 92 208 [.ref a0, .int x1, .int x2, .int x3, .int x4, .int x5, .int x6, u7] [] (cg_M L f e) = some (.inl (some (.int x5)), cg_M L f e) := by
  refine (g_2 (by decide +kernel : kd_ 92 208 = ((2, 5, 0, []), 210)) rfl).trans ?_
  exact g_90 (by decide +kernel : kd_ 92 210 = ((90, 0, 0, []), 211))
theorem b_M_order_0 {L : Nat} {f : cg_G} {e : Nat × Nat} {a0 : Nat} {u1 u2 u3 : Value} : cj_res 93 0 [.ref a0, u1, u2, u3] [] (cg_M L f e) = cj_res 93 4 [.ref a0, .int (nI 1), .int (nI 0), u3] [] (cg_M L f e) := by
  refine (g_0 (by decide +kernel : kd_ 93 0 = ((0, 1, 0, []), 1))).trans ?_
  refine (g_4 (ls' := [.ref a0, .int (nI 1), u2, u3]) (by decide +kernel : kd_ 93 1 = ((4, 1, 0, []), 2)) rfl rfl).trans ?_
  refine (g_0 (by decide +kernel : kd_ 93 2 = ((0, 0, 0, []), 3))).trans ?_
  refine (g_4 (ls' := [.ref a0, .int (nI 1), .int (nI 0), u3]) (by decide +kernel : kd_ 93 3 = ((4, 2, 0, []), 4)) rfl rfl).trans ?_
  rfl
theorem b_M_order_4 {L : Nat} {f : cg_G} {e : Nat × Nat} {x1 x2 : Int32} {a0 : Nat} {u3 : Value} (h1 : sh_ a0 = 7): cj_res 93 4 [.ref a0, .int x1, .int x2, u3] [] (cg_M L f e) = if (f a0 3) ≤ x2 then cj_res 93 78 [.ref a0, .int x1, .int x2, u3] [] (cg_M L f e) else cj_res 93 12 [.ref a0, .int x1, .int x2, u3] [] (cg_M L f e) := by
  refine (g_2 (by decide +kernel : kd_ 93 4 = ((2, 2, 0, []), 5)) rfl).trans ?_
  refine (g_3 (by decide +kernel : kd_ 93 5 = ((3, 0, 0, []), 6)) rfl).trans ?_
  refine (g_50 (v := .int (f a0 3)) (by decide +kernel : kd_ 93 6 = ((50, 7, 3, []), 9)) h1 rfl).trans ?_
  exact g_40 (by decide +kernel : kd_ 93 9 = ((40, 78, 0, []), 12))
theorem b_M_order_12 {L : Nat} {f : cg_G} {e : Nat × Nat} {x1 x2 : Int32} {a0 : Nat} {u3 : Value} : cj_res 93 12 [.ref a0, .int x1, .int x2, u3] [] (cg_M L f e) = if x1 = 0 then cj_res 93 32 [.ref a0, .int x1, .int x2, u3] [] (cg_M L f e) else cj_res 93 16 [.ref a0, .int x1, .int x2, u3] [] (cg_M L f e) := by
  refine (g_2 (by decide +kernel : kd_ 93 12 = ((2, 1, 0, []), 13)) rfl).trans ?_
  exact g_31 (by decide +kernel : kd_ 93 13 = ((31, 32, 0, []), 16))
theorem b_M_order_16 {L : Nat} {f : cg_G} {e : Nat × Nat} {x1 x2 : Int32} {a0 : Nat} {u3 : Value} (h1 : sh_ a0 = 7) (h2 : cg_in x2 32): cj_res 93 16 [.ref a0, .int x1, .int x2, u3] [] (cg_M L f e) = cj_aft 93 22 25 [.ref a0, .int x1, .int x2, u3] [] (cj_ev 49 [.int (f (a0 + 1) x2.toNatClampNeg)] (cg_M L f e)) := by
  refine (g_3 (by decide +kernel : kd_ 93 16 = ((3, 0, 0, []), 17)) rfl).trans ?_
  refine (g_50 (v := .ref (a0 + 1)) (by decide +kernel : kd_ 93 17 = ((50, 7, 4, []), 20)) h1 rfl).trans ?_
  refine (g_2 (by decide +kernel : kd_ 93 20 = ((2, 2, 0, []), 21)) rfl).trans ?_
  refine (g_54 (v := .int (f (a0 + 1) x2.toNatClampNeg)) (by decide +kernel : kd_ 93 21 = ((54, 0, 0, []), 22)) (sc_7_4 h1) rfl (by rw [sl_7_4 h1]; exact h2) rfl).trans ?_
  exact g_81 (by decide +kernel : kd_ 93 22 = ((81, 49, 1, []), 25)) rfl rfl rfl
theorem b_M_order_25 {L : Nat} {f : cg_G} {e : Nat × Nat} {x1 x2 y0 : Int32} {a0 : Nat} {u3 : Value} : cj_res 93 25 [.ref a0, .int x1, .int x2, u3] [.int y0] (cg_M L f e) = if y0 = 0 then cj_res 93 32 [.ref a0, .int x1, .int x2, u3] [] (cg_M L f e) else cj_res 93 28 [.ref a0, .int x1, .int x2, u3] [] (cg_M L f e) := by
  exact g_31 (by decide +kernel : kd_ 93 25 = ((31, 32, 0, []), 28))
theorem b_M_order_28 {L : Nat} {f : cg_G} {e : Nat × Nat} {x1 x2 : Int32} {a0 : Nat} {u3 : Value} : cj_res 93 28 [.ref a0, .int x1, .int x2, u3] [] (cg_M L f e) = cj_res 93 33 [.ref a0, .int x1, .int x2, u3] [.int (nI 1)] (cg_M L f e) := by
  refine (g_0 (by decide +kernel : kd_ 93 28 = ((0, 1, 0, []), 29))).trans ?_
  refine (g_30 (by decide +kernel : kd_ 93 29 = ((30, 33, 0, []), 32))).trans ?_
  rfl
theorem b_M_order_32 {L : Nat} {f : cg_G} {e : Nat × Nat} {x1 x2 : Int32} {a0 : Nat} {u3 : Value} : cj_res 93 32 [.ref a0, .int x1, .int x2, u3] [] (cg_M L f e) = cj_res 93 33 [.ref a0, .int x1, .int x2, u3] [.int (nI 0)] (cg_M L f e) := by
  refine (g_0 (by decide +kernel : kd_ 93 32 = ((0, 0, 0, []), 33))).trans ?_
  rfl
theorem b_M_order_33 {L : Nat} {f : cg_G} {e : Nat × Nat} {x1 x2 y0 : Int32} {a0 : Nat} {u3 : Value} : cj_res 93 33 [.ref a0, .int x1, .int x2, u3] [.int y0] (cg_M L f e) = cj_res 93 36 [.ref a0, .int y0, .int x2, .int (nI 0)] [] (cg_M L f e) := by
  refine (g_4 (ls' := [.ref a0, .int y0, .int x2, u3]) (by decide +kernel : kd_ 93 33 = ((4, 1, 0, []), 34)) rfl rfl).trans ?_
  refine (g_0 (by decide +kernel : kd_ 93 34 = ((0, 0, 0, []), 35))).trans ?_
  refine (g_4 (ls' := [.ref a0, .int y0, .int x2, .int (nI 0)]) (by decide +kernel : kd_ 93 35 = ((4, 3, 0, []), 36)) rfl rfl).trans ?_
  rfl
theorem b_M_order_36 {L : Nat} {f : cg_G} {e : Nat × Nat} {x1 x2 x3 : Int32} {a0 : Nat} : cj_res 93 36 [.ref a0, .int x1, .int x2, .int x3] [] (cg_M L f e) = if x2 ≤ x3 then cj_res 93 72 [.ref a0, .int x1, .int x2, .int x3] [] (cg_M L f e) else cj_res 93 41 [.ref a0, .int x1, .int x2, .int x3] [] (cg_M L f e) := by
  refine (g_2 (by decide +kernel : kd_ 93 36 = ((2, 3, 0, []), 37)) rfl).trans ?_
  refine (g_2 (by decide +kernel : kd_ 93 37 = ((2, 2, 0, []), 38)) rfl).trans ?_
  exact g_40 (by decide +kernel : kd_ 93 38 = ((40, 72, 0, []), 41))
theorem b_M_order_41 {L : Nat} {f : cg_G} {e : Nat × Nat} {x1 x2 x3 : Int32} {a0 : Nat} : cj_res 93 41 [.ref a0, .int x1, .int x2, .int x3] [] (cg_M L f e) = if x1 = 0 then cj_res 93 64 [.ref a0, .int x1, .int x2, .int x3] [] (cg_M L f e) else cj_res 93 45 [.ref a0, .int x1, .int x2, .int x3] [] (cg_M L f e) := by
  refine (g_2 (by decide +kernel : kd_ 93 41 = ((2, 1, 0, []), 42)) rfl).trans ?_
  exact g_31 (by decide +kernel : kd_ 93 42 = ((31, 64, 0, []), 45))
theorem b_M_order_45 {L : Nat} {f : cg_G} {e : Nat × Nat} {x1 x2 x3 : Int32} {a0 : Nat} (h1 : sh_ a0 = 7) (h2 : cg_in x2 32) (h3 : cg_in x3 32): cj_res 93 45 [.ref a0, .int x1, .int x2, .int x3] [] (cg_M L f e) = if (f (a0 + 1) x2.toNatClampNeg) = (f (a0 + 1) x3.toNatClampNeg) then cj_res 93 64 [.ref a0, .int x1, .int x2, .int x3] [] (cg_M L f e) else cj_res 93 60 [.ref a0, .int x1, .int x2, .int x3] [] (cg_M L f e) := by
  refine (g_3 (by decide +kernel : kd_ 93 45 = ((3, 0, 0, []), 46)) rfl).trans ?_
  refine (g_50 (v := .ref (a0 + 1)) (by decide +kernel : kd_ 93 46 = ((50, 7, 4, []), 49)) h1 rfl).trans ?_
  refine (g_2 (by decide +kernel : kd_ 93 49 = ((2, 2, 0, []), 50)) rfl).trans ?_
  refine (g_54 (v := .int (f (a0 + 1) x2.toNatClampNeg)) (by decide +kernel : kd_ 93 50 = ((54, 0, 0, []), 51)) (sc_7_4 h1) rfl (by rw [sl_7_4 h1]; exact h2) rfl).trans ?_
  refine (g_3 (by decide +kernel : kd_ 93 51 = ((3, 0, 0, []), 52)) rfl).trans ?_
  refine (g_50 (v := .ref (a0 + 1)) (by decide +kernel : kd_ 93 52 = ((50, 7, 4, []), 55)) h1 rfl).trans ?_
  refine (g_2 (by decide +kernel : kd_ 93 55 = ((2, 3, 0, []), 56)) rfl).trans ?_
  refine (g_54 (v := .int (f (a0 + 1) x3.toNatClampNeg)) (by decide +kernel : kd_ 93 56 = ((54, 0, 0, []), 57)) (sc_7_4 h1) rfl (by rw [sl_7_4 h1]; exact h3) rfl).trans ?_
  exact g_37 (by decide +kernel : kd_ 93 57 = ((37, 64, 0, []), 60))
theorem b_M_order_60 {L : Nat} {f : cg_G} {e : Nat × Nat} {x1 x2 x3 : Int32} {a0 : Nat} : cj_res 93 60 [.ref a0, .int x1, .int x2, .int x3] [] (cg_M L f e) = cj_res 93 65 [.ref a0, .int x1, .int x2, .int x3] [.int (nI 1)] (cg_M L f e) := by
  refine (g_0 (by decide +kernel : kd_ 93 60 = ((0, 1, 0, []), 61))).trans ?_
  refine (g_30 (by decide +kernel : kd_ 93 61 = ((30, 65, 0, []), 64))).trans ?_
  rfl
theorem b_M_order_64 {L : Nat} {f : cg_G} {e : Nat × Nat} {x1 x2 x3 : Int32} {a0 : Nat} : cj_res 93 64 [.ref a0, .int x1, .int x2, .int x3] [] (cg_M L f e) = cj_res 93 65 [.ref a0, .int x1, .int x2, .int x3] [.int (nI 0)] (cg_M L f e) := by
  refine (g_0 (by decide +kernel : kd_ 93 64 = ((0, 0, 0, []), 65))).trans ?_
  rfl
theorem b_M_order_65 {L : Nat} {f : cg_G} {e : Nat × Nat} {x1 x2 x3 y0 : Int32} {a0 : Nat} : cj_res 93 65 [.ref a0, .int x1, .int x2, .int x3] [.int y0] (cg_M L f e) = cj_res 93 36 [.ref a0, .int y0, .int x2, .int (x3 + nI 1)] [] (cg_M L f e) := by
  refine (g_4 (ls' := [.ref a0, .int y0, .int x2, .int x3]) (by decide +kernel : kd_ 93 65 = ((4, 1, 0, []), 66)) rfl rfl).trans ?_
  refine (g_6 (ls' := [.ref a0, .int y0, .int x2, .int (x3 + nI 1)]) (by decide +kernel : kd_ 93 66 = ((6, 3, 1, []), 69)) rfl rfl).trans ?_
  refine (g_30 (by decide +kernel : kd_ 93 69 = ((30, 36, 0, []), 72))).trans ?_
  rfl
theorem b_M_order_72 {L : Nat} {f : cg_G} {e : Nat × Nat} {x1 x2 x3 : Int32} {a0 : Nat} : cj_res 93 72 [.ref a0, .int x1, .int x2, .int x3] [] (cg_M L f e) = cj_res 93 4 [.ref a0, .int x1, .int (x2 + nI 1), .int x3] [] (cg_M L f e) := by
  refine (g_6 (ls' := [.ref a0, .int x1, .int (x2 + nI 1), .int x3]) (by decide +kernel : kd_ 93 72 = ((6, 2, 1, []), 75)) rfl rfl).trans ?_
  refine (g_30 (by decide +kernel : kd_ 93 75 = ((30, 4, 0, []), 78))).trans ?_
  rfl
theorem b_M_order_78 {L : Nat} {f : cg_G} {e : Nat × Nat} {x1 x2 : Int32} {a0 : Nat} {u3 : Value} (h1 : sh_ a0 = 7): cj_res 93 78 [.ref a0, .int x1, .int x2, u3] [] (cg_M L f e) = cj_aft 93 81 84 [.ref a0, .int x1, .int x2, u3] [] (cj_ev 46 [.ref a0, .int x1, .int (nI 1)] (cg_M L f e)) := by
  refine (g_3 (by decide +kernel : kd_ 93 78 = ((3, 0, 0, []), 79)) rfl).trans ?_
  refine (g_2 (by decide +kernel : kd_ 93 79 = ((2, 1, 0, []), 80)) rfl).trans ?_
  refine (g_0 (by decide +kernel : kd_ 93 80 = ((0, 1, 0, []), 81))).trans ?_
  exact g_80 (by decide +kernel : kd_ 93 81 = ((80, 46, 3, [7]), 84)) rfl h1 rfl rfl rfl
theorem b_M_order_84 {L : Nat} {f : cg_G} {e : Nat × Nat} {x1 x2 y0 : Int32} {a0 : Nat} {u3 : Value} : cj_res 93 84 [.ref a0, .int x1, .int x2, u3] [.int y0] (cg_M L f e) = if y0 = 0 then cj_res 93 87 [.ref a0, .int x1, .int x2, u3] [] (cg_M L f e) else cj_res 93 89 [.ref a0, .int x1, .int x2, u3] [] (cg_M L f e) := by
  exact g_32 (by decide +kernel : kd_ 93 84 = ((32, 89, 0, []), 87))
theorem b_M_order_87 {L : Nat} {f : cg_G} {e : Nat × Nat} {x1 x2 : Int32} {a0 : Nat} {u3 : Value} : cj_res 93 87 [.ref a0, .int x1, .int x2, u3] [] (cg_M L f e) = some (.inl (some (.int (nI 0))), cg_M L f e) := by
  refine (g_0 (by decide +kernel : kd_ 93 87 = ((0, 0, 0, []), 88))).trans ?_
  exact g_90 (by decide +kernel : kd_ 93 88 = ((90, 0, 0, []), 89))
theorem b_M_order_89 {L : Nat} {f : cg_G} {e : Nat × Nat} {x1 x2 : Int32} {a0 : Nat} {u3 : Value} (h1 : sh_ a0 = 7): cj_res 93 89 [.ref a0, .int x1, .int x2, u3] [] (cg_M L f e) = cj_res 93 99 [.ref a0, .int x1, .int (nI 0), u3] [] (cg_M L (cg_up f a0 14 (f a0 3)) e) := by
  refine (g_3 (by decide +kernel : kd_ 93 89 = ((3, 0, 0, []), 90)) rfl).trans ?_
  refine (g_3 (by decide +kernel : kd_ 93 90 = ((3, 0, 0, []), 91)) rfl).trans ?_
  refine (g_50 (v := .int (f a0 3)) (by decide +kernel : kd_ 93 91 = ((50, 7, 3, []), 94)) h1 rfl).trans ?_
  refine (g_51 (x := f a0 3) (v := .int (f a0 3)) (by decide +kernel : kd_ 93 94 = ((51, 7, 14, [0]), 97)) h1 rfl rfl rfl (sz_7 h1) rfl).trans ?_
  refine (g_0 (by decide +kernel : kd_ 93 97 = ((0, 0, 0, []), 98))).trans ?_
  refine (g_4 (ls' := [.ref a0, .int x1, .int (nI 0), u3]) (by decide +kernel : kd_ 93 98 = ((4, 2, 0, []), 99)) rfl rfl).trans ?_
  rfl
theorem b_M_order_99 {L : Nat} {f : cg_G} {e : Nat × Nat} {x1 x2 : Int32} {a0 : Nat} {u3 : Value} (h1 : sh_ a0 = 7): cj_res 93 99 [.ref a0, .int x1, .int x2, u3] [] (cg_M L f e) = if (f a0 3) ≤ x2 then cj_res 93 125 [.ref a0, .int x1, .int x2, u3] [] (cg_M L f e) else cj_res 93 107 [.ref a0, .int x1, .int x2, u3] [] (cg_M L f e) := by
  refine (g_2 (by decide +kernel : kd_ 93 99 = ((2, 2, 0, []), 100)) rfl).trans ?_
  refine (g_3 (by decide +kernel : kd_ 93 100 = ((3, 0, 0, []), 101)) rfl).trans ?_
  refine (g_50 (v := .int (f a0 3)) (by decide +kernel : kd_ 93 101 = ((50, 7, 3, []), 104)) h1 rfl).trans ?_
  exact g_40 (by decide +kernel : kd_ 93 104 = ((40, 125, 0, []), 107))
theorem b_M_order_107 {L : Nat} {f : cg_G} {e : Nat × Nat} {x1 x2 : Int32} {a0 : Nat} {u3 : Value} (h1 : sh_ a0 = 7) (h2 : cg_in x2 32) (h3 : cg_in x2 26): cj_res 93 107 [.ref a0, .int x1, .int x2, u3] [] (cg_M L f e) = cj_res 93 99 [.ref a0, .int x1, .int (x2 + nI 1), u3] [] (cg_M L (cg_up f (a0 + 9) x2.toNatClampNeg (f (a0 + 1) x2.toNatClampNeg)) e) := by
  refine (g_3 (by decide +kernel : kd_ 93 107 = ((3, 0, 0, []), 108)) rfl).trans ?_
  refine (g_50 (v := .ref (a0 + 9)) (by decide +kernel : kd_ 93 108 = ((50, 7, 15, []), 111)) h1 rfl).trans ?_
  refine (g_2 (by decide +kernel : kd_ 93 111 = ((2, 2, 0, []), 112)) rfl).trans ?_
  refine (g_3 (by decide +kernel : kd_ 93 112 = ((3, 0, 0, []), 113)) rfl).trans ?_
  refine (g_50 (v := .ref (a0 + 1)) (by decide +kernel : kd_ 93 113 = ((50, 7, 4, []), 116)) h1 rfl).trans ?_
  refine (g_2 (by decide +kernel : kd_ 93 116 = ((2, 2, 0, []), 117)) rfl).trans ?_
  refine (g_54 (v := .int (f (a0 + 1) x2.toNatClampNeg)) (by decide +kernel : kd_ 93 117 = ((54, 0, 0, []), 118)) (sc_7_4 h1) rfl (by rw [sl_7_4 h1]; exact h2) rfl).trans ?_
  refine (g_56 (by decide +kernel : kd_ 93 118 = ((56, 0, 0, []), 119)) (sc_7_15 h1) (fun _ => rfl) (by rw [sl_7_15 h1]; exact h3) (by omega)).trans ?_
  refine (g_6 (ls' := [.ref a0, .int x1, .int (x2 + nI 1), u3]) (by decide +kernel : kd_ 93 119 = ((6, 2, 1, []), 122)) rfl rfl).trans ?_
  refine (g_30 (by decide +kernel : kd_ 93 122 = ((30, 99, 0, []), 125))).trans ?_
  rfl
theorem b_M_order_125 {L : Nat} {f : cg_G} {e : Nat × Nat} {x1 x2 : Int32} {a0 : Nat} {u3 : Value} (h1 : sh_ a0 = 7): cj_res 93 125 [.ref a0, .int x1, .int x2, u3] [] (cg_M L f e) = some (.inl (some (.int ((cg_up f a0 3 (nI 0)) a0 14))), cg_M L (cg_up f a0 3 (nI 0)) e) := by
  refine (g_3 (by decide +kernel : kd_ 93 125 = ((3, 0, 0, []), 126)) rfl).trans ?_
  refine (g_0 (by decide +kernel : kd_ 93 126 = ((0, 0, 0, []), 127))).trans ?_
  refine (g_51 (x := nI 0) (v := .int (nI 0)) (by decide +kernel : kd_ 93 127 = ((51, 7, 3, [0]), 130)) h1 rfl rfl rfl (sz_7 h1) rfl).trans ?_
  refine (g_3 (by decide +kernel : kd_ 93 130 = ((3, 0, 0, []), 131)) rfl).trans ?_
  refine (g_50 (v := .int ((cg_up f a0 3 (nI 0)) a0 14)) (by decide +kernel : kd_ 93 131 = ((50, 7, 14, []), 134)) h1 rfl).trans ?_
  exact g_90 (by decide +kernel : kd_ 93 134 = ((90, 0, 0, []), 135))
theorem b_M_part_0 {L : Nat} {f : cg_G} {e : Nat × Nat} {x1 x2 : Int32} {a0 : Nat} {u3 u4 u5 : Value} (h1 : sh_ a0 = 7) (h2 : cg_in (((nI 8) * x1) + x2) 16): cj_res 94 0 [.ref a0, .int x1, .int x2, u3, u4, u5] [] (cg_M L f e) = if (nI 2) ≤ (f (a0 + 19) (((nI 8) * x1) + x2).toNatClampNeg) then cj_res 94 21 [.ref a0, .int x1, .int x2, .int (f (a0 + 19) (((nI 8) * x1) + x2).toNatClampNeg), u4, u5] [] (cg_M L f e) else cj_res 94 17 [.ref a0, .int x1, .int x2, .int (f (a0 + 19) (((nI 8) * x1) + x2).toNatClampNeg), u4, u5] [] (cg_M L f e) := by
  refine (g_3 (by decide +kernel : kd_ 94 0 = ((3, 0, 0, []), 1)) rfl).trans ?_
  refine (g_50 (v := .ref (a0 + 19)) (by decide +kernel : kd_ 94 1 = ((50, 7, 28, []), 4)) h1 rfl).trans ?_
  refine (g_0 (by decide +kernel : kd_ 94 4 = ((0, 8, 0, []), 6))).trans ?_
  refine (g_2 (by decide +kernel : kd_ 94 6 = ((2, 1, 0, []), 7)) rfl).trans ?_
  refine (g_12 (by decide +kernel : kd_ 94 7 = ((12, 0, 0, []), 8))).trans ?_
  refine (g_2 (by decide +kernel : kd_ 94 8 = ((2, 2, 0, []), 9)) rfl).trans ?_
  refine (g_10 (by decide +kernel : kd_ 94 9 = ((10, 0, 0, []), 10))).trans ?_
  refine (g_54 (v := .int (f (a0 + 19) (((nI 8) * x1) + x2).toNatClampNeg)) (by decide +kernel : kd_ 94 10 = ((54, 0, 0, []), 11)) (sc_7_28 h1) rfl (by rw [sl_7_28 h1]; exact h2) rfl).trans ?_
  refine (g_4 (ls' := [.ref a0, .int x1, .int x2, .int (f (a0 + 19) (((nI 8) * x1) + x2).toNatClampNeg), u4, u5]) (by decide +kernel : kd_ 94 11 = ((4, 3, 0, []), 12)) rfl rfl).trans ?_
  refine (g_2 (by decide +kernel : kd_ 94 12 = ((2, 3, 0, []), 13)) rfl).trans ?_
  refine (g_0 (by decide +kernel : kd_ 94 13 = ((0, 2, 0, []), 14))).trans ?_
  exact g_40 (by decide +kernel : kd_ 94 14 = ((40, 21, 0, []), 17))
theorem b_M_part_17 {L : Nat} {f : cg_G} {e : Nat × Nat} {x1 x2 x3 : Int32} {a0 : Nat} {u4 u5 : Value} : cj_res 94 17 [.ref a0, .int x1, .int x2, .int x3, u4, u5] [] (cg_M L f e) = cj_res 94 22 [.ref a0, .int x1, .int x2, .int x3, u4, u5] [.int x3] (cg_M L f e) := by
  refine (g_2 (by decide +kernel : kd_ 94 17 = ((2, 3, 0, []), 18)) rfl).trans ?_
  refine (g_30 (by decide +kernel : kd_ 94 18 = ((30, 22, 0, []), 21))).trans ?_
  rfl
theorem b_M_part_21 {L : Nat} {f : cg_G} {e : Nat × Nat} {x1 x2 x3 : Int32} {a0 : Nat} {u4 u5 : Value} : cj_res 94 21 [.ref a0, .int x1, .int x2, .int x3, u4, u5] [] (cg_M L f e) = cj_res 94 22 [.ref a0, .int x1, .int x2, .int x3, u4, u5] [.int (nI 2)] (cg_M L f e) := by
  refine (g_0 (by decide +kernel : kd_ 94 21 = ((0, 2, 0, []), 22))).trans ?_
  rfl
theorem b_M_part_22 {L : Nat} {f : cg_G} {e : Nat × Nat} {x1 x2 x3 y0 : Int32} {a0 : Nat} {u4 u5 : Value} : cj_res 94 22 [.ref a0, .int x1, .int x2, .int x3, u4, u5] [.int y0] (cg_M L f e) = if 0 < x3 then cj_res 94 37 [.ref a0, .int x1, .int x2, .int x3, .int y0, u5] [] (cg_M L f e) else cj_res 94 28 [.ref a0, .int x1, .int x2, .int x3, .int y0, u5] [] (cg_M L f e) := by
  refine (g_4 (ls' := [.ref a0, .int x1, .int x2, .int x3, .int y0, u5]) (by decide +kernel : kd_ 94 22 = ((4, 4, 0, []), 24)) rfl rfl).trans ?_
  refine (g_2 (by decide +kernel : kd_ 94 24 = ((2, 3, 0, []), 25)) rfl).trans ?_
  exact g_35 (by decide +kernel : kd_ 94 25 = ((35, 37, 0, []), 28))
theorem b_M_part_28 {L : Nat} {f : cg_G} {e : Nat × Nat} {x1 x2 x3 x4 : Int32} {a0 : Nat} {u5 : Value} (h1 : sh_ a0 = 7) (h2 : cg_in x2 8): cj_res 94 28 [.ref a0, .int x1, .int x2, .int x3, .int x4, u5] [] (cg_M L f e) = if (f (a0 + 7) x2.toNatClampNeg) ≤ 0 then cj_res 94 52 [.ref a0, .int x1, .int x2, .int x3, .int x4, u5] [] (cg_M L f e) else cj_res 94 37 [.ref a0, .int x1, .int x2, .int x3, .int x4, u5] [] (cg_M L f e) := by
  refine (g_3 (by decide +kernel : kd_ 94 28 = ((3, 0, 0, []), 29)) rfl).trans ?_
  refine (g_50 (v := .ref (a0 + 7)) (by decide +kernel : kd_ 94 29 = ((50, 7, 12, []), 32)) h1 rfl).trans ?_
  refine (g_2 (by decide +kernel : kd_ 94 32 = ((2, 2, 0, []), 33)) rfl).trans ?_
  refine (g_54 (v := .int (f (a0 + 7) x2.toNatClampNeg)) (by decide +kernel : kd_ 94 33 = ((54, 0, 0, []), 34)) (sc_7_12 h1) rfl (by rw [sl_7_12 h1]; exact h2) rfl).trans ?_
  exact g_36 (by decide +kernel : kd_ 94 34 = ((36, 52, 0, []), 37))
theorem b_M_part_37 {L : Nat} {f : cg_G} {e : Nat × Nat} {x1 x2 x3 x4 : Int32} {a0 : Nat} {u5 : Value} (h1 : sh_ a0 = 7) (h2 : cg_in x2 8): cj_res 94 37 [.ref a0, .int x1, .int x2, .int x3, .int x4, u5] [] (cg_M L f e) = cj_aft 94 49 52 [.ref a0, .int x1, .int x2, .int x3, .int x4, u5] [] (cj_ev 42 [.ref a0, .int x1, .int x2, .int (f (a0 + 7) x2.toNatClampNeg), .int (nI 0), .int x4] (cg_M L f e)) := by
  refine (g_3 (by decide +kernel : kd_ 94 37 = ((3, 0, 0, []), 38)) rfl).trans ?_
  refine (g_2 (by decide +kernel : kd_ 94 38 = ((2, 1, 0, []), 39)) rfl).trans ?_
  refine (g_2 (by decide +kernel : kd_ 94 39 = ((2, 2, 0, []), 40)) rfl).trans ?_
  refine (g_3 (by decide +kernel : kd_ 94 40 = ((3, 0, 0, []), 41)) rfl).trans ?_
  refine (g_50 (v := .ref (a0 + 7)) (by decide +kernel : kd_ 94 41 = ((50, 7, 12, []), 44)) h1 rfl).trans ?_
  refine (g_2 (by decide +kernel : kd_ 94 44 = ((2, 2, 0, []), 45)) rfl).trans ?_
  refine (g_54 (v := .int (f (a0 + 7) x2.toNatClampNeg)) (by decide +kernel : kd_ 94 45 = ((54, 0, 0, []), 46)) (sc_7_12 h1) rfl (by rw [sl_7_12 h1]; exact h2) rfl).trans ?_
  refine (g_0 (by decide +kernel : kd_ 94 46 = ((0, 0, 0, []), 47))).trans ?_
  refine (g_2 (by decide +kernel : kd_ 94 47 = ((2, 4, 0, []), 49)) rfl).trans ?_
  exact g_80 (by decide +kernel : kd_ 94 49 = ((80, 42, 6, [7]), 52)) rfl h1 rfl rfl rfl
theorem b_M_part_52 {L : Nat} {f : cg_G} {e : Nat × Nat} {x1 x2 x3 x4 : Int32} {a0 : Nat} {u5 : Value} : cj_res 94 52 [.ref a0, .int x1, .int x2, .int x3, .int x4, u5] [] (cg_M L f e) = cj_res 94 55 [.ref a0, .int x1, .int x2, .int x3, .int x4, .int (nI 2)] [] (cg_M L f e) := by
  refine (g_0 (by decide +kernel : kd_ 94 52 = ((0, 2, 0, []), 53))).trans ?_
  refine (g_4 (ls' := [.ref a0, .int x1, .int x2, .int x3, .int x4, .int (nI 2)]) (by decide +kernel : kd_ 94 53 = ((4, 5, 0, []), 55)) rfl rfl).trans ?_
  rfl
theorem b_M_part_55 {L : Nat} {f : cg_G} {e : Nat × Nat} {x1 x2 x3 x4 x5 : Int32} {a0 : Nat} : cj_res 94 55 [.ref a0, .int x1, .int x2, .int x3, .int x4, .int x5] [] (cg_M L f e) = if x3 ≤ x5 then cj_res 94 77 [.ref a0, .int x1, .int x2, .int x3, .int x4, .int x5] [] (cg_M L f e) else cj_res 94 61 [.ref a0, .int x1, .int x2, .int x3, .int x4, .int x5] [] (cg_M L f e) := by
  refine (g_2 (by decide +kernel : kd_ 94 55 = ((2, 5, 0, []), 57)) rfl).trans ?_
  refine (g_2 (by decide +kernel : kd_ 94 57 = ((2, 3, 0, []), 58)) rfl).trans ?_
  exact g_40 (by decide +kernel : kd_ 94 58 = ((40, 77, 0, []), 61))
theorem b_M_part_61 {L : Nat} {f : cg_G} {e : Nat × Nat} {x1 x2 x3 x4 x5 : Int32} {a0 : Nat} (h1 : sh_ a0 = 7): cj_res 94 61 [.ref a0, .int x1, .int x2, .int x3, .int x4, .int x5] [] (cg_M L f e) = cj_aft 94 68 71 [.ref a0, .int x1, .int x2, .int x3, .int x4, .int x5] [] (cj_ev 42 [.ref a0, .int x1, .int x2, .int (nI 0), .int x5, .int (nI 1)] (cg_M L f e)) := by
  refine (g_3 (by decide +kernel : kd_ 94 61 = ((3, 0, 0, []), 62)) rfl).trans ?_
  refine (g_2 (by decide +kernel : kd_ 94 62 = ((2, 1, 0, []), 63)) rfl).trans ?_
  refine (g_2 (by decide +kernel : kd_ 94 63 = ((2, 2, 0, []), 64)) rfl).trans ?_
  refine (g_0 (by decide +kernel : kd_ 94 64 = ((0, 0, 0, []), 65))).trans ?_
  refine (g_2 (by decide +kernel : kd_ 94 65 = ((2, 5, 0, []), 67)) rfl).trans ?_
  refine (g_0 (by decide +kernel : kd_ 94 67 = ((0, 1, 0, []), 68))).trans ?_
  exact g_80 (by decide +kernel : kd_ 94 68 = ((80, 42, 6, [7]), 71)) rfl h1 rfl rfl rfl
theorem b_M_part_71 {L : Nat} {f : cg_G} {e : Nat × Nat} {x1 x2 x3 x4 x5 : Int32} {a0 : Nat} : cj_res 94 71 [.ref a0, .int x1, .int x2, .int x3, .int x4, .int x5] [] (cg_M L f e) = cj_res 94 55 [.ref a0, .int x1, .int x2, .int x3, .int x4, .int (x5 + nI 1)] [] (cg_M L f e) := by
  refine (g_6 (ls' := [.ref a0, .int x1, .int x2, .int x3, .int x4, .int (x5 + nI 1)]) (by decide +kernel : kd_ 94 71 = ((6, 5, 1, []), 74)) rfl rfl).trans ?_
  refine (g_30 (by decide +kernel : kd_ 94 74 = ((30, 55, 0, []), 77))).trans ?_
  rfl
theorem b_M_part_77 {L : Nat} {f : cg_G} {e : Nat × Nat} {x1 x2 x3 x4 x5 : Int32} {a0 : Nat} (h1 : sh_ a0 = 7) (h2 : cg_in x2 8): cj_res 94 77 [.ref a0, .int x1, .int x2, .int x3, .int x4, .int x5] [] (cg_M L f e) = if (f a0 1) < ((f (a0 + 7) x2.toNatClampNeg) + x4) then cj_res 94 97 [.ref a0, .int x1, .int x2, .int x3, .int x4, .int x5] [] (cg_M L f e) else cj_res 94 93 [.ref a0, .int x1, .int x2, .int x3, .int x4, .int x5] [] (cg_M L f e) := by
  refine (g_3 (by decide +kernel : kd_ 94 77 = ((3, 0, 0, []), 78)) rfl).trans ?_
  refine (g_50 (v := .ref (a0 + 7)) (by decide +kernel : kd_ 94 78 = ((50, 7, 12, []), 81)) h1 rfl).trans ?_
  refine (g_2 (by decide +kernel : kd_ 94 81 = ((2, 2, 0, []), 82)) rfl).trans ?_
  refine (g_54 (v := .int (f (a0 + 7) x2.toNatClampNeg)) (by decide +kernel : kd_ 94 82 = ((54, 0, 0, []), 83)) (sc_7_12 h1) rfl (by rw [sl_7_12 h1]; exact h2) rfl).trans ?_
  refine (g_2 (by decide +kernel : kd_ 94 83 = ((2, 4, 0, []), 85)) rfl).trans ?_
  refine (g_10 (by decide +kernel : kd_ 94 85 = ((10, 0, 0, []), 86))).trans ?_
  refine (g_3 (by decide +kernel : kd_ 94 86 = ((3, 0, 0, []), 87)) rfl).trans ?_
  refine (g_50 (v := .int (f a0 1)) (by decide +kernel : kd_ 94 87 = ((50, 7, 1, []), 90)) h1 rfl).trans ?_
  exact g_41 (by decide +kernel : kd_ 94 90 = ((41, 97, 0, []), 93))
theorem b_M_part_93 {L : Nat} {f : cg_G} {e : Nat × Nat} {x1 x2 x3 x4 x5 : Int32} {a0 : Nat} : cj_res 94 93 [.ref a0, .int x1, .int x2, .int x3, .int x4, .int x5] [] (cg_M L f e) = cj_res 94 98 [.ref a0, .int x1, .int x2, .int x3, .int x4, .int x5] [.int (nI 1)] (cg_M L f e) := by
  refine (g_0 (by decide +kernel : kd_ 94 93 = ((0, 1, 0, []), 94))).trans ?_
  refine (g_30 (by decide +kernel : kd_ 94 94 = ((30, 98, 0, []), 97))).trans ?_
  rfl
theorem b_M_part_97 {L : Nat} {f : cg_G} {e : Nat × Nat} {x1 x2 x3 x4 x5 : Int32} {a0 : Nat} : cj_res 94 97 [.ref a0, .int x1, .int x2, .int x3, .int x4, .int x5] [] (cg_M L f e) = cj_res 94 98 [.ref a0, .int x1, .int x2, .int x3, .int x4, .int x5] [.int (nI 0)] (cg_M L f e) := by
  refine (g_0 (by decide +kernel : kd_ 94 97 = ((0, 0, 0, []), 98))).trans ?_
  rfl
theorem b_M_part_98 {L : Nat} {f : cg_G} {e : Nat × Nat} {x1 x2 x3 x4 x5 y0 : Int32} {a0 : Nat} (h1 : y0 = 0 ∨ y0 = 1): cj_res 94 98 [.ref a0, .int x1, .int x2, .int x3, .int x4, .int x5] [.int y0] (cg_M L f e) = some (.inl (some (.int y0)), cg_M L f e) := by
  exact g_93 (by decide +kernel : kd_ 94 98 = ((93, 0, 0, []), 99)) h1
theorem b_M_putField_0 {L : Nat} {f : cg_G} {e : Nat × Nat} {x1 : Int32} {a0 : Nat} {u2 : Value} : cj_res 95 0 [.ref a0, .int x1, u2] [] (cg_M L f e) = cj_res 95 2 [.ref a0, .int x1, .int (nI 0)] [] (cg_M L f e) := by
  refine (g_0 (by decide +kernel : kd_ 95 0 = ((0, 0, 0, []), 1))).trans ?_
  refine (g_4 (ls' := [.ref a0, .int x1, .int (nI 0)]) (by decide +kernel : kd_ 95 1 = ((4, 2, 0, []), 2)) rfl rfl).trans ?_
  rfl
theorem b_M_putField_2 {L : Nat} {f : cg_G} {e : Nat × Nat} {x1 x2 : Int32} {a0 : Nat} (h1 : sh_ a0 = 7) (h2 : cg_in x1 32): cj_res 95 2 [.ref a0, .int x1, .int x2] [] (cg_M L f e) = if (f (a0 + 5) x1.toNatClampNeg) ≤ x2 then cj_res 95 33 [.ref a0, .int x1, .int x2] [] (cg_M L f e) else cj_res 95 12 [.ref a0, .int x1, .int x2] [] (cg_M L f e) := by
  refine (g_2 (by decide +kernel : kd_ 95 2 = ((2, 2, 0, []), 3)) rfl).trans ?_
  refine (g_3 (by decide +kernel : kd_ 95 3 = ((3, 0, 0, []), 4)) rfl).trans ?_
  refine (g_50 (v := .ref (a0 + 5)) (by decide +kernel : kd_ 95 4 = ((50, 7, 10, []), 7)) h1 rfl).trans ?_
  refine (g_2 (by decide +kernel : kd_ 95 7 = ((2, 1, 0, []), 8)) rfl).trans ?_
  refine (g_54 (v := .int (f (a0 + 5) x1.toNatClampNeg)) (by decide +kernel : kd_ 95 8 = ((54, 0, 0, []), 9)) (sc_7_10 h1) rfl (by rw [sl_7_10 h1]; exact h2) rfl).trans ?_
  exact g_40 (by decide +kernel : kd_ 95 9 = ((40, 33, 0, []), 12))
theorem b_M_putField_12 {L : Nat} {f : cg_G} {e : Nat × Nat} {x1 x2 : Int32} {a0 : Nat} (h1 : sh_ a0 = 7) (h2 : cg_in (((nI 32) * x1) + x2) 1024): cj_res 95 12 [.ref a0, .int x1, .int x2] [] (cg_M L f e) = cj_aft 95 24 27 [.ref a0, .int x1, .int x2] [] (cj_ev 50 [.ref a0, .int (f (a0 + 6) (((nI 32) * x1) + x2).toNatClampNeg)] (cg_M L f e)) := by
  refine (g_3 (by decide +kernel : kd_ 95 12 = ((3, 0, 0, []), 13)) rfl).trans ?_
  refine (g_3 (by decide +kernel : kd_ 95 13 = ((3, 0, 0, []), 14)) rfl).trans ?_
  refine (g_50 (v := .ref (a0 + 6)) (by decide +kernel : kd_ 95 14 = ((50, 7, 11, []), 17)) h1 rfl).trans ?_
  refine (g_0 (by decide +kernel : kd_ 95 17 = ((0, 32, 0, []), 19))).trans ?_
  refine (g_2 (by decide +kernel : kd_ 95 19 = ((2, 1, 0, []), 20)) rfl).trans ?_
  refine (g_12 (by decide +kernel : kd_ 95 20 = ((12, 0, 0, []), 21))).trans ?_
  refine (g_2 (by decide +kernel : kd_ 95 21 = ((2, 2, 0, []), 22)) rfl).trans ?_
  refine (g_10 (by decide +kernel : kd_ 95 22 = ((10, 0, 0, []), 23))).trans ?_
  refine (g_54 (v := .int (f (a0 + 6) (((nI 32) * x1) + x2).toNatClampNeg)) (by decide +kernel : kd_ 95 23 = ((54, 0, 0, []), 24)) (sc_7_11 h1) rfl (by rw [sl_7_11 h1]; exact h2) rfl).trans ?_
  exact g_80 (by decide +kernel : kd_ 95 24 = ((80, 50, 2, [7]), 27)) rfl h1 rfl rfl rfl
theorem b_M_putField_27 {L : Nat} {f : cg_G} {e : Nat × Nat} {x1 x2 : Int32} {a0 : Nat} : cj_res 95 27 [.ref a0, .int x1, .int x2] [] (cg_M L f e) = cj_res 95 2 [.ref a0, .int x1, .int (x2 + nI 1)] [] (cg_M L f e) := by
  refine (g_6 (ls' := [.ref a0, .int x1, .int (x2 + nI 1)]) (by decide +kernel : kd_ 95 27 = ((6, 2, 1, []), 30)) rfl rfl).trans ?_
  refine (g_30 (by decide +kernel : kd_ 95 30 = ((30, 2, 0, []), 33))).trans ?_
  rfl
theorem b_M_putField_33 {L : Nat} {f : cg_G} {e : Nat × Nat} {x1 x2 : Int32} {a0 : Nat} : cj_res 95 33 [.ref a0, .int x1, .int x2] [] (cg_M L f e) = some (.inl none, cg_M L f e) := by
  exact g_91 (by decide +kernel : kd_ 95 33 = ((91, 0, 0, []), 34))
theorem b_M_putNumber_0 {L : Nat} {f : cg_G} {e : Nat × Nat} {x1 : Int32} {a0 : Nat} : cj_res 96 0 [.ref a0, .int x1] [] (cg_M L f e) = if x1 ≤ (nI 99) then cj_res 96 17 [.ref a0, .int x1] [] (cg_M L f e) else cj_res 96 6 [.ref a0, .int x1] [] (cg_M L f e) := by
  refine (g_2 (by decide +kernel : kd_ 96 0 = ((2, 1, 0, []), 1)) rfl).trans ?_
  refine (g_0 (by decide +kernel : kd_ 96 1 = ((0, 99, 0, []), 3))).trans ?_
  exact g_42 (by decide +kernel : kd_ 96 3 = ((42, 17, 0, []), 6))
theorem b_M_putNumber_6 {L : Nat} {f : cg_G} {e : Nat × Nat} {x1 : Int32} {a0 : Nat} (h1 : sh_ a0 = 7): cj_res 96 6 [.ref a0, .int x1] [] (cg_M L f e) = cj_aft 96 14 17 [.ref a0, .int x1] [] (cj_ev 50 [.ref a0, .int ((nI 48) + (x1 / (nI 100)))] (cg_M L f e)) := by
  refine (g_3 (by decide +kernel : kd_ 96 6 = ((3, 0, 0, []), 7)) rfl).trans ?_
  refine (g_0 (by decide +kernel : kd_ 96 7 = ((0, 48, 0, []), 9))).trans ?_
  refine (g_2 (by decide +kernel : kd_ 96 9 = ((2, 1, 0, []), 10)) rfl).trans ?_
  refine (g_0 (by decide +kernel : kd_ 96 10 = ((0, 100, 0, []), 12))).trans ?_
  refine (g_13 (by decide +kernel : kd_ 96 12 = ((13, 0, 0, []), 13)) (by decide)).trans ?_
  refine (g_10 (by decide +kernel : kd_ 96 13 = ((10, 0, 0, []), 14))).trans ?_
  exact g_80 (by decide +kernel : kd_ 96 14 = ((80, 50, 2, [7]), 17)) rfl h1 rfl rfl rfl
theorem b_M_putNumber_17 {L : Nat} {f : cg_G} {e : Nat × Nat} {x1 : Int32} {a0 : Nat} : cj_res 96 17 [.ref a0, .int x1] [] (cg_M L f e) = if x1 ≤ (nI 9) then cj_res 96 37 [.ref a0, .int x1] [] (cg_M L f e) else cj_res 96 23 [.ref a0, .int x1] [] (cg_M L f e) := by
  refine (g_2 (by decide +kernel : kd_ 96 17 = ((2, 1, 0, []), 18)) rfl).trans ?_
  refine (g_0 (by decide +kernel : kd_ 96 18 = ((0, 9, 0, []), 20))).trans ?_
  exact g_42 (by decide +kernel : kd_ 96 20 = ((42, 37, 0, []), 23))
theorem b_M_putNumber_23 {L : Nat} {f : cg_G} {e : Nat × Nat} {x1 : Int32} {a0 : Nat} (h1 : sh_ a0 = 7): cj_res 96 23 [.ref a0, .int x1] [] (cg_M L f e) = cj_aft 96 34 37 [.ref a0, .int x1] [] (cj_ev 50 [.ref a0, .int ((nI 48) + ((x1 / (nI 10)) - (x1 / (nI 10)) / (nI 10) * (nI 10)))] (cg_M L f e)) := by
  refine (g_3 (by decide +kernel : kd_ 96 23 = ((3, 0, 0, []), 24)) rfl).trans ?_
  refine (g_0 (by decide +kernel : kd_ 96 24 = ((0, 48, 0, []), 26))).trans ?_
  refine (g_2 (by decide +kernel : kd_ 96 26 = ((2, 1, 0, []), 27)) rfl).trans ?_
  refine (g_0 (by decide +kernel : kd_ 96 27 = ((0, 10, 0, []), 29))).trans ?_
  refine (g_13 (by decide +kernel : kd_ 96 29 = ((13, 0, 0, []), 30)) (by decide)).trans ?_
  refine (g_0 (by decide +kernel : kd_ 96 30 = ((0, 10, 0, []), 32))).trans ?_
  refine (g_14 (by decide +kernel : kd_ 96 32 = ((14, 0, 0, []), 33)) (by decide)).trans ?_
  refine (g_10 (by decide +kernel : kd_ 96 33 = ((10, 0, 0, []), 34))).trans ?_
  exact g_80 (by decide +kernel : kd_ 96 34 = ((80, 50, 2, [7]), 37)) rfl h1 rfl rfl rfl
theorem b_M_putNumber_37 {L : Nat} {f : cg_G} {e : Nat × Nat} {x1 : Int32} {a0 : Nat} (h1 : sh_ a0 = 7): cj_res 96 37 [.ref a0, .int x1] [] (cg_M L f e) = cj_aft 96 45 48 [.ref a0, .int x1] [] (cj_ev 50 [.ref a0, .int ((nI 48) + (x1 - x1 / (nI 10) * (nI 10)))] (cg_M L f e)) := by
  refine (g_3 (by decide +kernel : kd_ 96 37 = ((3, 0, 0, []), 38)) rfl).trans ?_
  refine (g_0 (by decide +kernel : kd_ 96 38 = ((0, 48, 0, []), 40))).trans ?_
  refine (g_2 (by decide +kernel : kd_ 96 40 = ((2, 1, 0, []), 41)) rfl).trans ?_
  refine (g_0 (by decide +kernel : kd_ 96 41 = ((0, 10, 0, []), 43))).trans ?_
  refine (g_14 (by decide +kernel : kd_ 96 43 = ((14, 0, 0, []), 44)) (by decide)).trans ?_
  refine (g_10 (by decide +kernel : kd_ 96 44 = ((10, 0, 0, []), 45))).trans ?_
  exact g_80 (by decide +kernel : kd_ 96 45 = ((80, 50, 2, [7]), 48)) rfl h1 rfl rfl rfl
theorem b_M_putNumber_48 {L : Nat} {f : cg_G} {e : Nat × Nat} {x1 : Int32} {a0 : Nat} : cj_res 96 48 [.ref a0, .int x1] [] (cg_M L f e) = some (.inl none, cg_M L f e) := by
  exact g_91 (by decide +kernel : kd_ 96 48 = ((91, 0, 0, []), 49))
theorem b_M_solvePages_0 {L : Nat} {f : cg_G} {e : Nat × Nat} {x1 x2 : Int32} {a0 : Nat} {u3 u4 u5 u6 : Value} (h1 : sh_ a0 = 7) (h2 : cg_in x2 901): cj_res 97 0 [.ref a0, .int x1, .int x2, u3, u4, u5, u6] [] (cg_M L f e) = cj_res 97 12 [.ref a0, .int x1, .int x2, .int (nI 0), .int (nI 1), u5, u6] [] (cg_M L (cg_up f (a0 + 13) x2.toNatClampNeg (- nI 1)) e) := by
  refine (g_3 (by decide +kernel : kd_ 97 0 = ((3, 0, 0, []), 1)) rfl).trans ?_
  refine (g_50 (v := .ref (a0 + 13)) (by decide +kernel : kd_ 97 1 = ((50, 7, 21, []), 4)) h1 rfl).trans ?_
  refine (g_2 (by decide +kernel : kd_ 97 4 = ((2, 2, 0, []), 5)) rfl).trans ?_
  refine (g_1 (by decide +kernel : kd_ 97 5 = ((1, 1, 0, []), 6))).trans ?_
  refine (g_56 (by decide +kernel : kd_ 97 6 = ((56, 0, 0, []), 7)) (sc_7_21 h1) (fun _ => rfl) (by rw [sl_7_21 h1]; exact h2) (by omega)).trans ?_
  refine (g_0 (by decide +kernel : kd_ 97 7 = ((0, 0, 0, []), 8))).trans ?_
  refine (g_4 (ls' := [.ref a0, .int x1, .int x2, .int (nI 0), u4, u5, u6]) (by decide +kernel : kd_ 97 8 = ((4, 3, 0, []), 9)) rfl rfl).trans ?_
  refine (g_0 (by decide +kernel : kd_ 97 9 = ((0, 1, 0, []), 10))).trans ?_
  refine (g_4 (ls' := [.ref a0, .int x1, .int x2, .int (nI 0), .int (nI 1), u5, u6]) (by decide +kernel : kd_ 97 10 = ((4, 4, 0, []), 12)) rfl rfl).trans ?_
  rfl
theorem b_M_solvePages_12 {L : Nat} {f : cg_G} {e : Nat × Nat} {x1 x2 x3 x4 : Int32} {a0 : Nat} {u5 u6 : Value} (h1 : sh_ a0 = 7) (h2 : cg_in x1 2): cj_res 97 12 [.ref a0, .int x1, .int x2, .int x3, .int x4, u5, u6] [] (cg_M L f e) = if (f (a0 + 23) x1.toNatClampNeg) < (x2 + x4) then cj_res 97 149 [.ref a0, .int x1, .int x2, .int x3, .int x4, u5, u6] [] (cg_M L f e) else cj_res 97 25 [.ref a0, .int x1, .int x2, .int x3, .int x4, u5, u6] [] (cg_M L f e) := by
  refine (g_2 (by decide +kernel : kd_ 97 12 = ((2, 2, 0, []), 13)) rfl).trans ?_
  refine (g_2 (by decide +kernel : kd_ 97 13 = ((2, 4, 0, []), 15)) rfl).trans ?_
  refine (g_10 (by decide +kernel : kd_ 97 15 = ((10, 0, 0, []), 16))).trans ?_
  refine (g_3 (by decide +kernel : kd_ 97 16 = ((3, 0, 0, []), 17)) rfl).trans ?_
  refine (g_50 (v := .ref (a0 + 23)) (by decide +kernel : kd_ 97 17 = ((50, 7, 32, []), 20)) h1 rfl).trans ?_
  refine (g_2 (by decide +kernel : kd_ 97 20 = ((2, 1, 0, []), 21)) rfl).trans ?_
  refine (g_54 (v := .int (f (a0 + 23) x1.toNatClampNeg)) (by decide +kernel : kd_ 97 21 = ((54, 0, 0, []), 22)) (sc_7_32 h1) rfl (by rw [sl_7_32 h1]; exact h2) rfl).trans ?_
  exact g_41 (by decide +kernel : kd_ 97 22 = ((41, 149, 0, []), 25))
theorem b_M_solvePages_25 {L : Nat} {f : cg_G} {e : Nat × Nat} {x1 x2 x3 x4 : Int32} {a0 : Nat} {u5 u6 : Value} (h1 : sh_ a0 = 7): cj_res 97 25 [.ref a0, .int x1, .int x2, .int x3, .int x4, u5, u6] [] (cg_M L f e) = cj_aft 97 39 42 [.ref a0, .int x1, .int x2, .int x3, .int x4, u5, u6] [.int x3] (cj_ev 48 [.ref a0, .int (((((nI 900) * x1) + x2) + x4) - (nI 1))] (cg_M L f e)) := by
  refine (g_2 (by decide +kernel : kd_ 97 25 = ((2, 3, 0, []), 26)) rfl).trans ?_
  refine (g_3 (by decide +kernel : kd_ 97 26 = ((3, 0, 0, []), 27)) rfl).trans ?_
  refine (g_0 (by decide +kernel : kd_ 97 27 = ((0, 900, 0, []), 30))).trans ?_
  refine (g_2 (by decide +kernel : kd_ 97 30 = ((2, 1, 0, []), 31)) rfl).trans ?_
  refine (g_12 (by decide +kernel : kd_ 97 31 = ((12, 0, 0, []), 32))).trans ?_
  refine (g_2 (by decide +kernel : kd_ 97 32 = ((2, 2, 0, []), 33)) rfl).trans ?_
  refine (g_10 (by decide +kernel : kd_ 97 33 = ((10, 0, 0, []), 34))).trans ?_
  refine (g_2 (by decide +kernel : kd_ 97 34 = ((2, 4, 0, []), 36)) rfl).trans ?_
  refine (g_10 (by decide +kernel : kd_ 97 36 = ((10, 0, 0, []), 37))).trans ?_
  refine (g_0 (by decide +kernel : kd_ 97 37 = ((0, 1, 0, []), 38))).trans ?_
  refine (g_11 (by decide +kernel : kd_ 97 38 = ((11, 0, 0, []), 39))).trans ?_
  exact g_80 (by decide +kernel : kd_ 97 39 = ((80, 48, 2, [7]), 42)) rfl h1 rfl rfl rfl
theorem b_M_solvePages_42 {L : Nat} {f : cg_G} {e : Nat × Nat} {x1 x2 x3 x4 y0 y1 : Int32} {a0 : Nat} {u5 u6 : Value} (h1 : sh_ a0 = 7) (h2 : cg_in x1 2): cj_res 97 42 [.ref a0, .int x1, .int x2, .int x3, .int x4, u5, u6] [.int y0, .int y1] (cg_M L f e) = if (x2 + x4) = (f (a0 + 23) x1.toNatClampNeg) then cj_res 97 57 [.ref a0, .int x1, .int x2, .int (y1 + y0), .int x4, u5, u6] [] (cg_M L f e) else cj_res 97 61 [.ref a0, .int x1, .int x2, .int (y1 + y0), .int x4, u5, u6] [] (cg_M L f e) := by
  refine (g_10 (by decide +kernel : kd_ 97 42 = ((10, 0, 0, []), 43))).trans ?_
  refine (g_4 (ls' := [.ref a0, .int x1, .int x2, .int (y1 + y0), .int x4, u5, u6]) (by decide +kernel : kd_ 97 43 = ((4, 3, 0, []), 44)) rfl rfl).trans ?_
  refine (g_2 (by decide +kernel : kd_ 97 44 = ((2, 2, 0, []), 45)) rfl).trans ?_
  refine (g_2 (by decide +kernel : kd_ 97 45 = ((2, 4, 0, []), 47)) rfl).trans ?_
  refine (g_10 (by decide +kernel : kd_ 97 47 = ((10, 0, 0, []), 48))).trans ?_
  refine (g_3 (by decide +kernel : kd_ 97 48 = ((3, 0, 0, []), 49)) rfl).trans ?_
  refine (g_50 (v := .ref (a0 + 23)) (by decide +kernel : kd_ 97 49 = ((50, 7, 32, []), 52)) h1 rfl).trans ?_
  refine (g_2 (by decide +kernel : kd_ 97 52 = ((2, 1, 0, []), 53)) rfl).trans ?_
  refine (g_54 (v := .int (f (a0 + 23) x1.toNatClampNeg)) (by decide +kernel : kd_ 97 53 = ((54, 0, 0, []), 54)) (sc_7_32 h1) rfl (by rw [sl_7_32 h1]; exact h2) rfl).trans ?_
  exact g_38 (by decide +kernel : kd_ 97 54 = ((38, 61, 0, []), 57))
theorem b_M_solvePages_57 {L : Nat} {f : cg_G} {e : Nat × Nat} {x1 x2 x3 x4 : Int32} {a0 : Nat} {u5 u6 : Value} : cj_res 97 57 [.ref a0, .int x1, .int x2, .int x3, .int x4, u5, u6] [] (cg_M L f e) = cj_res 97 62 [.ref a0, .int x1, .int x2, .int x3, .int x4, u5, u6] [.int (nI 1)] (cg_M L f e) := by
  refine (g_0 (by decide +kernel : kd_ 97 57 = ((0, 1, 0, []), 58))).trans ?_
  refine (g_30 (by decide +kernel : kd_ 97 58 = ((30, 62, 0, []), 61))).trans ?_
  rfl
theorem b_M_solvePages_61 {L : Nat} {f : cg_G} {e : Nat × Nat} {x1 x2 x3 x4 : Int32} {a0 : Nat} {u5 u6 : Value} : cj_res 97 61 [.ref a0, .int x1, .int x2, .int x3, .int x4, u5, u6] [] (cg_M L f e) = cj_res 97 62 [.ref a0, .int x1, .int x2, .int x3, .int x4, u5, u6] [.int (nI 0)] (cg_M L f e) := by
  refine (g_0 (by decide +kernel : kd_ 97 61 = ((0, 0, 0, []), 62))).trans ?_
  rfl
theorem b_M_solvePages_62 {L : Nat} {f : cg_G} {e : Nat × Nat} {x1 x2 x3 x4 y0 : Int32} {a0 : Nat} {u5 u6 : Value} : cj_res 97 62 [.ref a0, .int x1, .int x2, .int x3, .int x4, u5, u6] [.int y0] (cg_M L f e) = if y0 = 0 then cj_res 97 73 [.ref a0, .int x1, .int x2, .int x3, .int x4, .int y0, u6] [] (cg_M L f e) else cj_res 97 69 [.ref a0, .int x1, .int x2, .int x3, .int x4, .int y0, u6] [] (cg_M L f e) := by
  refine (g_4 (ls' := [.ref a0, .int x1, .int x2, .int x3, .int x4, .int y0, u6]) (by decide +kernel : kd_ 97 62 = ((4, 5, 0, []), 64)) rfl rfl).trans ?_
  refine (g_2 (by decide +kernel : kd_ 97 64 = ((2, 5, 0, []), 66)) rfl).trans ?_
  exact g_31 (by decide +kernel : kd_ 97 66 = ((31, 73, 0, []), 69))
theorem b_M_solvePages_69 {L : Nat} {f : cg_G} {e : Nat × Nat} {x1 x2 x3 x4 x5 : Int32} {a0 : Nat} {u6 : Value} : cj_res 97 69 [.ref a0, .int x1, .int x2, .int x3, .int x4, .int x5, u6] [] (cg_M L f e) = cj_res 97 96 [.ref a0, .int x1, .int x2, .int x3, .int x4, .int x5, u6] [.int (nI 0)] (cg_M L f e) := by
  refine (g_0 (by decide +kernel : kd_ 97 69 = ((0, 0, 0, []), 70))).trans ?_
  refine (g_30 (by decide +kernel : kd_ 97 70 = ((30, 96, 0, []), 73))).trans ?_
  rfl
theorem b_M_solvePages_73 {L : Nat} {f : cg_G} {e : Nat × Nat} {x1 x2 x3 x4 x5 : Int32} {a0 : Nat} {u6 : Value} (h1 : sh_ a0 = 7) (h2 : cg_in (x2 + x4) 901): cj_res 97 73 [.ref a0, .int x1, .int x2, .int x3, .int x4, .int x5, u6] [] (cg_M L f e) = cj_res 97 96 [.ref a0, .int x1, .int x2, .int x3, .int x4, .int x5, u6] [.int ((((f a0 1) - x3) * ((f a0 1) - x3)) + (f (a0 + 13) (x2 + x4).toNatClampNeg))] (cg_M L f e) := by
  refine (g_3 (by decide +kernel : kd_ 97 73 = ((3, 0, 0, []), 74)) rfl).trans ?_
  refine (g_50 (v := .int (f a0 1)) (by decide +kernel : kd_ 97 74 = ((50, 7, 1, []), 77)) h1 rfl).trans ?_
  refine (g_2 (by decide +kernel : kd_ 97 77 = ((2, 3, 0, []), 78)) rfl).trans ?_
  refine (g_11 (by decide +kernel : kd_ 97 78 = ((11, 0, 0, []), 79))).trans ?_
  refine (g_3 (by decide +kernel : kd_ 97 79 = ((3, 0, 0, []), 80)) rfl).trans ?_
  refine (g_50 (v := .int (f a0 1)) (by decide +kernel : kd_ 97 80 = ((50, 7, 1, []), 83)) h1 rfl).trans ?_
  refine (g_2 (by decide +kernel : kd_ 97 83 = ((2, 3, 0, []), 84)) rfl).trans ?_
  refine (g_11 (by decide +kernel : kd_ 97 84 = ((11, 0, 0, []), 85))).trans ?_
  refine (g_12 (by decide +kernel : kd_ 97 85 = ((12, 0, 0, []), 86))).trans ?_
  refine (g_3 (by decide +kernel : kd_ 97 86 = ((3, 0, 0, []), 87)) rfl).trans ?_
  refine (g_50 (v := .ref (a0 + 13)) (by decide +kernel : kd_ 97 87 = ((50, 7, 21, []), 90)) h1 rfl).trans ?_
  refine (g_2 (by decide +kernel : kd_ 97 90 = ((2, 2, 0, []), 91)) rfl).trans ?_
  refine (g_2 (by decide +kernel : kd_ 97 91 = ((2, 4, 0, []), 93)) rfl).trans ?_
  refine (g_10 (by decide +kernel : kd_ 97 93 = ((10, 0, 0, []), 94))).trans ?_
  refine (g_54 (v := .int (f (a0 + 13) (x2 + x4).toNatClampNeg)) (by decide +kernel : kd_ 97 94 = ((54, 0, 0, []), 95)) (sc_7_21 h1) rfl (by rw [sl_7_21 h1]; exact h2) rfl).trans ?_
  refine (g_10 (by decide +kernel : kd_ 97 95 = ((10, 0, 0, []), 96))).trans ?_
  rfl
theorem b_M_solvePages_96 {L : Nat} {f : cg_G} {e : Nat × Nat} {x1 x2 x3 x4 x5 y0 : Int32} {a0 : Nat} {u6 : Value} (h1 : sh_ a0 = 7): cj_res 97 96 [.ref a0, .int x1, .int x2, .int x3, .int x4, .int x5, u6] [.int y0] (cg_M L f e) = if (f a0 1) < x3 then cj_res 97 143 [.ref a0, .int x1, .int x2, .int x3, .int x4, .int x5, .int y0] [] (cg_M L f e) else cj_res 97 106 [.ref a0, .int x1, .int x2, .int x3, .int x4, .int x5, .int y0] [] (cg_M L f e) := by
  refine (g_4 (ls' := [.ref a0, .int x1, .int x2, .int x3, .int x4, .int x5, .int y0]) (by decide +kernel : kd_ 97 96 = ((4, 6, 0, []), 98)) rfl rfl).trans ?_
  refine (g_2 (by decide +kernel : kd_ 97 98 = ((2, 3, 0, []), 99)) rfl).trans ?_
  refine (g_3 (by decide +kernel : kd_ 97 99 = ((3, 0, 0, []), 100)) rfl).trans ?_
  refine (g_50 (v := .int (f a0 1)) (by decide +kernel : kd_ 97 100 = ((50, 7, 1, []), 103)) h1 rfl).trans ?_
  exact g_41 (by decide +kernel : kd_ 97 103 = ((41, 143, 0, []), 106))
theorem b_M_solvePages_106 {L : Nat} {f : cg_G} {e : Nat × Nat} {x1 x2 x3 x4 x5 x6 : Int32} {a0 : Nat} (h1 : sh_ a0 = 7) (h2 : cg_in x2 901): cj_res 97 106 [.ref a0, .int x1, .int x2, .int x3, .int x4, .int x5, .int x6] [] (cg_M L f e) = if (f (a0 + 13) x2.toNatClampNeg) = (- nI 1) then cj_res 97 127 [.ref a0, .int x1, .int x2, .int x3, .int x4, .int x5, .int x6] [] (cg_M L f e) else cj_res 97 116 [.ref a0, .int x1, .int x2, .int x3, .int x4, .int x5, .int x6] [] (cg_M L f e) := by
  refine (g_3 (by decide +kernel : kd_ 97 106 = ((3, 0, 0, []), 107)) rfl).trans ?_
  refine (g_50 (v := .ref (a0 + 13)) (by decide +kernel : kd_ 97 107 = ((50, 7, 21, []), 110)) h1 rfl).trans ?_
  refine (g_2 (by decide +kernel : kd_ 97 110 = ((2, 2, 0, []), 111)) rfl).trans ?_
  refine (g_54 (v := .int (f (a0 + 13) x2.toNatClampNeg)) (by decide +kernel : kd_ 97 111 = ((54, 0, 0, []), 112)) (sc_7_21 h1) rfl (by rw [sl_7_21 h1]; exact h2) rfl).trans ?_
  refine (g_1 (by decide +kernel : kd_ 97 112 = ((1, 1, 0, []), 113))).trans ?_
  exact g_37 (by decide +kernel : kd_ 97 113 = ((37, 127, 0, []), 116))
theorem b_M_solvePages_116 {L : Nat} {f : cg_G} {e : Nat × Nat} {x1 x2 x3 x4 x5 x6 : Int32} {a0 : Nat} (h1 : sh_ a0 = 7) (h2 : cg_in x2 901): cj_res 97 116 [.ref a0, .int x1, .int x2, .int x3, .int x4, .int x5, .int x6] [] (cg_M L f e) = if (f (a0 + 13) x2.toNatClampNeg) ≤ x6 then cj_res 97 143 [.ref a0, .int x1, .int x2, .int x3, .int x4, .int x5, .int x6] [] (cg_M L f e) else cj_res 97 127 [.ref a0, .int x1, .int x2, .int x3, .int x4, .int x5, .int x6] [] (cg_M L f e) := by
  refine (g_2 (by decide +kernel : kd_ 97 116 = ((2, 6, 0, []), 118)) rfl).trans ?_
  refine (g_3 (by decide +kernel : kd_ 97 118 = ((3, 0, 0, []), 119)) rfl).trans ?_
  refine (g_50 (v := .ref (a0 + 13)) (by decide +kernel : kd_ 97 119 = ((50, 7, 21, []), 122)) h1 rfl).trans ?_
  refine (g_2 (by decide +kernel : kd_ 97 122 = ((2, 2, 0, []), 123)) rfl).trans ?_
  refine (g_54 (v := .int (f (a0 + 13) x2.toNatClampNeg)) (by decide +kernel : kd_ 97 123 = ((54, 0, 0, []), 124)) (sc_7_21 h1) rfl (by rw [sl_7_21 h1]; exact h2) rfl).trans ?_
  exact g_40 (by decide +kernel : kd_ 97 124 = ((40, 143, 0, []), 127))
theorem b_M_solvePages_127 {L : Nat} {f : cg_G} {e : Nat × Nat} {x1 x2 x3 x4 x5 x6 : Int32} {a0 : Nat} (h1 : sh_ a0 = 7) (h2 : cg_in x2 901): cj_res 97 127 [.ref a0, .int x1, .int x2, .int x3, .int x4, .int x5, .int x6] [] (cg_M L f e) = cj_res 97 143 [.ref a0, .int x1, .int x2, .int x3, .int x4, .int x5, .int x6] [] (cg_M L (cg_up (cg_up f (a0 + 13) x2.toNatClampNeg x6) (a0 + 14) x2.toNatClampNeg x4) e) := by
  refine (g_3 (by decide +kernel : kd_ 97 127 = ((3, 0, 0, []), 128)) rfl).trans ?_
  refine (g_50 (v := .ref (a0 + 13)) (by decide +kernel : kd_ 97 128 = ((50, 7, 21, []), 131)) h1 rfl).trans ?_
  refine (g_2 (by decide +kernel : kd_ 97 131 = ((2, 2, 0, []), 132)) rfl).trans ?_
  refine (g_2 (by decide +kernel : kd_ 97 132 = ((2, 6, 0, []), 134)) rfl).trans ?_
  refine (g_56 (by decide +kernel : kd_ 97 134 = ((56, 0, 0, []), 135)) (sc_7_21 h1) (fun _ => rfl) (by rw [sl_7_21 h1]; exact h2) (by omega)).trans ?_
  refine (g_3 (by decide +kernel : kd_ 97 135 = ((3, 0, 0, []), 136)) rfl).trans ?_
  refine (g_50 (v := .ref (a0 + 14)) (by decide +kernel : kd_ 97 136 = ((50, 7, 22, []), 139)) h1 rfl).trans ?_
  refine (g_2 (by decide +kernel : kd_ 97 139 = ((2, 2, 0, []), 140)) rfl).trans ?_
  refine (g_2 (by decide +kernel : kd_ 97 140 = ((2, 4, 0, []), 142)) rfl).trans ?_
  refine (g_56 (by decide +kernel : kd_ 97 142 = ((56, 0, 0, []), 143)) (sc_7_22 h1) (fun _ => rfl) (by rw [sl_7_22 h1]; exact h2) (by omega)).trans ?_
  rfl
theorem b_M_solvePages_143 {L : Nat} {f : cg_G} {e : Nat × Nat} {x1 x2 x3 x4 x5 x6 : Int32} {a0 : Nat} : cj_res 97 143 [.ref a0, .int x1, .int x2, .int x3, .int x4, .int x5, .int x6] [] (cg_M L f e) = cj_res 97 12 [.ref a0, .int x1, .int x2, .int x3, .int (x4 + nI 1), .int x5, .int x6] [] (cg_M L f e) := by
  refine (g_6 (ls' := [.ref a0, .int x1, .int x2, .int x3, .int (x4 + nI 1), .int x5, .int x6]) (by decide +kernel : kd_ 97 143 = ((6, 4, 1, []), 146)) rfl rfl).trans ?_
  refine (g_30 (by decide +kernel : kd_ 97 146 = ((30, 12, 0, []), 149))).trans ?_
  rfl
theorem b_M_solvePages_149 {L : Nat} {f : cg_G} {e : Nat × Nat} {x1 x2 x3 x4 : Int32} {a0 : Nat} {u5 u6 : Value} : cj_res 97 149 [.ref a0, .int x1, .int x2, .int x3, .int x4, u5, u6] [] (cg_M L f e) = some (.inl none, cg_M L f e) := by
  exact g_91 (by decide +kernel : kd_ 97 149 = ((91, 0, 0, []), 150))
