theorem b_M_unit_0 {L : Nat} {f : cg_G} {e : Nat × Nat} {x1 x2 : Int32} {a0 : Nat} (h1 : sh_ a0 = 7): cj_res 98 0 [.ref a0, .int x1, .int x2] [] (cg_M L f e) = cj_aft 98 6 9 [.ref a0, .int x1, .int x2] [.int (f a0 3), .ref a0] (cj_ev 53 [.int x1] (cg_M L f e)) := by
  refine (g_3 (by decide +kernel : kd_ 98 0 = ((3, 0, 0, []), 1)) rfl).trans ?_
  refine (g_3 (by decide +kernel : kd_ 98 1 = ((3, 0, 0, []), 2)) rfl).trans ?_
  refine (g_50 (v := .int (f a0 3)) (by decide +kernel : kd_ 98 2 = ((50, 7, 3, []), 5)) h1 rfl).trans ?_
  refine (g_2 (by decide +kernel : kd_ 98 5 = ((2, 1, 0, []), 6)) rfl).trans ?_
  exact g_81 (by decide +kernel : kd_ 98 6 = ((81, 53, 1, []), 9)) rfl rfl rfl
theorem b_M_unit_9 {L : Nat} {f : cg_G} {e : Nat × Nat} {x1 x2 y0 y1 : Int32} {a0 c2 : Nat} : cj_res 98 9 [.ref a0, .int x1, .int x2] [.int y0, .int y1, .ref c2] (cg_M L f e) = cj_aft 98 11 14 [.ref a0, .int x1, .int x2] [.int (y1 + y0), .ref c2] (cj_ev 53 [.int x2] (cg_M L f e)) := by
  refine (g_10 (by decide +kernel : kd_ 98 9 = ((10, 0, 0, []), 10))).trans ?_
  refine (g_2 (by decide +kernel : kd_ 98 10 = ((2, 2, 0, []), 11)) rfl).trans ?_
  exact g_81 (by decide +kernel : kd_ 98 11 = ((81, 53, 1, []), 14)) rfl rfl rfl
theorem b_M_unit_14 {L : Nat} {f : cg_G} {e : Nat × Nat} {x1 x2 y0 y1 : Int32} {a0 c2 : Nat} : cj_res 98 14 [.ref a0, .int x1, .int x2] [.int y0, .int y1, .ref c2] (cg_M L f e) = if (nI 32) < (y1 + y0) then cj_res 98 24 [.ref a0, .int x1, .int x2] [.ref c2] (cg_M L f e) else cj_res 98 20 [.ref a0, .int x1, .int x2] [.ref c2] (cg_M L f e) := by
  refine (g_10 (by decide +kernel : kd_ 98 14 = ((10, 0, 0, []), 15))).trans ?_
  refine (g_0 (by decide +kernel : kd_ 98 15 = ((0, 32, 0, []), 17))).trans ?_
  exact g_41 (by decide +kernel : kd_ 98 17 = ((41, 24, 0, []), 20))
theorem b_M_unit_20 {L : Nat} {f : cg_G} {e : Nat × Nat} {x1 x2 : Int32} {a0 c0 : Nat} : cj_res 98 20 [.ref a0, .int x1, .int x2] [.ref c0] (cg_M L f e) = cj_res 98 25 [.ref a0, .int x1, .int x2] [.int (nI 1), .ref c0] (cg_M L f e) := by
  refine (g_0 (by decide +kernel : kd_ 98 20 = ((0, 1, 0, []), 21))).trans ?_
  refine (g_30 (by decide +kernel : kd_ 98 21 = ((30, 25, 0, []), 24))).trans ?_
  rfl
theorem b_M_unit_24 {L : Nat} {f : cg_G} {e : Nat × Nat} {x1 x2 : Int32} {a0 c0 : Nat} : cj_res 98 24 [.ref a0, .int x1, .int x2] [.ref c0] (cg_M L f e) = cj_res 98 25 [.ref a0, .int x1, .int x2] [.int (nI 0), .ref c0] (cg_M L f e) := by
  refine (g_0 (by decide +kernel : kd_ 98 24 = ((0, 0, 0, []), 25))).trans ?_
  rfl
theorem b_M_unit_25 {L : Nat} {f : cg_G} {e : Nat × Nat} {x1 x2 y0 : Int32} {a0 c1 : Nat} : cj_res 98 25 [.ref a0, .int x1, .int x2] [.int y0, .ref c1] (cg_M L f e) = cj_aft 98 26 29 [.ref a0, .int x1, .int x2] [.int y0, .ref c1] (cj_ev 43 [.int x1] (cg_M L f e)) := by
  refine (g_2 (by decide +kernel : kd_ 98 25 = ((2, 1, 0, []), 26)) rfl).trans ?_
  exact g_81 (by decide +kernel : kd_ 98 26 = ((81, 43, 1, []), 29)) rfl rfl rfl
theorem b_M_unit_29 {L : Nat} {f : cg_G} {e : Nat × Nat} {x1 x2 y0 y1 : Int32} {a0 c2 : Nat} : cj_res 98 29 [.ref a0, .int x1, .int x2] [.int y0, .int y1, .ref c2] (cg_M L f e) = if y0 = 0 then cj_res 98 43 [.ref a0, .int x1, .int x2] [.int y1, .ref c2] (cg_M L f e) else cj_res 98 32 [.ref a0, .int x1, .int x2] [.int y1, .ref c2] (cg_M L f e) := by
  exact g_31 (by decide +kernel : kd_ 98 29 = ((31, 43, 0, []), 32))
theorem b_M_unit_32 {L : Nat} {f : cg_G} {e : Nat × Nat} {x1 x2 y0 : Int32} {a0 c1 : Nat} : cj_res 98 32 [.ref a0, .int x1, .int x2] [.int y0, .ref c1] (cg_M L f e) = cj_aft 98 33 36 [.ref a0, .int x1, .int x2] [.int y0, .ref c1] (cj_ev 43 [.int x2] (cg_M L f e)) := by
  refine (g_2 (by decide +kernel : kd_ 98 32 = ((2, 2, 0, []), 33)) rfl).trans ?_
  exact g_81 (by decide +kernel : kd_ 98 33 = ((81, 43, 1, []), 36)) rfl rfl rfl
theorem b_M_unit_36 {L : Nat} {f : cg_G} {e : Nat × Nat} {x1 x2 y0 y1 : Int32} {a0 c2 : Nat} : cj_res 98 36 [.ref a0, .int x1, .int x2] [.int y0, .int y1, .ref c2] (cg_M L f e) = if y0 = 0 then cj_res 98 43 [.ref a0, .int x1, .int x2] [.int y1, .ref c2] (cg_M L f e) else cj_res 98 39 [.ref a0, .int x1, .int x2] [.int y1, .ref c2] (cg_M L f e) := by
  exact g_31 (by decide +kernel : kd_ 98 36 = ((31, 43, 0, []), 39))
theorem b_M_unit_39 {L : Nat} {f : cg_G} {e : Nat × Nat} {x1 x2 y0 : Int32} {a0 c1 : Nat} : cj_res 98 39 [.ref a0, .int x1, .int x2] [.int y0, .ref c1] (cg_M L f e) = cj_res 98 44 [.ref a0, .int x1, .int x2] [.int (nI 1), .int y0, .ref c1] (cg_M L f e) := by
  refine (g_0 (by decide +kernel : kd_ 98 39 = ((0, 1, 0, []), 40))).trans ?_
  refine (g_30 (by decide +kernel : kd_ 98 40 = ((30, 44, 0, []), 43))).trans ?_
  rfl
theorem b_M_unit_43 {L : Nat} {f : cg_G} {e : Nat × Nat} {x1 x2 y0 : Int32} {a0 c1 : Nat} : cj_res 98 43 [.ref a0, .int x1, .int x2] [.int y0, .ref c1] (cg_M L f e) = cj_res 98 44 [.ref a0, .int x1, .int x2] [.int (nI 0), .int y0, .ref c1] (cg_M L f e) := by
  refine (g_0 (by decide +kernel : kd_ 98 43 = ((0, 0, 0, []), 44))).trans ?_
  rfl
theorem b_M_unit_44 {L : Nat} {f : cg_G} {e : Nat × Nat} {x1 x2 y0 y1 : Int32} {a0 c2 : Nat} (h1 : sh_ c2 = 7): cj_res 98 44 [.ref a0, .int x1, .int x2] [.int y0, .int y1, .ref c2] (cg_M L f e) = cj_aft 98 44 47 [.ref a0, .int x1, .int x2] [] (cj_ev 46 [.ref c2, .int y1, .int y0] (cg_M L f e)) := by
  exact g_80 (by decide +kernel : kd_ 98 44 = ((80, 46, 3, [7]), 47)) rfl h1 rfl rfl rfl
theorem b_M_unit_47 {L : Nat} {f : cg_G} {e : Nat × Nat} {x1 x2 y0 : Int32} {a0 : Nat} : cj_res 98 47 [.ref a0, .int x1, .int x2] [.int y0] (cg_M L f e) = if y0 = 0 then cj_res 98 50 [.ref a0, .int x1, .int x2] [] (cg_M L f e) else cj_res 98 52 [.ref a0, .int x1, .int x2] [] (cg_M L f e) := by
  exact g_32 (by decide +kernel : kd_ 98 47 = ((32, 52, 0, []), 50))
theorem b_M_unit_50 {L : Nat} {f : cg_G} {e : Nat × Nat} {x1 x2 : Int32} {a0 : Nat} : cj_res 98 50 [.ref a0, .int x1, .int x2] [] (cg_M L f e) = some (.inl (some (.int (nI 0))), cg_M L f e) := by
  refine (g_0 (by decide +kernel : kd_ 98 50 = ((0, 0, 0, []), 51))).trans ?_
  exact g_90 (by decide +kernel : kd_ 98 51 = ((90, 0, 0, []), 52))
theorem b_M_unit_52 {L : Nat} {f : cg_G} {e : Nat × Nat} {x1 x2 : Int32} {a0 : Nat} (h1 : sh_ a0 = 7): cj_res 98 52 [.ref a0, .int x1, .int x2] [] (cg_M L f e) = cj_aft 98 54 57 [.ref a0, .int x1, .int x2] [] (cj_ev 55 [.ref a0, .int x1] (cg_M L f e)) := by
  refine (g_3 (by decide +kernel : kd_ 98 52 = ((3, 0, 0, []), 53)) rfl).trans ?_
  refine (g_2 (by decide +kernel : kd_ 98 53 = ((2, 1, 0, []), 54)) rfl).trans ?_
  exact g_80 (by decide +kernel : kd_ 98 54 = ((80, 55, 2, [7]), 57)) rfl h1 rfl rfl rfl
theorem b_M_unit_57 {L : Nat} {f : cg_G} {e : Nat × Nat} {x1 x2 : Int32} {a0 : Nat} (h1 : sh_ a0 = 7): cj_res 98 57 [.ref a0, .int x1, .int x2] [] (cg_M L f e) = cj_aft 98 59 62 [.ref a0, .int x1, .int x2] [] (cj_ev 55 [.ref a0, .int x2] (cg_M L f e)) := by
  refine (g_3 (by decide +kernel : kd_ 98 57 = ((3, 0, 0, []), 58)) rfl).trans ?_
  refine (g_2 (by decide +kernel : kd_ 98 58 = ((2, 2, 0, []), 59)) rfl).trans ?_
  exact g_80 (by decide +kernel : kd_ 98 59 = ((80, 55, 2, [7]), 62)) rfl h1 rfl rfl rfl
theorem b_M_unit_62 {L : Nat} {f : cg_G} {e : Nat × Nat} {x1 x2 : Int32} {a0 : Nat} (h1 : sh_ a0 = 7): cj_res 98 62 [.ref a0, .int x1, .int x2] [] (cg_M L f e) = some (.inl (some (.int (f a0 3))), cg_M L f e) := by
  refine (g_3 (by decide +kernel : kd_ 98 62 = ((3, 0, 0, []), 63)) rfl).trans ?_
  refine (g_50 (v := .int (f a0 3)) (by decide +kernel : kd_ 98 63 = ((50, 7, 3, []), 66)) h1 rfl).trans ?_
  exact g_90 (by decide +kernel : kd_ 98 66 = ((90, 0, 0, []), 67))
theorem b_M_wasThere_0 {L : Nat} {f : cg_G} {e : Nat × Nat} {x1 : Int32} {a0 : Nat} (h1 : sh_ a0 = 7): cj_res 99 0 [.ref a0, .int x1] [] (cg_M L f e) = if (f a0 23) = (- nI 1) then cj_res 99 9 [.ref a0, .int x1] [.int x1] (cg_M L f e) else cj_res 99 16 [.ref a0, .int x1] [.int x1] (cg_M L f e) := by
  refine (g_2 (by decide +kernel : kd_ 99 0 = ((2, 1, 0, []), 1)) rfl).trans ?_
  refine (g_3 (by decide +kernel : kd_ 99 1 = ((3, 0, 0, []), 2)) rfl).trans ?_
  refine (g_50 (v := .int (f a0 23)) (by decide +kernel : kd_ 99 2 = ((50, 7, 23, []), 5)) h1 rfl).trans ?_
  refine (g_1 (by decide +kernel : kd_ 99 5 = ((1, 1, 0, []), 6))).trans ?_
  exact g_38 (by decide +kernel : kd_ 99 6 = ((38, 16, 0, []), 9))
theorem b_M_wasThere_9 {L : Nat} {f : cg_G} {e : Nat × Nat} {x1 y0 : Int32} {a0 : Nat} (h1 : sh_ a0 = 7): cj_res 99 9 [.ref a0, .int x1] [.int y0] (cg_M L f e) = cj_res 99 25 [.ref a0, .int x1] [.int (f a0 8), .int y0] (cg_M L f e) := by
  refine (g_3 (by decide +kernel : kd_ 99 9 = ((3, 0, 0, []), 10)) rfl).trans ?_
  refine (g_50 (v := .int (f a0 8)) (by decide +kernel : kd_ 99 10 = ((50, 7, 8, []), 13)) h1 rfl).trans ?_
  refine (g_30 (by decide +kernel : kd_ 99 13 = ((30, 25, 0, []), 16))).trans ?_
  rfl
theorem b_M_wasThere_16 {L : Nat} {f : cg_G} {e : Nat × Nat} {x1 y0 : Int32} {a0 : Nat} (h1 : sh_ a0 = 7) (h2 : cg_in (f a0 23) 2): cj_res 99 16 [.ref a0, .int x1] [.int y0] (cg_M L f e) = cj_res 99 25 [.ref a0, .int x1] [.int (f (a0 + 15) (f a0 23).toNatClampNeg), .int y0] (cg_M L f e) := by
  refine (g_3 (by decide +kernel : kd_ 99 16 = ((3, 0, 0, []), 17)) rfl).trans ?_
  refine (g_50 (v := .ref (a0 + 15)) (by decide +kernel : kd_ 99 17 = ((50, 7, 24, []), 20)) h1 rfl).trans ?_
  refine (g_3 (by decide +kernel : kd_ 99 20 = ((3, 0, 0, []), 21)) rfl).trans ?_
  refine (g_50 (v := .int (f a0 23)) (by decide +kernel : kd_ 99 21 = ((50, 7, 23, []), 24)) h1 rfl).trans ?_
  refine (g_54 (v := .int (f (a0 + 15) (f a0 23).toNatClampNeg)) (by decide +kernel : kd_ 99 24 = ((54, 0, 0, []), 25)) (sc_7_24 h1) rfl (by rw [sl_7_24 h1]; exact h2) rfl).trans ?_
  rfl
theorem b_M_wasThere_25 {L : Nat} {f : cg_G} {e : Nat × Nat} {x1 y0 y1 : Int32} {a0 : Nat} : cj_res 99 25 [.ref a0, .int x1] [.int y0, .int y1] (cg_M L f e) = cj_aft 99 25 28 [.ref a0, .int x1] [] (cj_ev 44 [.int y1, .int y0] (cg_M L f e)) := by
  exact g_81 (by decide +kernel : kd_ 99 25 = ((81, 44, 2, []), 28)) rfl rfl rfl
theorem b_M_wasThere_28 {L : Nat} {f : cg_G} {e : Nat × Nat} {x1 y0 : Int32} {a0 : Nat} (h1 : y0 = 0 ∨ y0 = 1): cj_res 99 28 [.ref a0, .int x1] [.int y0] (cg_M L f e) = some (.inl (some (.int y0)), cg_M L f e) := by
  exact g_93 (by decide +kernel : kd_ 99 28 = ((93, 0, 0, []), 29)) h1
theorem b_C_compareTexts_0 {L : Nat} {f : cg_G} {e : Nat × Nat} {a0 a1 a2 : Nat} {u3 u4 u5 : Value} (h1 : sh_ a1 = 6): cj_res 100 0 [.ref a0, .ref a1, .ref a2, u3, u4, u5] [] (cg_M L f e) = cj_aft 100 1 4 [.ref a0, .ref a1, .ref a2, u3, u4, u5] [] (cj_ev 39 [.ref a1] (cg_M L f e)) := by
  refine (g_3 (by decide +kernel : kd_ 100 0 = ((3, 1, 0, []), 1)) rfl).trans ?_
  exact g_80 (by decide +kernel : kd_ 100 1 = ((80, 39, 1, [6]), 4)) rfl h1 rfl rfl rfl
theorem b_C_compareTexts_4 {L : Nat} {f : cg_G} {e : Nat × Nat} {y0 : Int32} {a0 a1 a2 : Nat} {u3 u4 u5 : Value} (h1 : sh_ a2 = 6): cj_res 100 4 [.ref a0, .ref a1, .ref a2, u3, u4, u5] [.int y0] (cg_M L f e) = cj_aft 100 5 8 [.ref a0, .ref a1, .ref a2, u3, u4, u5] [.int y0] (cj_ev 39 [.ref a2] (cg_M L f e)) := by
  refine (g_3 (by decide +kernel : kd_ 100 4 = ((3, 2, 0, []), 5)) rfl).trans ?_
  exact g_80 (by decide +kernel : kd_ 100 5 = ((80, 39, 1, [6]), 8)) rfl h1 rfl rfl rfl
theorem b_C_compareTexts_8 {L : Nat} {f : cg_G} {e : Nat × Nat} {y0 y1 : Int32} {a0 a1 a2 : Nat} {u3 u4 u5 : Value} : cj_res 100 8 [.ref a0, .ref a1, .ref a2, u3, u4, u5] [.int y0, .int y1] (cg_M L f e) = cj_res 100 15 [.ref a0, .ref a1, .ref a2, .int (if y0 < y1 then y0 else y1), .int (nI 0), u5] [] (cg_M L f e) := by
  refine (g_85 (by decide +kernel : kd_ 100 8 = ((85, 0, 0, []), 11)) rfl).trans ?_
  refine (g_4 (ls' := [.ref a0, .ref a1, .ref a2, .int (if y0 < y1 then y0 else y1), u4, u5]) (by decide +kernel : kd_ 100 11 = ((4, 3, 0, []), 12)) rfl rfl).trans ?_
  refine (g_0 (by decide +kernel : kd_ 100 12 = ((0, 0, 0, []), 13))).trans ?_
  refine (g_4 (ls' := [.ref a0, .ref a1, .ref a2, .int (if y0 < y1 then y0 else y1), .int (nI 0), u5]) (by decide +kernel : kd_ 100 13 = ((4, 4, 0, []), 15)) rfl rfl).trans ?_
  rfl
theorem b_C_compareTexts_15 {L : Nat} {f : cg_G} {e : Nat × Nat} {x3 x4 : Int32} {a0 a1 a2 : Nat} {u5 : Value} : cj_res 100 15 [.ref a0, .ref a1, .ref a2, .int x3, .int x4, u5] [] (cg_M L f e) = if x3 ≤ x4 then cj_res 100 58 [.ref a0, .ref a1, .ref a2, .int x3, .int x4, u5] [] (cg_M L f e) else cj_res 100 21 [.ref a0, .ref a1, .ref a2, .int x3, .int x4, u5] [] (cg_M L f e) := by
  refine (g_2 (by decide +kernel : kd_ 100 15 = ((2, 4, 0, []), 17)) rfl).trans ?_
  refine (g_2 (by decide +kernel : kd_ 100 17 = ((2, 3, 0, []), 18)) rfl).trans ?_
  exact g_40 (by decide +kernel : kd_ 100 18 = ((40, 58, 0, []), 21))
theorem b_C_compareTexts_21 {L : Nat} {f : cg_G} {e : Nat × Nat} {x3 x4 : Int32} {a0 a1 a2 : Nat} {u5 : Value} (h1 : sh_ a1 = 6): cj_res 100 21 [.ref a0, .ref a1, .ref a2, .int x3, .int x4, u5] [] (cg_M L f e) = cj_aft 100 25 28 [.ref a0, .ref a1, .ref a2, .int x3, .int x4, u5] [.ref a0] (cj_ev 36 [.ref a1, .int x4] (cg_M L f e)) := by
  refine (g_3 (by decide +kernel : kd_ 100 21 = ((3, 0, 0, []), 22)) rfl).trans ?_
  refine (g_3 (by decide +kernel : kd_ 100 22 = ((3, 1, 0, []), 23)) rfl).trans ?_
  refine (g_2 (by decide +kernel : kd_ 100 23 = ((2, 4, 0, []), 25)) rfl).trans ?_
  exact g_80 (by decide +kernel : kd_ 100 25 = ((80, 36, 2, [6]), 28)) rfl h1 rfl rfl rfl
theorem b_C_compareTexts_28 {L : Nat} {f : cg_G} {e : Nat × Nat} {x3 x4 y0 : Int32} {a0 a1 a2 c1 : Nat} {u5 : Value} (h1 : sh_ c1 = 0): cj_res 100 28 [.ref a0, .ref a1, .ref a2, .int x3, .int x4, u5] [.int y0, .ref c1] (cg_M L f e) = cj_aft 100 28 31 [.ref a0, .ref a1, .ref a2, .int x3, .int x4, u5] [] (cj_ev 68 [.ref c1, .int y0] (cg_M L f e)) := by
  exact g_80 (by decide +kernel : kd_ 100 28 = ((80, 68, 2, [0]), 31)) rfl h1 rfl rfl rfl
theorem b_C_compareTexts_31 {L : Nat} {f : cg_G} {e : Nat × Nat} {x3 x4 y0 : Int32} {a0 a1 a2 : Nat} {u5 : Value} (h1 : sh_ a2 = 6): cj_res 100 31 [.ref a0, .ref a1, .ref a2, .int x3, .int x4, u5] [.int y0] (cg_M L f e) = cj_aft 100 35 38 [.ref a0, .ref a1, .ref a2, .int x3, .int x4, u5] [.ref a0, .int y0] (cj_ev 36 [.ref a2, .int x4] (cg_M L f e)) := by
  refine (g_3 (by decide +kernel : kd_ 100 31 = ((3, 0, 0, []), 32)) rfl).trans ?_
  refine (g_3 (by decide +kernel : kd_ 100 32 = ((3, 2, 0, []), 33)) rfl).trans ?_
  refine (g_2 (by decide +kernel : kd_ 100 33 = ((2, 4, 0, []), 35)) rfl).trans ?_
  exact g_80 (by decide +kernel : kd_ 100 35 = ((80, 36, 2, [6]), 38)) rfl h1 rfl rfl rfl
theorem b_C_compareTexts_38 {L : Nat} {f : cg_G} {e : Nat × Nat} {x3 x4 y0 y2 : Int32} {a0 a1 a2 c1 : Nat} {u5 : Value} (h1 : sh_ c1 = 0): cj_res 100 38 [.ref a0, .ref a1, .ref a2, .int x3, .int x4, u5] [.int y0, .ref c1, .int y2] (cg_M L f e) = cj_aft 100 38 41 [.ref a0, .ref a1, .ref a2, .int x3, .int x4, u5] [.int y2] (cj_ev 68 [.ref c1, .int y0] (cg_M L f e)) := by
  exact g_80 (by decide +kernel : kd_ 100 38 = ((80, 68, 2, [0]), 41)) rfl h1 rfl rfl rfl
theorem b_C_compareTexts_41 {L : Nat} {f : cg_G} {e : Nat × Nat} {x3 x4 y0 y1 : Int32} {a0 a1 a2 : Nat} {u5 : Value} : cj_res 100 41 [.ref a0, .ref a1, .ref a2, .int x3, .int x4, u5] [.int y0, .int y1] (cg_M L f e) = if (y1 - y0) = 0 then cj_res 100 52 [.ref a0, .ref a1, .ref a2, .int x3, .int x4, .int (y1 - y0)] [] (cg_M L f e) else cj_res 100 49 [.ref a0, .ref a1, .ref a2, .int x3, .int x4, .int (y1 - y0)] [] (cg_M L f e) := by
  refine (g_11 (by decide +kernel : kd_ 100 41 = ((11, 0, 0, []), 42))).trans ?_
  refine (g_4 (ls' := [.ref a0, .ref a1, .ref a2, .int x3, .int x4, .int (y1 - y0)]) (by decide +kernel : kd_ 100 42 = ((4, 5, 0, []), 44)) rfl rfl).trans ?_
  refine (g_2 (by decide +kernel : kd_ 100 44 = ((2, 5, 0, []), 46)) rfl).trans ?_
  exact g_31 (by decide +kernel : kd_ 100 46 = ((31, 52, 0, []), 49))
theorem b_C_compareTexts_49 {L : Nat} {f : cg_G} {e : Nat × Nat} {x3 x4 x5 : Int32} {a0 a1 a2 : Nat} : cj_res 100 49 [.ref a0, .ref a1, .ref a2, .int x3, .int x4, .int x5] [] (cg_M L f e) = some (.inl (some (.int x5)), cg_M L f e) := by
  refine (g_2 (by decide +kernel : kd_ 100 49 = ((2, 5, 0, []), 51)) rfl).trans ?_
  exact g_90 (by decide +kernel : kd_ 100 51 = ((90, 0, 0, []), 52))
theorem b_C_compareTexts_52 {L : Nat} {f : cg_G} {e : Nat × Nat} {x3 x4 x5 : Int32} {a0 a1 a2 : Nat} : cj_res 100 52 [.ref a0, .ref a1, .ref a2, .int x3, .int x4, .int x5] [] (cg_M L f e) = cj_res 100 15 [.ref a0, .ref a1, .ref a2, .int x3, .int (x4 + nI 1), .int x5] [] (cg_M L f e) := by
  refine (g_6 (ls' := [.ref a0, .ref a1, .ref a2, .int x3, .int (x4 + nI 1), .int x5]) (by decide +kernel : kd_ 100 52 = ((6, 4, 1, []), 55)) rfl rfl).trans ?_
  refine (g_30 (by decide +kernel : kd_ 100 55 = ((30, 15, 0, []), 58))).trans ?_
  rfl
theorem b_C_compareTexts_58 {L : Nat} {f : cg_G} {e : Nat × Nat} {x3 x4 : Int32} {a0 a1 a2 : Nat} {u5 : Value} (h1 : sh_ a1 = 6): cj_res 100 58 [.ref a0, .ref a1, .ref a2, .int x3, .int x4, u5] [] (cg_M L f e) = cj_aft 100 59 62 [.ref a0, .ref a1, .ref a2, .int x3, .int x4, u5] [] (cj_ev 39 [.ref a1] (cg_M L f e)) := by
  refine (g_3 (by decide +kernel : kd_ 100 58 = ((3, 1, 0, []), 59)) rfl).trans ?_
  exact g_80 (by decide +kernel : kd_ 100 59 = ((80, 39, 1, [6]), 62)) rfl h1 rfl rfl rfl
theorem b_C_compareTexts_62 {L : Nat} {f : cg_G} {e : Nat × Nat} {x3 x4 y0 : Int32} {a0 a1 a2 : Nat} {u5 : Value} (h1 : sh_ a2 = 6): cj_res 100 62 [.ref a0, .ref a1, .ref a2, .int x3, .int x4, u5] [.int y0] (cg_M L f e) = cj_aft 100 63 66 [.ref a0, .ref a1, .ref a2, .int x3, .int x4, u5] [.int y0] (cj_ev 39 [.ref a2] (cg_M L f e)) := by
  refine (g_3 (by decide +kernel : kd_ 100 62 = ((3, 2, 0, []), 63)) rfl).trans ?_
  exact g_80 (by decide +kernel : kd_ 100 63 = ((80, 39, 1, [6]), 66)) rfl h1 rfl rfl rfl
theorem b_C_compareTexts_66 {L : Nat} {f : cg_G} {e : Nat × Nat} {x3 x4 y0 y1 : Int32} {a0 a1 a2 : Nat} {u5 : Value} : cj_res 100 66 [.ref a0, .ref a1, .ref a2, .int x3, .int x4, u5] [.int y0, .int y1] (cg_M L f e) = some (.inl (some (.int (y1 - y0))), cg_M L f e) := by
  refine (g_11 (by decide +kernel : kd_ 100 66 = ((11, 0, 0, []), 67))).trans ?_
  exact g_90 (by decide +kernel : kd_ 100 67 = ((90, 0, 0, []), 68))
theorem b_C_line_0 {L : Nat} {f : cg_G} {e : Nat × Nat} {x1 x2 x3 : Int32} {a0 : Nat} : cj_res 101 0 [.ref a0, .int x1, .int x2, .int x3] [] (cg_M L f e) = if x1 < (nI 1) then cj_res 101 26 [.ref a0, .int x1, .int x2, .int x3] [] (cg_M L f e) else cj_res 101 5 [.ref a0, .int x1, .int x2, .int x3] [] (cg_M L f e) := by
  refine (g_2 (by decide +kernel : kd_ 101 0 = ((2, 1, 0, []), 1)) rfl).trans ?_
  refine (g_0 (by decide +kernel : kd_ 101 1 = ((0, 1, 0, []), 2))).trans ?_
  exact g_39 (by decide +kernel : kd_ 101 2 = ((39, 26, 0, []), 5))
theorem b_C_line_5 {L : Nat} {f : cg_G} {e : Nat × Nat} {x1 x2 x3 : Int32} {a0 : Nat} : cj_res 101 5 [.ref a0, .int x1, .int x2, .int x3] [] (cg_M L f e) = if x2 < 0 then cj_res 101 26 [.ref a0, .int x1, .int x2, .int x3] [] (cg_M L f e) else cj_res 101 9 [.ref a0, .int x1, .int x2, .int x3] [] (cg_M L f e) := by
  refine (g_2 (by decide +kernel : kd_ 101 5 = ((2, 2, 0, []), 6)) rfl).trans ?_
  exact g_33 (by decide +kernel : kd_ 101 6 = ((33, 26, 0, []), 9))
theorem b_C_line_9 {L : Nat} {f : cg_G} {e : Nat × Nat} {x1 x2 x3 : Int32} {a0 : Nat} (h1 : sh_ a0 = 0): cj_res 101 9 [.ref a0, .int x1, .int x2, .int x3] [] (cg_M L f e) = if (f a0 0) ≤ x2 then cj_res 101 26 [.ref a0, .int x1, .int x2, .int x3] [] (cg_M L f e) else cj_res 101 17 [.ref a0, .int x1, .int x2, .int x3] [] (cg_M L f e) := by
  refine (g_2 (by decide +kernel : kd_ 101 9 = ((2, 2, 0, []), 10)) rfl).trans ?_
  refine (g_3 (by decide +kernel : kd_ 101 10 = ((3, 0, 0, []), 11)) rfl).trans ?_
  refine (g_50 (v := .int (f a0 0)) (by decide +kernel : kd_ 101 11 = ((50, 0, 0, []), 14)) h1 rfl).trans ?_
  exact g_40 (by decide +kernel : kd_ 101 14 = ((40, 26, 0, []), 17))
theorem b_C_line_17 {L : Nat} {f : cg_G} {e : Nat × Nat} {x1 x2 x3 : Int32} {a0 : Nat} : cj_res 101 17 [.ref a0, .int x1, .int x2, .int x3] [] (cg_M L f e) = if x3 < 0 then cj_res 101 26 [.ref a0, .int x1, .int x2, .int x3] [] (cg_M L f e) else cj_res 101 21 [.ref a0, .int x1, .int x2, .int x3] [] (cg_M L f e) := by
  refine (g_2 (by decide +kernel : kd_ 101 17 = ((2, 3, 0, []), 18)) rfl).trans ?_
  exact g_33 (by decide +kernel : kd_ 101 18 = ((33, 26, 0, []), 21))
theorem b_C_line_21 {L : Nat} {f : cg_G} {e : Nat × Nat} {x1 x2 x3 : Int32} {a0 : Nat} : cj_res 101 21 [.ref a0, .int x1, .int x2, .int x3] [] (cg_M L f e) = if x3 ≤ (nI 1) then cj_res 101 36 [.ref a0, .int x1, .int x2, .int x3] [] (cg_M L f e) else cj_res 101 26 [.ref a0, .int x1, .int x2, .int x3] [] (cg_M L f e) := by
  refine (g_2 (by decide +kernel : kd_ 101 21 = ((2, 3, 0, []), 22)) rfl).trans ?_
  refine (g_0 (by decide +kernel : kd_ 101 22 = ((0, 1, 0, []), 23))).trans ?_
  exact g_42 (by decide +kernel : kd_ 101 23 = ((42, 36, 0, []), 26))
theorem b_C_line_26 {L : Nat} {f : cg_G} {e : Nat × Nat} {x1 x2 x3 : Int32} {a0 : Nat} : cj_res 101 26 [.ref a0, .int x1, .int x2, .int x3] [] (cg_M L f e) = some (.inr 2, cj_pay (cg_M L f e) 1 6) := by
  exact g_95 (by decide +kernel : kd_ 101 26 = ((95, 2, 0, []), 29))
theorem b_C_line_36 {L : Nat} {f : cg_G} {e : Nat × Nat} {x1 x2 x3 : Int32} {a0 : Nat} (h1 : sh_ a0 = 0): cj_res 101 36 [.ref a0, .int x1, .int x2, .int x3] [] (cg_M L f e) = if (f a0 8) = 0 then cj_res 101 43 [.ref a0, .int x1, .int x2, .int x3] [] (cg_M L f e) else cj_res 101 53 [.ref a0, .int x1, .int x2, .int x3] [] (cg_M L f e) := by
  refine (g_3 (by decide +kernel : kd_ 101 36 = ((3, 0, 0, []), 37)) rfl).trans ?_
  refine (g_50 (v := .int (f a0 8)) (by decide +kernel : kd_ 101 37 = ((50, 0, 8, []), 40)) h1 rfl).trans ?_
  exact g_32 (by decide +kernel : kd_ 101 40 = ((32, 53, 0, []), 43))
theorem b_C_line_43 {L : Nat} {f : cg_G} {e : Nat × Nat} {x1 x2 x3 : Int32} {a0 : Nat} : cj_res 101 43 [.ref a0, .int x1, .int x2, .int x3] [] (cg_M L f e) = some (.inr 0, cj_pay (cg_M L f e) 1 6) := by
  exact g_95 (by decide +kernel : kd_ 101 43 = ((95, 0, 0, []), 46))
theorem b_C_line_53 {L : Nat} {f : cg_G} {e : Nat × Nat} {x1 x2 x3 : Int32} {a0 : Nat} (h1 : sh_ a0 = 0) (h2 : sh_ ((f a0 9).toNatClampNeg) = 5): cj_res 101 53 [.ref a0, .int x1, .int x2, .int x3] [] (cg_M L f e) = cj_aft 101 58 61 [.ref a0, .int x1, .int x2, .int x3] [.int x1] (cj_ev 30 [.ref (f a0 9).toNatClampNeg] (cg_M L f e)) := by
  refine (g_2 (by decide +kernel : kd_ 101 53 = ((2, 1, 0, []), 54)) rfl).trans ?_
  refine (g_3 (by decide +kernel : kd_ 101 54 = ((3, 0, 0, []), 55)) rfl).trans ?_
  refine (g_50 (v := .ref (f a0 9).toNatClampNeg) (by decide +kernel : kd_ 101 55 = ((50, 0, 9, []), 58)) h1 rfl).trans ?_
  exact g_80 (by decide +kernel : kd_ 101 58 = ((80, 30, 1, [5]), 61)) rfl h2 rfl rfl rfl
theorem b_C_line_61 {L : Nat} {f : cg_G} {e : Nat × Nat} {x1 x2 x3 y0 y1 : Int32} {a0 : Nat} : cj_res 101 61 [.ref a0, .int x1, .int x2, .int x3] [.int y0, .int y1] (cg_M L f e) = if y1 ≤ y0 then cj_res 101 74 [.ref a0, .int x1, .int x2, .int x3] [] (cg_M L f e) else cj_res 101 64 [.ref a0, .int x1, .int x2, .int x3] [] (cg_M L f e) := by
  exact g_42 (by decide +kernel : kd_ 101 61 = ((42, 74, 0, []), 64))
theorem b_C_line_64 {L : Nat} {f : cg_G} {e : Nat × Nat} {x1 x2 x3 : Int32} {a0 : Nat} : cj_res 101 64 [.ref a0, .int x1, .int x2, .int x3] [] (cg_M L f e) = some (.inr 2, cj_pay (cg_M L f e) 1 6) := by
  exact g_95 (by decide +kernel : kd_ 101 64 = ((95, 2, 0, []), 67))
theorem b_C_line_74 {L : Nat} {f : cg_G} {e : Nat × Nat} {x1 x2 x3 : Int32} {a0 : Nat} (h1 : sh_ a0 = 0): cj_res 101 74 [.ref a0, .int x1, .int x2, .int x3] [] (cg_M L f e) = if x3 = 0 then cj_res 101 84 [.ref a0, .int x1, .int x2, .int x3] [.int x2, .int x1, .ref (f a0 9).toNatClampNeg] (cg_M L f e) else cj_res 101 88 [.ref a0, .int x1, .int x2, .int x3] [.int x2, .int x1, .ref (f a0 9).toNatClampNeg] (cg_M L f e) := by
  refine (g_3 (by decide +kernel : kd_ 101 74 = ((3, 0, 0, []), 75)) rfl).trans ?_
  refine (g_50 (v := .ref (f a0 9).toNatClampNeg) (by decide +kernel : kd_ 101 75 = ((50, 0, 9, []), 78)) h1 rfl).trans ?_
  refine (g_2 (by decide +kernel : kd_ 101 78 = ((2, 1, 0, []), 79)) rfl).trans ?_
  refine (g_2 (by decide +kernel : kd_ 101 79 = ((2, 2, 0, []), 80)) rfl).trans ?_
  refine (g_2 (by decide +kernel : kd_ 101 80 = ((2, 3, 0, []), 81)) rfl).trans ?_
  exact g_32 (by decide +kernel : kd_ 101 81 = ((32, 88, 0, []), 84))
theorem b_C_line_84 {L : Nat} {f : cg_G} {e : Nat × Nat} {x1 x2 x3 y0 y1 : Int32} {a0 c2 : Nat} : cj_res 101 84 [.ref a0, .int x1, .int x2, .int x3] [.int y0, .int y1, .ref c2] (cg_M L f e) = cj_res 101 89 [.ref a0, .int x1, .int x2, .int x3] [.int (nI 1), .int y0, .int y1, .ref c2] (cg_M L f e) := by
  refine (g_0 (by decide +kernel : kd_ 101 84 = ((0, 1, 0, []), 85))).trans ?_
  refine (g_30 (by decide +kernel : kd_ 101 85 = ((30, 89, 0, []), 88))).trans ?_
  rfl
theorem b_C_line_88 {L : Nat} {f : cg_G} {e : Nat × Nat} {x1 x2 x3 y0 y1 : Int32} {a0 c2 : Nat} : cj_res 101 88 [.ref a0, .int x1, .int x2, .int x3] [.int y0, .int y1, .ref c2] (cg_M L f e) = cj_res 101 89 [.ref a0, .int x1, .int x2, .int x3] [.int (nI 0), .int y0, .int y1, .ref c2] (cg_M L f e) := by
  refine (g_0 (by decide +kernel : kd_ 101 88 = ((0, 0, 0, []), 89))).trans ?_
  rfl
theorem b_C_line_89 {L : Nat} {f : cg_G} {e : Nat × Nat} {x1 x2 x3 y0 y1 y2 : Int32} {a0 c3 : Nat} (h1 : sh_ c3 = 5): cj_res 101 89 [.ref a0, .int x1, .int x2, .int x3] [.int y0, .int y1, .int y2, .ref c3] (cg_M L f e) = cj_aft 101 89 92 [.ref a0, .int x1, .int x2, .int x3] [] (cj_ev 82 [.ref c3, .int y2, .int y1, .int y0] (cg_M L f e)) := by
  exact g_80 (by decide +kernel : kd_ 101 89 = ((80, 82, 4, [5]), 92)) rfl h1 rfl rfl rfl
theorem b_C_line_92 {L : Nat} {f : cg_G} {e : Nat × Nat} {x1 x2 x3 y0 : Int32} {a0 : Nat} : cj_res 101 92 [.ref a0, .int x1, .int x2, .int x3] [.int y0] (cg_M L f e) = some (.inl (some (.int y0)), cg_M L f e) := by
  exact g_90 (by decide +kernel : kd_ 101 92 = ((90, 0, 0, []), 93))
theorem b_C_movePadTo_0 {L : Nat} {f : cg_G} {e : Nat × Nat} {a0 a1 : Nat} (h1 : sh_ a1 = 6): cj_res 102 0 [.ref a0, .ref a1] [] (cg_M L f e) = cj_aft 102 1 4 [.ref a0, .ref a1] [] (cj_ev 37 [.ref a1] (cg_M L f e)) := by
  refine (g_3 (by decide +kernel : kd_ 102 0 = ((3, 1, 0, []), 1)) rfl).trans ?_
  exact g_80 (by decide +kernel : kd_ 102 1 = ((80, 37, 1, [6]), 4)) rfl h1 rfl rfl rfl
theorem b_C_movePadTo_4 {L : Nat} {f : cg_G} {e : Nat × Nat} {a0 a1 : Nat} (h1 : sh_ a0 = 0) (h2 : sh_ a1 = 6): cj_res 102 4 [.ref a0, .ref a1] [] (cg_M L f e) = cj_aft 102 9 12 [.ref a0, .ref a1] [] (cj_ev 84 [.ref a1, .ref (a0 + 1)] (cg_M L f e)) := by
  refine (g_3 (by decide +kernel : kd_ 102 4 = ((3, 1, 0, []), 5)) rfl).trans ?_
  refine (g_3 (by decide +kernel : kd_ 102 5 = ((3, 0, 0, []), 6)) rfl).trans ?_
  refine (g_50 (v := .ref (a0 + 1)) (by decide +kernel : kd_ 102 6 = ((50, 0, 1, []), 9)) h1 rfl).trans ?_
  exact g_80 (by decide +kernel : kd_ 102 9 = ((80, 84, 2, [6]), 12)) rfl h2 rfl rfl rfl
theorem b_C_movePadTo_12 {L : Nat} {f : cg_G} {e : Nat × Nat} {a0 a1 : Nat} (h1 : sh_ a0 = 0): cj_res 102 12 [.ref a0, .ref a1] [] (cg_M L f e) = cj_aft 102 16 19 [.ref a0, .ref a1] [] (cj_ev 37 [.ref (a0 + 1)] (cg_M L f e)) := by
  refine (g_3 (by decide +kernel : kd_ 102 12 = ((3, 0, 0, []), 13)) rfl).trans ?_
  refine (g_50 (v := .ref (a0 + 1)) (by decide +kernel : kd_ 102 13 = ((50, 0, 1, []), 16)) h1 rfl).trans ?_
  exact g_80 (by decide +kernel : kd_ 102 16 = ((80, 37, 1, [6]), 19)) rfl (sc_0_1 h1) rfl rfl rfl
theorem b_C_movePadTo_19 {L : Nat} {f : cg_G} {e : Nat × Nat} {a0 a1 : Nat} (h1 : sh_ a1 = 6): cj_res 102 19 [.ref a0, .ref a1] [] (cg_M L f e) = cj_aft 102 20 23 [.ref a0, .ref a1] [] (cj_ev 39 [.ref a1] (cg_M L f e)) := by
  refine (g_3 (by decide +kernel : kd_ 102 19 = ((3, 1, 0, []), 20)) rfl).trans ?_
  exact g_80 (by decide +kernel : kd_ 102 20 = ((80, 39, 1, [6]), 23)) rfl h1 rfl rfl rfl
theorem b_C_movePadTo_23 {L : Nat} {f : cg_G} {e : Nat × Nat} {y0 : Int32} {a0 a1 : Nat} : cj_res 102 23 [.ref a0, .ref a1] [.int y0] (cg_M L f e) = some (.inl (some (.int y0)), cg_M L f e) := by
  exact g_90 (by decide +kernel : kd_ 102 23 = ((90, 0, 0, []), 24))
theorem b_C_page_0 {L : Nat} {f : cg_G} {e : Nat × Nat} {x1 : Int32} {a0 : Nat} {u2 : Value} (h1 : sh_ a0 = 0): cj_res 103 0 [.ref a0, .int x1, u2] [] (cg_M L f e) = cj_aft 103 2 5 [.ref a0, .int x1, u2] [] (cj_ev 1 [.ref a0, .int x1] (cg_M L f e)) := by
  refine (g_3 (by decide +kernel : kd_ 103 0 = ((3, 0, 0, []), 1)) rfl).trans ?_
  refine (g_2 (by decide +kernel : kd_ 103 1 = ((2, 1, 0, []), 2)) rfl).trans ?_
  exact g_80 (by decide +kernel : kd_ 103 2 = ((80, 1, 2, [0]), 5)) rfl h1 rfl rfl rfl
theorem b_C_page_5 {L : Nat} {f : cg_G} {e : Nat × Nat} {x1 y0 : Int32} {a0 : Nat} {u2 : Value} : cj_res 103 5 [.ref a0, .int x1, u2] [.int y0] (cg_M L f e) = if y0 = 0 then cj_res 103 8 [.ref a0, .int x1, u2] [] (cg_M L f e) else cj_res 103 18 [.ref a0, .int x1, u2] [] (cg_M L f e) := by
  exact g_32 (by decide +kernel : kd_ 103 5 = ((32, 18, 0, []), 8))
theorem b_C_page_8 {L : Nat} {f : cg_G} {e : Nat × Nat} {x1 : Int32} {a0 : Nat} {u2 : Value} : cj_res 103 8 [.ref a0, .int x1, u2] [] (cg_M L f e) = some (.inr 2, cj_pay (cg_M L f e) 1 6) := by
  exact g_95 (by decide +kernel : kd_ 103 8 = ((95, 2, 0, []), 11))
theorem b_C_page_18 {L : Nat} {f : cg_G} {e : Nat × Nat} {x1 : Int32} {a0 : Nat} {u2 : Value} (h1 : sh_ a0 = 0): cj_res 103 18 [.ref a0, .int x1, u2] [] (cg_M L f e) = if (f a0 8) = 0 then cj_res 103 25 [.ref a0, .int x1, u2] [] (cg_M L f e) else cj_res 103 35 [.ref a0, .int x1, u2] [] (cg_M L f e) := by
  refine (g_3 (by decide +kernel : kd_ 103 18 = ((3, 0, 0, []), 19)) rfl).trans ?_
  refine (g_50 (v := .int (f a0 8)) (by decide +kernel : kd_ 103 19 = ((50, 0, 8, []), 22)) h1 rfl).trans ?_
  exact g_32 (by decide +kernel : kd_ 103 22 = ((32, 35, 0, []), 25))
theorem b_C_page_25 {L : Nat} {f : cg_G} {e : Nat × Nat} {x1 : Int32} {a0 : Nat} {u2 : Value} : cj_res 103 25 [.ref a0, .int x1, u2] [] (cg_M L f e) = some (.inr 0, cj_pay (cg_M L f e) 1 6) := by
  exact g_95 (by decide +kernel : kd_ 103 25 = ((95, 0, 0, []), 28))
theorem b_C_page_35 {L : Nat} {f : cg_G} {e : Nat × Nat} {x1 : Int32} {a0 : Nat} {u2 : Value} (h1 : sh_ a0 = 0) (h2 : sh_ ((f a0 9).toNatClampNeg) = 5): cj_res 103 35 [.ref a0, .int x1, u2] [] (cg_M L f e) = cj_aft 103 40 43 [.ref a0, .int x1, u2] [] (cj_ev 28 [.ref (f a0 9).toNatClampNeg, .int x1] (cg_M L f e)) := by
  refine (g_3 (by decide +kernel : kd_ 103 35 = ((3, 0, 0, []), 36)) rfl).trans ?_
  refine (g_50 (v := .ref (f a0 9).toNatClampNeg) (by decide +kernel : kd_ 103 36 = ((50, 0, 9, []), 39)) h1 rfl).trans ?_
  refine (g_2 (by decide +kernel : kd_ 103 39 = ((2, 1, 0, []), 40)) rfl).trans ?_
  exact g_80 (by decide +kernel : kd_ 103 40 = ((80, 28, 2, [5]), 43)) rfl h2 rfl rfl rfl
theorem b_C_page_43 {L : Nat} {f : cg_G} {e : Nat × Nat} {x1 y0 : Int32} {a0 : Nat} {u2 : Value} : cj_res 103 43 [.ref a0, .int x1, u2] [.int y0] (cg_M L f e) = if y0 = 0 then cj_res 103 46 [.ref a0, .int x1, u2] [] (cg_M L f e) else cj_res 103 56 [.ref a0, .int x1, u2] [] (cg_M L f e) := by
  exact g_32 (by decide +kernel : kd_ 103 43 = ((32, 56, 0, []), 46))
theorem b_C_page_46 {L : Nat} {f : cg_G} {e : Nat × Nat} {x1 : Int32} {a0 : Nat} {u2 : Value} : cj_res 103 46 [.ref a0, .int x1, u2] [] (cg_M L f e) = some (.inr 2, cj_pay (cg_M L f e) 1 6) := by
  exact g_95 (by decide +kernel : kd_ 103 46 = ((95, 2, 0, []), 49))
theorem b_C_page_56 {L : Nat} {f : cg_G} {e : Nat × Nat} {x1 : Int32} {a0 : Nat} {u2 : Value} (h1 : sh_ a0 = 0) (h2 : sh_ ((f a0 9).toNatClampNeg) = 5): cj_res 103 56 [.ref a0, .int x1, u2] [] (cg_M L f e) = cj_aft 103 61 64 [.ref a0, .int x1, u2] [] (cj_ev 83 [.ref (f a0 9).toNatClampNeg, .int x1] (cg_M L f e)) := by
  refine (g_3 (by decide +kernel : kd_ 103 56 = ((3, 0, 0, []), 57)) rfl).trans ?_
  refine (g_50 (v := .ref (f a0 9).toNatClampNeg) (by decide +kernel : kd_ 103 57 = ((50, 0, 9, []), 60)) h1 rfl).trans ?_
  refine (g_2 (by decide +kernel : kd_ 103 60 = ((2, 1, 0, []), 61)) rfl).trans ?_
  exact g_80 (by decide +kernel : kd_ 103 61 = ((80, 83, 2, [5]), 64)) rfl h2 rfl rfl rfl
theorem b_C_page_64 {L : Nat} {f : cg_G} {e : Nat × Nat} {x1 y0 : Int32} {a0 : Nat} {u2 : Value} : cj_res 103 64 [.ref a0, .int x1, u2] [.int y0] (cg_M L f e) = if y0 = 0 then cj_res 103 69 [.ref a0, .int x1, .int y0] [] (cg_M L f e) else cj_res 103 73 [.ref a0, .int x1, .int y0] [] (cg_M L f e) := by
  refine (g_4 (ls' := [.ref a0, .int x1, .int y0]) (by decide +kernel : kd_ 103 64 = ((4, 2, 0, []), 65)) rfl rfl).trans ?_
  refine (g_2 (by decide +kernel : kd_ 103 65 = ((2, 2, 0, []), 66)) rfl).trans ?_
  exact g_32 (by decide +kernel : kd_ 103 66 = ((32, 73, 0, []), 69))
theorem b_C_page_69 {L : Nat} {f : cg_G} {e : Nat × Nat} {x1 x2 : Int32} {a0 : Nat} : cj_res 103 69 [.ref a0, .int x1, .int x2] [] (cg_M L f e) = cj_res 103 74 [.ref a0, .int x1, .int x2] [.int (- nI 1)] (cg_M L f e) := by
  refine (g_1 (by decide +kernel : kd_ 103 69 = ((1, 1, 0, []), 70))).trans ?_
  refine (g_30 (by decide +kernel : kd_ 103 70 = ((30, 74, 0, []), 73))).trans ?_
  rfl
theorem b_C_page_73 {L : Nat} {f : cg_G} {e : Nat × Nat} {x1 x2 : Int32} {a0 : Nat} : cj_res 103 73 [.ref a0, .int x1, .int x2] [] (cg_M L f e) = cj_res 103 74 [.ref a0, .int x1, .int x2] [.int x2] (cg_M L f e) := by
  refine (g_2 (by decide +kernel : kd_ 103 73 = ((2, 2, 0, []), 74)) rfl).trans ?_
  rfl
theorem b_C_page_74 {L : Nat} {f : cg_G} {e : Nat × Nat} {x1 x2 y0 : Int32} {a0 : Nat} : cj_res 103 74 [.ref a0, .int x1, .int x2] [.int y0] (cg_M L f e) = some (.inl (some (.int y0)), cg_M L f e) := by
  exact g_90 (by decide +kernel : kd_ 103 74 = ((90, 0, 0, []), 75))
theorem b_C_sign_0 {L : Nat} {f : cg_G} {e : Nat × Nat} {x1 x2 x3 : Int32} {a0 : Nat} {u4 : Value} (h1 : sh_ a0 = 0): cj_res 104 0 [.ref a0, .int x1, .int x2, .int x3, u4] [] (cg_M L f e) = cj_aft 104 2 5 [.ref a0, .int x1, .int x2, .int x3, u4] [] (cj_ev 1 [.ref a0, .int x1] (cg_M L f e)) := by
  refine (g_3 (by decide +kernel : kd_ 104 0 = ((3, 0, 0, []), 1)) rfl).trans ?_
  refine (g_2 (by decide +kernel : kd_ 104 1 = ((2, 1, 0, []), 2)) rfl).trans ?_
  exact g_80 (by decide +kernel : kd_ 104 2 = ((80, 1, 2, [0]), 5)) rfl h1 rfl rfl rfl
theorem b_C_sign_5 {L : Nat} {f : cg_G} {e : Nat × Nat} {x1 x2 x3 y0 : Int32} {a0 : Nat} {u4 : Value} : cj_res 104 5 [.ref a0, .int x1, .int x2, .int x3, u4] [.int y0] (cg_M L f e) = if y0 = 0 then cj_res 104 28 [.ref a0, .int x1, .int x2, .int x3, u4] [] (cg_M L f e) else cj_res 104 8 [.ref a0, .int x1, .int x2, .int x3, u4] [] (cg_M L f e) := by
  exact g_31 (by decide +kernel : kd_ 104 5 = ((31, 28, 0, []), 8))
theorem b_C_sign_8 {L : Nat} {f : cg_G} {e : Nat × Nat} {x1 x2 x3 : Int32} {a0 : Nat} {u4 : Value} : cj_res 104 8 [.ref a0, .int x1, .int x2, .int x3, u4] [] (cg_M L f e) = if x2 < (- nI 1) then cj_res 104 28 [.ref a0, .int x1, .int x2, .int x3, u4] [] (cg_M L f e) else cj_res 104 13 [.ref a0, .int x1, .int x2, .int x3, u4] [] (cg_M L f e) := by
  refine (g_2 (by decide +kernel : kd_ 104 8 = ((2, 2, 0, []), 9)) rfl).trans ?_
  refine (g_1 (by decide +kernel : kd_ 104 9 = ((1, 1, 0, []), 10))).trans ?_
  exact g_39 (by decide +kernel : kd_ 104 10 = ((39, 28, 0, []), 13))
theorem b_C_sign_13 {L : Nat} {f : cg_G} {e : Nat × Nat} {x1 x2 x3 : Int32} {a0 : Nat} {u4 : Value} : cj_res 104 13 [.ref a0, .int x1, .int x2, .int x3, u4] [] (cg_M L f e) = if x3 < (- nI 1) then cj_res 104 28 [.ref a0, .int x1, .int x2, .int x3, u4] [] (cg_M L f e) else cj_res 104 18 [.ref a0, .int x1, .int x2, .int x3, u4] [] (cg_M L f e) := by
  refine (g_2 (by decide +kernel : kd_ 104 13 = ((2, 3, 0, []), 14)) rfl).trans ?_
  refine (g_1 (by decide +kernel : kd_ 104 14 = ((1, 1, 0, []), 15))).trans ?_
  exact g_39 (by decide +kernel : kd_ 104 15 = ((39, 28, 0, []), 18))
theorem b_C_sign_18 {L : Nat} {f : cg_G} {e : Nat × Nat} {x1 x2 x3 : Int32} {a0 : Nat} {u4 : Value} : cj_res 104 18 [.ref a0, .int x1, .int x2, .int x3, u4] [] (cg_M L f e) = if x2 = (- nI 1) then cj_res 104 23 [.ref a0, .int x1, .int x2, .int x3, u4] [] (cg_M L f e) else cj_res 104 38 [.ref a0, .int x1, .int x2, .int x3, u4] [] (cg_M L f e) := by
  refine (g_2 (by decide +kernel : kd_ 104 18 = ((2, 2, 0, []), 19)) rfl).trans ?_
  refine (g_1 (by decide +kernel : kd_ 104 19 = ((1, 1, 0, []), 20))).trans ?_
  exact g_38 (by decide +kernel : kd_ 104 20 = ((38, 38, 0, []), 23))
theorem b_C_sign_23 {L : Nat} {f : cg_G} {e : Nat × Nat} {x1 x2 x3 : Int32} {a0 : Nat} {u4 : Value} : cj_res 104 23 [.ref a0, .int x1, .int x2, .int x3, u4] [] (cg_M L f e) = if x3 = (- nI 1) then cj_res 104 38 [.ref a0, .int x1, .int x2, .int x3, u4] [] (cg_M L f e) else cj_res 104 28 [.ref a0, .int x1, .int x2, .int x3, u4] [] (cg_M L f e) := by
  refine (g_2 (by decide +kernel : kd_ 104 23 = ((2, 3, 0, []), 24)) rfl).trans ?_
  refine (g_1 (by decide +kernel : kd_ 104 24 = ((1, 1, 0, []), 25))).trans ?_
  exact g_37 (by decide +kernel : kd_ 104 25 = ((37, 38, 0, []), 28))
theorem b_C_sign_28 {L : Nat} {f : cg_G} {e : Nat × Nat} {x1 x2 x3 : Int32} {a0 : Nat} {u4 : Value} : cj_res 104 28 [.ref a0, .int x1, .int x2, .int x3, u4] [] (cg_M L f e) = some (.inr 2, cj_pay (cg_M L f e) 1 6) := by
  exact g_95 (by decide +kernel : kd_ 104 28 = ((95, 2, 0, []), 31))
theorem b_C_sign_38 {L : Nat} {f : cg_G} {e : Nat × Nat} {x1 x2 x3 : Int32} {a0 : Nat} {u4 : Value} (h1 : sh_ a0 = 0): cj_res 104 38 [.ref a0, .int x1, .int x2, .int x3, u4] [] (cg_M L f e) = if (f a0 8) = 0 then cj_res 104 45 [.ref a0, .int x1, .int x2, .int x3, u4] [] (cg_M L f e) else cj_res 104 55 [.ref a0, .int x1, .int x2, .int x3, u4] [] (cg_M L f e) := by
  refine (g_3 (by decide +kernel : kd_ 104 38 = ((3, 0, 0, []), 39)) rfl).trans ?_
  refine (g_50 (v := .int (f a0 8)) (by decide +kernel : kd_ 104 39 = ((50, 0, 8, []), 42)) h1 rfl).trans ?_
  exact g_32 (by decide +kernel : kd_ 104 42 = ((32, 55, 0, []), 45))
theorem b_C_sign_45 {L : Nat} {f : cg_G} {e : Nat × Nat} {x1 x2 x3 : Int32} {a0 : Nat} {u4 : Value} : cj_res 104 45 [.ref a0, .int x1, .int x2, .int x3, u4] [] (cg_M L f e) = some (.inr 0, cj_pay (cg_M L f e) 1 6) := by
  exact g_95 (by decide +kernel : kd_ 104 45 = ((95, 0, 0, []), 48))
theorem b_C_sign_55 {L : Nat} {f : cg_G} {e : Nat × Nat} {x1 x2 x3 : Int32} {a0 : Nat} {u4 : Value} (h1 : sh_ a0 = 0) (h2 : sh_ ((f a0 9).toNatClampNeg) = 5): cj_res 104 55 [.ref a0, .int x1, .int x2, .int x3, u4] [] (cg_M L f e) = cj_aft 104 62 65 [.ref a0, .int x1, .int x2, .int x3, u4] [] (cj_ev 80 [.ref (f a0 9).toNatClampNeg, .int x1, .int x2, .int x3] (cg_M L f e)) := by
  refine (g_3 (by decide +kernel : kd_ 104 55 = ((3, 0, 0, []), 56)) rfl).trans ?_
  refine (g_50 (v := .ref (f a0 9).toNatClampNeg) (by decide +kernel : kd_ 104 56 = ((50, 0, 9, []), 59)) h1 rfl).trans ?_
  refine (g_2 (by decide +kernel : kd_ 104 59 = ((2, 1, 0, []), 60)) rfl).trans ?_
  refine (g_2 (by decide +kernel : kd_ 104 60 = ((2, 2, 0, []), 61)) rfl).trans ?_
  refine (g_2 (by decide +kernel : kd_ 104 61 = ((2, 3, 0, []), 62)) rfl).trans ?_
  exact g_80 (by decide +kernel : kd_ 104 62 = ((80, 80, 4, [5]), 65)) rfl h2 rfl rfl rfl
theorem b_C_sign_65 {L : Nat} {f : cg_G} {e : Nat × Nat} {x1 x2 x3 y0 : Int32} {a0 : Nat} {u4 : Value} : cj_res 104 65 [.ref a0, .int x1, .int x2, .int x3, u4] [.int y0] (cg_M L f e) = if y0 = 0 then cj_res 104 68 [.ref a0, .int x1, .int x2, .int x3, u4] [] (cg_M L f e) else cj_res 104 78 [.ref a0, .int x1, .int x2, .int x3, u4] [] (cg_M L f e) := by
  exact g_32 (by decide +kernel : kd_ 104 65 = ((32, 78, 0, []), 68))
theorem b_C_sign_68 {L : Nat} {f : cg_G} {e : Nat × Nat} {x1 x2 x3 : Int32} {a0 : Nat} {u4 : Value} : cj_res 104 68 [.ref a0, .int x1, .int x2, .int x3, u4] [] (cg_M L f e) = some (.inr 2, cj_pay (cg_M L f e) 1 6) := by
  exact g_95 (by decide +kernel : kd_ 104 68 = ((95, 2, 0, []), 71))
theorem b_C_sign_78 {L : Nat} {f : cg_G} {e : Nat × Nat} {x1 x2 x3 : Int32} {a0 : Nat} {u4 : Value} (h1 : sh_ a0 = 0) (h2 : sh_ ((f a0 9).toNatClampNeg) = 5): cj_res 104 78 [.ref a0, .int x1, .int x2, .int x3, u4] [] (cg_M L f e) = cj_aft 104 83 86 [.ref a0, .int x1, .int x2, .int x3, u4] [] (cj_ev 25 [.ref (f a0 9).toNatClampNeg, .int x1] (cg_M L f e)) := by
  refine (g_3 (by decide +kernel : kd_ 104 78 = ((3, 0, 0, []), 79)) rfl).trans ?_
  refine (g_50 (v := .ref (f a0 9).toNatClampNeg) (by decide +kernel : kd_ 104 79 = ((50, 0, 9, []), 82)) h1 rfl).trans ?_
  refine (g_2 (by decide +kernel : kd_ 104 82 = ((2, 1, 0, []), 83)) rfl).trans ?_
  exact g_80 (by decide +kernel : kd_ 104 83 = ((80, 25, 2, [5]), 86)) rfl h2 rfl rfl rfl
theorem b_C_sign_86 {L : Nat} {f : cg_G} {e : Nat × Nat} {x1 x2 x3 : Int32} {a0 c0 : Nat} {u4 : Value} : cj_res 104 86 [.ref a0, .int x1, .int x2, .int x3, u4] [.ref c0] (cg_M L f e) = if x2 = (- nI 1) then cj_res 104 93 [.ref a0, .int x1, .int x2, .int x3, .ref c0] [] (cg_M L f e) else cj_res 104 99 [.ref a0, .int x1, .int x2, .int x3, .ref c0] [] (cg_M L f e) := by
  refine (g_5 (ls' := [.ref a0, .int x1, .int x2, .int x3, .ref c0]) (by decide +kernel : kd_ 104 86 = ((5, 4, 0, []), 88)) rfl rfl).trans ?_
  refine (g_2 (by decide +kernel : kd_ 104 88 = ((2, 2, 0, []), 89)) rfl).trans ?_
  refine (g_1 (by decide +kernel : kd_ 104 89 = ((1, 1, 0, []), 90))).trans ?_
  exact g_38 (by decide +kernel : kd_ 104 90 = ((38, 99, 0, []), 93))
theorem b_C_sign_93 {L : Nat} {f : cg_G} {e : Nat × Nat} {x1 x2 x3 : Int32} {a0 a4 : Nat} (h1 : sh_ a4 = 1): cj_res 104 93 [.ref a0, .int x1, .int x2, .int x3, .ref a4] [] (cg_M L f e) = cj_aft 104 95 98 [.ref a0, .int x1, .int x2, .int x3, .ref a4] [] (cj_ev 7 [.ref a4] (cg_M L f e)) := by
  refine (g_3 (by decide +kernel : kd_ 104 93 = ((3, 4, 0, []), 95)) rfl).trans ?_
  exact g_80 (by decide +kernel : kd_ 104 95 = ((80, 7, 1, [1]), 98)) rfl h1 rfl rfl rfl
theorem b_C_sign_98 {L : Nat} {f : cg_G} {e : Nat × Nat} {x1 x2 x3 y0 : Int32} {a0 a4 : Nat} : cj_res 104 98 [.ref a0, .int x1, .int x2, .int x3, .ref a4] [.int y0] (cg_M L f e) = some (.inl (some (.int y0)), cg_M L f e) := by
  exact g_90 (by decide +kernel : kd_ 104 98 = ((90, 0, 0, []), 99))
theorem b_C_sign_99 {L : Nat} {f : cg_G} {e : Nat × Nat} {x1 x2 x3 : Int32} {a0 a4 : Nat} : cj_res 104 99 [.ref a0, .int x1, .int x2, .int x3, .ref a4] [] (cg_M L f e) = if x3 = (- nI 1) then cj_res 104 104 [.ref a0, .int x1, .int x2, .int x3, .ref a4] [] (cg_M L f e) else cj_res 104 113 [.ref a0, .int x1, .int x2, .int x3, .ref a4] [] (cg_M L f e) := by
  refine (g_2 (by decide +kernel : kd_ 104 99 = ((2, 3, 0, []), 100)) rfl).trans ?_
  refine (g_1 (by decide +kernel : kd_ 104 100 = ((1, 1, 0, []), 101))).trans ?_
  exact g_38 (by decide +kernel : kd_ 104 101 = ((38, 113, 0, []), 104))
theorem b_C_sign_104 {L : Nat} {f : cg_G} {e : Nat × Nat} {x1 x2 x3 : Int32} {a0 a4 : Nat} (h1 : sh_ a4 = 1): cj_res 104 104 [.ref a0, .int x1, .int x2, .int x3, .ref a4] [] (cg_M L f e) = cj_aft 104 107 110 [.ref a0, .int x1, .int x2, .int x3, .ref a4] [] (cj_ev 5 [.ref a4, .int x2] (cg_M L f e)) := by
  refine (g_3 (by decide +kernel : kd_ 104 104 = ((3, 4, 0, []), 106)) rfl).trans ?_
  refine (g_2 (by decide +kernel : kd_ 104 106 = ((2, 2, 0, []), 107)) rfl).trans ?_
  exact g_80 (by decide +kernel : kd_ 104 107 = ((80, 5, 2, [1]), 110)) rfl h1 rfl rfl rfl
theorem b_C_sign_110 {L : Nat} {f : cg_G} {e : Nat × Nat} {x1 x2 x3 y0 : Int32} {a0 a4 : Nat} : cj_res 104 110 [.ref a0, .int x1, .int x2, .int x3, .ref a4] [.int y0] (cg_M L f e) = cj_res 104 120 [.ref a0, .int x1, .int x2, .int x3, .ref a4] [.int y0] (cg_M L f e) := by
  refine (g_30 (by decide +kernel : kd_ 104 110 = ((30, 120, 0, []), 113))).trans ?_
  rfl
theorem b_C_sign_113 {L : Nat} {f : cg_G} {e : Nat × Nat} {x1 x2 x3 : Int32} {a0 a4 : Nat} (h1 : sh_ a4 = 1): cj_res 104 113 [.ref a0, .int x1, .int x2, .int x3, .ref a4] [] (cg_M L f e) = cj_aft 104 117 120 [.ref a0, .int x1, .int x2, .int x3, .ref a4] [] (cj_ev 72 [.ref a4, .int x2, .int x3] (cg_M L f e)) := by
  refine (g_3 (by decide +kernel : kd_ 104 113 = ((3, 4, 0, []), 115)) rfl).trans ?_
  refine (g_2 (by decide +kernel : kd_ 104 115 = ((2, 2, 0, []), 116)) rfl).trans ?_
  refine (g_2 (by decide +kernel : kd_ 104 116 = ((2, 3, 0, []), 117)) rfl).trans ?_
  exact g_80 (by decide +kernel : kd_ 104 117 = ((80, 72, 3, [1]), 120)) rfl h1 rfl rfl rfl
theorem b_C_sign_120 {L : Nat} {f : cg_G} {e : Nat × Nat} {x1 x2 x3 y0 : Int32} {a0 a4 : Nat} : cj_res 104 120 [.ref a0, .int x1, .int x2, .int x3, .ref a4] [.int y0] (cg_M L f e) = some (.inl (some (.int y0)), cg_M L f e) := by
  exact g_90 (by decide +kernel : kd_ 104 120 = ((90, 0, 0, []), 121))
theorem b_C_unit_0 {L : Nat} {f : cg_G} {e : Nat × Nat} {x1 x2 : Int32} {a0 : Nat} (h1 : sh_ a0 = 0): cj_res 105 0 [.ref a0, .int x1, .int x2] [] (cg_M L f e) = cj_aft 105 4 7 [.ref a0, .int x1, .int x2] [] (cj_ev 39 [.ref (a0 + 1)] (cg_M L f e)) := by
  refine (g_3 (by decide +kernel : kd_ 105 0 = ((3, 0, 0, []), 1)) rfl).trans ?_
  refine (g_50 (v := .ref (a0 + 1)) (by decide +kernel : kd_ 105 1 = ((50, 0, 1, []), 4)) h1 rfl).trans ?_
  exact g_80 (by decide +kernel : kd_ 105 4 = ((80, 39, 1, [6]), 7)) rfl (sc_0_1 h1) rfl rfl rfl
theorem b_C_unit_7 {L : Nat} {f : cg_G} {e : Nat × Nat} {x1 x2 y0 : Int32} {a0 : Nat} : cj_res 105 7 [.ref a0, .int x1, .int x2] [.int y0] (cg_M L f e) = cj_aft 105 8 11 [.ref a0, .int x1, .int x2] [.int y0] (cj_ev 69 [.int x1] (cg_M L f e)) := by
  refine (g_2 (by decide +kernel : kd_ 105 7 = ((2, 1, 0, []), 8)) rfl).trans ?_
  exact g_81 (by decide +kernel : kd_ 105 8 = ((81, 69, 1, []), 11)) rfl rfl rfl
theorem b_C_unit_11 {L : Nat} {f : cg_G} {e : Nat × Nat} {x1 x2 y0 y1 : Int32} {a0 : Nat} : cj_res 105 11 [.ref a0, .int x1, .int x2] [.int y0, .int y1] (cg_M L f e) = cj_aft 105 13 16 [.ref a0, .int x1, .int x2] [.int (y1 + y0)] (cj_ev 69 [.int x2] (cg_M L f e)) := by
  refine (g_10 (by decide +kernel : kd_ 105 11 = ((10, 0, 0, []), 12))).trans ?_
  refine (g_2 (by decide +kernel : kd_ 105 12 = ((2, 2, 0, []), 13)) rfl).trans ?_
  exact g_81 (by decide +kernel : kd_ 105 13 = ((81, 69, 1, []), 16)) rfl rfl rfl
theorem b_C_unit_16 {L : Nat} {f : cg_G} {e : Nat × Nat} {x1 x2 y0 y1 : Int32} {a0 : Nat} : cj_res 105 16 [.ref a0, .int x1, .int x2] [.int y0, .int y1] (cg_M L f e) = if (y1 + y0) ≤ (nI 32) then cj_res 105 32 [.ref a0, .int x1, .int x2] [] (cg_M L f e) else cj_res 105 22 [.ref a0, .int x1, .int x2] [] (cg_M L f e) := by
  refine (g_10 (by decide +kernel : kd_ 105 16 = ((10, 0, 0, []), 17))).trans ?_
  refine (g_0 (by decide +kernel : kd_ 105 17 = ((0, 32, 0, []), 19))).trans ?_
  exact g_42 (by decide +kernel : kd_ 105 19 = ((42, 32, 0, []), 22))
theorem b_C_unit_22 {L : Nat} {f : cg_G} {e : Nat × Nat} {x1 x2 : Int32} {a0 : Nat} : cj_res 105 22 [.ref a0, .int x1, .int x2] [] (cg_M L f e) = some (.inr 0, cj_pay (cg_M L f e) 1 6) := by
  exact g_95 (by decide +kernel : kd_ 105 22 = ((95, 0, 0, []), 25))
theorem b_C_unit_32 {L : Nat} {f : cg_G} {e : Nat × Nat} {x1 x2 : Int32} {a0 : Nat} : cj_res 105 32 [.ref a0, .int x1, .int x2] [] (cg_M L f e) = cj_aft 105 33 36 [.ref a0, .int x1, .int x2] [] (cj_ev 64 [.int x1] (cg_M L f e)) := by
  refine (g_2 (by decide +kernel : kd_ 105 32 = ((2, 1, 0, []), 33)) rfl).trans ?_
  exact g_81 (by decide +kernel : kd_ 105 33 = ((81, 64, 1, []), 36)) rfl rfl rfl
theorem b_C_unit_36 {L : Nat} {f : cg_G} {e : Nat × Nat} {x1 x2 y0 : Int32} {a0 : Nat} : cj_res 105 36 [.ref a0, .int x1, .int x2] [.int y0] (cg_M L f e) = if y0 = 0 then cj_res 105 46 [.ref a0, .int x1, .int x2] [] (cg_M L f e) else cj_res 105 39 [.ref a0, .int x1, .int x2] [] (cg_M L f e) := by
  exact g_31 (by decide +kernel : kd_ 105 36 = ((31, 46, 0, []), 39))
theorem b_C_unit_39 {L : Nat} {f : cg_G} {e : Nat × Nat} {x1 x2 : Int32} {a0 : Nat} : cj_res 105 39 [.ref a0, .int x1, .int x2] [] (cg_M L f e) = cj_aft 105 40 43 [.ref a0, .int x1, .int x2] [] (cj_ev 64 [.int x2] (cg_M L f e)) := by
  refine (g_2 (by decide +kernel : kd_ 105 39 = ((2, 2, 0, []), 40)) rfl).trans ?_
  exact g_81 (by decide +kernel : kd_ 105 40 = ((81, 64, 1, []), 43)) rfl rfl rfl
theorem b_C_unit_43 {L : Nat} {f : cg_G} {e : Nat × Nat} {x1 x2 y0 : Int32} {a0 : Nat} : cj_res 105 43 [.ref a0, .int x1, .int x2] [.int y0] (cg_M L f e) = if y0 = 0 then cj_res 105 46 [.ref a0, .int x1, .int x2] [] (cg_M L f e) else cj_res 105 56 [.ref a0, .int x1, .int x2] [] (cg_M L f e) := by
  exact g_32 (by decide +kernel : kd_ 105 43 = ((32, 56, 0, []), 46))
theorem b_C_unit_46 {L : Nat} {f : cg_G} {e : Nat × Nat} {x1 x2 : Int32} {a0 : Nat} : cj_res 105 46 [.ref a0, .int x1, .int x2] [] (cg_M L f e) = some (.inr 1, cj_pay (cg_M L f e) 1 6) := by
  exact g_95 (by decide +kernel : kd_ 105 46 = ((95, 1, 0, []), 49))
theorem b_C_unit_56 {L : Nat} {f : cg_G} {e : Nat × Nat} {x1 x2 : Int32} {a0 : Nat} (h1 : sh_ a0 = 0): cj_res 105 56 [.ref a0, .int x1, .int x2] [] (cg_M L f e) = cj_aft 105 58 61 [.ref a0, .int x1, .int x2] [] (cj_ev 58 [.ref a0, .int x1] (cg_M L f e)) := by
  refine (g_3 (by decide +kernel : kd_ 105 56 = ((3, 0, 0, []), 57)) rfl).trans ?_
  refine (g_2 (by decide +kernel : kd_ 105 57 = ((2, 1, 0, []), 58)) rfl).trans ?_
  exact g_80 (by decide +kernel : kd_ 105 58 = ((80, 58, 2, [0]), 61)) rfl h1 rfl rfl rfl
theorem b_C_unit_61 {L : Nat} {f : cg_G} {e : Nat × Nat} {x1 x2 : Int32} {a0 : Nat} (h1 : sh_ a0 = 0): cj_res 105 61 [.ref a0, .int x1, .int x2] [] (cg_M L f e) = cj_aft 105 63 66 [.ref a0, .int x1, .int x2] [] (cj_ev 58 [.ref a0, .int x2] (cg_M L f e)) := by
  refine (g_3 (by decide +kernel : kd_ 105 61 = ((3, 0, 0, []), 62)) rfl).trans ?_
  refine (g_2 (by decide +kernel : kd_ 105 62 = ((2, 2, 0, []), 63)) rfl).trans ?_
  exact g_80 (by decide +kernel : kd_ 105 63 = ((80, 58, 2, [0]), 66)) rfl h1 rfl rfl rfl
theorem b_C_unit_66 {L : Nat} {f : cg_G} {e : Nat × Nat} {x1 x2 : Int32} {a0 : Nat} (h1 : sh_ a0 = 0): cj_res 105 66 [.ref a0, .int x1, .int x2] [] (cg_M L f e) = cj_aft 105 70 73 [.ref a0, .int x1, .int x2] [] (cj_ev 39 [.ref (a0 + 1)] (cg_M L f e)) := by
  refine (g_3 (by decide +kernel : kd_ 105 66 = ((3, 0, 0, []), 67)) rfl).trans ?_
  refine (g_50 (v := .ref (a0 + 1)) (by decide +kernel : kd_ 105 67 = ((50, 0, 1, []), 70)) h1 rfl).trans ?_
  exact g_80 (by decide +kernel : kd_ 105 70 = ((80, 39, 1, [6]), 73)) rfl (sc_0_1 h1) rfl rfl rfl
theorem b_C_unit_73 {L : Nat} {f : cg_G} {e : Nat × Nat} {x1 x2 y0 : Int32} {a0 : Nat} : cj_res 105 73 [.ref a0, .int x1, .int x2] [.int y0] (cg_M L f e) = some (.inl (some (.int y0)), cg_M L f e) := by
  exact g_90 (by decide +kernel : kd_ 105 73 = ((90, 0, 0, []), 74))
theorem b_Entry_isPartWhole_0 {L : Nat} {f : cg_G} {e : Nat × Nat} {x1 : Int32} {a0 : Nat} {u2 u3 : Value} (h1 : sh_ a0 = 2): cj_res 106 0 [.ref a0, .int x1, u2, u3] [] (cg_M L f e) = cj_aft 106 2 5 [.ref a0, .int x1, u2, u3] [] (cj_ev 75 [.ref a0, .int x1] (cg_M L f e)) := by
  refine (g_3 (by decide +kernel : kd_ 106 0 = ((3, 0, 0, []), 1)) rfl).trans ?_
  refine (g_2 (by decide +kernel : kd_ 106 1 = ((2, 1, 0, []), 2)) rfl).trans ?_
  exact g_80 (by decide +kernel : kd_ 106 2 = ((80, 75, 2, [2]), 5)) rfl h1 rfl rfl rfl
theorem b_Entry_isPartWhole_5 {L : Nat} {f : cg_G} {e : Nat × Nat} {x1 y0 : Int32} {a0 : Nat} {u2 u3 : Value} : cj_res 106 5 [.ref a0, .int x1, u2, u3] [.int y0] (cg_M L f e) = cj_res 106 8 [.ref a0, .int x1, .int y0, .int x1] [] (cg_M L f e) := by
  refine (g_4 (ls' := [.ref a0, .int x1, .int y0, u3]) (by decide +kernel : kd_ 106 5 = ((4, 2, 0, []), 6)) rfl rfl).trans ?_
  refine (g_2 (by decide +kernel : kd_ 106 6 = ((2, 1, 0, []), 7)) rfl).trans ?_
  refine (g_4 (ls' := [.ref a0, .int x1, .int y0, .int x1]) (by decide +kernel : kd_ 106 7 = ((4, 3, 0, []), 8)) rfl rfl).trans ?_
  rfl
theorem b_Entry_isPartWhole_8 {L : Nat} {f : cg_G} {e : Nat × Nat} {x1 x2 x3 : Int32} {a0 : Nat} : cj_res 106 8 [.ref a0, .int x1, .int x2, .int x3] [] (cg_M L f e) = if x2 ≤ x3 then cj_res 106 57 [.ref a0, .int x1, .int x2, .int x3] [] (cg_M L f e) else cj_res 106 13 [.ref a0, .int x1, .int x2, .int x3] [] (cg_M L f e) := by
  refine (g_2 (by decide +kernel : kd_ 106 8 = ((2, 3, 0, []), 9)) rfl).trans ?_
  refine (g_2 (by decide +kernel : kd_ 106 9 = ((2, 2, 0, []), 10)) rfl).trans ?_
  exact g_40 (by decide +kernel : kd_ 106 10 = ((40, 57, 0, []), 13))
theorem b_Entry_isPartWhole_13 {L : Nat} {f : cg_G} {e : Nat × Nat} {x1 x2 x3 : Int32} {a0 : Nat} (h1 : sh_ a0 = 2) (h2 : sh_ ((f a0 2).toNatClampNeg) = 6): cj_res 106 13 [.ref a0, .int x1, .int x2, .int x3] [] (cg_M L f e) = cj_aft 106 18 21 [.ref a0, .int x1, .int x2, .int x3] [] (cj_ev 36 [.ref (f a0 2).toNatClampNeg, .int x3] (cg_M L f e)) := by
  refine (g_3 (by decide +kernel : kd_ 106 13 = ((3, 0, 0, []), 14)) rfl).trans ?_
  refine (g_50 (v := .ref (f a0 2).toNatClampNeg) (by decide +kernel : kd_ 106 14 = ((50, 2, 2, []), 17)) h1 rfl).trans ?_
  refine (g_2 (by decide +kernel : kd_ 106 17 = ((2, 3, 0, []), 18)) rfl).trans ?_
  exact g_80 (by decide +kernel : kd_ 106 18 = ((80, 36, 2, [6]), 21)) rfl h2 rfl rfl rfl
theorem b_Entry_isPartWhole_21 {L : Nat} {f : cg_G} {e : Nat × Nat} {x1 x2 x3 y0 : Int32} {a0 : Nat} : cj_res 106 21 [.ref a0, .int x1, .int x2, .int x3] [.int y0] (cg_M L f e) = if y0 = (nI 35) then cj_res 106 26 [.ref a0, .int x1, .int x2, .int x3] [] (cg_M L f e) else cj_res 106 51 [.ref a0, .int x1, .int x2, .int x3] [] (cg_M L f e) := by
  refine (g_0 (by decide +kernel : kd_ 106 21 = ((0, 35, 0, []), 23))).trans ?_
  exact g_38 (by decide +kernel : kd_ 106 23 = ((38, 51, 0, []), 26))
theorem b_Entry_isPartWhole_26 {L : Nat} {f : cg_G} {e : Nat × Nat} {x1 x2 x3 : Int32} {a0 : Nat} (h1 : sh_ a0 = 2) (h2 : sh_ ((f a0 2).toNatClampNeg) = 6): cj_res 106 26 [.ref a0, .int x1, .int x2, .int x3] [] (cg_M L f e) = cj_aft 106 34 37 [.ref a0, .int x1, .int x2, .int x3] [.ref a0] (cj_ev 36 [.ref (f a0 2).toNatClampNeg, .int (x3 + (nI 1))] (cg_M L f e)) := by
  refine (g_3 (by decide +kernel : kd_ 106 26 = ((3, 0, 0, []), 27)) rfl).trans ?_
  refine (g_3 (by decide +kernel : kd_ 106 27 = ((3, 0, 0, []), 28)) rfl).trans ?_
  refine (g_50 (v := .ref (f a0 2).toNatClampNeg) (by decide +kernel : kd_ 106 28 = ((50, 2, 2, []), 31)) h1 rfl).trans ?_
  refine (g_2 (by decide +kernel : kd_ 106 31 = ((2, 3, 0, []), 32)) rfl).trans ?_
  refine (g_0 (by decide +kernel : kd_ 106 32 = ((0, 1, 0, []), 33))).trans ?_
  refine (g_10 (by decide +kernel : kd_ 106 33 = ((10, 0, 0, []), 34))).trans ?_
  exact g_80 (by decide +kernel : kd_ 106 34 = ((80, 36, 2, [6]), 37)) rfl h2 rfl rfl rfl
theorem b_Entry_isPartWhole_37 {L : Nat} {f : cg_G} {e : Nat × Nat} {x1 x2 x3 y0 : Int32} {a0 c1 : Nat} (h1 : sh_ c1 = 2): cj_res 106 37 [.ref a0, .int x1, .int x2, .int x3] [.int y0, .ref c1] (cg_M L f e) = cj_aft 106 40 43 [.ref a0, .int x1, .int x2, .int x3] [] (cj_ev 14 [.ref c1, .int (y0 - (nI 48))] (cg_M L f e)) := by
  refine (g_0 (by decide +kernel : kd_ 106 37 = ((0, 48, 0, []), 39))).trans ?_
  refine (g_11 (by decide +kernel : kd_ 106 39 = ((11, 0, 0, []), 40))).trans ?_
  exact g_80 (by decide +kernel : kd_ 106 40 = ((80, 14, 2, [2]), 43)) rfl h1 rfl rfl rfl
theorem b_Entry_isPartWhole_43 {L : Nat} {f : cg_G} {e : Nat × Nat} {x1 x2 x3 : Int32} {a0 c0 : Nat} (h1 : sh_ c0 = 6): cj_res 106 43 [.ref a0, .int x1, .int x2, .int x3] [.ref c0] (cg_M L f e) = cj_aft 106 43 46 [.ref a0, .int x1, .int x2, .int x3] [] (cj_ev 39 [.ref c0] (cg_M L f e)) := by
  exact g_80 (by decide +kernel : kd_ 106 43 = ((80, 39, 1, [6]), 46)) rfl h1 rfl rfl rfl
theorem b_Entry_isPartWhole_46 {L : Nat} {f : cg_G} {e : Nat × Nat} {x1 x2 x3 y0 : Int32} {a0 : Nat} : cj_res 106 46 [.ref a0, .int x1, .int x2, .int x3] [.int y0] (cg_M L f e) = if y0 = 0 then cj_res 106 49 [.ref a0, .int x1, .int x2, .int x3] [] (cg_M L f e) else cj_res 106 51 [.ref a0, .int x1, .int x2, .int x3] [] (cg_M L f e) := by
  exact g_32 (by decide +kernel : kd_ 106 46 = ((32, 51, 0, []), 49))
theorem b_Entry_isPartWhole_49 {L : Nat} {f : cg_G} {e : Nat × Nat} {x1 x2 x3 : Int32} {a0 : Nat} : cj_res 106 49 [.ref a0, .int x1, .int x2, .int x3] [] (cg_M L f e) = some (.inl (some (.int (nI 0))), cg_M L f e) := by
  refine (g_0 (by decide +kernel : kd_ 106 49 = ((0, 0, 0, []), 50))).trans ?_
  exact g_93 (by decide +kernel : kd_ 106 50 = ((93, 0, 0, []), 51)) (by decide)
theorem b_Entry_isPartWhole_51 {L : Nat} {f : cg_G} {e : Nat × Nat} {x1 x2 x3 : Int32} {a0 : Nat} : cj_res 106 51 [.ref a0, .int x1, .int x2, .int x3] [] (cg_M L f e) = cj_res 106 8 [.ref a0, .int x1, .int x2, .int (x3 + nI 1)] [] (cg_M L f e) := by
  refine (g_6 (ls' := [.ref a0, .int x1, .int x2, .int (x3 + nI 1)]) (by decide +kernel : kd_ 106 51 = ((6, 3, 1, []), 54)) rfl rfl).trans ?_
  refine (g_30 (by decide +kernel : kd_ 106 54 = ((30, 8, 0, []), 57))).trans ?_
  rfl
theorem b_Entry_isPartWhole_57 {L : Nat} {f : cg_G} {e : Nat × Nat} {x1 x2 x3 : Int32} {a0 : Nat} : cj_res 106 57 [.ref a0, .int x1, .int x2, .int x3] [] (cg_M L f e) = some (.inl (some (.int (nI 1))), cg_M L f e) := by
  refine (g_0 (by decide +kernel : kd_ 106 57 = ((0, 1, 0, []), 58))).trans ?_
  exact g_93 (by decide +kernel : kd_ 106 58 = ((93, 0, 0, []), 59)) (by decide)
theorem b_Entry_printMark_0 {L : Nat} {f : cg_G} {e : Nat × Nat} {x2 x3 : Int32} {a0 a1 a4 : Nat} : cj_res 107 0 [.ref a0, .ref a1, .int x2, .int x3, .ref a4] [] (cg_M L f e) = if x2 = (nI 35) then cj_res 107 6 [.ref a0, .ref a1, .int x2, .int x3, .ref a4] [] (cg_M L f e) else cj_res 107 18 [.ref a0, .ref a1, .int x2, .int x3, .ref a4] [] (cg_M L f e) := by
  refine (g_2 (by decide +kernel : kd_ 107 0 = ((2, 2, 0, []), 1)) rfl).trans ?_
  refine (g_0 (by decide +kernel : kd_ 107 1 = ((0, 35, 0, []), 3))).trans ?_
  exact g_38 (by decide +kernel : kd_ 107 3 = ((38, 18, 0, []), 6))
theorem b_Entry_printMark_6 {L : Nat} {f : cg_G} {e : Nat × Nat} {x2 x3 : Int32} {a0 a1 a4 : Nat} (h1 : sh_ a0 = 2): cj_res 107 6 [.ref a0, .ref a1, .int x2, .int x3, .ref a4] [] (cg_M L f e) = cj_aft 107 9 12 [.ref a0, .ref a1, .int x2, .int x3, .ref a4] [.ref a1] (cj_ev 14 [.ref a0, .int x3] (cg_M L f e)) := by
  refine (g_3 (by decide +kernel : kd_ 107 6 = ((3, 1, 0, []), 7)) rfl).trans ?_
  refine (g_3 (by decide +kernel : kd_ 107 7 = ((3, 0, 0, []), 8)) rfl).trans ?_
  refine (g_2 (by decide +kernel : kd_ 107 8 = ((2, 3, 0, []), 9)) rfl).trans ?_
  exact g_80 (by decide +kernel : kd_ 107 9 = ((80, 14, 2, [2]), 12)) rfl h1 rfl rfl rfl
theorem b_Entry_printMark_12 {L : Nat} {f : cg_G} {e : Nat × Nat} {x2 x3 : Int32} {a0 a1 a4 c0 c1 : Nat} (h1 : sh_ c1 = 6): cj_res 107 12 [.ref a0, .ref a1, .int x2, .int x3, .ref a4] [.ref c0, .ref c1] (cg_M L f e) = cj_aft 107 12 15 [.ref a0, .ref a1, .int x2, .int x3, .ref a4] [] (cj_ev 84 [.ref c1, .ref c0] (cg_M L f e)) := by
  exact g_80 (by decide +kernel : kd_ 107 12 = ((80, 84, 2, [6]), 15)) rfl h1 rfl rfl rfl
theorem b_Entry_printMark_15 {L : Nat} {f : cg_G} {e : Nat × Nat} {x2 x3 : Int32} {a0 a1 a4 : Nat} : cj_res 107 15 [.ref a0, .ref a1, .int x2, .int x3, .ref a4] [] (cg_M L f e) = cj_res 107 37 [.ref a0, .ref a1, .int x2, .int x3, .ref a4] [] (cg_M L f e) := by
  refine (g_30 (by decide +kernel : kd_ 107 15 = ((30, 37, 0, []), 18))).trans ?_
  rfl
theorem b_Entry_printMark_18 {L : Nat} {f : cg_G} {e : Nat × Nat} {x2 x3 : Int32} {a0 a1 a4 : Nat} : cj_res 107 18 [.ref a0, .ref a1, .int x2, .int x3, .ref a4] [] (cg_M L f e) = if x3 < 0 then cj_res 107 37 [.ref a0, .ref a1, .int x2, .int x3, .ref a4] [] (cg_M L f e) else cj_res 107 22 [.ref a0, .ref a1, .int x2, .int x3, .ref a4] [] (cg_M L f e) := by
  refine (g_2 (by decide +kernel : kd_ 107 18 = ((2, 3, 0, []), 19)) rfl).trans ?_
  exact g_33 (by decide +kernel : kd_ 107 19 = ((33, 37, 0, []), 22))
theorem b_Entry_printMark_22 {L : Nat} {f : cg_G} {e : Nat × Nat} {x2 x3 : Int32} {a0 a1 a4 : Nat} (h1 : sh_ a4 = 100): cj_res 107 22 [.ref a0, .ref a1, .int x2, .int x3, .ref a4] [] (cg_M L f e) = if (nI (ln_ L a4)) ≤ x3 then cj_res 107 37 [.ref a0, .ref a1, .int x2, .int x3, .ref a4] [] (cg_M L f e) else cj_res 107 29 [.ref a0, .ref a1, .int x2, .int x3, .ref a4] [] (cg_M L f e) := by
  refine (g_2 (by decide +kernel : kd_ 107 22 = ((2, 3, 0, []), 23)) rfl).trans ?_
  refine (g_3 (by decide +kernel : kd_ 107 23 = ((3, 4, 0, []), 25)) rfl).trans ?_
  refine (g_53 (by decide +kernel : kd_ 107 25 = ((53, 0, 0, []), 26)) h1 rfl).trans ?_
  exact g_40 (by decide +kernel : kd_ 107 26 = ((40, 37, 0, []), 29))
theorem b_Entry_printMark_29 {L : Nat} {f : cg_G} {e : Nat × Nat} {x2 x3 : Int32} {a0 a1 a4 : Nat} (h1 : sh_ a4 = 100) (h2 : cg_in x3 (ln_ L a4)): cj_res 107 29 [.ref a0, .ref a1, .int x2, .int x3, .ref a4] [] (cg_M L f e) = cj_aft 107 34 37 [.ref a0, .ref a1, .int x2, .int x3, .ref a4] [] (cj_ev 76 [.ref a1, .int (f a4 x3.toNatClampNeg)] (cg_M L f e)) := by
  refine (g_3 (by decide +kernel : kd_ 107 29 = ((3, 1, 0, []), 30)) rfl).trans ?_
  refine (g_3 (by decide +kernel : kd_ 107 30 = ((3, 4, 0, []), 32)) rfl).trans ?_
  refine (g_2 (by decide +kernel : kd_ 107 32 = ((2, 3, 0, []), 33)) rfl).trans ?_
  refine (g_54 (v := .int (f a4 x3.toNatClampNeg)) (by decide +kernel : kd_ 107 33 = ((54, 0, 0, []), 34)) h1 rfl h2 rfl).trans ?_
  exact g_81 (by decide +kernel : kd_ 107 34 = ((81, 76, 2, []), 37)) rfl rfl rfl
theorem b_Entry_printMark_37 {L : Nat} {f : cg_G} {e : Nat × Nat} {x2 x3 : Int32} {a0 a1 a4 : Nat} : cj_res 107 37 [.ref a0, .ref a1, .int x2, .int x3, .ref a4] [] (cg_M L f e) = some (.inl none, cg_M L f e) := by
  exact g_91 (by decide +kernel : kd_ 107 37 = ((91, 0, 0, []), 38))
theorem b_Filling_solve_0 {L : Nat} {f : cg_G} {e : Nat × Nat} {a0 : Nat} {u1 : Value} (h1 : sh_ a0 = 3) (h2 : cg_in (f a0 3) 849): cj_res 108 0 [.ref a0, u1] [] (cg_M L f e) = cj_res 108 17 [.ref a0, .int (((cg_up f (a0 + 2) (f a0 3).toNatClampNeg (nI 0)) a0 3) - (nI 1))] [] (cg_M L (cg_up f (a0 + 2) (f a0 3).toNatClampNeg (nI 0)) e) := by
  refine (g_3 (by decide +kernel : kd_ 108 0 = ((3, 0, 0, []), 1)) rfl).trans ?_
  refine (g_50 (v := .ref (a0 + 2)) (by decide +kernel : kd_ 108 1 = ((50, 3, 1, []), 4)) h1 rfl).trans ?_
  refine (g_3 (by decide +kernel : kd_ 108 4 = ((3, 0, 0, []), 5)) rfl).trans ?_
  refine (g_50 (v := .int (f a0 3)) (by decide +kernel : kd_ 108 5 = ((50, 3, 3, []), 8)) h1 rfl).trans ?_
  refine (g_0 (by decide +kernel : kd_ 108 8 = ((0, 0, 0, []), 9))).trans ?_
  refine (g_56 (by decide +kernel : kd_ 108 9 = ((56, 0, 0, []), 10)) (sc_3_1 h1) (fun _ => rfl) (by rw [sl_3_1 h1]; exact h2) (by omega)).trans ?_
  refine (g_3 (by decide +kernel : kd_ 108 10 = ((3, 0, 0, []), 11)) rfl).trans ?_
  refine (g_50 (v := .int ((cg_up f (a0 + 2) (f a0 3).toNatClampNeg (nI 0)) a0 3)) (by decide +kernel : kd_ 108 11 = ((50, 3, 3, []), 14)) h1 rfl).trans ?_
  refine (g_0 (by decide +kernel : kd_ 108 14 = ((0, 1, 0, []), 15))).trans ?_
  refine (g_11 (by decide +kernel : kd_ 108 15 = ((11, 0, 0, []), 16))).trans ?_
  refine (g_4 (ls' := [.ref a0, .int (((cg_up f (a0 + 2) (f a0 3).toNatClampNeg (nI 0)) a0 3) - (nI 1))]) (by decide +kernel : kd_ 108 16 = ((4, 1, 0, []), 17)) rfl rfl).trans ?_
  rfl
theorem b_Filling_solve_17 {L : Nat} {f : cg_G} {e : Nat × Nat} {x1 : Int32} {a0 : Nat} : cj_res 108 17 [.ref a0, .int x1] [] (cg_M L f e) = if x1 < 0 then cj_res 108 32 [.ref a0, .int x1] [] (cg_M L f e) else cj_res 108 21 [.ref a0, .int x1] [] (cg_M L f e) := by
  refine (g_2 (by decide +kernel : kd_ 108 17 = ((2, 1, 0, []), 18)) rfl).trans ?_
  exact g_33 (by decide +kernel : kd_ 108 18 = ((33, 32, 0, []), 21))
theorem b_Filling_solve_21 {L : Nat} {f : cg_G} {e : Nat × Nat} {x1 : Int32} {a0 : Nat} (h1 : sh_ a0 = 3): cj_res 108 21 [.ref a0, .int x1] [] (cg_M L f e) = cj_aft 108 23 26 [.ref a0, .int x1] [] (cj_ev 77 [.ref a0, .int x1] (cg_M L f e)) := by
  refine (g_3 (by decide +kernel : kd_ 108 21 = ((3, 0, 0, []), 22)) rfl).trans ?_
  refine (g_2 (by decide +kernel : kd_ 108 22 = ((2, 1, 0, []), 23)) rfl).trans ?_
  exact g_80 (by decide +kernel : kd_ 108 23 = ((80, 77, 2, [3]), 26)) rfl h1 rfl rfl rfl
theorem b_Filling_solve_26 {L : Nat} {f : cg_G} {e : Nat × Nat} {x1 : Int32} {a0 : Nat} : cj_res 108 26 [.ref a0, .int x1] [] (cg_M L f e) = cj_res 108 17 [.ref a0, .int (x1 + - nI 1)] [] (cg_M L f e) := by
  refine (g_7 (ls' := [.ref a0, .int (x1 + - nI 1)]) (by decide +kernel : kd_ 108 26 = ((7, 1, 1, []), 29)) rfl rfl).trans ?_
  refine (g_30 (by decide +kernel : kd_ 108 29 = ((30, 17, 0, []), 32))).trans ?_
  rfl
theorem b_Filling_solve_32 {L : Nat} {f : cg_G} {e : Nat × Nat} {x1 : Int32} {a0 : Nat} : cj_res 108 32 [.ref a0, .int x1] [] (cg_M L f e) = some (.inl none, cg_M L f e) := by
  exact g_91 (by decide +kernel : kd_ 108 32 = ((91, 0, 0, []), 33))
theorem b_W_about_0 {L : Nat} {f : cg_G} {e : Nat × Nat} {x1 : Int32} {a0 a2 : Nat} {u3 : Value} (h1 : sh_ a0 = 0): cj_res 110 0 [.ref a0, .int x1, .ref a2, u3] [] (cg_M L f e) = cj_aft 110 4 7 [.ref a0, .int x1, .ref a2, u3] [.int (nI 0), .ref a2] (cj_ev 57 [.ref a0, .int x1] (cg_M L f e)) := by
  refine (g_3 (by decide +kernel : kd_ 110 0 = ((3, 2, 0, []), 1)) rfl).trans ?_
  refine (g_0 (by decide +kernel : kd_ 110 1 = ((0, 0, 0, []), 2))).trans ?_
  refine (g_3 (by decide +kernel : kd_ 110 2 = ((3, 0, 0, []), 3)) rfl).trans ?_
  refine (g_2 (by decide +kernel : kd_ 110 3 = ((2, 1, 0, []), 4)) rfl).trans ?_
  exact g_80 (by decide +kernel : kd_ 110 4 = ((80, 57, 2, [0]), 7)) rfl h1 rfl rfl rfl
theorem b_W_about_7 {L : Nat} {f : cg_G} {e : Nat × Nat} {x1 y0 y1 : Int32} {a0 a2 c2 : Nat} {u3 : Value} (h1 : sh_ c2 = 102) (h2 : cg_in y1 (ln_ L c2)): cj_res 110 7 [.ref a0, .int x1, .ref a2, u3] [.int y0, .int y1, .ref c2] (cg_M L f e) = cj_res 110 18 [.ref a0, .int x1, .ref a2, u3] [] (cg_M L (cg_up f c2 y1.toNatClampNeg y0) e) := by
  refine (g_23 (by decide +kernel : kd_ 110 7 = ((23, 0, 0, []), 8))).trans ?_
  refine (g_59 (by decide +kernel : kd_ 110 8 = ((59, 2, 0, []), 9)) h1 (fun _ => rfl) h2 (sz_102 h1)).trans ?_
  refine (g_30 (by decide +kernel : kd_ 110 9 = ((30, 18, 0, []), 12))).trans ?_
  rfl
theorem b_W_about_13 {L : Nat} {f : cg_G} {e : Nat × Nat} {x1 : Int32} {a0 a2 : Nat} {u3 : Value} : cj_res 110 13 [.ref a0, .int x1, .ref a2, u3] [] (cg_M L f e) = some (.inl (some (.int (nI 1))), cg_M L f e) := by
  refine (g_0 (by decide +kernel : kd_ 110 13 = ((0, 1, 0, []), 14))).trans ?_
  exact g_90 (by decide +kernel : kd_ 110 14 = ((90, 0, 0, []), 15))
theorem b_W_about_16 {L : Nat} {f : cg_G} {e : Nat × Nat} {x1 : Int32} {a0 a2 : Nat} {u3 : Value} : cj_res 110 16 [.ref a0, .int x1, .ref a2, u3] [] (cg_M L f e) = some (.inl (some (.int (nI 2))), cg_M L f e) := by
  refine (g_0 (by decide +kernel : kd_ 110 16 = ((0, 2, 0, []), 17))).trans ?_
  exact g_90 (by decide +kernel : kd_ 110 17 = ((90, 0, 0, []), 18))
theorem b_W_about_18 {L : Nat} {f : cg_G} {e : Nat × Nat} {x1 : Int32} {a0 a2 : Nat} {u3 : Value} : cj_res 110 18 [.ref a0, .int x1, .ref a2, u3] [] (cg_M L f e) = some (.inl (some (.int (nI 0))), cg_M L f e) := by
  refine (g_0 (by decide +kernel : kd_ 110 18 = ((0, 0, 0, []), 19))).trans ?_
  exact g_90 (by decide +kernel : kd_ 110 19 = ((90, 0, 0, []), 20))
theorem b_W_claim_0 {L : Nat} {f : cg_G} {e : Nat × Nat} {x1 x2 x3 : Int32} {a0 a4 : Nat} {u5 : Value} (h1 : sh_ a0 = 0): cj_res 111 0 [.ref a0, .int x1, .int x2, .int x3, .ref a4, u5] [] (cg_M L f e) = cj_aft 111 7 10 [.ref a0, .int x1, .int x2, .int x3, .ref a4, u5] [.int (nI 0), .ref a4] (cj_ev 59 [.ref a0, .int x1, .int x2, .int x3] (cg_M L f e)) := by
  refine (g_3 (by decide +kernel : kd_ 111 0 = ((3, 4, 0, []), 2)) rfl).trans ?_
  refine (g_0 (by decide +kernel : kd_ 111 2 = ((0, 0, 0, []), 3))).trans ?_
  refine (g_3 (by decide +kernel : kd_ 111 3 = ((3, 0, 0, []), 4)) rfl).trans ?_
  refine (g_2 (by decide +kernel : kd_ 111 4 = ((2, 1, 0, []), 5)) rfl).trans ?_
  refine (g_2 (by decide +kernel : kd_ 111 5 = ((2, 2, 0, []), 6)) rfl).trans ?_
  refine (g_2 (by decide +kernel : kd_ 111 6 = ((2, 3, 0, []), 7)) rfl).trans ?_
  exact g_80 (by decide +kernel : kd_ 111 7 = ((80, 59, 4, [0]), 10)) rfl h1 rfl rfl rfl
theorem b_W_claim_10 {L : Nat} {f : cg_G} {e : Nat × Nat} {x1 x2 x3 y0 y1 : Int32} {a0 a4 c2 : Nat} {u5 : Value} (h1 : sh_ c2 = 102) (h2 : cg_in y1 (ln_ L c2)): cj_res 111 10 [.ref a0, .int x1, .int x2, .int x3, .ref a4, u5] [.int y0, .int y1, .ref c2] (cg_M L f e) = cj_res 111 23 [.ref a0, .int x1, .int x2, .int x3, .ref a4, u5] [] (cg_M L (cg_up f c2 y1.toNatClampNeg y0) e) := by
  refine (g_23 (by decide +kernel : kd_ 111 10 = ((23, 0, 0, []), 11))).trans ?_
  refine (g_59 (by decide +kernel : kd_ 111 11 = ((59, 2, 0, []), 12)) h1 (fun _ => rfl) h2 (sz_102 h1)).trans ?_
  refine (g_30 (by decide +kernel : kd_ 111 12 = ((30, 23, 0, []), 15))).trans ?_
  rfl
theorem b_W_claim_17 {L : Nat} {f : cg_G} {e : Nat × Nat} {x1 x2 x3 : Int32} {a0 a4 : Nat} {u5 : Value} : cj_res 111 17 [.ref a0, .int x1, .int x2, .int x3, .ref a4, u5] [] (cg_M L f e) = some (.inl (some (.int (nI 1))), cg_M L f e) := by
  refine (g_0 (by decide +kernel : kd_ 111 17 = ((0, 1, 0, []), 18))).trans ?_
  exact g_90 (by decide +kernel : kd_ 111 18 = ((90, 0, 0, []), 19))
theorem b_W_claim_21 {L : Nat} {f : cg_G} {e : Nat × Nat} {x1 x2 x3 : Int32} {a0 a4 : Nat} {u5 : Value} : cj_res 111 21 [.ref a0, .int x1, .int x2, .int x3, .ref a4, u5] [] (cg_M L f e) = some (.inl (some (.int (nI 2))), cg_M L f e) := by
  refine (g_0 (by decide +kernel : kd_ 111 21 = ((0, 2, 0, []), 22))).trans ?_
  exact g_90 (by decide +kernel : kd_ 111 22 = ((90, 0, 0, []), 23))
theorem b_W_claim_23 {L : Nat} {f : cg_G} {e : Nat × Nat} {x1 x2 x3 : Int32} {a0 a4 : Nat} {u5 : Value} : cj_res 111 23 [.ref a0, .int x1, .int x2, .int x3, .ref a4, u5] [] (cg_M L f e) = some (.inl (some (.int (nI 0))), cg_M L f e) := by
  refine (g_0 (by decide +kernel : kd_ 111 23 = ((0, 0, 0, []), 24))).trans ?_
  exact g_90 (by decide +kernel : kd_ 111 24 = ((90, 0, 0, []), 25))
theorem b_W_count_0 {L : Nat} {f : cg_G} {e : Nat × Nat} {x1 : Int32} {a0 a2 : Nat} {u3 : Value} (h1 : sh_ a0 = 0): cj_res 112 0 [.ref a0, .int x1, .ref a2, u3] [] (cg_M L f e) = cj_aft 112 4 7 [.ref a0, .int x1, .ref a2, u3] [.int (nI 0), .ref a2] (cj_ev 60 [.ref a0, .int x1] (cg_M L f e)) := by
  refine (g_3 (by decide +kernel : kd_ 112 0 = ((3, 2, 0, []), 1)) rfl).trans ?_
  refine (g_0 (by decide +kernel : kd_ 112 1 = ((0, 0, 0, []), 2))).trans ?_
  refine (g_3 (by decide +kernel : kd_ 112 2 = ((3, 0, 0, []), 3)) rfl).trans ?_
  refine (g_2 (by decide +kernel : kd_ 112 3 = ((2, 1, 0, []), 4)) rfl).trans ?_
  exact g_80 (by decide +kernel : kd_ 112 4 = ((80, 60, 2, [0]), 7)) rfl h1 rfl rfl rfl
theorem b_W_count_7 {L : Nat} {f : cg_G} {e : Nat × Nat} {x1 y0 y1 : Int32} {a0 a2 c2 : Nat} {u3 : Value} (h1 : sh_ c2 = 102) (h2 : cg_in y1 (ln_ L c2)): cj_res 112 7 [.ref a0, .int x1, .ref a2, u3] [.int y0, .int y1, .ref c2] (cg_M L f e) = cj_res 112 15 [.ref a0, .int x1, .ref a2, u3] [] (cg_M L (cg_up f c2 y1.toNatClampNeg y0) e) := by
  refine (g_23 (by decide +kernel : kd_ 112 7 = ((23, 0, 0, []), 8))).trans ?_
  refine (g_59 (by decide +kernel : kd_ 112 8 = ((59, 2, 0, []), 9)) h1 (fun _ => rfl) h2 (sz_102 h1)).trans ?_
  refine (g_30 (by decide +kernel : kd_ 112 9 = ((30, 15, 0, []), 12))).trans ?_
  rfl
theorem b_W_count_13 {L : Nat} {f : cg_G} {e : Nat × Nat} {x1 : Int32} {a0 a2 : Nat} {u3 : Value} : cj_res 112 13 [.ref a0, .int x1, .ref a2, u3] [] (cg_M L f e) = some (.inl (some (.int (nI 1))), cg_M L f e) := by
  refine (g_0 (by decide +kernel : kd_ 112 13 = ((0, 1, 0, []), 14))).trans ?_
  exact g_90 (by decide +kernel : kd_ 112 14 = ((90, 0, 0, []), 15))
theorem b_W_count_15 {L : Nat} {f : cg_G} {e : Nat × Nat} {x1 : Int32} {a0 a2 : Nat} {u3 : Value} : cj_res 112 15 [.ref a0, .int x1, .ref a2, u3] [] (cg_M L f e) = some (.inl (some (.int (nI 0))), cg_M L f e) := by
  refine (g_0 (by decide +kernel : kd_ 112 15 = ((0, 0, 0, []), 16))).trans ?_
  exact g_90 (by decide +kernel : kd_ 112 16 = ((90, 0, 0, []), 17))
theorem b_W_entry_0 {L : Nat} {f : cg_G} {e : Nat × Nat} {x1 : Int32} {a0 a2 : Nat} {u3 : Value} (h1 : sh_ a0 = 0): cj_res 113 0 [.ref a0, .int x1, .ref a2, u3] [] (cg_M L f e) = cj_aft 113 4 7 [.ref a0, .int x1, .ref a2, u3] [.int (nI 0), .ref a2] (cj_ev 61 [.ref a0, .int x1] (cg_M L f e)) := by
  refine (g_3 (by decide +kernel : kd_ 113 0 = ((3, 2, 0, []), 1)) rfl).trans ?_
  refine (g_0 (by decide +kernel : kd_ 113 1 = ((0, 0, 0, []), 2))).trans ?_
  refine (g_3 (by decide +kernel : kd_ 113 2 = ((3, 0, 0, []), 3)) rfl).trans ?_
  refine (g_2 (by decide +kernel : kd_ 113 3 = ((2, 1, 0, []), 4)) rfl).trans ?_
  exact g_80 (by decide +kernel : kd_ 113 4 = ((80, 61, 2, [0]), 7)) rfl h1 rfl rfl rfl
theorem b_W_entry_7 {L : Nat} {f : cg_G} {e : Nat × Nat} {x1 y0 y1 : Int32} {a0 a2 c2 : Nat} {u3 : Value} (h1 : sh_ c2 = 102) (h2 : cg_in y1 (ln_ L c2)): cj_res 113 7 [.ref a0, .int x1, .ref a2, u3] [.int y0, .int y1, .ref c2] (cg_M L f e) = cj_res 113 18 [.ref a0, .int x1, .ref a2, u3] [] (cg_M L (cg_up f c2 y1.toNatClampNeg y0) e) := by
  refine (g_23 (by decide +kernel : kd_ 113 7 = ((23, 0, 0, []), 8))).trans ?_
  refine (g_59 (by decide +kernel : kd_ 113 8 = ((59, 2, 0, []), 9)) h1 (fun _ => rfl) h2 (sz_102 h1)).trans ?_
  refine (g_30 (by decide +kernel : kd_ 113 9 = ((30, 18, 0, []), 12))).trans ?_
  rfl
theorem b_W_entry_13 {L : Nat} {f : cg_G} {e : Nat × Nat} {x1 : Int32} {a0 a2 : Nat} {u3 : Value} : cj_res 113 13 [.ref a0, .int x1, .ref a2, u3] [] (cg_M L f e) = some (.inl (some (.int (nI 1))), cg_M L f e) := by
  refine (g_0 (by decide +kernel : kd_ 113 13 = ((0, 1, 0, []), 14))).trans ?_
  exact g_90 (by decide +kernel : kd_ 113 14 = ((90, 0, 0, []), 15))
theorem b_W_entry_16 {L : Nat} {f : cg_G} {e : Nat × Nat} {x1 : Int32} {a0 a2 : Nat} {u3 : Value} : cj_res 113 16 [.ref a0, .int x1, .ref a2, u3] [] (cg_M L f e) = some (.inl (some (.int (nI 2))), cg_M L f e) := by
  refine (g_0 (by decide +kernel : kd_ 113 16 = ((0, 2, 0, []), 17))).trans ?_
  exact g_90 (by decide +kernel : kd_ 113 17 = ((90, 0, 0, []), 18))
theorem b_W_entry_18 {L : Nat} {f : cg_G} {e : Nat × Nat} {x1 : Int32} {a0 a2 : Nat} {u3 : Value} : cj_res 113 18 [.ref a0, .int x1, .ref a2, u3] [] (cg_M L f e) = some (.inl (some (.int (nI 0))), cg_M L f e) := by
  refine (g_0 (by decide +kernel : kd_ 113 18 = ((0, 0, 0, []), 19))).trans ?_
  exact g_90 (by decide +kernel : kd_ 113 19 = ((90, 0, 0, []), 20))
theorem b_W_picture_0 {L : Nat} {f : cg_G} {e : Nat × Nat} {x1 x2 : Int32} {a0 a3 : Nat} {u4 : Value} (h1 : sh_ a0 = 0): cj_res 114 0 [.ref a0, .int x1, .int x2, .ref a3, u4] [] (cg_M L f e) = cj_aft 114 5 8 [.ref a0, .int x1, .int x2, .ref a3, u4] [.int (nI 0), .ref a3] (cj_ev 67 [.ref a0, .int x1, .int x2] (cg_M L f e)) := by
  refine (g_3 (by decide +kernel : kd_ 114 0 = ((3, 3, 0, []), 1)) rfl).trans ?_
  refine (g_0 (by decide +kernel : kd_ 114 1 = ((0, 0, 0, []), 2))).trans ?_
  refine (g_3 (by decide +kernel : kd_ 114 2 = ((3, 0, 0, []), 3)) rfl).trans ?_
  refine (g_2 (by decide +kernel : kd_ 114 3 = ((2, 1, 0, []), 4)) rfl).trans ?_
  refine (g_2 (by decide +kernel : kd_ 114 4 = ((2, 2, 0, []), 5)) rfl).trans ?_
  exact g_80 (by decide +kernel : kd_ 114 5 = ((80, 67, 3, [0]), 8)) rfl h1 rfl rfl rfl
theorem b_W_picture_8 {L : Nat} {f : cg_G} {e : Nat × Nat} {x1 x2 y0 y1 : Int32} {a0 a3 c2 : Nat} {u4 : Value} (h1 : sh_ c2 = 102) (h2 : cg_in y1 (ln_ L c2)): cj_res 114 8 [.ref a0, .int x1, .int x2, .ref a3, u4] [.int y0, .int y1, .ref c2] (cg_M L f e) = cj_res 114 21 [.ref a0, .int x1, .int x2, .ref a3, u4] [] (cg_M L (cg_up f c2 y1.toNatClampNeg y0) e) := by
  refine (g_23 (by decide +kernel : kd_ 114 8 = ((23, 0, 0, []), 9))).trans ?_
  refine (g_59 (by decide +kernel : kd_ 114 9 = ((59, 2, 0, []), 10)) h1 (fun _ => rfl) h2 (sz_102 h1)).trans ?_
  refine (g_30 (by decide +kernel : kd_ 114 10 = ((30, 21, 0, []), 13))).trans ?_
  rfl
theorem b_W_picture_15 {L : Nat} {f : cg_G} {e : Nat × Nat} {x1 x2 : Int32} {a0 a3 : Nat} {u4 : Value} : cj_res 114 15 [.ref a0, .int x1, .int x2, .ref a3, u4] [] (cg_M L f e) = some (.inl (some (.int (nI 1))), cg_M L f e) := by
  refine (g_0 (by decide +kernel : kd_ 114 15 = ((0, 1, 0, []), 16))).trans ?_
  exact g_90 (by decide +kernel : kd_ 114 16 = ((90, 0, 0, []), 17))
theorem b_W_picture_19 {L : Nat} {f : cg_G} {e : Nat × Nat} {x1 x2 : Int32} {a0 a3 : Nat} {u4 : Value} : cj_res 114 19 [.ref a0, .int x1, .int x2, .ref a3, u4] [] (cg_M L f e) = some (.inl (some (.int (nI 2))), cg_M L f e) := by
  refine (g_0 (by decide +kernel : kd_ 114 19 = ((0, 2, 0, []), 20))).trans ?_
  exact g_90 (by decide +kernel : kd_ 114 20 = ((90, 0, 0, []), 21))
theorem b_W_picture_21 {L : Nat} {f : cg_G} {e : Nat × Nat} {x1 x2 : Int32} {a0 a3 : Nat} {u4 : Value} : cj_res 114 21 [.ref a0, .int x1, .int x2, .ref a3, u4] [] (cg_M L f e) = some (.inl (some (.int (nI 0))), cg_M L f e) := by
  refine (g_0 (by decide +kernel : kd_ 114 21 = ((0, 0, 0, []), 22))).trans ?_
  exact g_90 (by decide +kernel : kd_ 114 22 = ((90, 0, 0, []), 23))
theorem b_M_claim_0 {L : Nat} {f : cg_G} {e : Nat × Nat} {x1 x2 x3 : Int32} {a0 : Nat} {u4 : Value} (h1 : sh_ a0 = 7): cj_res 115 0 [.ref a0, .int x1, .int x2, .int x3, u4] [] (cg_M L f e) = cj_aft 115 3 6 [.ref a0, .int x1, .int x2, .int x3, u4] [.ref a0] (cj_ev 90 [.ref a0, .int x1] (cg_M L f e)) := by
  refine (g_3 (by decide +kernel : kd_ 115 0 = ((3, 0, 0, []), 1)) rfl).trans ?_
  refine (g_3 (by decide +kernel : kd_ 115 1 = ((3, 0, 0, []), 2)) rfl).trans ?_
  refine (g_2 (by decide +kernel : kd_ 115 2 = ((2, 1, 0, []), 3)) rfl).trans ?_
  exact g_80 (by decide +kernel : kd_ 115 3 = ((80, 90, 2, [7]), 6)) rfl h1 rfl rfl rfl
theorem b_M_claim_6 {L : Nat} {f : cg_G} {e : Nat × Nat} {x1 x2 x3 y0 : Int32} {a0 c1 : Nat} {u4 : Value} : cj_res 115 6 [.ref a0, .int x1, .int x2, .int x3, u4] [.int y0, .ref c1] (cg_M L f e) = if y0 = 0 then cj_res 115 21 [.ref a0, .int x1, .int x2, .int x3, u4] [.ref c1] (cg_M L f e) else cj_res 115 9 [.ref a0, .int x1, .int x2, .int x3, u4] [.ref c1] (cg_M L f e) := by
  exact g_31 (by decide +kernel : kd_ 115 6 = ((31, 21, 0, []), 9))
theorem b_M_claim_9 {L : Nat} {f : cg_G} {e : Nat × Nat} {x1 x2 x3 : Int32} {a0 c0 : Nat} {u4 : Value} : cj_res 115 9 [.ref a0, .int x1, .int x2, .int x3, u4] [.ref c0] (cg_M L f e) = cj_aft 115 11 14 [.ref a0, .int x1, .int x2, .int x3, u4] [.ref c0] (cj_ev 44 [.int x2, .int (nI 4)] (cg_M L f e)) := by
  refine (g_2 (by decide +kernel : kd_ 115 9 = ((2, 2, 0, []), 10)) rfl).trans ?_
  refine (g_0 (by decide +kernel : kd_ 115 10 = ((0, 4, 0, []), 11))).trans ?_
  exact g_81 (by decide +kernel : kd_ 115 11 = ((81, 44, 2, []), 14)) rfl rfl rfl
theorem b_M_claim_14 {L : Nat} {f : cg_G} {e : Nat × Nat} {x1 x2 x3 y0 : Int32} {a0 c1 : Nat} {u4 : Value} : cj_res 115 14 [.ref a0, .int x1, .int x2, .int x3, u4] [.int y0, .ref c1] (cg_M L f e) = if y0 = 0 then cj_res 115 21 [.ref a0, .int x1, .int x2, .int x3, u4] [.ref c1] (cg_M L f e) else cj_res 115 17 [.ref a0, .int x1, .int x2, .int x3, u4] [.ref c1] (cg_M L f e) := by
  exact g_31 (by decide +kernel : kd_ 115 14 = ((31, 21, 0, []), 17))
theorem b_M_claim_17 {L : Nat} {f : cg_G} {e : Nat × Nat} {x1 x2 x3 : Int32} {a0 c0 : Nat} {u4 : Value} : cj_res 115 17 [.ref a0, .int x1, .int x2, .int x3, u4] [.ref c0] (cg_M L f e) = cj_res 115 22 [.ref a0, .int x1, .int x2, .int x3, u4] [.int (nI 1), .ref c0] (cg_M L f e) := by
  refine (g_0 (by decide +kernel : kd_ 115 17 = ((0, 1, 0, []), 18))).trans ?_
  refine (g_30 (by decide +kernel : kd_ 115 18 = ((30, 22, 0, []), 21))).trans ?_
  rfl
theorem b_M_claim_21 {L : Nat} {f : cg_G} {e : Nat × Nat} {x1 x2 x3 : Int32} {a0 c0 : Nat} {u4 : Value} : cj_res 115 21 [.ref a0, .int x1, .int x2, .int x3, u4] [.ref c0] (cg_M L f e) = cj_res 115 22 [.ref a0, .int x1, .int x2, .int x3, u4] [.int (nI 0), .ref c0] (cg_M L f e) := by
  refine (g_0 (by decide +kernel : kd_ 115 21 = ((0, 0, 0, []), 22))).trans ?_
  rfl
theorem b_M_claim_22 {L : Nat} {f : cg_G} {e : Nat × Nat} {x1 x2 x3 y0 : Int32} {a0 c1 : Nat} {u4 : Value} : cj_res 115 22 [.ref a0, .int x1, .int x2, .int x3, u4] [.int y0, .ref c1] (cg_M L f e) = if x3 < (- nI 1) then cj_res 115 36 [.ref a0, .int x1, .int x2, .int x3, u4] [.int y0, .ref c1] (cg_M L f e) else cj_res 115 27 [.ref a0, .int x1, .int x2, .int x3, u4] [.int y0, .ref c1] (cg_M L f e) := by
  refine (g_2 (by decide +kernel : kd_ 115 22 = ((2, 3, 0, []), 23)) rfl).trans ?_
  refine (g_1 (by decide +kernel : kd_ 115 23 = ((1, 1, 0, []), 24))).trans ?_
  exact g_39 (by decide +kernel : kd_ 115 24 = ((39, 36, 0, []), 27))
theorem b_M_claim_27 {L : Nat} {f : cg_G} {e : Nat × Nat} {x1 x2 x3 y0 : Int32} {a0 c1 : Nat} {u4 : Value} : cj_res 115 27 [.ref a0, .int x1, .int x2, .int x3, u4] [.int y0, .ref c1] (cg_M L f e) = if (nI 1) < x3 then cj_res 115 36 [.ref a0, .int x1, .int x2, .int x3, u4] [.int y0, .ref c1] (cg_M L f e) else cj_res 115 32 [.ref a0, .int x1, .int x2, .int x3, u4] [.int y0, .ref c1] (cg_M L f e) := by
  refine (g_2 (by decide +kernel : kd_ 115 27 = ((2, 3, 0, []), 28)) rfl).trans ?_
  refine (g_0 (by decide +kernel : kd_ 115 28 = ((0, 1, 0, []), 29))).trans ?_
  exact g_41 (by decide +kernel : kd_ 115 29 = ((41, 36, 0, []), 32))
theorem b_M_claim_32 {L : Nat} {f : cg_G} {e : Nat × Nat} {x1 x2 x3 y0 : Int32} {a0 c1 : Nat} {u4 : Value} : cj_res 115 32 [.ref a0, .int x1, .int x2, .int x3, u4] [.int y0, .ref c1] (cg_M L f e) = cj_res 115 37 [.ref a0, .int x1, .int x2, .int x3, u4] [.int (nI 1), .int y0, .ref c1] (cg_M L f e) := by
  refine (g_0 (by decide +kernel : kd_ 115 32 = ((0, 1, 0, []), 33))).trans ?_
  refine (g_30 (by decide +kernel : kd_ 115 33 = ((30, 37, 0, []), 36))).trans ?_
  rfl
theorem b_M_claim_36 {L : Nat} {f : cg_G} {e : Nat × Nat} {x1 x2 x3 y0 : Int32} {a0 c1 : Nat} {u4 : Value} : cj_res 115 36 [.ref a0, .int x1, .int x2, .int x3, u4] [.int y0, .ref c1] (cg_M L f e) = cj_res 115 37 [.ref a0, .int x1, .int x2, .int x3, u4] [.int (nI 0), .int y0, .ref c1] (cg_M L f e) := by
  refine (g_0 (by decide +kernel : kd_ 115 36 = ((0, 0, 0, []), 37))).trans ?_
  rfl
theorem b_M_claim_37 {L : Nat} {f : cg_G} {e : Nat × Nat} {x1 x2 x3 y0 y1 : Int32} {a0 c2 : Nat} {u4 : Value} (h1 : sh_ c2 = 7): cj_res 115 37 [.ref a0, .int x1, .int x2, .int x3, u4] [.int y0, .int y1, .ref c2] (cg_M L f e) = cj_aft 115 37 40 [.ref a0, .int x1, .int x2, .int x3, u4] [] (cj_ev 46 [.ref c2, .int y1, .int y0] (cg_M L f e)) := by
  exact g_80 (by decide +kernel : kd_ 115 37 = ((80, 46, 3, [7]), 40)) rfl h1 rfl rfl rfl
theorem b_M_claim_40 {L : Nat} {f : cg_G} {e : Nat × Nat} {x1 x2 x3 y0 : Int32} {a0 : Nat} {u4 : Value} : cj_res 115 40 [.ref a0, .int x1, .int x2, .int x3, u4] [.int y0] (cg_M L f e) = if y0 = 0 then cj_res 115 43 [.ref a0, .int x1, .int x2, .int x3, u4] [] (cg_M L f e) else cj_res 115 45 [.ref a0, .int x1, .int x2, .int x3, u4] [] (cg_M L f e) := by
  exact g_32 (by decide +kernel : kd_ 115 40 = ((32, 45, 0, []), 43))
theorem b_M_claim_43 {L : Nat} {f : cg_G} {e : Nat × Nat} {x1 x2 x3 : Int32} {a0 : Nat} {u4 : Value} : cj_res 115 43 [.ref a0, .int x1, .int x2, .int x3, u4] [] (cg_M L f e) = some (.inl (some (.int (nI 0))), cg_M L f e) := by
  refine (g_0 (by decide +kernel : kd_ 115 43 = ((0, 0, 0, []), 44))).trans ?_
  exact g_90 (by decide +kernel : kd_ 115 44 = ((90, 0, 0, []), 45))
theorem b_M_claim_45 {L : Nat} {f : cg_G} {e : Nat × Nat} {x1 x2 x3 : Int32} {a0 : Nat} {u4 : Value} (h1 : sh_ a0 = 7) (h2 : cg_in (((nI 4) * x1) + x2) 32): cj_res 115 45 [.ref a0, .int x1, .int x2, .int x3, u4] [] (cg_M L f e) = some (.inl (some (.int (f (a0 + 8) (((nI 4) * x1) + x2).toNatClampNeg))), cg_M L (cg_up f (a0 + 8) (((nI 4) * x1) + x2).toNatClampNeg x3) e) := by
  refine (g_3 (by decide +kernel : kd_ 115 45 = ((3, 0, 0, []), 46)) rfl).trans ?_
  refine (g_50 (v := .ref (a0 + 8)) (by decide +kernel : kd_ 115 46 = ((50, 7, 13, []), 49)) h1 rfl).trans ?_
  refine (g_0 (by decide +kernel : kd_ 115 49 = ((0, 4, 0, []), 50))).trans ?_
  refine (g_2 (by decide +kernel : kd_ 115 50 = ((2, 1, 0, []), 51)) rfl).trans ?_
  refine (g_12 (by decide +kernel : kd_ 115 51 = ((12, 0, 0, []), 52))).trans ?_
  refine (g_2 (by decide +kernel : kd_ 115 52 = ((2, 2, 0, []), 53)) rfl).trans ?_
  refine (g_10 (by decide +kernel : kd_ 115 53 = ((10, 0, 0, []), 54))).trans ?_
  refine (g_54 (v := .int (f (a0 + 8) (((nI 4) * x1) + x2).toNatClampNeg)) (by decide +kernel : kd_ 115 54 = ((54, 0, 0, []), 55)) (sc_7_13 h1) rfl (by rw [sl_7_13 h1]; exact h2) rfl).trans ?_
  refine (g_4 (ls' := [.ref a0, .int x1, .int x2, .int x3, .int (f (a0 + 8) (((nI 4) * x1) + x2).toNatClampNeg)]) (by decide +kernel : kd_ 115 55 = ((4, 4, 0, []), 57)) rfl rfl).trans ?_
  refine (g_3 (by decide +kernel : kd_ 115 57 = ((3, 0, 0, []), 58)) rfl).trans ?_
  refine (g_50 (v := .ref (a0 + 8)) (by decide +kernel : kd_ 115 58 = ((50, 7, 13, []), 61)) h1 rfl).trans ?_
  refine (g_0 (by decide +kernel : kd_ 115 61 = ((0, 4, 0, []), 62))).trans ?_
  refine (g_2 (by decide +kernel : kd_ 115 62 = ((2, 1, 0, []), 63)) rfl).trans ?_
  refine (g_12 (by decide +kernel : kd_ 115 63 = ((12, 0, 0, []), 64))).trans ?_
  refine (g_2 (by decide +kernel : kd_ 115 64 = ((2, 2, 0, []), 65)) rfl).trans ?_
  refine (g_10 (by decide +kernel : kd_ 115 65 = ((10, 0, 0, []), 66))).trans ?_
  refine (g_2 (by decide +kernel : kd_ 115 66 = ((2, 3, 0, []), 67)) rfl).trans ?_
  refine (g_56 (by decide +kernel : kd_ 115 67 = ((56, 0, 0, []), 68)) (sc_7_13 h1) (fun _ => rfl) (by rw [sl_7_13 h1]; exact h2) (by omega)).trans ?_
  refine (g_2 (by decide +kernel : kd_ 115 68 = ((2, 4, 0, []), 70)) rfl).trans ?_
  exact g_90 (by decide +kernel : kd_ 115 70 = ((90, 0, 0, []), 71))
theorem b_M_field_0 {L : Nat} {f : cg_G} {e : Nat × Nat} {x1 x2 : Int32} {a0 : Nat} {u3 u4 u5 : Value} : cj_res 116 0 [.ref a0, .int x1, .int x2, u3, u4, u5] [] (cg_M L f e) = cj_res 116 5 [.ref a0, .int x1, .int x2, .int (nI 1), .int (nI 0), u5] [] (cg_M L f e) := by
  refine (g_0 (by decide +kernel : kd_ 116 0 = ((0, 1, 0, []), 1))).trans ?_
  refine (g_4 (ls' := [.ref a0, .int x1, .int x2, .int (nI 1), u4, u5]) (by decide +kernel : kd_ 116 1 = ((4, 3, 0, []), 2)) rfl rfl).trans ?_
  refine (g_0 (by decide +kernel : kd_ 116 2 = ((0, 0, 0, []), 3))).trans ?_
  refine (g_4 (ls' := [.ref a0, .int x1, .int x2, .int (nI 1), .int (nI 0), u5]) (by decide +kernel : kd_ 116 3 = ((4, 4, 0, []), 5)) rfl rfl).trans ?_
  rfl
theorem b_M_field_5 {L : Nat} {f : cg_G} {e : Nat × Nat} {x1 x2 x3 x4 : Int32} {a0 : Nat} {u5 : Value} (h1 : sh_ a0 = 7): cj_res 116 5 [.ref a0, .int x1, .int x2, .int x3, .int x4, u5] [] (cg_M L f e) = if (f a0 3) ≤ x4 then cj_res 116 55 [.ref a0, .int x1, .int x2, .int x3, .int x4, u5] [] (cg_M L f e) else cj_res 116 14 [.ref a0, .int x1, .int x2, .int x3, .int x4, u5] [] (cg_M L f e) := by
  refine (g_2 (by decide +kernel : kd_ 116 5 = ((2, 4, 0, []), 7)) rfl).trans ?_
  refine (g_3 (by decide +kernel : kd_ 116 7 = ((3, 0, 0, []), 8)) rfl).trans ?_
  refine (g_50 (v := .int (f a0 3)) (by decide +kernel : kd_ 116 8 = ((50, 7, 3, []), 11)) h1 rfl).trans ?_
  exact g_40 (by decide +kernel : kd_ 116 11 = ((40, 55, 0, []), 14))
theorem b_M_field_14 {L : Nat} {f : cg_G} {e : Nat × Nat} {x1 x2 x3 x4 : Int32} {a0 : Nat} {u5 : Value} : cj_res 116 14 [.ref a0, .int x1, .int x2, .int x3, .int x4, u5] [] (cg_M L f e) = if x3 = 0 then cj_res 116 47 [.ref a0, .int x1, .int x2, .int x3, .int x4, u5] [] (cg_M L f e) else cj_res 116 18 [.ref a0, .int x1, .int x2, .int x3, .int x4, u5] [] (cg_M L f e) := by
  refine (g_2 (by decide +kernel : kd_ 116 14 = ((2, 3, 0, []), 15)) rfl).trans ?_
  exact g_31 (by decide +kernel : kd_ 116 15 = ((31, 47, 0, []), 18))
theorem b_M_field_18 {L : Nat} {f : cg_G} {e : Nat × Nat} {x1 x2 x3 x4 : Int32} {a0 : Nat} {u5 : Value} (h1 : sh_ a0 = 7) (h2 : cg_in x4 32): cj_res 116 18 [.ref a0, .int x1, .int x2, .int x3, .int x4, u5] [] (cg_M L f e) = cj_aft 116 25 28 [.ref a0, .int x1, .int x2, .int x3, .int x4, u5] [] (cj_ev 49 [.int (f (a0 + 1) x4.toNatClampNeg)] (cg_M L f e)) := by
  refine (g_3 (by decide +kernel : kd_ 116 18 = ((3, 0, 0, []), 19)) rfl).trans ?_
  refine (g_50 (v := .ref (a0 + 1)) (by decide +kernel : kd_ 116 19 = ((50, 7, 4, []), 22)) h1 rfl).trans ?_
  refine (g_2 (by decide +kernel : kd_ 116 22 = ((2, 4, 0, []), 24)) rfl).trans ?_
  refine (g_54 (v := .int (f (a0 + 1) x4.toNatClampNeg)) (by decide +kernel : kd_ 116 24 = ((54, 0, 0, []), 25)) (sc_7_4 h1) rfl (by rw [sl_7_4 h1]; exact h2) rfl).trans ?_
  exact g_81 (by decide +kernel : kd_ 116 25 = ((81, 49, 1, []), 28)) rfl rfl rfl
theorem b_M_field_28 {L : Nat} {f : cg_G} {e : Nat × Nat} {x1 x2 x3 x4 y0 : Int32} {a0 : Nat} {u5 : Value} : cj_res 116 28 [.ref a0, .int x1, .int x2, .int x3, .int x4, u5] [.int y0] (cg_M L f e) = if y0 = 0 then cj_res 116 31 [.ref a0, .int x1, .int x2, .int x3, .int x4, u5] [] (cg_M L f e) else cj_res 116 43 [.ref a0, .int x1, .int x2, .int x3, .int x4, u5] [] (cg_M L f e) := by
  exact g_32 (by decide +kernel : kd_ 116 28 = ((32, 43, 0, []), 31))
theorem b_M_field_31 {L : Nat} {f : cg_G} {e : Nat × Nat} {x1 x2 x3 x4 : Int32} {a0 : Nat} {u5 : Value} (h1 : sh_ a0 = 7) (h2 : cg_in x4 32): cj_res 116 31 [.ref a0, .int x1, .int x2, .int x3, .int x4, u5] [] (cg_M L f e) = if (f (a0 + 1) x4.toNatClampNeg) = (nI 32) then cj_res 116 43 [.ref a0, .int x1, .int x2, .int x3, .int x4, u5] [] (cg_M L f e) else cj_res 116 47 [.ref a0, .int x1, .int x2, .int x3, .int x4, u5] [] (cg_M L f e) := by
  refine (g_3 (by decide +kernel : kd_ 116 31 = ((3, 0, 0, []), 32)) rfl).trans ?_
  refine (g_50 (v := .ref (a0 + 1)) (by decide +kernel : kd_ 116 32 = ((50, 7, 4, []), 35)) h1 rfl).trans ?_
  refine (g_2 (by decide +kernel : kd_ 116 35 = ((2, 4, 0, []), 37)) rfl).trans ?_
  refine (g_54 (v := .int (f (a0 + 1) x4.toNatClampNeg)) (by decide +kernel : kd_ 116 37 = ((54, 0, 0, []), 38)) (sc_7_4 h1) rfl (by rw [sl_7_4 h1]; exact h2) rfl).trans ?_
  refine (g_0 (by decide +kernel : kd_ 116 38 = ((0, 32, 0, []), 40))).trans ?_
  exact g_38 (by decide +kernel : kd_ 116 40 = ((38, 47, 0, []), 43))
theorem b_M_field_43 {L : Nat} {f : cg_G} {e : Nat × Nat} {x1 x2 x3 x4 : Int32} {a0 : Nat} {u5 : Value} : cj_res 116 43 [.ref a0, .int x1, .int x2, .int x3, .int x4, u5] [] (cg_M L f e) = cj_res 116 48 [.ref a0, .int x1, .int x2, .int x3, .int x4, u5] [.int (nI 1)] (cg_M L f e) := by
  refine (g_0 (by decide +kernel : kd_ 116 43 = ((0, 1, 0, []), 44))).trans ?_
  refine (g_30 (by decide +kernel : kd_ 116 44 = ((30, 48, 0, []), 47))).trans ?_
  rfl
theorem b_M_field_47 {L : Nat} {f : cg_G} {e : Nat × Nat} {x1 x2 x3 x4 : Int32} {a0 : Nat} {u5 : Value} : cj_res 116 47 [.ref a0, .int x1, .int x2, .int x3, .int x4, u5] [] (cg_M L f e) = cj_res 116 48 [.ref a0, .int x1, .int x2, .int x3, .int x4, u5] [.int (nI 0)] (cg_M L f e) := by
  refine (g_0 (by decide +kernel : kd_ 116 47 = ((0, 0, 0, []), 48))).trans ?_
  rfl
theorem b_M_field_48 {L : Nat} {f : cg_G} {e : Nat × Nat} {x1 x2 x3 x4 y0 : Int32} {a0 : Nat} {u5 : Value} : cj_res 116 48 [.ref a0, .int x1, .int x2, .int x3, .int x4, u5] [.int y0] (cg_M L f e) = cj_res 116 5 [.ref a0, .int x1, .int x2, .int y0, .int (x4 + nI 1), u5] [] (cg_M L f e) := by
  refine (g_4 (ls' := [.ref a0, .int x1, .int x2, .int y0, .int x4, u5]) (by decide +kernel : kd_ 116 48 = ((4, 3, 0, []), 49)) rfl rfl).trans ?_
  refine (g_6 (ls' := [.ref a0, .int x1, .int x2, .int y0, .int (x4 + nI 1), u5]) (by decide +kernel : kd_ 116 49 = ((6, 4, 1, []), 52)) rfl rfl).trans ?_
  refine (g_30 (by decide +kernel : kd_ 116 52 = ((30, 5, 0, []), 55))).trans ?_
  rfl
theorem b_M_field_55 {L : Nat} {f : cg_G} {e : Nat × Nat} {x1 x2 x3 x4 : Int32} {a0 : Nat} {u5 : Value} (h1 : sh_ a0 = 7): cj_res 116 55 [.ref a0, .int x1, .int x2, .int x3, .int x4, u5] [] (cg_M L f e) = cj_aft 116 58 61 [.ref a0, .int x1, .int x2, .int x3, .int x4, u5] [.ref a0] (cj_ev 90 [.ref a0, .int x1] (cg_M L f e)) := by
  refine (g_3 (by decide +kernel : kd_ 116 55 = ((3, 0, 0, []), 56)) rfl).trans ?_
  refine (g_3 (by decide +kernel : kd_ 116 56 = ((3, 0, 0, []), 57)) rfl).trans ?_
  refine (g_2 (by decide +kernel : kd_ 116 57 = ((2, 1, 0, []), 58)) rfl).trans ?_
  exact g_80 (by decide +kernel : kd_ 116 58 = ((80, 90, 2, [7]), 61)) rfl h1 rfl rfl rfl
theorem b_M_field_61 {L : Nat} {f : cg_G} {e : Nat × Nat} {x1 x2 x3 x4 y0 : Int32} {a0 c1 : Nat} {u5 : Value} : cj_res 116 61 [.ref a0, .int x1, .int x2, .int x3, .int x4, u5] [.int y0, .ref c1] (cg_M L f e) = if y0 = 0 then cj_res 116 76 [.ref a0, .int x1, .int x2, .int x3, .int x4, u5] [.ref c1] (cg_M L f e) else cj_res 116 64 [.ref a0, .int x1, .int x2, .int x3, .int x4, u5] [.ref c1] (cg_M L f e) := by
  exact g_31 (by decide +kernel : kd_ 116 61 = ((31, 76, 0, []), 64))
theorem b_M_field_64 {L : Nat} {f : cg_G} {e : Nat × Nat} {x1 x2 x3 x4 : Int32} {a0 c0 : Nat} {u5 : Value} : cj_res 116 64 [.ref a0, .int x1, .int x2, .int x3, .int x4, u5] [.ref c0] (cg_M L f e) = cj_aft 116 66 69 [.ref a0, .int x1, .int x2, .int x3, .int x4, u5] [.ref c0] (cj_ev 44 [.int x2, .int (nI 4)] (cg_M L f e)) := by
  refine (g_2 (by decide +kernel : kd_ 116 64 = ((2, 2, 0, []), 65)) rfl).trans ?_
  refine (g_0 (by decide +kernel : kd_ 116 65 = ((0, 4, 0, []), 66))).trans ?_
  exact g_81 (by decide +kernel : kd_ 116 66 = ((81, 44, 2, []), 69)) rfl rfl rfl
theorem b_M_field_69 {L : Nat} {f : cg_G} {e : Nat × Nat} {x1 x2 x3 x4 y0 : Int32} {a0 c1 : Nat} {u5 : Value} : cj_res 116 69 [.ref a0, .int x1, .int x2, .int x3, .int x4, u5] [.int y0, .ref c1] (cg_M L f e) = if y0 = 0 then cj_res 116 76 [.ref a0, .int x1, .int x2, .int x3, .int x4, u5] [.ref c1] (cg_M L f e) else cj_res 116 72 [.ref a0, .int x1, .int x2, .int x3, .int x4, u5] [.ref c1] (cg_M L f e) := by
  exact g_31 (by decide +kernel : kd_ 116 69 = ((31, 76, 0, []), 72))
theorem b_M_field_72 {L : Nat} {f : cg_G} {e : Nat × Nat} {x1 x2 x3 x4 : Int32} {a0 c0 : Nat} {u5 : Value} : cj_res 116 72 [.ref a0, .int x1, .int x2, .int x3, .int x4, u5] [.ref c0] (cg_M L f e) = cj_res 116 77 [.ref a0, .int x1, .int x2, .int x3, .int x4, u5] [.int (nI 1), .ref c0] (cg_M L f e) := by
  refine (g_0 (by decide +kernel : kd_ 116 72 = ((0, 1, 0, []), 73))).trans ?_
  refine (g_30 (by decide +kernel : kd_ 116 73 = ((30, 77, 0, []), 76))).trans ?_
  rfl
theorem b_M_field_76 {L : Nat} {f : cg_G} {e : Nat × Nat} {x1 x2 x3 x4 : Int32} {a0 c0 : Nat} {u5 : Value} : cj_res 116 76 [.ref a0, .int x1, .int x2, .int x3, .int x4, u5] [.ref c0] (cg_M L f e) = cj_res 116 77 [.ref a0, .int x1, .int x2, .int x3, .int x4, u5] [.int (nI 0), .ref c0] (cg_M L f e) := by
  refine (g_0 (by decide +kernel : kd_ 116 76 = ((0, 0, 0, []), 77))).trans ?_
  rfl
theorem b_M_field_77 {L : Nat} {f : cg_G} {e : Nat × Nat} {x1 x2 x3 x4 y0 : Int32} {a0 c1 : Nat} {u5 : Value} (h1 : sh_ c1 = 7): cj_res 116 77 [.ref a0, .int x1, .int x2, .int x3, .int x4, u5] [.int y0, .ref c1] (cg_M L f e) = cj_aft 116 78 81 [.ref a0, .int x1, .int x2, .int x3, .int x4, u5] [] (cj_ev 46 [.ref c1, .int y0, .int x3] (cg_M L f e)) := by
  refine (g_2 (by decide +kernel : kd_ 116 77 = ((2, 3, 0, []), 78)) rfl).trans ?_
  exact g_80 (by decide +kernel : kd_ 116 78 = ((80, 46, 3, [7]), 81)) rfl h1 rfl rfl rfl
theorem b_M_field_81 {L : Nat} {f : cg_G} {e : Nat × Nat} {x1 x2 x3 x4 y0 : Int32} {a0 : Nat} {u5 : Value} : cj_res 116 81 [.ref a0, .int x1, .int x2, .int x3, .int x4, u5] [.int y0] (cg_M L f e) = if y0 = 0 then cj_res 116 84 [.ref a0, .int x1, .int x2, .int x3, .int x4, u5] [] (cg_M L f e) else cj_res 116 86 [.ref a0, .int x1, .int x2, .int x3, .int x4, u5] [] (cg_M L f e) := by
  exact g_32 (by decide +kernel : kd_ 116 81 = ((32, 86, 0, []), 84))
theorem b_M_field_84 {L : Nat} {f : cg_G} {e : Nat × Nat} {x1 x2 x3 x4 : Int32} {a0 : Nat} {u5 : Value} : cj_res 116 84 [.ref a0, .int x1, .int x2, .int x3, .int x4, u5] [] (cg_M L f e) = some (.inl (some (.int (nI 0))), cg_M L f e) := by
  refine (g_0 (by decide +kernel : kd_ 116 84 = ((0, 0, 0, []), 85))).trans ?_
  exact g_90 (by decide +kernel : kd_ 116 85 = ((90, 0, 0, []), 86))
theorem b_M_field_86 {L : Nat} {f : cg_G} {e : Nat × Nat} {x1 x2 x3 x4 : Int32} {a0 : Nat} {u5 : Value} (h1 : sh_ a0 = 7) (h2 : cg_in (((nI 4) * x1) + x2) 32): cj_res 116 86 [.ref a0, .int x1, .int x2, .int x3, .int x4, u5] [] (cg_M L f e) = cj_res 116 107 [.ref a0, .int x1, .int x2, .int x3, .int (((nI 4) * x1) + x2), .int (nI 0)] [] (cg_M L (cg_up f (a0 + 5) (((nI 4) * x1) + x2).toNatClampNeg (f a0 3)) e) := by
  refine (g_0 (by decide +kernel : kd_ 116 86 = ((0, 4, 0, []), 87))).trans ?_
  refine (g_2 (by decide +kernel : kd_ 116 87 = ((2, 1, 0, []), 88)) rfl).trans ?_
  refine (g_12 (by decide +kernel : kd_ 116 88 = ((12, 0, 0, []), 89))).trans ?_
  refine (g_2 (by decide +kernel : kd_ 116 89 = ((2, 2, 0, []), 90)) rfl).trans ?_
  refine (g_10 (by decide +kernel : kd_ 116 90 = ((10, 0, 0, []), 91))).trans ?_
  refine (g_4 (ls' := [.ref a0, .int x1, .int x2, .int x3, .int (((nI 4) * x1) + x2), u5]) (by decide +kernel : kd_ 116 91 = ((4, 4, 0, []), 93)) rfl rfl).trans ?_
  refine (g_3 (by decide +kernel : kd_ 116 93 = ((3, 0, 0, []), 94)) rfl).trans ?_
  refine (g_50 (v := .ref (a0 + 5)) (by decide +kernel : kd_ 116 94 = ((50, 7, 10, []), 97)) h1 rfl).trans ?_
  refine (g_2 (by decide +kernel : kd_ 116 97 = ((2, 4, 0, []), 99)) rfl).trans ?_
  refine (g_3 (by decide +kernel : kd_ 116 99 = ((3, 0, 0, []), 100)) rfl).trans ?_
  refine (g_50 (v := .int (f a0 3)) (by decide +kernel : kd_ 116 100 = ((50, 7, 3, []), 103)) h1 rfl).trans ?_
  refine (g_56 (by decide +kernel : kd_ 116 103 = ((56, 0, 0, []), 104)) (sc_7_10 h1) (fun _ => rfl) (by rw [sl_7_10 h1]; exact h2) (by omega)).trans ?_
  refine (g_0 (by decide +kernel : kd_ 116 104 = ((0, 0, 0, []), 105))).trans ?_
  refine (g_4 (ls' := [.ref a0, .int x1, .int x2, .int x3, .int (((nI 4) * x1) + x2), .int (nI 0)]) (by decide +kernel : kd_ 116 105 = ((4, 5, 0, []), 107)) rfl rfl).trans ?_
  rfl
theorem b_M_field_107 {L : Nat} {f : cg_G} {e : Nat × Nat} {x1 x2 x3 x4 x5 : Int32} {a0 : Nat} (h1 : sh_ a0 = 7): cj_res 116 107 [.ref a0, .int x1, .int x2, .int x3, .int x4, .int x5] [] (cg_M L f e) = if (f a0 3) ≤ x5 then cj_res 116 142 [.ref a0, .int x1, .int x2, .int x3, .int x4, .int x5] [] (cg_M L f e) else cj_res 116 116 [.ref a0, .int x1, .int x2, .int x3, .int x4, .int x5] [] (cg_M L f e) := by
  refine (g_2 (by decide +kernel : kd_ 116 107 = ((2, 5, 0, []), 109)) rfl).trans ?_
  refine (g_3 (by decide +kernel : kd_ 116 109 = ((3, 0, 0, []), 110)) rfl).trans ?_
  refine (g_50 (v := .int (f a0 3)) (by decide +kernel : kd_ 116 110 = ((50, 7, 3, []), 113)) h1 rfl).trans ?_
  exact g_40 (by decide +kernel : kd_ 116 113 = ((40, 142, 0, []), 116))
theorem b_M_field_116 {L : Nat} {f : cg_G} {e : Nat × Nat} {x1 x2 x3 x4 x5 : Int32} {a0 : Nat} (h1 : sh_ a0 = 7) (h2 : cg_in x5 32) (h3 : cg_in (((nI 32) * x4) + x5) 1024): cj_res 116 116 [.ref a0, .int x1, .int x2, .int x3, .int x4, .int x5] [] (cg_M L f e) = cj_res 116 107 [.ref a0, .int x1, .int x2, .int x3, .int x4, .int (x5 + nI 1)] [] (cg_M L (cg_up f (a0 + 6) (((nI 32) * x4) + x5).toNatClampNeg (f (a0 + 1) x5.toNatClampNeg)) e) := by
  refine (g_3 (by decide +kernel : kd_ 116 116 = ((3, 0, 0, []), 117)) rfl).trans ?_
  refine (g_50 (v := .ref (a0 + 6)) (by decide +kernel : kd_ 116 117 = ((50, 7, 11, []), 120)) h1 rfl).trans ?_
  refine (g_0 (by decide +kernel : kd_ 116 120 = ((0, 32, 0, []), 122))).trans ?_
  refine (g_2 (by decide +kernel : kd_ 116 122 = ((2, 4, 0, []), 124)) rfl).trans ?_
  refine (g_12 (by decide +kernel : kd_ 116 124 = ((12, 0, 0, []), 125))).trans ?_
  refine (g_2 (by decide +kernel : kd_ 116 125 = ((2, 5, 0, []), 127)) rfl).trans ?_
  refine (g_10 (by decide +kernel : kd_ 116 127 = ((10, 0, 0, []), 128))).trans ?_
  refine (g_3 (by decide +kernel : kd_ 116 128 = ((3, 0, 0, []), 129)) rfl).trans ?_
  refine (g_50 (v := .ref (a0 + 1)) (by decide +kernel : kd_ 116 129 = ((50, 7, 4, []), 132)) h1 rfl).trans ?_
  refine (g_2 (by decide +kernel : kd_ 116 132 = ((2, 5, 0, []), 134)) rfl).trans ?_
  refine (g_54 (v := .int (f (a0 + 1) x5.toNatClampNeg)) (by decide +kernel : kd_ 116 134 = ((54, 0, 0, []), 135)) (sc_7_4 h1) rfl (by rw [sl_7_4 h1]; exact h2) rfl).trans ?_
  refine (g_56 (by decide +kernel : kd_ 116 135 = ((56, 0, 0, []), 136)) (sc_7_11 h1) (fun _ => rfl) (by rw [sl_7_11 h1]; exact h3) (by omega)).trans ?_
  refine (g_6 (ls' := [.ref a0, .int x1, .int x2, .int x3, .int x4, .int (x5 + nI 1)]) (by decide +kernel : kd_ 116 136 = ((6, 5, 1, []), 139)) rfl rfl).trans ?_
  refine (g_30 (by decide +kernel : kd_ 116 139 = ((30, 107, 0, []), 142))).trans ?_
  rfl
theorem b_M_field_142 {L : Nat} {f : cg_G} {e : Nat × Nat} {x1 x2 x3 x4 x5 : Int32} {a0 : Nat} (h1 : sh_ a0 = 7) (h2 : cg_in x4 32): cj_res 116 142 [.ref a0, .int x1, .int x2, .int x3, .int x4, .int x5] [] (cg_M L f e) = some (.inl (some (.int ((cg_up f a0 3 (nI 0)) (a0 + 5) x4.toNatClampNeg))), cg_M L (cg_up f a0 3 (nI 0)) e) := by
  refine (g_3 (by decide +kernel : kd_ 116 142 = ((3, 0, 0, []), 143)) rfl).trans ?_
  refine (g_0 (by decide +kernel : kd_ 116 143 = ((0, 0, 0, []), 144))).trans ?_
  refine (g_51 (x := nI 0) (v := .int (nI 0)) (by decide +kernel : kd_ 116 144 = ((51, 7, 3, [0]), 147)) h1 rfl rfl rfl (sz_7 h1) rfl).trans ?_
  refine (g_3 (by decide +kernel : kd_ 116 147 = ((3, 0, 0, []), 148)) rfl).trans ?_
  refine (g_50 (v := .ref (a0 + 5)) (by decide +kernel : kd_ 116 148 = ((50, 7, 10, []), 151)) h1 rfl).trans ?_
  refine (g_2 (by decide +kernel : kd_ 116 151 = ((2, 4, 0, []), 153)) rfl).trans ?_
  refine (g_54 (v := .int ((cg_up f a0 3 (nI 0)) (a0 + 5) x4.toNatClampNeg)) (by decide +kernel : kd_ 116 153 = ((54, 0, 0, []), 154)) (sc_7_10 h1) rfl (by rw [sl_7_10 h1]; exact h2) rfl).trans ?_
  exact g_90 (by decide +kernel : kd_ 116 154 = ((90, 0, 0, []), 155))
theorem b_M_index_0 {L : Nat} {f : cg_G} {e : Nat × Nat} {x1 x2 : Int32} {a0 : Nat} {u3 u4 u5 u6 : Value} : cj_res 117 0 [.ref a0, .int x1, .int x2, u3, u4, u5, u6] [] (cg_M L f e) = cj_aft 117 3 6 [.ref a0, .int x1, .int x2, u3, u4, u5, u6] [.ref a0] (cj_ev 44 [.int x1, .int (nI 4)] (cg_M L f e)) := by
  refine (g_3 (by decide +kernel : kd_ 117 0 = ((3, 0, 0, []), 1)) rfl).trans ?_
  refine (g_2 (by decide +kernel : kd_ 117 1 = ((2, 1, 0, []), 2)) rfl).trans ?_
  refine (g_0 (by decide +kernel : kd_ 117 2 = ((0, 4, 0, []), 3))).trans ?_
  exact g_81 (by decide +kernel : kd_ 117 3 = ((81, 44, 2, []), 6)) rfl rfl rfl
theorem b_M_index_6 {L : Nat} {f : cg_G} {e : Nat × Nat} {x1 x2 y0 : Int32} {a0 c1 : Nat} {u3 u4 u5 u6 : Value} : cj_res 117 6 [.ref a0, .int x1, .int x2, u3, u4, u5, u6] [.int y0, .ref c1] (cg_M L f e) = if y0 = 0 then cj_res 117 17 [.ref a0, .int x1, .int x2, u3, u4, u5, u6] [.ref c1] (cg_M L f e) else cj_res 117 9 [.ref a0, .int x1, .int x2, u3, u4, u5, u6] [.ref c1] (cg_M L f e) := by
  exact g_31 (by decide +kernel : kd_ 117 6 = ((31, 17, 0, []), 9))
theorem b_M_index_9 {L : Nat} {f : cg_G} {e : Nat × Nat} {x1 x2 : Int32} {a0 c0 : Nat} {u3 u4 u5 u6 : Value} : cj_res 117 9 [.ref a0, .int x1, .int x2, u3, u4, u5, u6] [.ref c0] (cg_M L f e) = if x2 < 0 then cj_res 117 17 [.ref a0, .int x1, .int x2, u3, u4, u5, u6] [.ref c0] (cg_M L f e) else cj_res 117 13 [.ref a0, .int x1, .int x2, u3, u4, u5, u6] [.ref c0] (cg_M L f e) := by
  refine (g_2 (by decide +kernel : kd_ 117 9 = ((2, 2, 0, []), 10)) rfl).trans ?_
  exact g_33 (by decide +kernel : kd_ 117 10 = ((33, 17, 0, []), 13))
theorem b_M_index_13 {L : Nat} {f : cg_G} {e : Nat × Nat} {x1 x2 : Int32} {a0 c0 : Nat} {u3 u4 u5 u6 : Value} : cj_res 117 13 [.ref a0, .int x1, .int x2, u3, u4, u5, u6] [.ref c0] (cg_M L f e) = cj_res 117 18 [.ref a0, .int x1, .int x2, u3, u4, u5, u6] [.int (nI 1), .ref c0] (cg_M L f e) := by
  refine (g_0 (by decide +kernel : kd_ 117 13 = ((0, 1, 0, []), 14))).trans ?_
  refine (g_30 (by decide +kernel : kd_ 117 14 = ((30, 18, 0, []), 17))).trans ?_
  rfl
theorem b_M_index_17 {L : Nat} {f : cg_G} {e : Nat × Nat} {x1 x2 : Int32} {a0 c0 : Nat} {u3 u4 u5 u6 : Value} : cj_res 117 17 [.ref a0, .int x1, .int x2, u3, u4, u5, u6] [.ref c0] (cg_M L f e) = cj_res 117 18 [.ref a0, .int x1, .int x2, u3, u4, u5, u6] [.int (nI 0), .ref c0] (cg_M L f e) := by
  refine (g_0 (by decide +kernel : kd_ 117 17 = ((0, 0, 0, []), 18))).trans ?_
  rfl
theorem b_M_index_18 {L : Nat} {f : cg_G} {e : Nat × Nat} {x1 x2 y0 : Int32} {a0 c1 : Nat} {u3 u4 u5 u6 : Value} (h1 : sh_ c1 = 7): cj_res 117 18 [.ref a0, .int x1, .int x2, u3, u4, u5, u6] [.int y0, .ref c1] (cg_M L f e) = cj_aft 117 19 22 [.ref a0, .int x1, .int x2, u3, u4, u5, u6] [] (cj_ev 46 [.ref c1, .int y0, .int (nI 1)] (cg_M L f e)) := by
  refine (g_0 (by decide +kernel : kd_ 117 18 = ((0, 1, 0, []), 19))).trans ?_
  exact g_80 (by decide +kernel : kd_ 117 19 = ((80, 46, 3, [7]), 22)) rfl h1 rfl rfl rfl
theorem b_M_index_22 {L : Nat} {f : cg_G} {e : Nat × Nat} {x1 x2 y0 : Int32} {a0 : Nat} {u3 u4 u5 u6 : Value} : cj_res 117 22 [.ref a0, .int x1, .int x2, u3, u4, u5, u6] [.int y0] (cg_M L f e) = if y0 = 0 then cj_res 117 25 [.ref a0, .int x1, .int x2, u3, u4, u5, u6] [] (cg_M L f e) else cj_res 117 27 [.ref a0, .int x1, .int x2, u3, u4, u5, u6] [] (cg_M L f e) := by
  exact g_32 (by decide +kernel : kd_ 117 22 = ((32, 27, 0, []), 25))
theorem b_M_index_25 {L : Nat} {f : cg_G} {e : Nat × Nat} {x1 x2 : Int32} {a0 : Nat} {u3 u4 u5 u6 : Value} : cj_res 117 25 [.ref a0, .int x1, .int x2, u3, u4, u5, u6] [] (cg_M L f e) = some (.inl (some (.int (nI 0))), cg_M L f e) := by
  refine (g_0 (by decide +kernel : kd_ 117 25 = ((0, 0, 0, []), 26))).trans ?_
  exact g_90 (by decide +kernel : kd_ 117 26 = ((90, 0, 0, []), 27))
theorem b_M_index_27 {L : Nat} {f : cg_G} {e : Nat × Nat} {x1 x2 : Int32} {a0 : Nat} {u3 u4 u5 u6 : Value} : cj_res 117 27 [.ref a0, .int x1, .int x2, u3, u4, u5, u6] [] (cg_M L f e) = cj_res 117 32 [.ref a0, .int x1, .int x2, .int (- nI 1), .int (nI 0), u5, u6] [] (cg_M L f e) := by
  refine (g_1 (by decide +kernel : kd_ 117 27 = ((1, 1, 0, []), 28))).trans ?_
  refine (g_4 (ls' := [.ref a0, .int x1, .int x2, .int (- nI 1), u4, u5, u6]) (by decide +kernel : kd_ 117 28 = ((4, 3, 0, []), 29)) rfl rfl).trans ?_
  refine (g_0 (by decide +kernel : kd_ 117 29 = ((0, 0, 0, []), 30))).trans ?_
  refine (g_4 (ls' := [.ref a0, .int x1, .int x2, .int (- nI 1), .int (nI 0), u5, u6]) (by decide +kernel : kd_ 117 30 = ((4, 4, 0, []), 32)) rfl rfl).trans ?_
  rfl
theorem b_M_index_32 {L : Nat} {f : cg_G} {e : Nat × Nat} {x1 x2 x3 x4 : Int32} {a0 : Nat} {u5 u6 : Value} (h1 : sh_ a0 = 7): cj_res 117 32 [.ref a0, .int x1, .int x2, .int x3, .int x4, u5, u6] [] (cg_M L f e) = if (f a0 8) ≤ x4 then cj_res 117 139 [.ref a0, .int x1, .int x2, .int x3, .int x4, u5, u6] [] (cg_M L f e) else cj_res 117 41 [.ref a0, .int x1, .int x2, .int x3, .int x4, u5, u6] [] (cg_M L f e) := by
  refine (g_2 (by decide +kernel : kd_ 117 32 = ((2, 4, 0, []), 34)) rfl).trans ?_
  refine (g_3 (by decide +kernel : kd_ 117 34 = ((3, 0, 0, []), 35)) rfl).trans ?_
  refine (g_50 (v := .int (f a0 8)) (by decide +kernel : kd_ 117 35 = ((50, 7, 8, []), 38)) h1 rfl).trans ?_
  exact g_40 (by decide +kernel : kd_ 117 38 = ((40, 139, 0, []), 41))
theorem b_M_index_41 {L : Nat} {f : cg_G} {e : Nat × Nat} {x1 x2 x3 x4 : Int32} {a0 : Nat} {u5 u6 : Value} : cj_res 117 41 [.ref a0, .int x1, .int x2, .int x3, .int x4, u5, u6] [] (cg_M L f e) = cj_res 117 47 [.ref a0, .int x1, .int x2, .int x3, .int x4, .int (nI 0), .int (nI 0)] [] (cg_M L f e) := by
  refine (g_0 (by decide +kernel : kd_ 117 41 = ((0, 0, 0, []), 42))).trans ?_
  refine (g_4 (ls' := [.ref a0, .int x1, .int x2, .int x3, .int x4, .int (nI 0), u6]) (by decide +kernel : kd_ 117 42 = ((4, 5, 0, []), 44)) rfl rfl).trans ?_
  refine (g_0 (by decide +kernel : kd_ 117 44 = ((0, 0, 0, []), 45))).trans ?_
  refine (g_4 (ls' := [.ref a0, .int x1, .int x2, .int x3, .int x4, .int (nI 0), .int (nI 0)]) (by decide +kernel : kd_ 117 45 = ((4, 6, 0, []), 47)) rfl rfl).trans ?_
  rfl
theorem b_M_index_47 {L : Nat} {f : cg_G} {e : Nat × Nat} {x1 x2 x3 x4 x5 x6 : Int32} {a0 : Nat} (h1 : sh_ a0 = 7): cj_res 117 47 [.ref a0, .int x1, .int x2, .int x3, .int x4, .int x5, .int x6] [] (cg_M L f e) = if (f a0 8) ≤ x6 then cj_res 117 106 [.ref a0, .int x1, .int x2, .int x3, .int x4, .int x5, .int x6] [] (cg_M L f e) else cj_res 117 56 [.ref a0, .int x1, .int x2, .int x3, .int x4, .int x5, .int x6] [] (cg_M L f e) := by
  refine (g_2 (by decide +kernel : kd_ 117 47 = ((2, 6, 0, []), 49)) rfl).trans ?_
  refine (g_3 (by decide +kernel : kd_ 117 49 = ((3, 0, 0, []), 50)) rfl).trans ?_
  refine (g_50 (v := .int (f a0 8)) (by decide +kernel : kd_ 117 50 = ((50, 7, 8, []), 53)) h1 rfl).trans ?_
  exact g_40 (by decide +kernel : kd_ 117 53 = ((40, 106, 0, []), 56))
theorem b_M_index_56 {L : Nat} {f : cg_G} {e : Nat × Nat} {x1 x2 x3 x4 x5 x6 : Int32} {a0 : Nat} : cj_res 117 56 [.ref a0, .int x1, .int x2, .int x3, .int x4, .int x5, .int x6] [] (cg_M L f e) = if x6 = x4 then cj_res 117 96 [.ref a0, .int x1, .int x2, .int x3, .int x4, .int x5, .int x6] [] (cg_M L f e) else cj_res 117 63 [.ref a0, .int x1, .int x2, .int x3, .int x4, .int x5, .int x6] [] (cg_M L f e) := by
  refine (g_2 (by decide +kernel : kd_ 117 56 = ((2, 6, 0, []), 58)) rfl).trans ?_
  refine (g_2 (by decide +kernel : kd_ 117 58 = ((2, 4, 0, []), 60)) rfl).trans ?_
  exact g_37 (by decide +kernel : kd_ 117 60 = ((37, 96, 0, []), 63))
theorem b_M_index_63 {L : Nat} {f : cg_G} {e : Nat × Nat} {x1 x2 x3 x4 x5 x6 : Int32} {a0 : Nat} (h1 : sh_ a0 = 7) (h2 : cg_in (((nI 4) * x6) + x1) 32): cj_res 117 63 [.ref a0, .int x1, .int x2, .int x3, .int x4, .int x5, .int x6] [] (cg_M L f e) = if (f (a0 + 5) (((nI 4) * x6) + x1).toNatClampNeg) ≤ 0 then cj_res 117 96 [.ref a0, .int x1, .int x2, .int x3, .int x4, .int x5, .int x6] [] (cg_M L f e) else cj_res 117 77 [.ref a0, .int x1, .int x2, .int x3, .int x4, .int x5, .int x6] [] (cg_M L f e) := by
  refine (g_3 (by decide +kernel : kd_ 117 63 = ((3, 0, 0, []), 64)) rfl).trans ?_
  refine (g_50 (v := .ref (a0 + 5)) (by decide +kernel : kd_ 117 64 = ((50, 7, 10, []), 67)) h1 rfl).trans ?_
  refine (g_0 (by decide +kernel : kd_ 117 67 = ((0, 4, 0, []), 68))).trans ?_
  refine (g_2 (by decide +kernel : kd_ 117 68 = ((2, 6, 0, []), 70)) rfl).trans ?_
  refine (g_12 (by decide +kernel : kd_ 117 70 = ((12, 0, 0, []), 71))).trans ?_
  refine (g_2 (by decide +kernel : kd_ 117 71 = ((2, 1, 0, []), 72)) rfl).trans ?_
  refine (g_10 (by decide +kernel : kd_ 117 72 = ((10, 0, 0, []), 73))).trans ?_
  refine (g_54 (v := .int (f (a0 + 5) (((nI 4) * x6) + x1).toNatClampNeg)) (by decide +kernel : kd_ 117 73 = ((54, 0, 0, []), 74)) (sc_7_10 h1) rfl (by rw [sl_7_10 h1]; exact h2) rfl).trans ?_
  exact g_36 (by decide +kernel : kd_ 117 74 = ((36, 96, 0, []), 77))
theorem b_M_index_77 {L : Nat} {f : cg_G} {e : Nat × Nat} {x1 x2 x3 x4 x5 x6 : Int32} {a0 : Nat} (h1 : sh_ a0 = 7): cj_res 117 77 [.ref a0, .int x1, .int x2, .int x3, .int x4, .int x5, .int x6] [] (cg_M L f e) = cj_aft 117 83 86 [.ref a0, .int x1, .int x2, .int x3, .int x4, .int x5, .int x6] [] (cj_ev 89 [.ref a0, .int x6, .int x4, .int x1] (cg_M L f e)) := by
  refine (g_3 (by decide +kernel : kd_ 117 77 = ((3, 0, 0, []), 78)) rfl).trans ?_
  refine (g_2 (by decide +kernel : kd_ 117 78 = ((2, 6, 0, []), 80)) rfl).trans ?_
  refine (g_2 (by decide +kernel : kd_ 117 80 = ((2, 4, 0, []), 82)) rfl).trans ?_
  refine (g_2 (by decide +kernel : kd_ 117 82 = ((2, 1, 0, []), 83)) rfl).trans ?_
  exact g_80 (by decide +kernel : kd_ 117 83 = ((80, 89, 4, [7]), 86)) rfl h1 rfl rfl rfl
theorem b_M_index_86 {L : Nat} {f : cg_G} {e : Nat × Nat} {x1 x2 x3 x4 x5 x6 y0 : Int32} {a0 : Nat} : cj_res 117 86 [.ref a0, .int x1, .int x2, .int x3, .int x4, .int x5, .int x6] [.int y0] (cg_M L f e) = if y0 = 0 then cj_res 117 96 [.ref a0, .int x1, .int x2, .int x3, .int x4, .int x5, .int x6] [] (cg_M L f e) else cj_res 117 89 [.ref a0, .int x1, .int x2, .int x3, .int x4, .int x5, .int x6] [] (cg_M L f e) := by
  exact g_31 (by decide +kernel : kd_ 117 86 = ((31, 96, 0, []), 89))
theorem b_M_index_89 {L : Nat} {f : cg_G} {e : Nat × Nat} {x1 x2 x3 x4 x5 x6 : Int32} {a0 : Nat} : cj_res 117 89 [.ref a0, .int x1, .int x2, .int x3, .int x4, .int x5, .int x6] [] (cg_M L f e) = cj_res 117 98 [.ref a0, .int x1, .int x2, .int x3, .int x4, .int x5, .int x6] [.int (x5 + (nI 1))] (cg_M L f e) := by
  refine (g_2 (by decide +kernel : kd_ 117 89 = ((2, 5, 0, []), 91)) rfl).trans ?_
  refine (g_0 (by decide +kernel : kd_ 117 91 = ((0, 1, 0, []), 92))).trans ?_
  refine (g_10 (by decide +kernel : kd_ 117 92 = ((10, 0, 0, []), 93))).trans ?_
  refine (g_30 (by decide +kernel : kd_ 117 93 = ((30, 98, 0, []), 96))).trans ?_
  rfl
theorem b_M_index_96 {L : Nat} {f : cg_G} {e : Nat × Nat} {x1 x2 x3 x4 x5 x6 : Int32} {a0 : Nat} : cj_res 117 96 [.ref a0, .int x1, .int x2, .int x3, .int x4, .int x5, .int x6] [] (cg_M L f e) = cj_res 117 98 [.ref a0, .int x1, .int x2, .int x3, .int x4, .int x5, .int x6] [.int x5] (cg_M L f e) := by
  refine (g_2 (by decide +kernel : kd_ 117 96 = ((2, 5, 0, []), 98)) rfl).trans ?_
  rfl
theorem b_M_index_98 {L : Nat} {f : cg_G} {e : Nat × Nat} {x1 x2 x3 x4 x5 x6 y0 : Int32} {a0 : Nat} : cj_res 117 98 [.ref a0, .int x1, .int x2, .int x3, .int x4, .int x5, .int x6] [.int y0] (cg_M L f e) = cj_res 117 47 [.ref a0, .int x1, .int x2, .int x3, .int x4, .int y0, .int (x6 + nI 1)] [] (cg_M L f e) := by
  refine (g_4 (ls' := [.ref a0, .int x1, .int x2, .int x3, .int x4, .int y0, .int x6]) (by decide +kernel : kd_ 117 98 = ((4, 5, 0, []), 100)) rfl rfl).trans ?_
  refine (g_6 (ls' := [.ref a0, .int x1, .int x2, .int x3, .int x4, .int y0, .int (x6 + nI 1)]) (by decide +kernel : kd_ 117 100 = ((6, 6, 1, []), 103)) rfl rfl).trans ?_
  refine (g_30 (by decide +kernel : kd_ 117 103 = ((30, 47, 0, []), 106))).trans ?_
  rfl
theorem b_M_index_106 {L : Nat} {f : cg_G} {e : Nat × Nat} {x1 x2 x3 x4 x5 x6 : Int32} {a0 : Nat} (h1 : sh_ a0 = 7) (h2 : cg_in (((nI 4) * x4) + x1) 32): cj_res 117 106 [.ref a0, .int x1, .int x2, .int x3, .int x4, .int x5, .int x6] [] (cg_M L f e) = if (f (a0 + 5) (((nI 4) * x4) + x1).toNatClampNeg) ≤ 0 then cj_res 117 131 [.ref a0, .int x1, .int x2, .int x3, .int x4, .int x5, .int x6] [] (cg_M L f e) else cj_res 117 120 [.ref a0, .int x1, .int x2, .int x3, .int x4, .int x5, .int x6] [] (cg_M L f e) := by
  refine (g_3 (by decide +kernel : kd_ 117 106 = ((3, 0, 0, []), 107)) rfl).trans ?_
  refine (g_50 (v := .ref (a0 + 5)) (by decide +kernel : kd_ 117 107 = ((50, 7, 10, []), 110)) h1 rfl).trans ?_
  refine (g_0 (by decide +kernel : kd_ 117 110 = ((0, 4, 0, []), 111))).trans ?_
  refine (g_2 (by decide +kernel : kd_ 117 111 = ((2, 4, 0, []), 113)) rfl).trans ?_
  refine (g_12 (by decide +kernel : kd_ 117 113 = ((12, 0, 0, []), 114))).trans ?_
  refine (g_2 (by decide +kernel : kd_ 117 114 = ((2, 1, 0, []), 115)) rfl).trans ?_
  refine (g_10 (by decide +kernel : kd_ 117 115 = ((10, 0, 0, []), 116))).trans ?_
  refine (g_54 (v := .int (f (a0 + 5) (((nI 4) * x4) + x1).toNatClampNeg)) (by decide +kernel : kd_ 117 116 = ((54, 0, 0, []), 117)) (sc_7_10 h1) rfl (by rw [sl_7_10 h1]; exact h2) rfl).trans ?_
  exact g_36 (by decide +kernel : kd_ 117 117 = ((36, 131, 0, []), 120))
theorem b_M_index_120 {L : Nat} {f : cg_G} {e : Nat × Nat} {x1 x2 x3 x4 x5 x6 : Int32} {a0 : Nat} : cj_res 117 120 [.ref a0, .int x1, .int x2, .int x3, .int x4, .int x5, .int x6] [] (cg_M L f e) = if x5 = x2 then cj_res 117 126 [.ref a0, .int x1, .int x2, .int x3, .int x4, .int x5, .int x6] [] (cg_M L f e) else cj_res 117 131 [.ref a0, .int x1, .int x2, .int x3, .int x4, .int x5, .int x6] [] (cg_M L f e) := by
  refine (g_2 (by decide +kernel : kd_ 117 120 = ((2, 5, 0, []), 122)) rfl).trans ?_
  refine (g_2 (by decide +kernel : kd_ 117 122 = ((2, 2, 0, []), 123)) rfl).trans ?_
  exact g_38 (by decide +kernel : kd_ 117 123 = ((38, 131, 0, []), 126))
theorem b_M_index_126 {L : Nat} {f : cg_G} {e : Nat × Nat} {x1 x2 x3 x4 x5 x6 : Int32} {a0 : Nat} : cj_res 117 126 [.ref a0, .int x1, .int x2, .int x3, .int x4, .int x5, .int x6] [] (cg_M L f e) = cj_res 117 132 [.ref a0, .int x1, .int x2, .int x3, .int x4, .int x5, .int x6] [.int x4] (cg_M L f e) := by
  refine (g_2 (by decide +kernel : kd_ 117 126 = ((2, 4, 0, []), 128)) rfl).trans ?_
  refine (g_30 (by decide +kernel : kd_ 117 128 = ((30, 132, 0, []), 131))).trans ?_
  rfl
theorem b_M_index_131 {L : Nat} {f : cg_G} {e : Nat × Nat} {x1 x2 x3 x4 x5 x6 : Int32} {a0 : Nat} : cj_res 117 131 [.ref a0, .int x1, .int x2, .int x3, .int x4, .int x5, .int x6] [] (cg_M L f e) = cj_res 117 132 [.ref a0, .int x1, .int x2, .int x3, .int x4, .int x5, .int x6] [.int x3] (cg_M L f e) := by
  refine (g_2 (by decide +kernel : kd_ 117 131 = ((2, 3, 0, []), 132)) rfl).trans ?_
  rfl
theorem b_M_index_132 {L : Nat} {f : cg_G} {e : Nat × Nat} {x1 x2 x3 x4 x5 x6 y0 : Int32} {a0 : Nat} : cj_res 117 132 [.ref a0, .int x1, .int x2, .int x3, .int x4, .int x5, .int x6] [.int y0] (cg_M L f e) = cj_res 117 32 [.ref a0, .int x1, .int x2, .int y0, .int (x4 + nI 1), .int x5, .int x6] [] (cg_M L f e) := by
  refine (g_4 (ls' := [.ref a0, .int x1, .int x2, .int y0, .int x4, .int x5, .int x6]) (by decide +kernel : kd_ 117 132 = ((4, 3, 0, []), 133)) rfl rfl).trans ?_
  refine (g_6 (ls' := [.ref a0, .int x1, .int x2, .int y0, .int (x4 + nI 1), .int x5, .int x6]) (by decide +kernel : kd_ 117 133 = ((6, 4, 1, []), 136)) rfl rfl).trans ?_
  refine (g_30 (by decide +kernel : kd_ 117 136 = ((30, 32, 0, []), 139))).trans ?_
  rfl
theorem b_M_index_139 {L : Nat} {f : cg_G} {e : Nat × Nat} {x1 x2 x3 x4 : Int32} {a0 : Nat} {u5 u6 : Value} : cj_res 117 139 [.ref a0, .int x1, .int x2, .int x3, .int x4, u5, u6] [] (cg_M L f e) = some (.inl (some (.int x3)), cg_M L f e) := by
  refine (g_2 (by decide +kernel : kd_ 117 139 = ((2, 3, 0, []), 140)) rfl).trans ?_
  exact g_90 (by decide +kernel : kd_ 117 140 = ((90, 0, 0, []), 141))
theorem b_M_page_0 {L : Nat} {f : cg_G} {e : Nat × Nat} {x1 : Int32} {a0 : Nat} (h1 : sh_ a0 = 7): cj_res 118 0 [.ref a0, .int x1] [] (cg_M L f e) = cj_aft 118 3 6 [.ref a0, .int x1] [.ref a0] (cj_ev 99 [.ref a0, .int x1] (cg_M L f e)) := by
  refine (g_3 (by decide +kernel : kd_ 118 0 = ((3, 0, 0, []), 1)) rfl).trans ?_
  refine (g_3 (by decide +kernel : kd_ 118 1 = ((3, 0, 0, []), 2)) rfl).trans ?_
  refine (g_2 (by decide +kernel : kd_ 118 2 = ((2, 1, 0, []), 3)) rfl).trans ?_
  exact g_80 (by decide +kernel : kd_ 118 3 = ((80, 99, 2, [7]), 6)) rfl h1 rfl rfl rfl
theorem b_M_page_6 {L : Nat} {f : cg_G} {e : Nat × Nat} {x1 y0 : Int32} {a0 c1 : Nat} (h1 : sh_ a0 = 7): cj_res 118 6 [.ref a0, .int x1] [.int y0, .ref c1] (cg_M L f e) = if (f a0 23) = (- nI 1) then cj_res 118 18 [.ref a0, .int x1] [.int y0, .ref c1] (cg_M L f e) else cj_res 118 14 [.ref a0, .int x1] [.int y0, .ref c1] (cg_M L f e) := by
  refine (g_3 (by decide +kernel : kd_ 118 6 = ((3, 0, 0, []), 7)) rfl).trans ?_
  refine (g_50 (v := .int (f a0 23)) (by decide +kernel : kd_ 118 7 = ((50, 7, 23, []), 10)) h1 rfl).trans ?_
  refine (g_1 (by decide +kernel : kd_ 118 10 = ((1, 1, 0, []), 11))).trans ?_
  exact g_37 (by decide +kernel : kd_ 118 11 = ((37, 18, 0, []), 14))
theorem b_M_page_14 {L : Nat} {f : cg_G} {e : Nat × Nat} {x1 y0 : Int32} {a0 c1 : Nat} : cj_res 118 14 [.ref a0, .int x1] [.int y0, .ref c1] (cg_M L f e) = cj_res 118 19 [.ref a0, .int x1] [.int (nI 1), .int y0, .ref c1] (cg_M L f e) := by
  refine (g_0 (by decide +kernel : kd_ 118 14 = ((0, 1, 0, []), 15))).trans ?_
  refine (g_30 (by decide +kernel : kd_ 118 15 = ((30, 19, 0, []), 18))).trans ?_
  rfl
theorem b_M_page_18 {L : Nat} {f : cg_G} {e : Nat × Nat} {x1 y0 : Int32} {a0 c1 : Nat} : cj_res 118 18 [.ref a0, .int x1] [.int y0, .ref c1] (cg_M L f e) = cj_res 118 19 [.ref a0, .int x1] [.int (nI 0), .int y0, .ref c1] (cg_M L f e) := by
  refine (g_0 (by decide +kernel : kd_ 118 18 = ((0, 0, 0, []), 19))).trans ?_
  rfl
theorem b_M_page_19 {L : Nat} {f : cg_G} {e : Nat × Nat} {x1 y0 y1 : Int32} {a0 c2 : Nat} (h1 : sh_ c2 = 7): cj_res 118 19 [.ref a0, .int x1] [.int y0, .int y1, .ref c2] (cg_M L f e) = cj_aft 118 19 22 [.ref a0, .int x1] [] (cj_ev 46 [.ref c2, .int y1, .int y0] (cg_M L f e)) := by
  exact g_80 (by decide +kernel : kd_ 118 19 = ((80, 46, 3, [7]), 22)) rfl h1 rfl rfl rfl
theorem b_M_page_22 {L : Nat} {f : cg_G} {e : Nat × Nat} {x1 y0 : Int32} {a0 : Nat} : cj_res 118 22 [.ref a0, .int x1] [.int y0] (cg_M L f e) = if y0 = 0 then cj_res 118 42 [.ref a0, .int x1] [] (cg_M L f e) else cj_res 118 25 [.ref a0, .int x1] [] (cg_M L f e) := by
  exact g_31 (by decide +kernel : kd_ 118 22 = ((31, 42, 0, []), 25))
theorem b_M_page_25 {L : Nat} {f : cg_G} {e : Nat × Nat} {x1 : Int32} {a0 : Nat} (h1 : sh_ a0 = 7) (h2 : cg_in (((nI 8) * (f a0 23)) + x1) 16): cj_res 118 25 [.ref a0, .int x1] [] (cg_M L f e) = cj_res 118 43 [.ref a0, .int x1] [.int (f (a0 + 17) (((nI 8) * (f a0 23)) + x1).toNatClampNeg)] (cg_M L f e) := by
  refine (g_3 (by decide +kernel : kd_ 118 25 = ((3, 0, 0, []), 26)) rfl).trans ?_
  refine (g_50 (v := .ref (a0 + 17)) (by decide +kernel : kd_ 118 26 = ((50, 7, 26, []), 29)) h1 rfl).trans ?_
  refine (g_0 (by decide +kernel : kd_ 118 29 = ((0, 8, 0, []), 31))).trans ?_
  refine (g_3 (by decide +kernel : kd_ 118 31 = ((3, 0, 0, []), 32)) rfl).trans ?_
  refine (g_50 (v := .int (f a0 23)) (by decide +kernel : kd_ 118 32 = ((50, 7, 23, []), 35)) h1 rfl).trans ?_
  refine (g_12 (by decide +kernel : kd_ 118 35 = ((12, 0, 0, []), 36))).trans ?_
  refine (g_2 (by decide +kernel : kd_ 118 36 = ((2, 1, 0, []), 37)) rfl).trans ?_
  refine (g_10 (by decide +kernel : kd_ 118 37 = ((10, 0, 0, []), 38))).trans ?_
  refine (g_54 (v := .int (f (a0 + 17) (((nI 8) * (f a0 23)) + x1).toNatClampNeg)) (by decide +kernel : kd_ 118 38 = ((54, 0, 0, []), 39)) (sc_7_26 h1) rfl (by rw [sl_7_26 h1]; exact h2) rfl).trans ?_
  refine (g_30 (by decide +kernel : kd_ 118 39 = ((30, 43, 0, []), 42))).trans ?_
  rfl
theorem b_M_page_42 {L : Nat} {f : cg_G} {e : Nat × Nat} {x1 : Int32} {a0 : Nat} : cj_res 118 42 [.ref a0, .int x1] [] (cg_M L f e) = cj_res 118 43 [.ref a0, .int x1] [.int (nI 0)] (cg_M L f e) := by
  refine (g_0 (by decide +kernel : kd_ 118 42 = ((0, 0, 0, []), 43))).trans ?_
  rfl
theorem b_M_page_43 {L : Nat} {f : cg_G} {e : Nat × Nat} {x1 y0 : Int32} {a0 : Nat} : cj_res 118 43 [.ref a0, .int x1] [.int y0] (cg_M L f e) = some (.inl (some (.int y0)), cg_M L f e) := by
  exact g_90 (by decide +kernel : kd_ 118 43 = ((90, 0, 0, []), 44))
theorem b_M_picture_0 {L : Nat} {f : cg_G} {e : Nat × Nat} {x1 x2 : Int32} {a0 : Nat} {u3 : Value} (h1 : sh_ a0 = 7): cj_res 119 0 [.ref a0, .int x1, .int x2, u3] [] (cg_M L f e) = cj_aft 119 3 6 [.ref a0, .int x1, .int x2, u3] [.ref a0] (cj_ev 90 [.ref a0, .int x1] (cg_M L f e)) := by
  refine (g_3 (by decide +kernel : kd_ 119 0 = ((3, 0, 0, []), 1)) rfl).trans ?_
  refine (g_3 (by decide +kernel : kd_ 119 1 = ((3, 0, 0, []), 2)) rfl).trans ?_
  refine (g_2 (by decide +kernel : kd_ 119 2 = ((2, 1, 0, []), 3)) rfl).trans ?_
  exact g_80 (by decide +kernel : kd_ 119 3 = ((80, 90, 2, [7]), 6)) rfl h1 rfl rfl rfl
theorem b_M_picture_6 {L : Nat} {f : cg_G} {e : Nat × Nat} {x1 x2 y0 : Int32} {a0 c1 : Nat} {u3 : Value} : cj_res 119 6 [.ref a0, .int x1, .int x2, u3] [.int y0, .ref c1] (cg_M L f e) = if x2 < 0 then cj_res 119 20 [.ref a0, .int x1, .int x2, u3] [.int y0, .ref c1] (cg_M L f e) else cj_res 119 10 [.ref a0, .int x1, .int x2, u3] [.int y0, .ref c1] (cg_M L f e) := by
  refine (g_2 (by decide +kernel : kd_ 119 6 = ((2, 2, 0, []), 7)) rfl).trans ?_
  exact g_33 (by decide +kernel : kd_ 119 7 = ((33, 20, 0, []), 10))
theorem b_M_picture_10 {L : Nat} {f : cg_G} {e : Nat × Nat} {x1 x2 y0 : Int32} {a0 c1 : Nat} {u3 : Value} : cj_res 119 10 [.ref a0, .int x1, .int x2, u3] [.int y0, .ref c1] (cg_M L f e) = if (nI 30) < x2 then cj_res 119 20 [.ref a0, .int x1, .int x2, u3] [.int y0, .ref c1] (cg_M L f e) else cj_res 119 16 [.ref a0, .int x1, .int x2, u3] [.int y0, .ref c1] (cg_M L f e) := by
  refine (g_2 (by decide +kernel : kd_ 119 10 = ((2, 2, 0, []), 11)) rfl).trans ?_
  refine (g_0 (by decide +kernel : kd_ 119 11 = ((0, 30, 0, []), 13))).trans ?_
  exact g_41 (by decide +kernel : kd_ 119 13 = ((41, 20, 0, []), 16))
theorem b_M_picture_16 {L : Nat} {f : cg_G} {e : Nat × Nat} {x1 x2 y0 : Int32} {a0 c1 : Nat} {u3 : Value} : cj_res 119 16 [.ref a0, .int x1, .int x2, u3] [.int y0, .ref c1] (cg_M L f e) = cj_res 119 21 [.ref a0, .int x1, .int x2, u3] [.int (nI 1), .int y0, .ref c1] (cg_M L f e) := by
  refine (g_0 (by decide +kernel : kd_ 119 16 = ((0, 1, 0, []), 17))).trans ?_
  refine (g_30 (by decide +kernel : kd_ 119 17 = ((30, 21, 0, []), 20))).trans ?_
  rfl
theorem b_M_picture_20 {L : Nat} {f : cg_G} {e : Nat × Nat} {x1 x2 y0 : Int32} {a0 c1 : Nat} {u3 : Value} : cj_res 119 20 [.ref a0, .int x1, .int x2, u3] [.int y0, .ref c1] (cg_M L f e) = cj_res 119 21 [.ref a0, .int x1, .int x2, u3] [.int (nI 0), .int y0, .ref c1] (cg_M L f e) := by
  refine (g_0 (by decide +kernel : kd_ 119 20 = ((0, 0, 0, []), 21))).trans ?_
  rfl
theorem b_M_picture_21 {L : Nat} {f : cg_G} {e : Nat × Nat} {x1 x2 y0 y1 : Int32} {a0 c2 : Nat} {u3 : Value} (h1 : sh_ c2 = 7): cj_res 119 21 [.ref a0, .int x1, .int x2, u3] [.int y0, .int y1, .ref c2] (cg_M L f e) = cj_aft 119 21 24 [.ref a0, .int x1, .int x2, u3] [] (cj_ev 46 [.ref c2, .int y1, .int y0] (cg_M L f e)) := by
  exact g_80 (by decide +kernel : kd_ 119 21 = ((80, 46, 3, [7]), 24)) rfl h1 rfl rfl rfl
theorem b_M_picture_24 {L : Nat} {f : cg_G} {e : Nat × Nat} {x1 x2 y0 : Int32} {a0 : Nat} {u3 : Value} : cj_res 119 24 [.ref a0, .int x1, .int x2, u3] [.int y0] (cg_M L f e) = if y0 = 0 then cj_res 119 27 [.ref a0, .int x1, .int x2, u3] [] (cg_M L f e) else cj_res 119 29 [.ref a0, .int x1, .int x2, u3] [] (cg_M L f e) := by
  exact g_32 (by decide +kernel : kd_ 119 24 = ((32, 29, 0, []), 27))
theorem b_M_picture_27 {L : Nat} {f : cg_G} {e : Nat × Nat} {x1 x2 : Int32} {a0 : Nat} {u3 : Value} : cj_res 119 27 [.ref a0, .int x1, .int x2, u3] [] (cg_M L f e) = some (.inl (some (.int (nI 0))), cg_M L f e) := by
  refine (g_0 (by decide +kernel : kd_ 119 27 = ((0, 0, 0, []), 28))).trans ?_
  exact g_90 (by decide +kernel : kd_ 119 28 = ((90, 0, 0, []), 29))
theorem b_M_picture_29 {L : Nat} {f : cg_G} {e : Nat × Nat} {x1 x2 : Int32} {a0 : Nat} {u3 : Value} (h1 : sh_ a0 = 7) (h2 : cg_in x1 8): cj_res 119 29 [.ref a0, .int x1, .int x2, u3] [] (cg_M L f e) = some (.inl (some (.int (f (a0 + 7) x1.toNatClampNeg))), cg_M L (cg_up f (a0 + 7) x1.toNatClampNeg x2) e) := by
  refine (g_3 (by decide +kernel : kd_ 119 29 = ((3, 0, 0, []), 30)) rfl).trans ?_
  refine (g_50 (v := .ref (a0 + 7)) (by decide +kernel : kd_ 119 30 = ((50, 7, 12, []), 33)) h1 rfl).trans ?_
  refine (g_2 (by decide +kernel : kd_ 119 33 = ((2, 1, 0, []), 34)) rfl).trans ?_
  refine (g_54 (v := .int (f (a0 + 7) x1.toNatClampNeg)) (by decide +kernel : kd_ 119 34 = ((54, 0, 0, []), 35)) (sc_7_12 h1) rfl (by rw [sl_7_12 h1]; exact h2) rfl).trans ?_
  refine (g_4 (ls' := [.ref a0, .int x1, .int x2, .int (f (a0 + 7) x1.toNatClampNeg)]) (by decide +kernel : kd_ 119 35 = ((4, 3, 0, []), 36)) rfl rfl).trans ?_
  refine (g_3 (by decide +kernel : kd_ 119 36 = ((3, 0, 0, []), 37)) rfl).trans ?_
  refine (g_50 (v := .ref (a0 + 7)) (by decide +kernel : kd_ 119 37 = ((50, 7, 12, []), 40)) h1 rfl).trans ?_
  refine (g_2 (by decide +kernel : kd_ 119 40 = ((2, 1, 0, []), 41)) rfl).trans ?_
  refine (g_2 (by decide +kernel : kd_ 119 41 = ((2, 2, 0, []), 42)) rfl).trans ?_
  refine (g_56 (by decide +kernel : kd_ 119 42 = ((56, 0, 0, []), 43)) (sc_7_12 h1) (fun _ => rfl) (by rw [sl_7_12 h1]; exact h2) (by omega)).trans ?_
  refine (g_2 (by decide +kernel : kd_ 119 43 = ((2, 3, 0, []), 44)) rfl).trans ?_
  exact g_90 (by decide +kernel : kd_ 119 44 = ((90, 0, 0, []), 45))
theorem b_M_printAll_0 {L : Nat} {f : cg_G} {e : Nat × Nat} {x1 : Int32} {a0 : Nat} {u2 u3 u4 u5 : Value} (h1 : sh_ a0 = 7) (h2 : cg_in x1 8): cj_res 120 0 [.ref a0, .int x1, u2, u3, u4, u5] [] (cg_M L f e) = cj_res 120 14 [.ref a0, .int x1, .int (f (a0 + 4) x1.toNatClampNeg), .int (nI 0), u4, u5] [] (cg_M L (cg_up f a0 16 (nI 0)) e) := by
  refine (g_3 (by decide +kernel : kd_ 120 0 = ((3, 0, 0, []), 1)) rfl).trans ?_
  refine (g_50 (v := .ref (a0 + 4)) (by decide +kernel : kd_ 120 1 = ((50, 7, 9, []), 4)) h1 rfl).trans ?_
  refine (g_2 (by decide +kernel : kd_ 120 4 = ((2, 1, 0, []), 5)) rfl).trans ?_
  refine (g_54 (v := .int (f (a0 + 4) x1.toNatClampNeg)) (by decide +kernel : kd_ 120 5 = ((54, 0, 0, []), 6)) (sc_7_9 h1) rfl (by rw [sl_7_9 h1]; exact h2) rfl).trans ?_
  refine (g_4 (ls' := [.ref a0, .int x1, .int (f (a0 + 4) x1.toNatClampNeg), u3, u4, u5]) (by decide +kernel : kd_ 120 6 = ((4, 2, 0, []), 7)) rfl rfl).trans ?_
  refine (g_3 (by decide +kernel : kd_ 120 7 = ((3, 0, 0, []), 8)) rfl).trans ?_
  refine (g_0 (by decide +kernel : kd_ 120 8 = ((0, 0, 0, []), 9))).trans ?_
  refine (g_51 (x := nI 0) (v := .int (nI 0)) (by decide +kernel : kd_ 120 9 = ((51, 7, 16, [0]), 12)) h1 rfl rfl rfl (sz_7 h1) rfl).trans ?_
  refine (g_0 (by decide +kernel : kd_ 120 12 = ((0, 0, 0, []), 13))).trans ?_
  refine (g_4 (ls' := [.ref a0, .int x1, .int (f (a0 + 4) x1.toNatClampNeg), .int (nI 0), u4, u5]) (by decide +kernel : kd_ 120 13 = ((4, 3, 0, []), 14)) rfl rfl).trans ?_
  rfl
theorem b_M_printAll_14 {L : Nat} {f : cg_G} {e : Nat × Nat} {x1 x2 x3 : Int32} {a0 : Nat} {u4 u5 : Value} (h1 : sh_ a0 = 7) (h2 : cg_in x2 6): cj_res 120 14 [.ref a0, .int x1, .int x2, .int x3, u4, u5] [] (cg_M L f e) = if (f (a0 + 2) x2.toNatClampNeg) ≤ x3 then cj_res 120 177 [.ref a0, .int x1, .int x2, .int x3, u4, u5] [] (cg_M L f e) else cj_res 120 24 [.ref a0, .int x1, .int x2, .int x3, u4, u5] [] (cg_M L f e) := by
  refine (g_2 (by decide +kernel : kd_ 120 14 = ((2, 3, 0, []), 15)) rfl).trans ?_
  refine (g_3 (by decide +kernel : kd_ 120 15 = ((3, 0, 0, []), 16)) rfl).trans ?_
  refine (g_50 (v := .ref (a0 + 2)) (by decide +kernel : kd_ 120 16 = ((50, 7, 6, []), 19)) h1 rfl).trans ?_
  refine (g_2 (by decide +kernel : kd_ 120 19 = ((2, 2, 0, []), 20)) rfl).trans ?_
  refine (g_54 (v := .int (f (a0 + 2) x2.toNatClampNeg)) (by decide +kernel : kd_ 120 20 = ((54, 0, 0, []), 21)) (sc_7_6 h1) rfl (by rw [sl_7_6 h1]; exact h2) rfl).trans ?_
  exact g_40 (by decide +kernel : kd_ 120 21 = ((40, 177, 0, []), 24))
theorem b_M_printAll_24 {L : Nat} {f : cg_G} {e : Nat × Nat} {x1 x2 x3 : Int32} {a0 : Nat} {u4 u5 : Value} (h1 : sh_ a0 = 7) (h2 : cg_in (((nI 32) * x2) + x3) 192) (h3 : cg_in x2 6): cj_res 120 24 [.ref a0, .int x1, .int x2, .int x3, u4, u5] [] (cg_M L f e) = if (f (a0 + 2) x2.toNatClampNeg) ≤ (x3 + (nI 1)) then cj_res 120 68 [.ref a0, .int x1, .int x2, .int x3, .int (f (a0 + 3) (((nI 32) * x2) + x3).toNatClampNeg), u5] [] (cg_M L f e) else cj_res 120 49 [.ref a0, .int x1, .int x2, .int x3, .int (f (a0 + 3) (((nI 32) * x2) + x3).toNatClampNeg), u5] [] (cg_M L f e) := by
  refine (g_3 (by decide +kernel : kd_ 120 24 = ((3, 0, 0, []), 25)) rfl).trans ?_
  refine (g_50 (v := .ref (a0 + 3)) (by decide +kernel : kd_ 120 25 = ((50, 7, 7, []), 28)) h1 rfl).trans ?_
  refine (g_0 (by decide +kernel : kd_ 120 28 = ((0, 32, 0, []), 30))).trans ?_
  refine (g_2 (by decide +kernel : kd_ 120 30 = ((2, 2, 0, []), 31)) rfl).trans ?_
  refine (g_12 (by decide +kernel : kd_ 120 31 = ((12, 0, 0, []), 32))).trans ?_
  refine (g_2 (by decide +kernel : kd_ 120 32 = ((2, 3, 0, []), 33)) rfl).trans ?_
  refine (g_10 (by decide +kernel : kd_ 120 33 = ((10, 0, 0, []), 34))).trans ?_
  refine (g_54 (v := .int (f (a0 + 3) (((nI 32) * x2) + x3).toNatClampNeg)) (by decide +kernel : kd_ 120 34 = ((54, 0, 0, []), 35)) (sc_7_7 h1) rfl (by rw [sl_7_7 h1]; exact h2) rfl).trans ?_
  refine (g_4 (ls' := [.ref a0, .int x1, .int x2, .int x3, .int (f (a0 + 3) (((nI 32) * x2) + x3).toNatClampNeg), u5]) (by decide +kernel : kd_ 120 35 = ((4, 4, 0, []), 37)) rfl rfl).trans ?_
  refine (g_2 (by decide +kernel : kd_ 120 37 = ((2, 3, 0, []), 38)) rfl).trans ?_
  refine (g_0 (by decide +kernel : kd_ 120 38 = ((0, 1, 0, []), 39))).trans ?_
  refine (g_10 (by decide +kernel : kd_ 120 39 = ((10, 0, 0, []), 40))).trans ?_
  refine (g_3 (by decide +kernel : kd_ 120 40 = ((3, 0, 0, []), 41)) rfl).trans ?_
  refine (g_50 (v := .ref (a0 + 2)) (by decide +kernel : kd_ 120 41 = ((50, 7, 6, []), 44)) h1 rfl).trans ?_
  refine (g_2 (by decide +kernel : kd_ 120 44 = ((2, 2, 0, []), 45)) rfl).trans ?_
  refine (g_54 (v := .int (f (a0 + 2) x2.toNatClampNeg)) (by decide +kernel : kd_ 120 45 = ((54, 0, 0, []), 46)) (sc_7_6 h1) rfl (by rw [sl_7_6 h1]; exact h3) rfl).trans ?_
  exact g_40 (by decide +kernel : kd_ 120 46 = ((40, 68, 0, []), 49))
theorem b_M_printAll_49 {L : Nat} {f : cg_G} {e : Nat × Nat} {x1 x2 x3 x4 : Int32} {a0 : Nat} {u5 : Value} (h1 : sh_ a0 = 7) (h2 : cg_in ((((nI 32) * x2) + x3) + (nI 1)) 192): cj_res 120 49 [.ref a0, .int x1, .int x2, .int x3, .int x4, u5] [] (cg_M L f e) = cj_res 120 69 [.ref a0, .int x1, .int x2, .int x3, .int x4, u5] [.int ((f (a0 + 3) ((((nI 32) * x2) + x3) + (nI 1)).toNatClampNeg) - (nI 48))] (cg_M L f e) := by
  refine (g_3 (by decide +kernel : kd_ 120 49 = ((3, 0, 0, []), 50)) rfl).trans ?_
  refine (g_50 (v := .ref (a0 + 3)) (by decide +kernel : kd_ 120 50 = ((50, 7, 7, []), 53)) h1 rfl).trans ?_
  refine (g_0 (by decide +kernel : kd_ 120 53 = ((0, 32, 0, []), 55))).trans ?_
  refine (g_2 (by decide +kernel : kd_ 120 55 = ((2, 2, 0, []), 56)) rfl).trans ?_
  refine (g_12 (by decide +kernel : kd_ 120 56 = ((12, 0, 0, []), 57))).trans ?_
  refine (g_2 (by decide +kernel : kd_ 120 57 = ((2, 3, 0, []), 58)) rfl).trans ?_
  refine (g_10 (by decide +kernel : kd_ 120 58 = ((10, 0, 0, []), 59))).trans ?_
  refine (g_0 (by decide +kernel : kd_ 120 59 = ((0, 1, 0, []), 60))).trans ?_
  refine (g_10 (by decide +kernel : kd_ 120 60 = ((10, 0, 0, []), 61))).trans ?_
  refine (g_54 (v := .int (f (a0 + 3) ((((nI 32) * x2) + x3) + (nI 1)).toNatClampNeg)) (by decide +kernel : kd_ 120 61 = ((54, 0, 0, []), 62)) (sc_7_7 h1) rfl (by rw [sl_7_7 h1]; exact h2) rfl).trans ?_
  refine (g_0 (by decide +kernel : kd_ 120 62 = ((0, 48, 0, []), 64))).trans ?_
  refine (g_11 (by decide +kernel : kd_ 120 64 = ((11, 0, 0, []), 65))).trans ?_
  refine (g_30 (by decide +kernel : kd_ 120 65 = ((30, 69, 0, []), 68))).trans ?_
  rfl
theorem b_M_printAll_68 {L : Nat} {f : cg_G} {e : Nat × Nat} {x1 x2 x3 x4 : Int32} {a0 : Nat} {u5 : Value} : cj_res 120 68 [.ref a0, .int x1, .int x2, .int x3, .int x4, u5] [] (cg_M L f e) = cj_res 120 69 [.ref a0, .int x1, .int x2, .int x3, .int x4, u5] [.int (nI 0)] (cg_M L f e) := by
  refine (g_0 (by decide +kernel : kd_ 120 68 = ((0, 0, 0, []), 69))).trans ?_
  rfl
theorem b_M_printAll_69 {L : Nat} {f : cg_G} {e : Nat × Nat} {x1 x2 x3 x4 y0 : Int32} {a0 : Nat} {u5 : Value} : cj_res 120 69 [.ref a0, .int x1, .int x2, .int x3, .int x4, u5] [.int y0] (cg_M L f e) = if x4 = (nI 35) then cj_res 120 78 [.ref a0, .int x1, .int x2, .int x3, .int x4, .int y0] [] (cg_M L f e) else cj_res 120 94 [.ref a0, .int x1, .int x2, .int x3, .int x4, .int y0] [] (cg_M L f e) := by
  refine (g_4 (ls' := [.ref a0, .int x1, .int x2, .int x3, .int x4, .int y0]) (by decide +kernel : kd_ 120 69 = ((4, 5, 0, []), 71)) rfl rfl).trans ?_
  refine (g_2 (by decide +kernel : kd_ 120 71 = ((2, 4, 0, []), 73)) rfl).trans ?_
  refine (g_0 (by decide +kernel : kd_ 120 73 = ((0, 35, 0, []), 75))).trans ?_
  exact g_38 (by decide +kernel : kd_ 120 75 = ((38, 94, 0, []), 78))
theorem b_M_printAll_78 {L : Nat} {f : cg_G} {e : Nat × Nat} {x1 x2 x3 x4 x5 : Int32} {a0 : Nat} (h1 : sh_ a0 = 7): cj_res 120 78 [.ref a0, .int x1, .int x2, .int x3, .int x4, .int x5] [] (cg_M L f e) = cj_aft 120 85 88 [.ref a0, .int x1, .int x2, .int x3, .int x4, .int x5] [] (cj_ev 95 [.ref a0, .int (((nI 4) * x1) + x5)] (cg_M L f e)) := by
  refine (g_3 (by decide +kernel : kd_ 120 78 = ((3, 0, 0, []), 79)) rfl).trans ?_
  refine (g_0 (by decide +kernel : kd_ 120 79 = ((0, 4, 0, []), 80))).trans ?_
  refine (g_2 (by decide +kernel : kd_ 120 80 = ((2, 1, 0, []), 81)) rfl).trans ?_
  refine (g_12 (by decide +kernel : kd_ 120 81 = ((12, 0, 0, []), 82))).trans ?_
  refine (g_2 (by decide +kernel : kd_ 120 82 = ((2, 5, 0, []), 84)) rfl).trans ?_
  refine (g_10 (by decide +kernel : kd_ 120 84 = ((10, 0, 0, []), 85))).trans ?_
  exact g_80 (by decide +kernel : kd_ 120 85 = ((80, 95, 2, [7]), 88)) rfl h1 rfl rfl rfl
theorem b_M_printAll_88 {L : Nat} {f : cg_G} {e : Nat × Nat} {x1 x2 x3 x4 x5 : Int32} {a0 : Nat} : cj_res 120 88 [.ref a0, .int x1, .int x2, .int x3, .int x4, .int x5] [] (cg_M L f e) = cj_res 120 171 [.ref a0, .int x1, .int x2, .int (x3 + nI 1), .int x4, .int x5] [] (cg_M L f e) := by
  refine (g_6 (ls' := [.ref a0, .int x1, .int x2, .int (x3 + nI 1), .int x4, .int x5]) (by decide +kernel : kd_ 120 88 = ((6, 3, 1, []), 91)) rfl rfl).trans ?_
  refine (g_30 (by decide +kernel : kd_ 120 91 = ((30, 171, 0, []), 94))).trans ?_
  rfl
theorem b_M_printAll_94 {L : Nat} {f : cg_G} {e : Nat × Nat} {x1 x2 x3 x4 x5 : Int32} {a0 : Nat} : cj_res 120 94 [.ref a0, .int x1, .int x2, .int x3, .int x4, .int x5] [] (cg_M L f e) = if x4 = (nI 64) then cj_res 120 101 [.ref a0, .int x1, .int x2, .int x3, .int x4, .int x5] [] (cg_M L f e) else cj_res 120 118 [.ref a0, .int x1, .int x2, .int x3, .int x4, .int x5] [] (cg_M L f e) := by
  refine (g_2 (by decide +kernel : kd_ 120 94 = ((2, 4, 0, []), 96)) rfl).trans ?_
  refine (g_0 (by decide +kernel : kd_ 120 96 = ((0, 64, 0, []), 98))).trans ?_
  exact g_38 (by decide +kernel : kd_ 120 98 = ((38, 118, 0, []), 101))
theorem b_M_printAll_101 {L : Nat} {f : cg_G} {e : Nat × Nat} {x1 x2 x3 x4 x5 : Int32} {a0 : Nat} (h1 : sh_ a0 = 7) (h2 : cg_in x5 8): cj_res 120 101 [.ref a0, .int x1, .int x2, .int x3, .int x4, .int x5] [] (cg_M L f e) = cj_aft 120 109 112 [.ref a0, .int x1, .int x2, .int x3, .int x4, .int x5] [] (cj_ev 96 [.ref a0, .int (f (a0 + 18) x5.toNatClampNeg)] (cg_M L f e)) := by
  refine (g_3 (by decide +kernel : kd_ 120 101 = ((3, 0, 0, []), 102)) rfl).trans ?_
  refine (g_3 (by decide +kernel : kd_ 120 102 = ((3, 0, 0, []), 103)) rfl).trans ?_
  refine (g_50 (v := .ref (a0 + 18)) (by decide +kernel : kd_ 120 103 = ((50, 7, 27, []), 106)) h1 rfl).trans ?_
  refine (g_2 (by decide +kernel : kd_ 120 106 = ((2, 5, 0, []), 108)) rfl).trans ?_
  refine (g_54 (v := .int (f (a0 + 18) x5.toNatClampNeg)) (by decide +kernel : kd_ 120 108 = ((54, 0, 0, []), 109)) (sc_7_27 h1) rfl (by rw [sl_7_27 h1]; exact h2) rfl).trans ?_
  exact g_80 (by decide +kernel : kd_ 120 109 = ((80, 96, 2, [7]), 112)) rfl h1 rfl rfl rfl
theorem b_M_printAll_112 {L : Nat} {f : cg_G} {e : Nat × Nat} {x1 x2 x3 x4 x5 : Int32} {a0 : Nat} : cj_res 120 112 [.ref a0, .int x1, .int x2, .int x3, .int x4, .int x5] [] (cg_M L f e) = cj_res 120 171 [.ref a0, .int x1, .int x2, .int (x3 + nI 1), .int x4, .int x5] [] (cg_M L f e) := by
  refine (g_6 (ls' := [.ref a0, .int x1, .int x2, .int (x3 + nI 1), .int x4, .int x5]) (by decide +kernel : kd_ 120 112 = ((6, 3, 1, []), 115)) rfl rfl).trans ?_
  refine (g_30 (by decide +kernel : kd_ 120 115 = ((30, 171, 0, []), 118))).trans ?_
  rfl
theorem b_M_printAll_118 {L : Nat} {f : cg_G} {e : Nat × Nat} {x1 x2 x3 x4 x5 : Int32} {a0 : Nat} : cj_res 120 118 [.ref a0, .int x1, .int x2, .int x3, .int x4, .int x5] [] (cg_M L f e) = if x4 = (nI 91) then cj_res 120 125 [.ref a0, .int x1, .int x2, .int x3, .int x4, .int x5] [] (cg_M L f e) else cj_res 120 151 [.ref a0, .int x1, .int x2, .int x3, .int x4, .int x5] [] (cg_M L f e) := by
  refine (g_2 (by decide +kernel : kd_ 120 118 = ((2, 4, 0, []), 120)) rfl).trans ?_
  refine (g_0 (by decide +kernel : kd_ 120 120 = ((0, 91, 0, []), 122))).trans ?_
  exact g_38 (by decide +kernel : kd_ 120 122 = ((38, 151, 0, []), 125))
theorem b_M_printAll_125 {L : Nat} {f : cg_G} {e : Nat × Nat} {x1 x2 x3 x4 x5 : Int32} {a0 : Nat} (h1 : sh_ a0 = 7): cj_res 120 125 [.ref a0, .int x1, .int x2, .int x3, .int x4, .int x5] [] (cg_M L f e) = cj_aft 120 132 135 [.ref a0, .int x1, .int x2, .int x3, .int x4, .int x5] [.int x3, .int x2, .int x1, .ref a0] (cj_ev 45 [.ref a0, .int x2, .int x3] (cg_M L f e)) := by
  refine (g_3 (by decide +kernel : kd_ 120 125 = ((3, 0, 0, []), 126)) rfl).trans ?_
  refine (g_2 (by decide +kernel : kd_ 120 126 = ((2, 1, 0, []), 127)) rfl).trans ?_
  refine (g_2 (by decide +kernel : kd_ 120 127 = ((2, 2, 0, []), 128)) rfl).trans ?_
  refine (g_2 (by decide +kernel : kd_ 120 128 = ((2, 3, 0, []), 129)) rfl).trans ?_
  refine (g_3 (by decide +kernel : kd_ 120 129 = ((3, 0, 0, []), 130)) rfl).trans ?_
  refine (g_2 (by decide +kernel : kd_ 120 130 = ((2, 2, 0, []), 131)) rfl).trans ?_
  refine (g_2 (by decide +kernel : kd_ 120 131 = ((2, 3, 0, []), 132)) rfl).trans ?_
  exact g_80 (by decide +kernel : kd_ 120 132 = ((80, 45, 3, [7]), 135)) rfl h1 rfl rfl rfl
theorem b_M_printAll_135 {L : Nat} {f : cg_G} {e : Nat × Nat} {x1 x2 x3 x4 x5 y0 y1 y2 y3 : Int32} {a0 c4 : Nat} (h1 : sh_ c4 = 7): cj_res 120 135 [.ref a0, .int x1, .int x2, .int x3, .int x4, .int x5] [.int y0, .int y1, .int y2, .int y3, .ref c4] (cg_M L f e) = cj_aft 120 135 138 [.ref a0, .int x1, .int x2, .int x3, .int x4, .int x5] [] (cj_ev 47 [.ref c4, .int y3, .int y2, .int y1, .int y0] (cg_M L f e)) := by
  exact g_80 (by decide +kernel : kd_ 120 135 = ((80, 47, 5, [7]), 138)) rfl h1 rfl rfl rfl
theorem b_M_printAll_138 {L : Nat} {f : cg_G} {e : Nat × Nat} {x1 x2 x3 x4 x5 y0 : Int32} {a0 : Nat} : cj_res 120 138 [.ref a0, .int x1, .int x2, .int x3, .int x4, .int x5] [.int y0] (cg_M L f e) = if y0 = 0 then cj_res 120 151 [.ref a0, .int x1, .int x2, .int x3, .int x4, .int x5] [] (cg_M L f e) else cj_res 120 141 [.ref a0, .int x1, .int x2, .int x3, .int x4, .int x5] [] (cg_M L f e) := by
  exact g_31 (by decide +kernel : kd_ 120 138 = ((31, 151, 0, []), 141))
theorem b_M_printAll_141 {L : Nat} {f : cg_G} {e : Nat × Nat} {x1 x2 x3 x4 x5 : Int32} {a0 : Nat} (h1 : sh_ a0 = 7): cj_res 120 141 [.ref a0, .int x1, .int x2, .int x3, .int x4, .int x5] [] (cg_M L f e) = cj_aft 120 144 147 [.ref a0, .int x1, .int x2, .int x3, .int x4, .int x5] [] (cj_ev 45 [.ref a0, .int x2, .int x3] (cg_M L f e)) := by
  refine (g_3 (by decide +kernel : kd_ 120 141 = ((3, 0, 0, []), 142)) rfl).trans ?_
  refine (g_2 (by decide +kernel : kd_ 120 142 = ((2, 2, 0, []), 143)) rfl).trans ?_
  refine (g_2 (by decide +kernel : kd_ 120 143 = ((2, 3, 0, []), 144)) rfl).trans ?_
  exact g_80 (by decide +kernel : kd_ 120 144 = ((80, 45, 3, [7]), 147)) rfl h1 rfl rfl rfl
theorem b_M_printAll_147 {L : Nat} {f : cg_G} {e : Nat × Nat} {x1 x2 x3 x4 x5 y0 : Int32} {a0 : Nat} : cj_res 120 147 [.ref a0, .int x1, .int x2, .int x3, .int x4, .int x5] [.int y0] (cg_M L f e) = cj_res 120 171 [.ref a0, .int x1, .int x2, .int y0, .int x4, .int x5] [] (cg_M L f e) := by
  refine (g_4 (ls' := [.ref a0, .int x1, .int x2, .int y0, .int x4, .int x5]) (by decide +kernel : kd_ 120 147 = ((4, 3, 0, []), 148)) rfl rfl).trans ?_
  refine (g_30 (by decide +kernel : kd_ 120 148 = ((30, 171, 0, []), 151))).trans ?_
  rfl
theorem b_M_printAll_151 {L : Nat} {f : cg_G} {e : Nat × Nat} {x1 x2 x3 x4 x5 : Int32} {a0 : Nat} : cj_res 120 151 [.ref a0, .int x1, .int x2, .int x3, .int x4, .int x5] [] (cg_M L f e) = if x4 = (nI 91) then cj_res 120 171 [.ref a0, .int x1, .int x2, .int x3, .int x4, .int x5] [] (cg_M L f e) else cj_res 120 158 [.ref a0, .int x1, .int x2, .int x3, .int x4, .int x5] [] (cg_M L f e) := by
  refine (g_2 (by decide +kernel : kd_ 120 151 = ((2, 4, 0, []), 153)) rfl).trans ?_
  refine (g_0 (by decide +kernel : kd_ 120 153 = ((0, 91, 0, []), 155))).trans ?_
  exact g_37 (by decide +kernel : kd_ 120 155 = ((37, 171, 0, []), 158))
theorem b_M_printAll_158 {L : Nat} {f : cg_G} {e : Nat × Nat} {x1 x2 x3 x4 x5 : Int32} {a0 : Nat} : cj_res 120 158 [.ref a0, .int x1, .int x2, .int x3, .int x4, .int x5] [] (cg_M L f e) = if x4 = (nI 93) then cj_res 120 171 [.ref a0, .int x1, .int x2, .int x3, .int x4, .int x5] [] (cg_M L f e) else cj_res 120 165 [.ref a0, .int x1, .int x2, .int x3, .int x4, .int x5] [] (cg_M L f e) := by
  refine (g_2 (by decide +kernel : kd_ 120 158 = ((2, 4, 0, []), 160)) rfl).trans ?_
  refine (g_0 (by decide +kernel : kd_ 120 160 = ((0, 93, 0, []), 162))).trans ?_
  exact g_37 (by decide +kernel : kd_ 120 162 = ((37, 171, 0, []), 165))
theorem b_M_printAll_165 {L : Nat} {f : cg_G} {e : Nat × Nat} {x1 x2 x3 x4 x5 : Int32} {a0 : Nat} (h1 : sh_ a0 = 7): cj_res 120 165 [.ref a0, .int x1, .int x2, .int x3, .int x4, .int x5] [] (cg_M L f e) = cj_aft 120 168 171 [.ref a0, .int x1, .int x2, .int x3, .int x4, .int x5] [] (cj_ev 50 [.ref a0, .int x4] (cg_M L f e)) := by
  refine (g_3 (by decide +kernel : kd_ 120 165 = ((3, 0, 0, []), 166)) rfl).trans ?_
  refine (g_2 (by decide +kernel : kd_ 120 166 = ((2, 4, 0, []), 168)) rfl).trans ?_
  exact g_80 (by decide +kernel : kd_ 120 168 = ((80, 50, 2, [7]), 171)) rfl h1 rfl rfl rfl
theorem b_M_printAll_171 {L : Nat} {f : cg_G} {e : Nat × Nat} {x1 x2 x3 x4 x5 : Int32} {a0 : Nat} : cj_res 120 171 [.ref a0, .int x1, .int x2, .int x3, .int x4, .int x5] [] (cg_M L f e) = cj_res 120 14 [.ref a0, .int x1, .int x2, .int (x3 + nI 1), .int x4, .int x5] [] (cg_M L f e) := by
  refine (g_6 (ls' := [.ref a0, .int x1, .int x2, .int (x3 + nI 1), .int x4, .int x5]) (by decide +kernel : kd_ 120 171 = ((6, 3, 1, []), 174)) rfl rfl).trans ?_
  refine (g_30 (by decide +kernel : kd_ 120 174 = ((30, 14, 0, []), 177))).trans ?_
  rfl
theorem b_M_printAll_177 {L : Nat} {f : cg_G} {e : Nat × Nat} {x1 x2 x3 : Int32} {a0 : Nat} {u4 u5 : Value} : cj_res 120 177 [.ref a0, .int x1, .int x2, .int x3, u4, u5] [] (cg_M L f e) = some (.inl none, cg_M L f e) := by
  exact g_91 (by decide +kernel : kd_ 120 177 = ((91, 0, 0, []), 178))
theorem b_M_sign_0 {L : Nat} {f : cg_G} {e : Nat × Nat} {x1 x2 x3 : Int32} {a0 : Nat} {u4 u5 u6 u7 u8 : Value} (h1 : sh_ a0 = 7): cj_res 121 0 [.ref a0, .int x1, .int x2, .int x3, u4, u5, u6, u7, u8] [] (cg_M L f e) = cj_aft 121 2 5 [.ref a0, .int x1, .int x2, .int x3, u4, u5, u6, u7, u8] [] (cj_ev 99 [.ref a0, .int x1] (cg_M L f e)) := by
  refine (g_3 (by decide +kernel : kd_ 121 0 = ((3, 0, 0, []), 1)) rfl).trans ?_
  refine (g_2 (by decide +kernel : kd_ 121 1 = ((2, 1, 0, []), 2)) rfl).trans ?_
  exact g_80 (by decide +kernel : kd_ 121 2 = ((80, 99, 2, [7]), 5)) rfl h1 rfl rfl rfl
theorem b_M_sign_5 {L : Nat} {f : cg_G} {e : Nat × Nat} {x1 x2 x3 y0 : Int32} {a0 : Nat} {u4 u5 u6 u7 u8 : Value} (h1 : sh_ a0 = 7): cj_res 121 5 [.ref a0, .int x1, .int x2, .int x3, u4, u5, u6, u7, u8] [.int y0] (cg_M L f e) = if (f a0 23) = (- nI 1) then cj_res 121 20 [.ref a0, .int x1, .int x2, .int x3, .int y0, u5, u6, u7, u8] [] (cg_M L f e) else cj_res 121 15 [.ref a0, .int x1, .int x2, .int x3, .int y0, u5, u6, u7, u8] [] (cg_M L f e) := by
  refine (g_4 (ls' := [.ref a0, .int x1, .int x2, .int x3, .int y0, u5, u6, u7, u8]) (by decide +kernel : kd_ 121 5 = ((4, 4, 0, []), 7)) rfl rfl).trans ?_
  refine (g_3 (by decide +kernel : kd_ 121 7 = ((3, 0, 0, []), 8)) rfl).trans ?_
  refine (g_50 (v := .int (f a0 23)) (by decide +kernel : kd_ 121 8 = ((50, 7, 23, []), 11)) h1 rfl).trans ?_
  refine (g_1 (by decide +kernel : kd_ 121 11 = ((1, 1, 0, []), 12))).trans ?_
  exact g_37 (by decide +kernel : kd_ 121 12 = ((37, 20, 0, []), 15))
theorem b_M_sign_15 {L : Nat} {f : cg_G} {e : Nat × Nat} {x1 x2 x3 x4 : Int32} {a0 : Nat} {u5 u6 u7 u8 : Value} : cj_res 121 15 [.ref a0, .int x1, .int x2, .int x3, .int x4, u5, u6, u7, u8] [] (cg_M L f e) = if x4 = 0 then cj_res 121 20 [.ref a0, .int x1, .int x2, .int x3, .int x4, u5, u6, u7, u8] [] (cg_M L f e) else cj_res 121 24 [.ref a0, .int x1, .int x2, .int x3, .int x4, u5, u6, u7, u8] [] (cg_M L f e) := by
  refine (g_2 (by decide +kernel : kd_ 121 15 = ((2, 4, 0, []), 17)) rfl).trans ?_
  exact g_32 (by decide +kernel : kd_ 121 17 = ((32, 24, 0, []), 20))
theorem b_M_sign_20 {L : Nat} {f : cg_G} {e : Nat × Nat} {x1 x2 x3 x4 : Int32} {a0 : Nat} {u5 u6 u7 u8 : Value} : cj_res 121 20 [.ref a0, .int x1, .int x2, .int x3, .int x4, u5, u6, u7, u8] [] (cg_M L f e) = cj_res 121 33 [.ref a0, .int x1, .int x2, .int x3, .int x4, u5, u6, u7, u8] [.int (nI 0)] (cg_M L f e) := by
  refine (g_0 (by decide +kernel : kd_ 121 20 = ((0, 0, 0, []), 21))).trans ?_
  refine (g_30 (by decide +kernel : kd_ 121 21 = ((30, 33, 0, []), 24))).trans ?_
  rfl
theorem b_M_sign_24 {L : Nat} {f : cg_G} {e : Nat × Nat} {x1 x2 x3 x4 : Int32} {a0 : Nat} {u5 u6 u7 u8 : Value} (h1 : sh_ a0 = 7): cj_res 121 24 [.ref a0, .int x1, .int x2, .int x3, .int x4, u5, u6, u7, u8] [] (cg_M L f e) = cj_res 121 33 [.ref a0, .int x1, .int x2, .int x3, .int x4, u5, u6, u7, u8] [.int (((nI 8) * (f a0 23)) + x1)] (cg_M L f e) := by
  refine (g_0 (by decide +kernel : kd_ 121 24 = ((0, 8, 0, []), 26))).trans ?_
  refine (g_3 (by decide +kernel : kd_ 121 26 = ((3, 0, 0, []), 27)) rfl).trans ?_
  refine (g_50 (v := .int (f a0 23)) (by decide +kernel : kd_ 121 27 = ((50, 7, 23, []), 30)) h1 rfl).trans ?_
  refine (g_12 (by decide +kernel : kd_ 121 30 = ((12, 0, 0, []), 31))).trans ?_
  refine (g_2 (by decide +kernel : kd_ 121 31 = ((2, 1, 0, []), 32)) rfl).trans ?_
  refine (g_10 (by decide +kernel : kd_ 121 32 = ((10, 0, 0, []), 33))).trans ?_
  rfl
theorem b_M_sign_33 {L : Nat} {f : cg_G} {e : Nat × Nat} {x1 x2 x3 x4 y0 : Int32} {a0 : Nat} {u5 u6 u7 u8 : Value} : cj_res 121 33 [.ref a0, .int x1, .int x2, .int x3, .int x4, u5, u6, u7, u8] [.int y0] (cg_M L f e) = if x2 = (- nI 1) then cj_res 121 40 [.ref a0, .int x1, .int x2, .int x3, .int x4, .int y0, u6, u7, u8] [] (cg_M L f e) else cj_res 121 49 [.ref a0, .int x1, .int x2, .int x3, .int x4, .int y0, u6, u7, u8] [] (cg_M L f e) := by
  refine (g_4 (ls' := [.ref a0, .int x1, .int x2, .int x3, .int x4, .int y0, u6, u7, u8]) (by decide +kernel : kd_ 121 33 = ((4, 5, 0, []), 35)) rfl rfl).trans ?_
  refine (g_2 (by decide +kernel : kd_ 121 35 = ((2, 2, 0, []), 36)) rfl).trans ?_
  refine (g_1 (by decide +kernel : kd_ 121 36 = ((1, 1, 0, []), 37))).trans ?_
  exact g_38 (by decide +kernel : kd_ 121 37 = ((38, 49, 0, []), 40))
theorem b_M_sign_40 {L : Nat} {f : cg_G} {e : Nat × Nat} {x1 x2 x3 x4 x5 : Int32} {a0 : Nat} {u6 u7 u8 : Value} : cj_res 121 40 [.ref a0, .int x1, .int x2, .int x3, .int x4, .int x5, u6, u7, u8] [] (cg_M L f e) = if x3 = (- nI 1) then cj_res 121 45 [.ref a0, .int x1, .int x2, .int x3, .int x4, .int x5, u6, u7, u8] [] (cg_M L f e) else cj_res 121 49 [.ref a0, .int x1, .int x2, .int x3, .int x4, .int x5, u6, u7, u8] [] (cg_M L f e) := by
  refine (g_2 (by decide +kernel : kd_ 121 40 = ((2, 3, 0, []), 41)) rfl).trans ?_
  refine (g_1 (by decide +kernel : kd_ 121 41 = ((1, 1, 0, []), 42))).trans ?_
  exact g_38 (by decide +kernel : kd_ 121 42 = ((38, 49, 0, []), 45))
theorem b_M_sign_45 {L : Nat} {f : cg_G} {e : Nat × Nat} {x1 x2 x3 x4 x5 : Int32} {a0 : Nat} {u6 u7 u8 : Value} : cj_res 121 45 [.ref a0, .int x1, .int x2, .int x3, .int x4, .int x5, u6, u7, u8] [] (cg_M L f e) = cj_res 121 50 [.ref a0, .int x1, .int x2, .int x3, .int x4, .int x5, u6, u7, u8] [.int (nI 1)] (cg_M L f e) := by
  refine (g_0 (by decide +kernel : kd_ 121 45 = ((0, 1, 0, []), 46))).trans ?_
  refine (g_30 (by decide +kernel : kd_ 121 46 = ((30, 50, 0, []), 49))).trans ?_
  rfl
theorem b_M_sign_49 {L : Nat} {f : cg_G} {e : Nat × Nat} {x1 x2 x3 x4 x5 : Int32} {a0 : Nat} {u6 u7 u8 : Value} : cj_res 121 49 [.ref a0, .int x1, .int x2, .int x3, .int x4, .int x5, u6, u7, u8] [] (cg_M L f e) = cj_res 121 50 [.ref a0, .int x1, .int x2, .int x3, .int x4, .int x5, u6, u7, u8] [.int (nI 0)] (cg_M L f e) := by
  refine (g_0 (by decide +kernel : kd_ 121 49 = ((0, 0, 0, []), 50))).trans ?_
  rfl
theorem b_M_sign_50 {L : Nat} {f : cg_G} {e : Nat × Nat} {x1 x2 x3 x4 x5 y0 : Int32} {a0 : Nat} {u6 u7 u8 : Value} (h1 : sh_ a0 = 7) (h2 : cg_in x5 16): cj_res 121 50 [.ref a0, .int x1, .int x2, .int x3, .int x4, .int x5, u6, u7, u8] [.int y0] (cg_M L f e) = cj_aft 121 60 63 [.ref a0, .int x1, .int x2, .int x3, .int x4, .int x5, .int y0, u7, u8] [] (cj_ev 44 [.int x2, .int (f (a0 + 19) x5.toNatClampNeg)] (cg_M L f e)) := by
  refine (g_4 (ls' := [.ref a0, .int x1, .int x2, .int x3, .int x4, .int x5, .int y0, u7, u8]) (by decide +kernel : kd_ 121 50 = ((4, 6, 0, []), 52)) rfl rfl).trans ?_
  refine (g_2 (by decide +kernel : kd_ 121 52 = ((2, 2, 0, []), 53)) rfl).trans ?_
  refine (g_3 (by decide +kernel : kd_ 121 53 = ((3, 0, 0, []), 54)) rfl).trans ?_
  refine (g_50 (v := .ref (a0 + 19)) (by decide +kernel : kd_ 121 54 = ((50, 7, 28, []), 57)) h1 rfl).trans ?_
  refine (g_2 (by decide +kernel : kd_ 121 57 = ((2, 5, 0, []), 59)) rfl).trans ?_
  refine (g_54 (v := .int (f (a0 + 19) x5.toNatClampNeg)) (by decide +kernel : kd_ 121 59 = ((54, 0, 0, []), 60)) (sc_7_28 h1) rfl (by rw [sl_7_28 h1]; exact h2) rfl).trans ?_
  exact g_81 (by decide +kernel : kd_ 121 60 = ((81, 44, 2, []), 63)) rfl rfl rfl
theorem b_M_sign_63 {L : Nat} {f : cg_G} {e : Nat × Nat} {x1 x2 x3 x4 x5 x6 y0 : Int32} {a0 : Nat} {u7 u8 : Value} : cj_res 121 63 [.ref a0, .int x1, .int x2, .int x3, .int x4, .int x5, .int x6, u7, u8] [.int y0] (cg_M L f e) = if y0 = 0 then cj_res 121 109 [.ref a0, .int x1, .int x2, .int x3, .int x4, .int x5, .int x6, u7, u8] [] (cg_M L f e) else cj_res 121 66 [.ref a0, .int x1, .int x2, .int x3, .int x4, .int x5, .int x6, u7, u8] [] (cg_M L f e) := by
  exact g_31 (by decide +kernel : kd_ 121 63 = ((31, 109, 0, []), 66))
theorem b_M_sign_66 {L : Nat} {f : cg_G} {e : Nat × Nat} {x1 x2 x3 x4 x5 x6 : Int32} {a0 : Nat} {u7 u8 : Value} : cj_res 121 66 [.ref a0, .int x1, .int x2, .int x3, .int x4, .int x5, .int x6, u7, u8] [] (cg_M L f e) = if x3 < (- nI 1) then cj_res 121 109 [.ref a0, .int x1, .int x2, .int x3, .int x4, .int x5, .int x6, u7, u8] [] (cg_M L f e) else cj_res 121 71 [.ref a0, .int x1, .int x2, .int x3, .int x4, .int x5, .int x6, u7, u8] [] (cg_M L f e) := by
  refine (g_2 (by decide +kernel : kd_ 121 66 = ((2, 3, 0, []), 67)) rfl).trans ?_
  refine (g_1 (by decide +kernel : kd_ 121 67 = ((1, 1, 0, []), 68))).trans ?_
  exact g_39 (by decide +kernel : kd_ 121 68 = ((39, 109, 0, []), 71))
theorem b_M_sign_71 {L : Nat} {f : cg_G} {e : Nat × Nat} {x1 x2 x3 x4 x5 x6 : Int32} {a0 : Nat} {u7 u8 : Value} (h1 : sh_ a0 = 7) (h2 : cg_in x5 16): cj_res 121 71 [.ref a0, .int x1, .int x2, .int x3, .int x4, .int x5, .int x6, u7, u8] [] (cg_M L f e) = cj_aft 121 89 92 [.ref a0, .int x1, .int x2, .int x3, .int x4, .int x5, .int x6, u7, u8] [.int ((nI 112) * x5), .ref (a0 + 21), .int x3] (cj_ev 44 [.int x2, .int (f (a0 + 19) x5.toNatClampNeg)] (cg_M L f e)) := by
  refine (g_2 (by decide +kernel : kd_ 121 71 = ((2, 3, 0, []), 72)) rfl).trans ?_
  refine (g_3 (by decide +kernel : kd_ 121 72 = ((3, 0, 0, []), 73)) rfl).trans ?_
  refine (g_50 (v := .ref (a0 + 21)) (by decide +kernel : kd_ 121 73 = ((50, 7, 30, []), 76)) h1 rfl).trans ?_
  refine (g_0 (by decide +kernel : kd_ 121 76 = ((0, 112, 0, []), 78))).trans ?_
  refine (g_2 (by decide +kernel : kd_ 121 78 = ((2, 5, 0, []), 80)) rfl).trans ?_
  refine (g_12 (by decide +kernel : kd_ 121 80 = ((12, 0, 0, []), 81))).trans ?_
  refine (g_2 (by decide +kernel : kd_ 121 81 = ((2, 2, 0, []), 82)) rfl).trans ?_
  refine (g_3 (by decide +kernel : kd_ 121 82 = ((3, 0, 0, []), 83)) rfl).trans ?_
  refine (g_50 (v := .ref (a0 + 19)) (by decide +kernel : kd_ 121 83 = ((50, 7, 28, []), 86)) h1 rfl).trans ?_
  refine (g_2 (by decide +kernel : kd_ 121 86 = ((2, 5, 0, []), 88)) rfl).trans ?_
  refine (g_54 (v := .int (f (a0 + 19) x5.toNatClampNeg)) (by decide +kernel : kd_ 121 88 = ((54, 0, 0, []), 89)) (sc_7_28 h1) rfl (by rw [sl_7_28 h1]; exact h2) rfl).trans ?_
  exact g_81 (by decide +kernel : kd_ 121 89 = ((81, 44, 2, []), 92)) rfl rfl rfl
theorem b_M_sign_92 {L : Nat} {f : cg_G} {e : Nat × Nat} {x1 x2 x3 x4 x5 x6 y0 y1 y3 : Int32} {a0 c2 : Nat} {u7 u8 : Value} : cj_res 121 92 [.ref a0, .int x1, .int x2, .int x3, .int x4, .int x5, .int x6, u7, u8] [.int y0, .int y1, .ref c2, .int y3] (cg_M L f e) = if y0 = 0 then cj_res 121 99 [.ref a0, .int x1, .int x2, .int x3, .int x4, .int x5, .int x6, u7, u8] [.int y1, .ref c2, .int y3] (cg_M L f e) else cj_res 121 95 [.ref a0, .int x1, .int x2, .int x3, .int x4, .int x5, .int x6, u7, u8] [.int y1, .ref c2, .int y3] (cg_M L f e) := by
  exact g_31 (by decide +kernel : kd_ 121 92 = ((31, 99, 0, []), 95))
theorem b_M_sign_95 {L : Nat} {f : cg_G} {e : Nat × Nat} {x1 x2 x3 x4 x5 x6 y0 y2 : Int32} {a0 c1 : Nat} {u7 u8 : Value} : cj_res 121 95 [.ref a0, .int x1, .int x2, .int x3, .int x4, .int x5, .int x6, u7, u8] [.int y0, .ref c1, .int y2] (cg_M L f e) = cj_res 121 100 [.ref a0, .int x1, .int x2, .int x3, .int x4, .int x5, .int x6, u7, u8] [.int x2, .int y0, .ref c1, .int y2] (cg_M L f e) := by
  refine (g_2 (by decide +kernel : kd_ 121 95 = ((2, 2, 0, []), 96)) rfl).trans ?_
  refine (g_30 (by decide +kernel : kd_ 121 96 = ((30, 100, 0, []), 99))).trans ?_
  rfl
theorem b_M_sign_99 {L : Nat} {f : cg_G} {e : Nat × Nat} {x1 x2 x3 x4 x5 x6 y0 y2 : Int32} {a0 c1 : Nat} {u7 u8 : Value} : cj_res 121 99 [.ref a0, .int x1, .int x2, .int x3, .int x4, .int x5, .int x6, u7, u8] [.int y0, .ref c1, .int y2] (cg_M L f e) = cj_res 121 100 [.ref a0, .int x1, .int x2, .int x3, .int x4, .int x5, .int x6, u7, u8] [.int (nI 0), .int y0, .ref c1, .int y2] (cg_M L f e) := by
  refine (g_0 (by decide +kernel : kd_ 121 99 = ((0, 0, 0, []), 100))).trans ?_
  rfl
theorem b_M_sign_100 {L : Nat} {f : cg_G} {e : Nat × Nat} {x1 x2 x3 x4 x5 x6 y0 y1 y3 : Int32} {a0 c2 : Nat} {u7 u8 : Value} (h1 : sh_ c2 = 100) (h2 : cg_in (y1 + y0) (ln_ L c2)): cj_res 121 100 [.ref a0, .int x1, .int x2, .int x3, .int x4, .int x5, .int x6, u7, u8] [.int y0, .int y1, .ref c2, .int y3] (cg_M L f e) = if (f c2 (y1 + y0).toNatClampNeg) ≤ y3 then cj_res 121 109 [.ref a0, .int x1, .int x2, .int x3, .int x4, .int x5, .int x6, u7, u8] [] (cg_M L f e) else cj_res 121 105 [.ref a0, .int x1, .int x2, .int x3, .int x4, .int x5, .int x6, u7, u8] [] (cg_M L f e) := by
  refine (g_10 (by decide +kernel : kd_ 121 100 = ((10, 0, 0, []), 101))).trans ?_
  refine (g_54 (v := .int (f c2 (y1 + y0).toNatClampNeg)) (by decide +kernel : kd_ 121 101 = ((54, 0, 0, []), 102)) h1 rfl h2 rfl).trans ?_
  exact g_40 (by decide +kernel : kd_ 121 102 = ((40, 109, 0, []), 105))
theorem b_M_sign_105 {L : Nat} {f : cg_G} {e : Nat × Nat} {x1 x2 x3 x4 x5 x6 : Int32} {a0 : Nat} {u7 u8 : Value} : cj_res 121 105 [.ref a0, .int x1, .int x2, .int x3, .int x4, .int x5, .int x6, u7, u8] [] (cg_M L f e) = cj_res 121 110 [.ref a0, .int x1, .int x2, .int x3, .int x4, .int x5, .int x6, u7, u8] [.int (nI 1)] (cg_M L f e) := by
  refine (g_0 (by decide +kernel : kd_ 121 105 = ((0, 1, 0, []), 106))).trans ?_
  refine (g_30 (by decide +kernel : kd_ 121 106 = ((30, 110, 0, []), 109))).trans ?_
  rfl
theorem b_M_sign_109 {L : Nat} {f : cg_G} {e : Nat × Nat} {x1 x2 x3 x4 x5 x6 : Int32} {a0 : Nat} {u7 u8 : Value} : cj_res 121 109 [.ref a0, .int x1, .int x2, .int x3, .int x4, .int x5, .int x6, u7, u8] [] (cg_M L f e) = cj_res 121 110 [.ref a0, .int x1, .int x2, .int x3, .int x4, .int x5, .int x6, u7, u8] [.int (nI 0)] (cg_M L f e) := by
  refine (g_0 (by decide +kernel : kd_ 121 109 = ((0, 0, 0, []), 110))).trans ?_
  rfl
theorem b_M_sign_110 {L : Nat} {f : cg_G} {e : Nat × Nat} {x1 x2 x3 x4 x5 x6 y0 : Int32} {a0 : Nat} {u7 u8 : Value} : cj_res 121 110 [.ref a0, .int x1, .int x2, .int x3, .int x4, .int x5, .int x6, u7, u8] [.int y0] (cg_M L f e) = if x4 = 0 then cj_res 121 140 [.ref a0, .int x1, .int x2, .int x3, .int x4, .int x5, .int x6, .int y0, u8] [.ref a0] (cg_M L f e) else cj_res 121 118 [.ref a0, .int x1, .int x2, .int x3, .int x4, .int x5, .int x6, .int y0, u8] [.ref a0] (cg_M L f e) := by
  refine (g_4 (ls' := [.ref a0, .int x1, .int x2, .int x3, .int x4, .int x5, .int x6, .int y0, u8]) (by decide +kernel : kd_ 121 110 = ((4, 7, 0, []), 112)) rfl rfl).trans ?_
  refine (g_3 (by decide +kernel : kd_ 121 112 = ((3, 0, 0, []), 113)) rfl).trans ?_
  refine (g_2 (by decide +kernel : kd_ 121 113 = ((2, 4, 0, []), 115)) rfl).trans ?_
  exact g_31 (by decide +kernel : kd_ 121 115 = ((31, 140, 0, []), 118))
theorem b_M_sign_118 {L : Nat} {f : cg_G} {e : Nat × Nat} {x1 x2 x3 x4 x5 x6 x7 : Int32} {a0 c0 : Nat} {u8 : Value} (h1 : sh_ a0 = 7): cj_res 121 118 [.ref a0, .int x1, .int x2, .int x3, .int x4, .int x5, .int x6, .int x7, u8] [.ref c0] (cg_M L f e) = if (f a0 23) = (- nI 1) then cj_res 121 136 [.ref a0, .int x1, .int x2, .int x3, .int x4, .int x5, .int x6, .int x7, u8] [.ref c0] (cg_M L f e) else cj_res 121 126 [.ref a0, .int x1, .int x2, .int x3, .int x4, .int x5, .int x6, .int x7, u8] [.ref c0] (cg_M L f e) := by
  refine (g_3 (by decide +kernel : kd_ 121 118 = ((3, 0, 0, []), 119)) rfl).trans ?_
  refine (g_50 (v := .int (f a0 23)) (by decide +kernel : kd_ 121 119 = ((50, 7, 23, []), 122)) h1 rfl).trans ?_
  refine (g_1 (by decide +kernel : kd_ 121 122 = ((1, 1, 0, []), 123))).trans ?_
  exact g_37 (by decide +kernel : kd_ 121 123 = ((37, 136, 0, []), 126))
theorem b_M_sign_126 {L : Nat} {f : cg_G} {e : Nat × Nat} {x1 x2 x3 x4 x5 x6 x7 : Int32} {a0 c0 : Nat} {u8 : Value} : cj_res 121 126 [.ref a0, .int x1, .int x2, .int x3, .int x4, .int x5, .int x6, .int x7, u8] [.ref c0] (cg_M L f e) = if x6 = 0 then cj_res 121 131 [.ref a0, .int x1, .int x2, .int x3, .int x4, .int x5, .int x6, .int x7, u8] [.ref c0] (cg_M L f e) else cj_res 121 136 [.ref a0, .int x1, .int x2, .int x3, .int x4, .int x5, .int x6, .int x7, u8] [.ref c0] (cg_M L f e) := by
  refine (g_2 (by decide +kernel : kd_ 121 126 = ((2, 6, 0, []), 128)) rfl).trans ?_
  exact g_32 (by decide +kernel : kd_ 121 128 = ((32, 136, 0, []), 131))
theorem b_M_sign_131 {L : Nat} {f : cg_G} {e : Nat × Nat} {x1 x2 x3 x4 x5 x6 x7 : Int32} {a0 c0 : Nat} {u8 : Value} : cj_res 121 131 [.ref a0, .int x1, .int x2, .int x3, .int x4, .int x5, .int x6, .int x7, u8] [.ref c0] (cg_M L f e) = if x7 = 0 then cj_res 121 140 [.ref a0, .int x1, .int x2, .int x3, .int x4, .int x5, .int x6, .int x7, u8] [.ref c0] (cg_M L f e) else cj_res 121 136 [.ref a0, .int x1, .int x2, .int x3, .int x4, .int x5, .int x6, .int x7, u8] [.ref c0] (cg_M L f e) := by
  refine (g_2 (by decide +kernel : kd_ 121 131 = ((2, 7, 0, []), 133)) rfl).trans ?_
  exact g_31 (by decide +kernel : kd_ 121 133 = ((31, 140, 0, []), 136))
theorem b_M_sign_136 {L : Nat} {f : cg_G} {e : Nat × Nat} {x1 x2 x3 x4 x5 x6 x7 : Int32} {a0 c0 : Nat} {u8 : Value} : cj_res 121 136 [.ref a0, .int x1, .int x2, .int x3, .int x4, .int x5, .int x6, .int x7, u8] [.ref c0] (cg_M L f e) = cj_res 121 141 [.ref a0, .int x1, .int x2, .int x3, .int x4, .int x5, .int x6, .int x7, u8] [.int (nI 1), .ref c0] (cg_M L f e) := by
  refine (g_0 (by decide +kernel : kd_ 121 136 = ((0, 1, 0, []), 137))).trans ?_
  refine (g_30 (by decide +kernel : kd_ 121 137 = ((30, 141, 0, []), 140))).trans ?_
  rfl
theorem b_M_sign_140 {L : Nat} {f : cg_G} {e : Nat × Nat} {x1 x2 x3 x4 x5 x6 x7 : Int32} {a0 c0 : Nat} {u8 : Value} : cj_res 121 140 [.ref a0, .int x1, .int x2, .int x3, .int x4, .int x5, .int x6, .int x7, u8] [.ref c0] (cg_M L f e) = cj_res 121 141 [.ref a0, .int x1, .int x2, .int x3, .int x4, .int x5, .int x6, .int x7, u8] [.int (nI 0), .ref c0] (cg_M L f e) := by
  refine (g_0 (by decide +kernel : kd_ 121 140 = ((0, 0, 0, []), 141))).trans ?_
  rfl
theorem b_M_sign_141 {L : Nat} {f : cg_G} {e : Nat × Nat} {x1 x2 x3 x4 x5 x6 x7 y0 : Int32} {a0 c1 : Nat} {u8 : Value} (h1 : sh_ a0 = 7): cj_res 121 141 [.ref a0, .int x1, .int x2, .int x3, .int x4, .int x5, .int x6, .int x7, u8] [.int y0, .ref c1] (cg_M L f e) = if (f a0 23) = (- nI 1) then cj_res 121 153 [.ref a0, .int x1, .int x2, .int x3, .int x4, .int x5, .int x6, .int x7, u8] [.int y0, .ref c1] (cg_M L f e) else cj_res 121 149 [.ref a0, .int x1, .int x2, .int x3, .int x4, .int x5, .int x6, .int x7, u8] [.int y0, .ref c1] (cg_M L f e) := by
  refine (g_3 (by decide +kernel : kd_ 121 141 = ((3, 0, 0, []), 142)) rfl).trans ?_
  refine (g_50 (v := .int (f a0 23)) (by decide +kernel : kd_ 121 142 = ((50, 7, 23, []), 145)) h1 rfl).trans ?_
  refine (g_1 (by decide +kernel : kd_ 121 145 = ((1, 1, 0, []), 146))).trans ?_
  exact g_37 (by decide +kernel : kd_ 121 146 = ((37, 153, 0, []), 149))
theorem b_M_sign_149 {L : Nat} {f : cg_G} {e : Nat × Nat} {x1 x2 x3 x4 x5 x6 x7 y0 : Int32} {a0 c1 : Nat} {u8 : Value} : cj_res 121 149 [.ref a0, .int x1, .int x2, .int x3, .int x4, .int x5, .int x6, .int x7, u8] [.int y0, .ref c1] (cg_M L f e) = cj_res 121 154 [.ref a0, .int x1, .int x2, .int x3, .int x4, .int x5, .int x6, .int x7, u8] [.int (nI 1), .int y0, .ref c1] (cg_M L f e) := by
  refine (g_0 (by decide +kernel : kd_ 121 149 = ((0, 1, 0, []), 150))).trans ?_
  refine (g_30 (by decide +kernel : kd_ 121 150 = ((30, 154, 0, []), 153))).trans ?_
  rfl
theorem b_M_sign_153 {L : Nat} {f : cg_G} {e : Nat × Nat} {x1 x2 x3 x4 x5 x6 x7 y0 : Int32} {a0 c1 : Nat} {u8 : Value} : cj_res 121 153 [.ref a0, .int x1, .int x2, .int x3, .int x4, .int x5, .int x6, .int x7, u8] [.int y0, .ref c1] (cg_M L f e) = cj_res 121 154 [.ref a0, .int x1, .int x2, .int x3, .int x4, .int x5, .int x6, .int x7, u8] [.int (nI 0), .int y0, .ref c1] (cg_M L f e) := by
  refine (g_0 (by decide +kernel : kd_ 121 153 = ((0, 0, 0, []), 154))).trans ?_
  rfl
theorem b_M_sign_154 {L : Nat} {f : cg_G} {e : Nat × Nat} {x1 x2 x3 x4 x5 x6 x7 y0 y1 : Int32} {a0 c2 : Nat} {u8 : Value} (h1 : sh_ c2 = 7): cj_res 121 154 [.ref a0, .int x1, .int x2, .int x3, .int x4, .int x5, .int x6, .int x7, u8] [.int y0, .int y1, .ref c2] (cg_M L f e) = cj_aft 121 154 157 [.ref a0, .int x1, .int x2, .int x3, .int x4, .int x5, .int x6, .int x7, u8] [] (cj_ev 46 [.ref c2, .int y1, .int y0] (cg_M L f e)) := by
  exact g_80 (by decide +kernel : kd_ 121 154 = ((80, 46, 3, [7]), 157)) rfl h1 rfl rfl rfl
theorem b_M_sign_157 {L : Nat} {f : cg_G} {e : Nat × Nat} {x1 x2 x3 x4 x5 x6 x7 y0 : Int32} {a0 : Nat} {u8 : Value} : cj_res 121 157 [.ref a0, .int x1, .int x2, .int x3, .int x4, .int x5, .int x6, .int x7, u8] [.int y0] (cg_M L f e) = if y0 = 0 then cj_res 121 160 [.ref a0, .int x1, .int x2, .int x3, .int x4, .int x5, .int x6, .int x7, u8] [] (cg_M L f e) else cj_res 121 162 [.ref a0, .int x1, .int x2, .int x3, .int x4, .int x5, .int x6, .int x7, u8] [] (cg_M L f e) := by
  exact g_32 (by decide +kernel : kd_ 121 157 = ((32, 162, 0, []), 160))
theorem b_M_sign_160 {L : Nat} {f : cg_G} {e : Nat × Nat} {x1 x2 x3 x4 x5 x6 x7 : Int32} {a0 : Nat} {u8 : Value} : cj_res 121 160 [.ref a0, .int x1, .int x2, .int x3, .int x4, .int x5, .int x6, .int x7, u8] [] (cg_M L f e) = some (.inl (some (.int (nI 0))), cg_M L f e) := by
  refine (g_0 (by decide +kernel : kd_ 121 160 = ((0, 0, 0, []), 161))).trans ?_
  exact g_90 (by decide +kernel : kd_ 121 161 = ((90, 0, 0, []), 162))
theorem b_M_sign_162 {L : Nat} {f : cg_G} {e : Nat × Nat} {x1 x2 x3 x4 x5 x6 x7 : Int32} {a0 : Nat} {u8 : Value} : cj_res 121 162 [.ref a0, .int x1, .int x2, .int x3, .int x4, .int x5, .int x6, .int x7, u8] [] (cg_M L f e) = if x6 = 0 then cj_res 121 176 [.ref a0, .int x1, .int x2, .int x3, .int x4, .int x5, .int x6, .int x7, u8] [.int ((nI 112) * x5)] (cg_M L f e) else cj_res 121 172 [.ref a0, .int x1, .int x2, .int x3, .int x4, .int x5, .int x6, .int x7, u8] [.int ((nI 112) * x5)] (cg_M L f e) := by
  refine (g_0 (by decide +kernel : kd_ 121 162 = ((0, 112, 0, []), 164))).trans ?_
  refine (g_2 (by decide +kernel : kd_ 121 164 = ((2, 5, 0, []), 166)) rfl).trans ?_
  refine (g_12 (by decide +kernel : kd_ 121 166 = ((12, 0, 0, []), 167))).trans ?_
  refine (g_2 (by decide +kernel : kd_ 121 167 = ((2, 6, 0, []), 169)) rfl).trans ?_
  exact g_31 (by decide +kernel : kd_ 121 169 = ((31, 176, 0, []), 172))
theorem b_M_sign_172 {L : Nat} {f : cg_G} {e : Nat × Nat} {x1 x2 x3 x4 x5 x6 x7 y0 : Int32} {a0 : Nat} {u8 : Value} : cj_res 121 172 [.ref a0, .int x1, .int x2, .int x3, .int x4, .int x5, .int x6, .int x7, u8] [.int y0] (cg_M L f e) = cj_res 121 177 [.ref a0, .int x1, .int x2, .int x3, .int x4, .int x5, .int x6, .int x7, u8] [.int (nI 0), .int y0] (cg_M L f e) := by
  refine (g_0 (by decide +kernel : kd_ 121 172 = ((0, 0, 0, []), 173))).trans ?_
  refine (g_30 (by decide +kernel : kd_ 121 173 = ((30, 177, 0, []), 176))).trans ?_
  rfl
theorem b_M_sign_176 {L : Nat} {f : cg_G} {e : Nat × Nat} {x1 x2 x3 x4 x5 x6 x7 y0 : Int32} {a0 : Nat} {u8 : Value} : cj_res 121 176 [.ref a0, .int x1, .int x2, .int x3, .int x4, .int x5, .int x6, .int x7, u8] [.int y0] (cg_M L f e) = cj_res 121 177 [.ref a0, .int x1, .int x2, .int x3, .int x4, .int x5, .int x6, .int x7, u8] [.int x2, .int y0] (cg_M L f e) := by
  refine (g_2 (by decide +kernel : kd_ 121 176 = ((2, 2, 0, []), 177)) rfl).trans ?_
  rfl
theorem b_M_sign_177 {L : Nat} {f : cg_G} {e : Nat × Nat} {x1 x2 x3 x4 x5 x6 x7 y0 y1 : Int32} {a0 : Nat} {u8 : Value} : cj_res 121 177 [.ref a0, .int x1, .int x2, .int x3, .int x4, .int x5, .int x6, .int x7, u8] [.int y0, .int y1] (cg_M L f e) = if x6 = 0 then cj_res 121 195 [.ref a0, .int x1, .int x2, .int x3, .int x4, .int x5, .int x6, .int x7, .int (y1 + y0)] [] (cg_M L f e) else cj_res 121 185 [.ref a0, .int x1, .int x2, .int x3, .int x4, .int x5, .int x6, .int x7, .int (y1 + y0)] [] (cg_M L f e) := by
  refine (g_10 (by decide +kernel : kd_ 121 177 = ((10, 0, 0, []), 178))).trans ?_
  refine (g_4 (ls' := [.ref a0, .int x1, .int x2, .int x3, .int x4, .int x5, .int x6, .int x7, .int (y1 + y0)]) (by decide +kernel : kd_ 121 178 = ((4, 8, 0, []), 180)) rfl rfl).trans ?_
  refine (g_2 (by decide +kernel : kd_ 121 180 = ((2, 6, 0, []), 182)) rfl).trans ?_
  exact g_31 (by decide +kernel : kd_ 121 182 = ((31, 195, 0, []), 185))
theorem b_M_sign_185 {L : Nat} {f : cg_G} {e : Nat × Nat} {x1 x2 x3 x4 x5 x6 x7 x8 : Int32} {a0 : Nat} (h1 : sh_ a0 = 7) (h2 : cg_in x5 16): cj_res 121 185 [.ref a0, .int x1, .int x2, .int x3, .int x4, .int x5, .int x6, .int x7, .int x8] [] (cg_M L f e) = cj_res 121 231 [.ref a0, .int x1, .int x2, .int x3, .int x4, .int x5, .int x6, .int x7, .int x8] [.int (f (a0 + 19) x5.toNatClampNeg)] (cg_M L f e) := by
  refine (g_3 (by decide +kernel : kd_ 121 185 = ((3, 0, 0, []), 186)) rfl).trans ?_
  refine (g_50 (v := .ref (a0 + 19)) (by decide +kernel : kd_ 121 186 = ((50, 7, 28, []), 189)) h1 rfl).trans ?_
  refine (g_2 (by decide +kernel : kd_ 121 189 = ((2, 5, 0, []), 191)) rfl).trans ?_
  refine (g_54 (v := .int (f (a0 + 19) x5.toNatClampNeg)) (by decide +kernel : kd_ 121 191 = ((54, 0, 0, []), 192)) (sc_7_28 h1) rfl (by rw [sl_7_28 h1]; exact h2) rfl).trans ?_
  refine (g_30 (by decide +kernel : kd_ 121 192 = ((30, 231, 0, []), 195))).trans ?_
  rfl
theorem b_M_sign_195 {L : Nat} {f : cg_G} {e : Nat × Nat} {x1 x2 x3 x4 x5 x6 x7 x8 : Int32} {a0 : Nat} : cj_res 121 195 [.ref a0, .int x1, .int x2, .int x3, .int x4, .int x5, .int x6, .int x7, .int x8] [] (cg_M L f e) = if x3 = (- nI 1) then cj_res 121 200 [.ref a0, .int x1, .int x2, .int x3, .int x4, .int x5, .int x6, .int x7, .int x8] [] (cg_M L f e) else cj_res 121 210 [.ref a0, .int x1, .int x2, .int x3, .int x4, .int x5, .int x6, .int x7, .int x8] [] (cg_M L f e) := by
  refine (g_2 (by decide +kernel : kd_ 121 195 = ((2, 3, 0, []), 196)) rfl).trans ?_
  refine (g_1 (by decide +kernel : kd_ 121 196 = ((1, 1, 0, []), 197))).trans ?_
  exact g_38 (by decide +kernel : kd_ 121 197 = ((38, 210, 0, []), 200))
theorem b_M_sign_200 {L : Nat} {f : cg_G} {e : Nat × Nat} {x1 x2 x3 x4 x5 x6 x7 x8 : Int32} {a0 : Nat} (h1 : sh_ a0 = 7) (h2 : cg_in x8 1792): cj_res 121 200 [.ref a0, .int x1, .int x2, .int x3, .int x4, .int x5, .int x6, .int x7, .int x8] [] (cg_M L f e) = cj_res 121 231 [.ref a0, .int x1, .int x2, .int x3, .int x4, .int x5, .int x6, .int x7, .int x8] [.int (f (a0 + 21) x8.toNatClampNeg)] (cg_M L f e) := by
  refine (g_3 (by decide +kernel : kd_ 121 200 = ((3, 0, 0, []), 201)) rfl).trans ?_
  refine (g_50 (v := .ref (a0 + 21)) (by decide +kernel : kd_ 121 201 = ((50, 7, 30, []), 204)) h1 rfl).trans ?_
  refine (g_2 (by decide +kernel : kd_ 121 204 = ((2, 8, 0, []), 206)) rfl).trans ?_
  refine (g_54 (v := .int (f (a0 + 21) x8.toNatClampNeg)) (by decide +kernel : kd_ 121 206 = ((54, 0, 0, []), 207)) (sc_7_30 h1) rfl (by rw [sl_7_30 h1]; exact h2) rfl).trans ?_
  refine (g_30 (by decide +kernel : kd_ 121 207 = ((30, 231, 0, []), 210))).trans ?_
  rfl
theorem b_M_sign_210 {L : Nat} {f : cg_G} {e : Nat × Nat} {x1 x2 x3 x4 x5 x6 x7 x8 : Int32} {a0 : Nat} (h1 : sh_ a0 = 7) (h2 : cg_in x8 1792) (h3 : cg_in ((((nI 240) * x5) + (f (a0 + 20) x8.toNatClampNeg)) + x3) 3840): cj_res 121 210 [.ref a0, .int x1, .int x2, .int x3, .int x4, .int x5, .int x6, .int x7, .int x8] [] (cg_M L f e) = cj_res 121 231 [.ref a0, .int x1, .int x2, .int x3, .int x4, .int x5, .int x6, .int x7, .int x8] [.int (f (a0 + 22) ((((nI 240) * x5) + (f (a0 + 20) x8.toNatClampNeg)) + x3).toNatClampNeg)] (cg_M L f e) := by
  refine (g_3 (by decide +kernel : kd_ 121 210 = ((3, 0, 0, []), 211)) rfl).trans ?_
  refine (g_50 (v := .ref (a0 + 22)) (by decide +kernel : kd_ 121 211 = ((50, 7, 31, []), 214)) h1 rfl).trans ?_
  refine (g_0 (by decide +kernel : kd_ 121 214 = ((0, 240, 0, []), 217))).trans ?_
  refine (g_2 (by decide +kernel : kd_ 121 217 = ((2, 5, 0, []), 219)) rfl).trans ?_
  refine (g_12 (by decide +kernel : kd_ 121 219 = ((12, 0, 0, []), 220))).trans ?_
  refine (g_3 (by decide +kernel : kd_ 121 220 = ((3, 0, 0, []), 221)) rfl).trans ?_
  refine (g_50 (v := .ref (a0 + 20)) (by decide +kernel : kd_ 121 221 = ((50, 7, 29, []), 224)) h1 rfl).trans ?_
  refine (g_2 (by decide +kernel : kd_ 121 224 = ((2, 8, 0, []), 226)) rfl).trans ?_
  refine (g_54 (v := .int (f (a0 + 20) x8.toNatClampNeg)) (by decide +kernel : kd_ 121 226 = ((54, 0, 0, []), 227)) (sc_7_29 h1) rfl (by rw [sl_7_29 h1]; exact h2) rfl).trans ?_
  refine (g_10 (by decide +kernel : kd_ 121 227 = ((10, 0, 0, []), 228))).trans ?_
  refine (g_2 (by decide +kernel : kd_ 121 228 = ((2, 3, 0, []), 229)) rfl).trans ?_
  refine (g_10 (by decide +kernel : kd_ 121 229 = ((10, 0, 0, []), 230))).trans ?_
  refine (g_54 (v := .int (f (a0 + 22) ((((nI 240) * x5) + (f (a0 + 20) x8.toNatClampNeg)) + x3).toNatClampNeg)) (by decide +kernel : kd_ 121 230 = ((54, 0, 0, []), 231)) (sc_7_31 h1) rfl (by rw [sl_7_31 h1]; exact h3) rfl).trans ?_
  rfl
theorem b_M_sign_231 {L : Nat} {f : cg_G} {e : Nat × Nat} {x1 x2 x3 x4 x5 x6 x7 x8 y0 : Int32} {a0 : Nat} : cj_res 121 231 [.ref a0, .int x1, .int x2, .int x3, .int x4, .int x5, .int x6, .int x7, .int x8] [.int y0] (cg_M L f e) = some (.inl (some (.int y0)), cg_M L f e) := by
  exact g_90 (by decide +kernel : kd_ 121 231 = ((90, 0, 0, []), 232))
