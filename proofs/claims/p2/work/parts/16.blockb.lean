theorem b_M_take_0 {L : Nat} {f : cg_G} {e : Nat × Nat} {x1 : Int32} {a0 : Nat} {u2 : Value} : cj_res 55 0 [.ref a0, .int x1, u2] [] (cg_M L f e) = cj_res 55 2 [.ref a0, .int x1, .int (nI 0)] [] (cg_M L f e) := by
  refine (g_0 (by decide +kernel : kd_ 55 0 = ((0, 0, 0, []), 1))).trans ?_
  refine (g_4 (ls' := [.ref a0, .int x1, .int (nI 0)]) (by decide +kernel : kd_ 55 1 = ((4, 2, 0, []), 2)) rfl rfl).trans ?_
  rfl
theorem b_M_take_2 {L : Nat} {f : cg_G} {e : Nat × Nat} {x1 x2 : Int32} {a0 : Nat} : cj_res 55 2 [.ref a0, .int x1, .int x2] [] (cg_M L f e) = if (nI 4) ≤ x2 then cj_res 55 55 [.ref a0, .int x1, .int x2] [] (cg_M L f e) else cj_res 55 7 [.ref a0, .int x1, .int x2] [] (cg_M L f e) := by
  refine (g_2 (by decide +kernel : kd_ 55 2 = ((2, 2, 0, []), 3)) rfl).trans ?_
  refine (g_0 (by decide +kernel : kd_ 55 3 = ((0, 4, 0, []), 4))).trans ?_
  exact g_40 (by decide +kernel : kd_ 55 4 = ((40, 55, 0, []), 7))
theorem b_M_take_7 {L : Nat} {f : cg_G} {e : Nat × Nat} {x1 x2 : Int32} {a0 : Nat} : cj_res 55 7 [.ref a0, .int x1, .int x2] [] (cg_M L f e) = if (((x1.toUInt32 >>> (((nI 8) * x2).toUInt32 &&& Int32.toUInt32 31)).toInt32) &&& (nI 255)) = 0 then cj_res 55 49 [.ref a0, .int x1, .int x2] [] (cg_M L f e) else cj_res 55 20 [.ref a0, .int x1, .int x2] [] (cg_M L f e) := by
  refine (g_2 (by decide +kernel : kd_ 55 7 = ((2, 1, 0, []), 8)) rfl).trans ?_
  refine (g_0 (by decide +kernel : kd_ 55 8 = ((0, 8, 0, []), 10))).trans ?_
  refine (g_2 (by decide +kernel : kd_ 55 10 = ((2, 2, 0, []), 11)) rfl).trans ?_
  refine (g_12 (by decide +kernel : kd_ 55 11 = ((12, 0, 0, []), 12))).trans ?_
  refine (g_18 (by decide +kernel : kd_ 55 12 = ((18, 0, 0, []), 13))).trans ?_
  refine (g_0 (by decide +kernel : kd_ 55 13 = ((0, 255, 0, []), 16))).trans ?_
  refine (g_19 (by decide +kernel : kd_ 55 16 = ((19, 0, 0, []), 17))).trans ?_
  exact g_31 (by decide +kernel : kd_ 55 17 = ((31, 49, 0, []), 20))
theorem b_M_take_20 {L : Nat} {f : cg_G} {e : Nat × Nat} {x1 x2 : Int32} {a0 : Nat} (h1 : sh_ a0 = 7) (h2 : cg_in (f a0 3) 32): cj_res 55 20 [.ref a0, .int x1, .int x2] [] (cg_M L f e) = cj_res 55 49 [.ref a0, .int x1, .int x2] [] (cg_M L (cg_up (cg_up f (a0 + 1) (f a0 3).toNatClampNeg (((x1.toUInt32 >>> (((nI 8) * x2).toUInt32 &&& Int32.toUInt32 31)).toInt32) &&& (nI 255))) a0 3 (((cg_up f (a0 + 1) (f a0 3).toNatClampNeg (((x1.toUInt32 >>> (((nI 8) * x2).toUInt32 &&& Int32.toUInt32 31)).toInt32) &&& (nI 255))) a0 3) + (nI 1))) e) := by
  refine (g_3 (by decide +kernel : kd_ 55 20 = ((3, 0, 0, []), 21)) rfl).trans ?_
  refine (g_50 (v := .ref (a0 + 1)) (by decide +kernel : kd_ 55 21 = ((50, 7, 4, []), 24)) h1 rfl).trans ?_
  refine (g_3 (by decide +kernel : kd_ 55 24 = ((3, 0, 0, []), 25)) rfl).trans ?_
  refine (g_50 (v := .int (f a0 3)) (by decide +kernel : kd_ 55 25 = ((50, 7, 3, []), 28)) h1 rfl).trans ?_
  refine (g_2 (by decide +kernel : kd_ 55 28 = ((2, 1, 0, []), 29)) rfl).trans ?_
  refine (g_0 (by decide +kernel : kd_ 55 29 = ((0, 8, 0, []), 31))).trans ?_
  refine (g_2 (by decide +kernel : kd_ 55 31 = ((2, 2, 0, []), 32)) rfl).trans ?_
  refine (g_12 (by decide +kernel : kd_ 55 32 = ((12, 0, 0, []), 33))).trans ?_
  refine (g_18 (by decide +kernel : kd_ 55 33 = ((18, 0, 0, []), 34))).trans ?_
  refine (g_0 (by decide +kernel : kd_ 55 34 = ((0, 255, 0, []), 37))).trans ?_
  refine (g_19 (by decide +kernel : kd_ 55 37 = ((19, 0, 0, []), 38))).trans ?_
  refine (g_56 (by decide +kernel : kd_ 55 38 = ((56, 0, 0, []), 39)) (sc_7_4 h1) (fun _ => rfl) (by rw [sl_7_4 h1]; exact h2) (by omega)).trans ?_
  refine (g_3 (by decide +kernel : kd_ 55 39 = ((3, 0, 0, []), 40)) rfl).trans ?_
  refine (g_25 (by decide +kernel : kd_ 55 40 = ((25, 0, 0, []), 41)) rfl).trans ?_
  refine (g_50 (v := .int ((cg_up f (a0 + 1) (f a0 3).toNatClampNeg (((x1.toUInt32 >>> (((nI 8) * x2).toUInt32 &&& Int32.toUInt32 31)).toInt32) &&& (nI 255))) a0 3)) (by decide +kernel : kd_ 55 41 = ((50, 7, 3, []), 44)) h1 rfl).trans ?_
  refine (g_0 (by decide +kernel : kd_ 55 44 = ((0, 1, 0, []), 45))).trans ?_
  refine (g_10 (by decide +kernel : kd_ 55 45 = ((10, 0, 0, []), 46))).trans ?_
  refine (g_51 (x := ((cg_up f (a0 + 1) (f a0 3).toNatClampNeg (((x1.toUInt32 >>> (((nI 8) * x2).toUInt32 &&& Int32.toUInt32 31)).toInt32) &&& (nI 255))) a0 3) + (nI 1)) (v := .int (((cg_up f (a0 + 1) (f a0 3).toNatClampNeg (((x1.toUInt32 >>> (((nI 8) * x2).toUInt32 &&& Int32.toUInt32 31)).toInt32) &&& (nI 255))) a0 3) + (nI 1))) (by decide +kernel : kd_ 55 46 = ((51, 7, 3, [0]), 49)) h1 rfl rfl rfl (sz_7 h1) rfl).trans ?_
  rfl
theorem b_M_take_49 {L : Nat} {f : cg_G} {e : Nat × Nat} {x1 x2 : Int32} {a0 : Nat} : cj_res 55 49 [.ref a0, .int x1, .int x2] [] (cg_M L f e) = cj_res 55 2 [.ref a0, .int x1, .int (x2 + nI 1)] [] (cg_M L f e) := by
  refine (g_6 (ls' := [.ref a0, .int x1, .int (x2 + nI 1)]) (by decide +kernel : kd_ 55 49 = ((6, 2, 1, []), 52)) rfl rfl).trans ?_
  refine (g_30 (by decide +kernel : kd_ 55 52 = ((30, 2, 0, []), 55))).trans ?_
  rfl
theorem b_M_take_55 {L : Nat} {f : cg_G} {e : Nat × Nat} {x1 x2 : Int32} {a0 : Nat} : cj_res 55 55 [.ref a0, .int x1, .int x2] [] (cg_M L f e) = some (.inl none, cg_M L f e) := by
  exact g_91 (by decide +kernel : kd_ 55 55 = ((91, 0, 0, []), 56))
theorem b_M_thrown_0 {L : Nat} {f : cg_G} {e : Nat × Nat} {a0 : Nat} (h1 : sh_ a0 = 7): cj_res 56 0 [.ref a0] [] (cg_M L f e) = some (.inl (some (.int (f a0 2))), cg_M L f e) := by
  refine (g_3 (by decide +kernel : kd_ 56 0 = ((3, 0, 0, []), 1)) rfl).trans ?_
  refine (g_50 (v := .int (f a0 2)) (by decide +kernel : kd_ 56 1 = ((50, 7, 2, []), 4)) h1 rfl).trans ?_
  exact g_90 (by decide +kernel : kd_ 56 4 = ((90, 0, 0, []), 5))
theorem b_C_about_0 {L : Nat} {f : cg_G} {e : Nat × Nat} {x1 : Int32} {a0 : Nat} : cj_res 57 0 [.ref a0, .int x1] [] (cg_M L f e) = if x1 < 0 then cj_res 57 9 [.ref a0, .int x1] [] (cg_M L f e) else cj_res 57 4 [.ref a0, .int x1] [] (cg_M L f e) := by
  refine (g_2 (by decide +kernel : kd_ 57 0 = ((2, 1, 0, []), 1)) rfl).trans ?_
  exact g_33 (by decide +kernel : kd_ 57 1 = ((33, 9, 0, []), 4))
theorem b_C_about_4 {L : Nat} {f : cg_G} {e : Nat × Nat} {x1 : Int32} {a0 : Nat} : cj_res 57 4 [.ref a0, .int x1] [] (cg_M L f e) = if x1 ≤ (nI 4) then cj_res 57 19 [.ref a0, .int x1] [] (cg_M L f e) else cj_res 57 9 [.ref a0, .int x1] [] (cg_M L f e) := by
  refine (g_2 (by decide +kernel : kd_ 57 4 = ((2, 1, 0, []), 5)) rfl).trans ?_
  refine (g_0 (by decide +kernel : kd_ 57 5 = ((0, 4, 0, []), 6))).trans ?_
  exact g_42 (by decide +kernel : kd_ 57 6 = ((42, 19, 0, []), 9))
theorem b_C_about_9 {L : Nat} {f : cg_G} {e : Nat × Nat} {x1 : Int32} {a0 : Nat} : cj_res 57 9 [.ref a0, .int x1] [] (cg_M L f e) = some (.inr 2, cj_pay (cg_M L f e) 1 6) := by
  exact g_95 (by decide +kernel : kd_ 57 9 = ((95, 2, 0, []), 12))
theorem b_C_about_19 {L : Nat} {f : cg_G} {e : Nat × Nat} {x1 : Int32} {a0 : Nat} (h1 : sh_ a0 = 0): cj_res 57 19 [.ref a0, .int x1] [] (cg_M L f e) = if (f a0 8) = 0 then cj_res 57 26 [.ref a0, .int x1] [] (cg_M L f e) else cj_res 57 36 [.ref a0, .int x1] [] (cg_M L f e) := by
  refine (g_3 (by decide +kernel : kd_ 57 19 = ((3, 0, 0, []), 20)) rfl).trans ?_
  refine (g_50 (v := .int (f a0 8)) (by decide +kernel : kd_ 57 20 = ((50, 0, 8, []), 23)) h1 rfl).trans ?_
  exact g_32 (by decide +kernel : kd_ 57 23 = ((32, 36, 0, []), 26))
theorem b_C_about_26 {L : Nat} {f : cg_G} {e : Nat × Nat} {x1 : Int32} {a0 : Nat} : cj_res 57 26 [.ref a0, .int x1] [] (cg_M L f e) = some (.inr 0, cj_pay (cg_M L f e) 1 6) := by
  exact g_95 (by decide +kernel : kd_ 57 26 = ((95, 0, 0, []), 29))
theorem b_C_about_36 {L : Nat} {f : cg_G} {e : Nat × Nat} {x1 : Int32} {a0 : Nat} (h1 : sh_ a0 = 0) (h2 : sh_ ((f a0 9).toNatClampNeg) = 5): cj_res 57 36 [.ref a0, .int x1] [] (cg_M L f e) = cj_aft 57 41 44 [.ref a0, .int x1] [] (cj_ev 27 [.ref (f a0 9).toNatClampNeg, .int x1] (cg_M L f e)) := by
  refine (g_3 (by decide +kernel : kd_ 57 36 = ((3, 0, 0, []), 37)) rfl).trans ?_
  refine (g_50 (v := .ref (f a0 9).toNatClampNeg) (by decide +kernel : kd_ 57 37 = ((50, 0, 9, []), 40)) h1 rfl).trans ?_
  refine (g_2 (by decide +kernel : kd_ 57 40 = ((2, 1, 0, []), 41)) rfl).trans ?_
  exact g_80 (by decide +kernel : kd_ 57 41 = ((80, 27, 2, [5]), 44)) rfl h2 rfl rfl rfl
theorem b_C_about_44 {L : Nat} {f : cg_G} {e : Nat × Nat} {x1 y0 : Int32} {a0 : Nat} : cj_res 57 44 [.ref a0, .int x1] [.int y0] (cg_M L f e) = some (.inl (some (.int y0)), cg_M L f e) := by
  exact g_90 (by decide +kernel : kd_ 57 44 = ((90, 0, 0, []), 45))
theorem b_C_addSignsOf_0 {L : Nat} {f : cg_G} {e : Nat × Nat} {x1 : Int32} {a0 : Nat} {u2 u3 : Value} : cj_res 58 0 [.ref a0, .int x1, u2, u3] [] (cg_M L f e) = cj_res 58 2 [.ref a0, .int x1, .int (nI 0), u3] [] (cg_M L f e) := by
  refine (g_0 (by decide +kernel : kd_ 58 0 = ((0, 0, 0, []), 1))).trans ?_
  refine (g_4 (ls' := [.ref a0, .int x1, .int (nI 0), u3]) (by decide +kernel : kd_ 58 1 = ((4, 2, 0, []), 2)) rfl rfl).trans ?_
  rfl
theorem b_C_addSignsOf_2 {L : Nat} {f : cg_G} {e : Nat × Nat} {x1 x2 : Int32} {a0 : Nat} {u3 : Value} : cj_res 58 2 [.ref a0, .int x1, .int x2, u3] [] (cg_M L f e) = if (nI 4) ≤ x2 then cj_res 58 31 [.ref a0, .int x1, .int x2, u3] [] (cg_M L f e) else cj_res 58 7 [.ref a0, .int x1, .int x2, u3] [] (cg_M L f e) := by
  refine (g_2 (by decide +kernel : kd_ 58 2 = ((2, 2, 0, []), 3)) rfl).trans ?_
  refine (g_0 (by decide +kernel : kd_ 58 3 = ((0, 4, 0, []), 4))).trans ?_
  exact g_40 (by decide +kernel : kd_ 58 4 = ((40, 31, 0, []), 7))
theorem b_C_addSignsOf_7 {L : Nat} {f : cg_G} {e : Nat × Nat} {x1 x2 : Int32} {a0 : Nat} {u3 : Value} : cj_res 58 7 [.ref a0, .int x1, .int x2, u3] [] (cg_M L f e) = cj_aft 58 9 12 [.ref a0, .int x1, .int x2, u3] [] (cj_ev 0 [.int x1, .int x2] (cg_M L f e)) := by
  refine (g_2 (by decide +kernel : kd_ 58 7 = ((2, 1, 0, []), 8)) rfl).trans ?_
  refine (g_2 (by decide +kernel : kd_ 58 8 = ((2, 2, 0, []), 9)) rfl).trans ?_
  exact g_81 (by decide +kernel : kd_ 58 9 = ((81, 0, 2, []), 12)) rfl rfl rfl
theorem b_C_addSignsOf_12 {L : Nat} {f : cg_G} {e : Nat × Nat} {x1 x2 y0 : Int32} {a0 : Nat} {u3 : Value} : cj_res 58 12 [.ref a0, .int x1, .int x2, u3] [.int y0] (cg_M L f e) = if y0 = 0 then cj_res 58 25 [.ref a0, .int x1, .int x2, .int y0] [] (cg_M L f e) else cj_res 58 17 [.ref a0, .int x1, .int x2, .int y0] [] (cg_M L f e) := by
  refine (g_4 (ls' := [.ref a0, .int x1, .int x2, .int y0]) (by decide +kernel : kd_ 58 12 = ((4, 3, 0, []), 13)) rfl rfl).trans ?_
  refine (g_2 (by decide +kernel : kd_ 58 13 = ((2, 3, 0, []), 14)) rfl).trans ?_
  exact g_31 (by decide +kernel : kd_ 58 14 = ((31, 25, 0, []), 17))
theorem b_C_addSignsOf_17 {L : Nat} {f : cg_G} {e : Nat × Nat} {x1 x2 x3 : Int32} {a0 : Nat} (h1 : sh_ a0 = 0): cj_res 58 17 [.ref a0, .int x1, .int x2, .int x3] [] (cg_M L f e) = cj_aft 58 22 25 [.ref a0, .int x1, .int x2, .int x3] [] (cj_ev 35 [.ref (a0 + 1), .int x3] (cg_M L f e)) := by
  refine (g_3 (by decide +kernel : kd_ 58 17 = ((3, 0, 0, []), 18)) rfl).trans ?_
  refine (g_50 (v := .ref (a0 + 1)) (by decide +kernel : kd_ 58 18 = ((50, 0, 1, []), 21)) h1 rfl).trans ?_
  refine (g_2 (by decide +kernel : kd_ 58 21 = ((2, 3, 0, []), 22)) rfl).trans ?_
  exact g_80 (by decide +kernel : kd_ 58 22 = ((80, 35, 2, [6]), 25)) rfl (sc_0_1 h1) rfl rfl rfl
theorem b_C_addSignsOf_25 {L : Nat} {f : cg_G} {e : Nat × Nat} {x1 x2 x3 : Int32} {a0 : Nat} : cj_res 58 25 [.ref a0, .int x1, .int x2, .int x3] [] (cg_M L f e) = cj_res 58 2 [.ref a0, .int x1, .int (x2 + nI 1), .int x3] [] (cg_M L f e) := by
  refine (g_6 (ls' := [.ref a0, .int x1, .int (x2 + nI 1), .int x3]) (by decide +kernel : kd_ 58 25 = ((6, 2, 1, []), 28)) rfl rfl).trans ?_
  refine (g_30 (by decide +kernel : kd_ 58 28 = ((30, 2, 0, []), 31))).trans ?_
  rfl
theorem b_C_addSignsOf_31 {L : Nat} {f : cg_G} {e : Nat × Nat} {x1 x2 : Int32} {a0 : Nat} {u3 : Value} : cj_res 58 31 [.ref a0, .int x1, .int x2, u3] [] (cg_M L f e) = some (.inl none, cg_M L f e) := by
  exact g_91 (by decide +kernel : kd_ 58 31 = ((91, 0, 0, []), 32))
theorem b_C_claim_0 {L : Nat} {f : cg_G} {e : Nat × Nat} {x1 x2 x3 : Int32} {a0 : Nat} (h1 : sh_ a0 = 0): cj_res 59 0 [.ref a0, .int x1, .int x2, .int x3] [] (cg_M L f e) = cj_aft 59 2 5 [.ref a0, .int x1, .int x2, .int x3] [] (cj_ev 1 [.ref a0, .int x1] (cg_M L f e)) := by
  refine (g_3 (by decide +kernel : kd_ 59 0 = ((3, 0, 0, []), 1)) rfl).trans ?_
  refine (g_2 (by decide +kernel : kd_ 59 1 = ((2, 1, 0, []), 2)) rfl).trans ?_
  exact g_80 (by decide +kernel : kd_ 59 2 = ((80, 1, 2, [0]), 5)) rfl h1 rfl rfl rfl
theorem b_C_claim_5 {L : Nat} {f : cg_G} {e : Nat × Nat} {x1 x2 x3 y0 : Int32} {a0 : Nat} : cj_res 59 5 [.ref a0, .int x1, .int x2, .int x3] [.int y0] (cg_M L f e) = if y0 = 0 then cj_res 59 17 [.ref a0, .int x1, .int x2, .int x3] [] (cg_M L f e) else cj_res 59 8 [.ref a0, .int x1, .int x2, .int x3] [] (cg_M L f e) := by
  exact g_31 (by decide +kernel : kd_ 59 5 = ((31, 17, 0, []), 8))
theorem b_C_claim_8 {L : Nat} {f : cg_G} {e : Nat × Nat} {x1 x2 x3 : Int32} {a0 : Nat} : cj_res 59 8 [.ref a0, .int x1, .int x2, .int x3] [] (cg_M L f e) = if x2 < 0 then cj_res 59 17 [.ref a0, .int x1, .int x2, .int x3] [] (cg_M L f e) else cj_res 59 12 [.ref a0, .int x1, .int x2, .int x3] [] (cg_M L f e) := by
  refine (g_2 (by decide +kernel : kd_ 59 8 = ((2, 2, 0, []), 9)) rfl).trans ?_
  exact g_33 (by decide +kernel : kd_ 59 9 = ((33, 17, 0, []), 12))
theorem b_C_claim_12 {L : Nat} {f : cg_G} {e : Nat × Nat} {x1 x2 x3 : Int32} {a0 : Nat} : cj_res 59 12 [.ref a0, .int x1, .int x2, .int x3] [] (cg_M L f e) = if x2 < (nI 4) then cj_res 59 27 [.ref a0, .int x1, .int x2, .int x3] [] (cg_M L f e) else cj_res 59 17 [.ref a0, .int x1, .int x2, .int x3] [] (cg_M L f e) := by
  refine (g_2 (by decide +kernel : kd_ 59 12 = ((2, 2, 0, []), 13)) rfl).trans ?_
  refine (g_0 (by decide +kernel : kd_ 59 13 = ((0, 4, 0, []), 14))).trans ?_
  exact g_39 (by decide +kernel : kd_ 59 14 = ((39, 27, 0, []), 17))
theorem b_C_claim_17 {L : Nat} {f : cg_G} {e : Nat × Nat} {x1 x2 x3 : Int32} {a0 : Nat} : cj_res 59 17 [.ref a0, .int x1, .int x2, .int x3] [] (cg_M L f e) = some (.inr 2, cj_pay (cg_M L f e) 1 6) := by
  exact g_95 (by decide +kernel : kd_ 59 17 = ((95, 2, 0, []), 20))
theorem b_C_claim_27 {L : Nat} {f : cg_G} {e : Nat × Nat} {x1 x2 x3 : Int32} {a0 : Nat} : cj_res 59 27 [.ref a0, .int x1, .int x2, .int x3] [] (cg_M L f e) = if x3 = (- nI 1) then cj_res 59 51 [.ref a0, .int x1, .int x2, .int x3] [] (cg_M L f e) else cj_res 59 32 [.ref a0, .int x1, .int x2, .int x3] [] (cg_M L f e) := by
  refine (g_2 (by decide +kernel : kd_ 59 27 = ((2, 3, 0, []), 28)) rfl).trans ?_
  refine (g_1 (by decide +kernel : kd_ 59 28 = ((1, 1, 0, []), 29))).trans ?_
  exact g_37 (by decide +kernel : kd_ 59 29 = ((37, 51, 0, []), 32))
theorem b_C_claim_32 {L : Nat} {f : cg_G} {e : Nat × Nat} {x1 x2 x3 : Int32} {a0 : Nat} : cj_res 59 32 [.ref a0, .int x1, .int x2, .int x3] [] (cg_M L f e) = if x3 = 0 then cj_res 59 51 [.ref a0, .int x1, .int x2, .int x3] [] (cg_M L f e) else cj_res 59 36 [.ref a0, .int x1, .int x2, .int x3] [] (cg_M L f e) := by
  refine (g_2 (by decide +kernel : kd_ 59 32 = ((2, 3, 0, []), 33)) rfl).trans ?_
  exact g_31 (by decide +kernel : kd_ 59 33 = ((31, 51, 0, []), 36))
theorem b_C_claim_36 {L : Nat} {f : cg_G} {e : Nat × Nat} {x1 x2 x3 : Int32} {a0 : Nat} : cj_res 59 36 [.ref a0, .int x1, .int x2, .int x3] [] (cg_M L f e) = if x3 = (nI 1) then cj_res 59 51 [.ref a0, .int x1, .int x2, .int x3] [] (cg_M L f e) else cj_res 59 41 [.ref a0, .int x1, .int x2, .int x3] [] (cg_M L f e) := by
  refine (g_2 (by decide +kernel : kd_ 59 36 = ((2, 3, 0, []), 37)) rfl).trans ?_
  refine (g_0 (by decide +kernel : kd_ 59 37 = ((0, 1, 0, []), 38))).trans ?_
  exact g_37 (by decide +kernel : kd_ 59 38 = ((37, 51, 0, []), 41))
theorem b_C_claim_41 {L : Nat} {f : cg_G} {e : Nat × Nat} {x1 x2 x3 : Int32} {a0 : Nat} : cj_res 59 41 [.ref a0, .int x1, .int x2, .int x3] [] (cg_M L f e) = some (.inr 1, cj_pay (cg_M L f e) 1 6) := by
  exact g_95 (by decide +kernel : kd_ 59 41 = ((95, 1, 0, []), 44))
theorem b_C_claim_51 {L : Nat} {f : cg_G} {e : Nat × Nat} {x1 x2 x3 : Int32} {a0 : Nat} (h1 : sh_ a0 = 0) (h2 : cg_in x1 8): cj_res 59 51 [.ref a0, .int x1, .int x2, .int x3] [] (cg_M L f e) = cj_aft 59 59 62 [.ref a0, .int x1, .int x2, .int x3] [] (cj_ev 13 [.ref ((a0 + 18) + 1 + 13 * x1.toNatClampNeg), .int x2, .int x3] (cg_M L f e)) := by
  refine (g_3 (by decide +kernel : kd_ 59 51 = ((3, 0, 0, []), 52)) rfl).trans ?_
  refine (g_50 (v := .ref (a0 + 18)) (by decide +kernel : kd_ 59 52 = ((50, 0, 4, []), 55)) h1 rfl).trans ?_
  refine (g_2 (by decide +kernel : kd_ 59 55 = ((2, 1, 0, []), 56)) rfl).trans ?_
  refine (g_54 (v := .ref ((a0 + 18) + 1 + 13 * x1.toNatClampNeg)) (by decide +kernel : kd_ 59 56 = ((54, 4, 0, []), 57)) (sc_0_4 h1) rfl (by rw [sl_0_4 h1]; exact h2) (el_if (cg_in_lt h2))).trans ?_
  refine (g_2 (by decide +kernel : kd_ 59 57 = ((2, 2, 0, []), 58)) rfl).trans ?_
  refine (g_2 (by decide +kernel : kd_ 59 58 = ((2, 3, 0, []), 59)) rfl).trans ?_
  exact g_80 (by decide +kernel : kd_ 59 59 = ((80, 13, 3, [2]), 62)) rfl (sa_104 (sc_0_4 h1) (cg_in_lt h2)) rfl rfl rfl
theorem b_C_claim_62 {L : Nat} {f : cg_G} {e : Nat × Nat} {x1 x2 x3 y0 : Int32} {a0 : Nat} : cj_res 59 62 [.ref a0, .int x1, .int x2, .int x3] [.int y0] (cg_M L f e) = some (.inl (some (.int y0)), cg_M L f e) := by
  exact g_90 (by decide +kernel : kd_ 59 62 = ((90, 0, 0, []), 63))
theorem b_C_count_0 {L : Nat} {f : cg_G} {e : Nat × Nat} {x1 : Int32} {a0 : Nat} : cj_res 60 0 [.ref a0, .int x1] [] (cg_M L f e) = if x1 < 0 then cj_res 60 9 [.ref a0, .int x1] [] (cg_M L f e) else cj_res 60 4 [.ref a0, .int x1] [] (cg_M L f e) := by
  refine (g_2 (by decide +kernel : kd_ 60 0 = ((2, 1, 0, []), 1)) rfl).trans ?_
  exact g_33 (by decide +kernel : kd_ 60 1 = ((33, 9, 0, []), 4))
theorem b_C_count_4 {L : Nat} {f : cg_G} {e : Nat × Nat} {x1 : Int32} {a0 : Nat} : cj_res 60 4 [.ref a0, .int x1] [] (cg_M L f e) = if x1 ≤ (nI 2) then cj_res 60 19 [.ref a0, .int x1] [] (cg_M L f e) else cj_res 60 9 [.ref a0, .int x1] [] (cg_M L f e) := by
  refine (g_2 (by decide +kernel : kd_ 60 4 = ((2, 1, 0, []), 5)) rfl).trans ?_
  refine (g_0 (by decide +kernel : kd_ 60 5 = ((0, 2, 0, []), 6))).trans ?_
  exact g_42 (by decide +kernel : kd_ 60 6 = ((42, 19, 0, []), 9))
theorem b_C_count_9 {L : Nat} {f : cg_G} {e : Nat × Nat} {x1 : Int32} {a0 : Nat} : cj_res 60 9 [.ref a0, .int x1] [] (cg_M L f e) = some (.inr 2, cj_pay (cg_M L f e) 1 6) := by
  exact g_95 (by decide +kernel : kd_ 60 9 = ((95, 2, 0, []), 12))
theorem b_C_count_19 {L : Nat} {f : cg_G} {e : Nat × Nat} {x1 : Int32} {a0 : Nat} : cj_res 60 19 [.ref a0, .int x1] [] (cg_M L f e) = if x1 = 0 then cj_res 60 23 [.ref a0, .int x1] [] (cg_M L f e) else cj_res 60 31 [.ref a0, .int x1] [] (cg_M L f e) := by
  refine (g_2 (by decide +kernel : kd_ 60 19 = ((2, 1, 0, []), 20)) rfl).trans ?_
  exact g_32 (by decide +kernel : kd_ 60 20 = ((32, 31, 0, []), 23))
theorem b_C_count_23 {L : Nat} {f : cg_G} {e : Nat × Nat} {x1 : Int32} {a0 : Nat} (h1 : sh_ a0 = 0): cj_res 60 23 [.ref a0, .int x1] [] (cg_M L f e) = cj_aft 60 27 30 [.ref a0, .int x1] [] (cj_ev 39 [.ref (a0 + 1)] (cg_M L f e)) := by
  refine (g_3 (by decide +kernel : kd_ 60 23 = ((3, 0, 0, []), 24)) rfl).trans ?_
  refine (g_50 (v := .ref (a0 + 1)) (by decide +kernel : kd_ 60 24 = ((50, 0, 1, []), 27)) h1 rfl).trans ?_
  exact g_80 (by decide +kernel : kd_ 60 27 = ((80, 39, 1, [6]), 30)) rfl (sc_0_1 h1) rfl rfl rfl
theorem b_C_count_30 {L : Nat} {f : cg_G} {e : Nat × Nat} {x1 y0 : Int32} {a0 : Nat} : cj_res 60 30 [.ref a0, .int x1] [.int y0] (cg_M L f e) = some (.inl (some (.int y0)), cg_M L f e) := by
  exact g_90 (by decide +kernel : kd_ 60 30 = ((90, 0, 0, []), 31))
theorem b_C_count_31 {L : Nat} {f : cg_G} {e : Nat × Nat} {x1 : Int32} {a0 : Nat} : cj_res 60 31 [.ref a0, .int x1] [] (cg_M L f e) = if x1 = (nI 1) then cj_res 60 36 [.ref a0, .int x1] [] (cg_M L f e) else cj_res 60 43 [.ref a0, .int x1] [] (cg_M L f e) := by
  refine (g_2 (by decide +kernel : kd_ 60 31 = ((2, 1, 0, []), 32)) rfl).trans ?_
  refine (g_0 (by decide +kernel : kd_ 60 32 = ((0, 1, 0, []), 33))).trans ?_
  exact g_38 (by decide +kernel : kd_ 60 33 = ((38, 43, 0, []), 36))
theorem b_C_count_36 {L : Nat} {f : cg_G} {e : Nat × Nat} {x1 : Int32} {a0 : Nat} (h1 : sh_ a0 = 0): cj_res 60 36 [.ref a0, .int x1] [] (cg_M L f e) = cj_res 60 47 [.ref a0, .int x1] [.int (f a0 6)] (cg_M L f e) := by
  refine (g_3 (by decide +kernel : kd_ 60 36 = ((3, 0, 0, []), 37)) rfl).trans ?_
  refine (g_50 (v := .int (f a0 6)) (by decide +kernel : kd_ 60 37 = ((50, 0, 6, []), 40)) h1 rfl).trans ?_
  refine (g_30 (by decide +kernel : kd_ 60 40 = ((30, 47, 0, []), 43))).trans ?_
  rfl
theorem b_C_count_43 {L : Nat} {f : cg_G} {e : Nat × Nat} {x1 : Int32} {a0 : Nat} (h1 : sh_ a0 = 0): cj_res 60 43 [.ref a0, .int x1] [] (cg_M L f e) = cj_res 60 47 [.ref a0, .int x1] [.int (f a0 7)] (cg_M L f e) := by
  refine (g_3 (by decide +kernel : kd_ 60 43 = ((3, 0, 0, []), 44)) rfl).trans ?_
  refine (g_50 (v := .int (f a0 7)) (by decide +kernel : kd_ 60 44 = ((50, 0, 7, []), 47)) h1 rfl).trans ?_
  rfl
theorem b_C_count_47 {L : Nat} {f : cg_G} {e : Nat × Nat} {x1 y0 : Int32} {a0 : Nat} : cj_res 60 47 [.ref a0, .int x1] [.int y0] (cg_M L f e) = some (.inl (some (.int y0)), cg_M L f e) := by
  exact g_90 (by decide +kernel : kd_ 60 47 = ((90, 0, 0, []), 48))
theorem b_C_entry_0 {L : Nat} {f : cg_G} {e : Nat × Nat} {x1 : Int32} {a0 : Nat} : cj_res 61 0 [.ref a0, .int x1] [] (cg_M L f e) = if x1 < 0 then cj_res 61 12 [.ref a0, .int x1] [] (cg_M L f e) else cj_res 61 4 [.ref a0, .int x1] [] (cg_M L f e) := by
  refine (g_2 (by decide +kernel : kd_ 61 0 = ((2, 1, 0, []), 1)) rfl).trans ?_
  exact g_33 (by decide +kernel : kd_ 61 1 = ((33, 12, 0, []), 4))
theorem b_C_entry_4 {L : Nat} {f : cg_G} {e : Nat × Nat} {x1 : Int32} {a0 : Nat} (h1 : sh_ a0 = 0): cj_res 61 4 [.ref a0, .int x1] [] (cg_M L f e) = if x1 < (f a0 6) then cj_res 61 22 [.ref a0, .int x1] [] (cg_M L f e) else cj_res 61 12 [.ref a0, .int x1] [] (cg_M L f e) := by
  refine (g_2 (by decide +kernel : kd_ 61 4 = ((2, 1, 0, []), 5)) rfl).trans ?_
  refine (g_3 (by decide +kernel : kd_ 61 5 = ((3, 0, 0, []), 6)) rfl).trans ?_
  refine (g_50 (v := .int (f a0 6)) (by decide +kernel : kd_ 61 6 = ((50, 0, 6, []), 9)) h1 rfl).trans ?_
  exact g_39 (by decide +kernel : kd_ 61 9 = ((39, 22, 0, []), 12))
theorem b_C_entry_12 {L : Nat} {f : cg_G} {e : Nat × Nat} {x1 : Int32} {a0 : Nat} : cj_res 61 12 [.ref a0, .int x1] [] (cg_M L f e) = some (.inr 2, cj_pay (cg_M L f e) 1 6) := by
  exact g_95 (by decide +kernel : kd_ 61 12 = ((95, 2, 0, []), 15))
theorem b_C_entry_22 {L : Nat} {f : cg_G} {e : Nat × Nat} {x1 : Int32} {a0 : Nat} (h1 : sh_ a0 = 0): cj_res 61 22 [.ref a0, .int x1] [] (cg_M L f e) = if (f a0 7) < (nI 8) then cj_res 61 41 [.ref a0, .int x1] [] (cg_M L f e) else cj_res 61 31 [.ref a0, .int x1] [] (cg_M L f e) := by
  refine (g_3 (by decide +kernel : kd_ 61 22 = ((3, 0, 0, []), 23)) rfl).trans ?_
  refine (g_50 (v := .int (f a0 7)) (by decide +kernel : kd_ 61 23 = ((50, 0, 7, []), 26)) h1 rfl).trans ?_
  refine (g_0 (by decide +kernel : kd_ 61 26 = ((0, 8, 0, []), 28))).trans ?_
  exact g_39 (by decide +kernel : kd_ 61 28 = ((39, 41, 0, []), 31))
theorem b_C_entry_31 {L : Nat} {f : cg_G} {e : Nat × Nat} {x1 : Int32} {a0 : Nat} : cj_res 61 31 [.ref a0, .int x1] [] (cg_M L f e) = some (.inr 0, cj_pay (cg_M L f e) 1 6) := by
  exact g_95 (by decide +kernel : kd_ 61 31 = ((95, 0, 0, []), 34))
theorem b_C_entry_41 {L : Nat} {f : cg_G} {e : Nat × Nat} {x1 : Int32} {a0 : Nat} (h1 : sh_ a0 = 0) (h2 : cg_in (f a0 7) 8) (h3 : cg_in x1 6): cj_res 61 41 [.ref a0, .int x1] [] (cg_M L f e) = cj_aft 61 56 59 [.ref a0, .int x1] [] (cj_ev 15 [.ref ((a0 + 18) + 1 + 13 * (f a0 7).toNatClampNeg), .ref ((a0 + 5) + 1 + 2 * x1.toNatClampNeg)] (cg_M L f e)) := by
  refine (g_3 (by decide +kernel : kd_ 61 41 = ((3, 0, 0, []), 42)) rfl).trans ?_
  refine (g_50 (v := .ref (a0 + 18)) (by decide +kernel : kd_ 61 42 = ((50, 0, 4, []), 45)) h1 rfl).trans ?_
  refine (g_3 (by decide +kernel : kd_ 61 45 = ((3, 0, 0, []), 46)) rfl).trans ?_
  refine (g_50 (v := .int (f a0 7)) (by decide +kernel : kd_ 61 46 = ((50, 0, 7, []), 49)) h1 rfl).trans ?_
  refine (g_54 (v := .ref ((a0 + 18) + 1 + 13 * (f a0 7).toNatClampNeg)) (by decide +kernel : kd_ 61 49 = ((54, 4, 0, []), 50)) (sc_0_4 h1) rfl (by rw [sl_0_4 h1]; exact h2) (el_if (cg_in_lt h2))).trans ?_
  refine (g_3 (by decide +kernel : kd_ 61 50 = ((3, 0, 0, []), 51)) rfl).trans ?_
  refine (g_50 (v := .ref (a0 + 5)) (by decide +kernel : kd_ 61 51 = ((50, 0, 3, []), 54)) h1 rfl).trans ?_
  refine (g_2 (by decide +kernel : kd_ 61 54 = ((2, 1, 0, []), 55)) rfl).trans ?_
  refine (g_54 (v := .ref ((a0 + 5) + 1 + 2 * x1.toNatClampNeg)) (by decide +kernel : kd_ 61 55 = ((54, 3, 0, []), 56)) (sc_0_3 h1) rfl (by rw [sl_0_3 h1]; exact h3) (el_if (cg_in_lt h3))).trans ?_
  exact g_80 (by decide +kernel : kd_ 61 56 = ((80, 15, 2, [2]), 59)) rfl (sa_104 (sc_0_4 h1) (cg_in_lt h2)) rfl rfl rfl
theorem b_C_entry_59 {L : Nat} {f : cg_G} {e : Nat × Nat} {x1 : Int32} {a0 : Nat} (h1 : sh_ a0 = 0): cj_res 61 59 [.ref a0, .int x1] [] (cg_M L f e) = some (.inl (some (.int (((cg_up f a0 7 ((f a0 7) + (nI 1))) a0 7) - (nI 1)))), cg_M L (cg_up f a0 7 ((f a0 7) + (nI 1))) e) := by
  refine (g_3 (by decide +kernel : kd_ 61 59 = ((3, 0, 0, []), 60)) rfl).trans ?_
  refine (g_25 (by decide +kernel : kd_ 61 60 = ((25, 0, 0, []), 61)) rfl).trans ?_
  refine (g_50 (v := .int (f a0 7)) (by decide +kernel : kd_ 61 61 = ((50, 0, 7, []), 64)) h1 rfl).trans ?_
  refine (g_0 (by decide +kernel : kd_ 61 64 = ((0, 1, 0, []), 65))).trans ?_
  refine (g_10 (by decide +kernel : kd_ 61 65 = ((10, 0, 0, []), 66))).trans ?_
  refine (g_51 (x := (f a0 7) + (nI 1)) (v := .int ((f a0 7) + (nI 1))) (by decide +kernel : kd_ 61 66 = ((51, 0, 7, [0]), 69)) h1 rfl rfl rfl (sz_0 h1) rfl).trans ?_
  refine (g_3 (by decide +kernel : kd_ 61 69 = ((3, 0, 0, []), 70)) rfl).trans ?_
  refine (g_50 (v := .int ((cg_up f a0 7 ((f a0 7) + (nI 1))) a0 7)) (by decide +kernel : kd_ 61 70 = ((50, 0, 7, []), 73)) h1 rfl).trans ?_
  refine (g_0 (by decide +kernel : kd_ 61 73 = ((0, 1, 0, []), 74))).trans ?_
  refine (g_11 (by decide +kernel : kd_ 61 74 = ((11, 0, 0, []), 75))).trans ?_
  exact g_90 (by decide +kernel : kd_ 61 75 = ((90, 0, 0, []), 76))
theorem b_C_firstUnsourced_0 {L : Nat} {f : cg_G} {e : Nat × Nat} {a0 : Nat} {u1 : Value} : cj_res 62 0 [.ref a0, u1] [] (cg_M L f e) = cj_res 62 2 [.ref a0, .int (nI 0)] [] (cg_M L f e) := by
  refine (g_0 (by decide +kernel : kd_ 62 0 = ((0, 0, 0, []), 1))).trans ?_
  refine (g_4 (ls' := [.ref a0, .int (nI 0)]) (by decide +kernel : kd_ 62 1 = ((4, 1, 0, []), 2)) rfl rfl).trans ?_
  rfl
theorem b_C_firstUnsourced_2 {L : Nat} {f : cg_G} {e : Nat × Nat} {x1 : Int32} {a0 : Nat} (h1 : sh_ a0 = 0): cj_res 62 2 [.ref a0, .int x1] [] (cg_M L f e) = if (f a0 7) ≤ x1 then cj_res 62 30 [.ref a0, .int x1] [] (cg_M L f e) else cj_res 62 10 [.ref a0, .int x1] [] (cg_M L f e) := by
  refine (g_2 (by decide +kernel : kd_ 62 2 = ((2, 1, 0, []), 3)) rfl).trans ?_
  refine (g_3 (by decide +kernel : kd_ 62 3 = ((3, 0, 0, []), 4)) rfl).trans ?_
  refine (g_50 (v := .int (f a0 7)) (by decide +kernel : kd_ 62 4 = ((50, 0, 7, []), 7)) h1 rfl).trans ?_
  exact g_40 (by decide +kernel : kd_ 62 7 = ((40, 30, 0, []), 10))
theorem b_C_firstUnsourced_10 {L : Nat} {f : cg_G} {e : Nat × Nat} {x1 : Int32} {a0 : Nat} (h1 : sh_ a0 = 0) (h2 : cg_in x1 8): cj_res 62 10 [.ref a0, .int x1] [] (cg_M L f e) = cj_aft 62 16 19 [.ref a0, .int x1] [] (cj_ev 11 [.ref ((a0 + 18) + 1 + 13 * x1.toNatClampNeg)] (cg_M L f e)) := by
  refine (g_3 (by decide +kernel : kd_ 62 10 = ((3, 0, 0, []), 11)) rfl).trans ?_
  refine (g_50 (v := .ref (a0 + 18)) (by decide +kernel : kd_ 62 11 = ((50, 0, 4, []), 14)) h1 rfl).trans ?_
  refine (g_2 (by decide +kernel : kd_ 62 14 = ((2, 1, 0, []), 15)) rfl).trans ?_
  refine (g_54 (v := .ref ((a0 + 18) + 1 + 13 * x1.toNatClampNeg)) (by decide +kernel : kd_ 62 15 = ((54, 4, 0, []), 16)) (sc_0_4 h1) rfl (by rw [sl_0_4 h1]; exact h2) (el_if (cg_in_lt h2))).trans ?_
  exact g_80 (by decide +kernel : kd_ 62 16 = ((80, 11, 1, [2]), 19)) rfl (sa_104 (sc_0_4 h1) (cg_in_lt h2)) rfl rfl rfl
theorem b_C_firstUnsourced_19 {L : Nat} {f : cg_G} {e : Nat × Nat} {x1 y0 : Int32} {a0 : Nat} : cj_res 62 19 [.ref a0, .int x1] [.int y0] (cg_M L f e) = if y0 = 0 then cj_res 62 24 [.ref a0, .int x1] [] (cg_M L f e) else cj_res 62 22 [.ref a0, .int x1] [] (cg_M L f e) := by
  exact g_31 (by decide +kernel : kd_ 62 19 = ((31, 24, 0, []), 22))
theorem b_C_firstUnsourced_22 {L : Nat} {f : cg_G} {e : Nat × Nat} {x1 : Int32} {a0 : Nat} : cj_res 62 22 [.ref a0, .int x1] [] (cg_M L f e) = some (.inl (some (.int x1)), cg_M L f e) := by
  refine (g_2 (by decide +kernel : kd_ 62 22 = ((2, 1, 0, []), 23)) rfl).trans ?_
  exact g_90 (by decide +kernel : kd_ 62 23 = ((90, 0, 0, []), 24))
theorem b_C_firstUnsourced_24 {L : Nat} {f : cg_G} {e : Nat × Nat} {x1 : Int32} {a0 : Nat} : cj_res 62 24 [.ref a0, .int x1] [] (cg_M L f e) = cj_res 62 2 [.ref a0, .int (x1 + nI 1)] [] (cg_M L f e) := by
  refine (g_6 (ls' := [.ref a0, .int (x1 + nI 1)]) (by decide +kernel : kd_ 62 24 = ((6, 1, 1, []), 27)) rfl rfl).trans ?_
  refine (g_30 (by decide +kernel : kd_ 62 27 = ((30, 2, 0, []), 30))).trans ?_
  rfl
theorem b_C_firstUnsourced_30 {L : Nat} {f : cg_G} {e : Nat × Nat} {x1 : Int32} {a0 : Nat} : cj_res 62 30 [.ref a0, .int x1] [] (cg_M L f e) = some (.inl (some (.int (- nI 1))), cg_M L f e) := by
  refine (g_1 (by decide +kernel : kd_ 62 30 = ((1, 1, 0, []), 31))).trans ?_
  exact g_90 (by decide +kernel : kd_ 62 31 = ((90, 0, 0, []), 32))
theorem b_C_firstWrongPlace_0 {L : Nat} {f : cg_G} {e : Nat × Nat} {a0 : Nat} {u1 u2 u3 u4 u5 : Value} : cj_res 63 0 [.ref a0, u1, u2, u3, u4, u5] [] (cg_M L f e) = cj_res 63 9 [.ref a0, .int (nI 0), .int (nI 0), .int (nI 0), .int (nI 0), u5] [] (cg_M L f e) := by
  refine (g_0 (by decide +kernel : kd_ 63 0 = ((0, 0, 0, []), 1))).trans ?_
  refine (g_4 (ls' := [.ref a0, .int (nI 0), u2, u3, u4, u5]) (by decide +kernel : kd_ 63 1 = ((4, 1, 0, []), 2)) rfl rfl).trans ?_
  refine (g_0 (by decide +kernel : kd_ 63 2 = ((0, 0, 0, []), 3))).trans ?_
  refine (g_4 (ls' := [.ref a0, .int (nI 0), .int (nI 0), u3, u4, u5]) (by decide +kernel : kd_ 63 3 = ((4, 2, 0, []), 4)) rfl rfl).trans ?_
  refine (g_0 (by decide +kernel : kd_ 63 4 = ((0, 0, 0, []), 5))).trans ?_
  refine (g_4 (ls' := [.ref a0, .int (nI 0), .int (nI 0), .int (nI 0), u4, u5]) (by decide +kernel : kd_ 63 5 = ((4, 3, 0, []), 6)) rfl rfl).trans ?_
  refine (g_0 (by decide +kernel : kd_ 63 6 = ((0, 0, 0, []), 7))).trans ?_
  refine (g_4 (ls' := [.ref a0, .int (nI 0), .int (nI 0), .int (nI 0), .int (nI 0), u5]) (by decide +kernel : kd_ 63 7 = ((4, 4, 0, []), 9)) rfl rfl).trans ?_
  rfl
theorem b_C_firstWrongPlace_9 {L : Nat} {f : cg_G} {e : Nat × Nat} {x1 x2 x3 x4 : Int32} {a0 : Nat} {u5 : Value} (h1 : sh_ a0 = 6): cj_res 63 9 [.ref a0, .int x1, .int x2, .int x3, .int x4, u5] [] (cg_M L f e) = cj_aft 63 12 15 [.ref a0, .int x1, .int x2, .int x3, .int x4, u5] [.int x4] (cj_ev 39 [.ref a0] (cg_M L f e)) := by
  refine (g_2 (by decide +kernel : kd_ 63 9 = ((2, 4, 0, []), 11)) rfl).trans ?_
  refine (g_3 (by decide +kernel : kd_ 63 11 = ((3, 0, 0, []), 12)) rfl).trans ?_
  exact g_80 (by decide +kernel : kd_ 63 12 = ((80, 39, 1, [6]), 15)) rfl h1 rfl rfl rfl
theorem b_C_firstWrongPlace_15 {L : Nat} {f : cg_G} {e : Nat × Nat} {x1 x2 x3 x4 y0 y1 : Int32} {a0 : Nat} {u5 : Value} : cj_res 63 15 [.ref a0, .int x1, .int x2, .int x3, .int x4, u5] [.int y0, .int y1] (cg_M L f e) = if y0 ≤ y1 then cj_res 63 165 [.ref a0, .int x1, .int x2, .int x3, .int x4, u5] [] (cg_M L f e) else cj_res 63 18 [.ref a0, .int x1, .int x2, .int x3, .int x4, u5] [] (cg_M L f e) := by
  exact g_40 (by decide +kernel : kd_ 63 15 = ((40, 165, 0, []), 18))
theorem b_C_firstWrongPlace_18 {L : Nat} {f : cg_G} {e : Nat × Nat} {x1 x2 x3 x4 : Int32} {a0 : Nat} {u5 : Value} (h1 : sh_ a0 = 6): cj_res 63 18 [.ref a0, .int x1, .int x2, .int x3, .int x4, u5] [] (cg_M L f e) = cj_aft 63 21 24 [.ref a0, .int x1, .int x2, .int x3, .int x4, u5] [] (cj_ev 36 [.ref a0, .int x4] (cg_M L f e)) := by
  refine (g_3 (by decide +kernel : kd_ 63 18 = ((3, 0, 0, []), 19)) rfl).trans ?_
  refine (g_2 (by decide +kernel : kd_ 63 19 = ((2, 4, 0, []), 21)) rfl).trans ?_
  exact g_80 (by decide +kernel : kd_ 63 21 = ((80, 36, 2, [6]), 24)) rfl h1 rfl rfl rfl
theorem b_C_firstWrongPlace_24 {L : Nat} {f : cg_G} {e : Nat × Nat} {x1 x2 x3 x4 y0 : Int32} {a0 : Nat} {u5 : Value} : cj_res 63 24 [.ref a0, .int x1, .int x2, .int x3, .int x4, u5] [.int y0] (cg_M L f e) = if x3 = 0 then cj_res 63 51 [.ref a0, .int x1, .int x2, .int x3, .int x4, .int y0] [] (cg_M L f e) else cj_res 63 30 [.ref a0, .int x1, .int x2, .int x3, .int x4, .int y0] [] (cg_M L f e) := by
  refine (g_4 (ls' := [.ref a0, .int x1, .int x2, .int x3, .int x4, .int y0]) (by decide +kernel : kd_ 63 24 = ((4, 5, 0, []), 26)) rfl rfl).trans ?_
  refine (g_2 (by decide +kernel : kd_ 63 26 = ((2, 3, 0, []), 27)) rfl).trans ?_
  exact g_31 (by decide +kernel : kd_ 63 27 = ((31, 51, 0, []), 30))
theorem b_C_firstWrongPlace_30 {L : Nat} {f : cg_G} {e : Nat × Nat} {x1 x2 x3 x4 x5 : Int32} {a0 : Nat} : cj_res 63 30 [.ref a0, .int x1, .int x2, .int x3, .int x4, .int x5] [] (cg_M L f e) = if x5 < (nI 48) then cj_res 63 43 [.ref a0, .int x1, .int x2, .int x3, .int x4, .int x5] [] (cg_M L f e) else cj_res 63 37 [.ref a0, .int x1, .int x2, .int x3, .int x4, .int x5] [] (cg_M L f e) := by
  refine (g_2 (by decide +kernel : kd_ 63 30 = ((2, 5, 0, []), 32)) rfl).trans ?_
  refine (g_0 (by decide +kernel : kd_ 63 32 = ((0, 48, 0, []), 34))).trans ?_
  exact g_39 (by decide +kernel : kd_ 63 34 = ((39, 43, 0, []), 37))
theorem b_C_firstWrongPlace_37 {L : Nat} {f : cg_G} {e : Nat × Nat} {x1 x2 x3 x4 x5 : Int32} {a0 : Nat} : cj_res 63 37 [.ref a0, .int x1, .int x2, .int x3, .int x4, .int x5] [] (cg_M L f e) = if x5 ≤ x3 then cj_res 63 46 [.ref a0, .int x1, .int x2, .int x3, .int x4, .int x5] [] (cg_M L f e) else cj_res 63 43 [.ref a0, .int x1, .int x2, .int x3, .int x4, .int x5] [] (cg_M L f e) := by
  refine (g_2 (by decide +kernel : kd_ 63 37 = ((2, 5, 0, []), 39)) rfl).trans ?_
  refine (g_2 (by decide +kernel : kd_ 63 39 = ((2, 3, 0, []), 40)) rfl).trans ?_
  exact g_42 (by decide +kernel : kd_ 63 40 = ((42, 46, 0, []), 43))
theorem b_C_firstWrongPlace_43 {L : Nat} {f : cg_G} {e : Nat × Nat} {x1 x2 x3 x4 x5 : Int32} {a0 : Nat} : cj_res 63 43 [.ref a0, .int x1, .int x2, .int x3, .int x4, .int x5] [] (cg_M L f e) = some (.inl (some (.int x4)), cg_M L f e) := by
  refine (g_2 (by decide +kernel : kd_ 63 43 = ((2, 4, 0, []), 45)) rfl).trans ?_
  exact g_90 (by decide +kernel : kd_ 63 45 = ((90, 0, 0, []), 46))
theorem b_C_firstWrongPlace_46 {L : Nat} {f : cg_G} {e : Nat × Nat} {x1 x2 x3 x4 x5 : Int32} {a0 : Nat} : cj_res 63 46 [.ref a0, .int x1, .int x2, .int x3, .int x4, .int x5] [] (cg_M L f e) = cj_res 63 159 [.ref a0, .int x1, .int x2, .int (nI 0), .int x4, .int x5] [] (cg_M L f e) := by
  refine (g_0 (by decide +kernel : kd_ 63 46 = ((0, 0, 0, []), 47))).trans ?_
  refine (g_4 (ls' := [.ref a0, .int x1, .int x2, .int (nI 0), .int x4, .int x5]) (by decide +kernel : kd_ 63 47 = ((4, 3, 0, []), 48)) rfl rfl).trans ?_
  refine (g_30 (by decide +kernel : kd_ 63 48 = ((30, 159, 0, []), 51))).trans ?_
  rfl
theorem b_C_firstWrongPlace_51 {L : Nat} {f : cg_G} {e : Nat × Nat} {x1 x2 x3 x4 x5 : Int32} {a0 : Nat} : cj_res 63 51 [.ref a0, .int x1, .int x2, .int x3, .int x4, .int x5] [] (cg_M L f e) = if x5 = (nI 35) then cj_res 63 65 [.ref a0, .int x1, .int x2, .int x3, .int x4, .int x5] [] (cg_M L f e) else cj_res 63 58 [.ref a0, .int x1, .int x2, .int x3, .int x4, .int x5] [] (cg_M L f e) := by
  refine (g_2 (by decide +kernel : kd_ 63 51 = ((2, 5, 0, []), 53)) rfl).trans ?_
  refine (g_0 (by decide +kernel : kd_ 63 53 = ((0, 35, 0, []), 55))).trans ?_
  exact g_37 (by decide +kernel : kd_ 63 55 = ((37, 65, 0, []), 58))
theorem b_C_firstWrongPlace_58 {L : Nat} {f : cg_G} {e : Nat × Nat} {x1 x2 x3 x4 x5 : Int32} {a0 : Nat} : cj_res 63 58 [.ref a0, .int x1, .int x2, .int x3, .int x4, .int x5] [] (cg_M L f e) = if x5 = (nI 64) then cj_res 63 65 [.ref a0, .int x1, .int x2, .int x3, .int x4, .int x5] [] (cg_M L f e) else cj_res 63 95 [.ref a0, .int x1, .int x2, .int x3, .int x4, .int x5] [] (cg_M L f e) := by
  refine (g_2 (by decide +kernel : kd_ 63 58 = ((2, 5, 0, []), 60)) rfl).trans ?_
  refine (g_0 (by decide +kernel : kd_ 63 60 = ((0, 64, 0, []), 62))).trans ?_
  exact g_38 (by decide +kernel : kd_ 63 62 = ((38, 95, 0, []), 65))
theorem b_C_firstWrongPlace_65 {L : Nat} {f : cg_G} {e : Nat × Nat} {x1 x2 x3 x4 x5 : Int32} {a0 : Nat} : cj_res 63 65 [.ref a0, .int x1, .int x2, .int x3, .int x4, .int x5] [] (cg_M L f e) = if x2 = (nI 6) then cj_res 63 71 [.ref a0, .int x1, .int x2, .int x3, .int x4, .int x5] [] (cg_M L f e) else cj_res 63 74 [.ref a0, .int x1, .int x2, .int x3, .int x4, .int x5] [] (cg_M L f e) := by
  refine (g_2 (by decide +kernel : kd_ 63 65 = ((2, 2, 0, []), 66)) rfl).trans ?_
  refine (g_0 (by decide +kernel : kd_ 63 66 = ((0, 6, 0, []), 68))).trans ?_
  exact g_38 (by decide +kernel : kd_ 63 68 = ((38, 74, 0, []), 71))
theorem b_C_firstWrongPlace_71 {L : Nat} {f : cg_G} {e : Nat × Nat} {x1 x2 x3 x4 x5 : Int32} {a0 : Nat} : cj_res 63 71 [.ref a0, .int x1, .int x2, .int x3, .int x4, .int x5] [] (cg_M L f e) = some (.inl (some (.int x4)), cg_M L f e) := by
  refine (g_2 (by decide +kernel : kd_ 63 71 = ((2, 4, 0, []), 73)) rfl).trans ?_
  exact g_90 (by decide +kernel : kd_ 63 73 = ((90, 0, 0, []), 74))
theorem b_C_firstWrongPlace_74 {L : Nat} {f : cg_G} {e : Nat × Nat} {x1 x2 x3 x4 x5 : Int32} {a0 : Nat} : cj_res 63 74 [.ref a0, .int x1, .int x2, .int x3, .int x4, .int x5] [] (cg_M L f e) = if x5 = (nI 35) then cj_res 63 84 [.ref a0, .int x1, .int (x2 + nI 1), .int x3, .int x4, .int x5] [] (cg_M L f e) else cj_res 63 89 [.ref a0, .int x1, .int (x2 + nI 1), .int x3, .int x4, .int x5] [] (cg_M L f e) := by
  refine (g_6 (ls' := [.ref a0, .int x1, .int (x2 + nI 1), .int x3, .int x4, .int x5]) (by decide +kernel : kd_ 63 74 = ((6, 2, 1, []), 77)) rfl rfl).trans ?_
  refine (g_2 (by decide +kernel : kd_ 63 77 = ((2, 5, 0, []), 79)) rfl).trans ?_
  refine (g_0 (by decide +kernel : kd_ 63 79 = ((0, 35, 0, []), 81))).trans ?_
  exact g_38 (by decide +kernel : kd_ 63 81 = ((38, 89, 0, []), 84))
theorem b_C_firstWrongPlace_84 {L : Nat} {f : cg_G} {e : Nat × Nat} {x1 x2 x3 x4 x5 : Int32} {a0 : Nat} : cj_res 63 84 [.ref a0, .int x1, .int x2, .int x3, .int x4, .int x5] [] (cg_M L f e) = cj_res 63 91 [.ref a0, .int x1, .int x2, .int x3, .int x4, .int x5] [.int (nI 51)] (cg_M L f e) := by
  refine (g_0 (by decide +kernel : kd_ 63 84 = ((0, 51, 0, []), 86))).trans ?_
  refine (g_30 (by decide +kernel : kd_ 63 86 = ((30, 91, 0, []), 89))).trans ?_
  rfl
theorem b_C_firstWrongPlace_89 {L : Nat} {f : cg_G} {e : Nat × Nat} {x1 x2 x3 x4 x5 : Int32} {a0 : Nat} : cj_res 63 89 [.ref a0, .int x1, .int x2, .int x3, .int x4, .int x5] [] (cg_M L f e) = cj_res 63 91 [.ref a0, .int x1, .int x2, .int x3, .int x4, .int x5] [.int (nI 55)] (cg_M L f e) := by
  refine (g_0 (by decide +kernel : kd_ 63 89 = ((0, 55, 0, []), 91))).trans ?_
  rfl
theorem b_C_firstWrongPlace_91 {L : Nat} {f : cg_G} {e : Nat × Nat} {x1 x2 x3 x4 x5 y0 : Int32} {a0 : Nat} : cj_res 63 91 [.ref a0, .int x1, .int x2, .int x3, .int x4, .int x5] [.int y0] (cg_M L f e) = cj_res 63 159 [.ref a0, .int x1, .int x2, .int y0, .int x4, .int x5] [] (cg_M L f e) := by
  refine (g_4 (ls' := [.ref a0, .int x1, .int x2, .int y0, .int x4, .int x5]) (by decide +kernel : kd_ 63 91 = ((4, 3, 0, []), 92)) rfl rfl).trans ?_
  refine (g_30 (by decide +kernel : kd_ 63 92 = ((30, 159, 0, []), 95))).trans ?_
  rfl
theorem b_C_firstWrongPlace_95 {L : Nat} {f : cg_G} {e : Nat × Nat} {x1 x2 x3 x4 x5 : Int32} {a0 : Nat} : cj_res 63 95 [.ref a0, .int x1, .int x2, .int x3, .int x4, .int x5] [] (cg_M L f e) = if x5 = (nI 91) then cj_res 63 109 [.ref a0, .int x1, .int x2, .int x3, .int x4, .int x5] [] (cg_M L f e) else cj_res 63 102 [.ref a0, .int x1, .int x2, .int x3, .int x4, .int x5] [] (cg_M L f e) := by
  refine (g_2 (by decide +kernel : kd_ 63 95 = ((2, 5, 0, []), 97)) rfl).trans ?_
  refine (g_0 (by decide +kernel : kd_ 63 97 = ((0, 91, 0, []), 99))).trans ?_
  exact g_37 (by decide +kernel : kd_ 63 99 = ((37, 109, 0, []), 102))
theorem b_C_firstWrongPlace_102 {L : Nat} {f : cg_G} {e : Nat × Nat} {x1 x2 x3 x4 x5 : Int32} {a0 : Nat} : cj_res 63 102 [.ref a0, .int x1, .int x2, .int x3, .int x4, .int x5] [] (cg_M L f e) = if x5 = (nI 93) then cj_res 63 109 [.ref a0, .int x1, .int x2, .int x3, .int x4, .int x5] [] (cg_M L f e) else cj_res 63 141 [.ref a0, .int x1, .int x2, .int x3, .int x4, .int x5] [] (cg_M L f e) := by
  refine (g_2 (by decide +kernel : kd_ 63 102 = ((2, 5, 0, []), 104)) rfl).trans ?_
  refine (g_0 (by decide +kernel : kd_ 63 104 = ((0, 93, 0, []), 106))).trans ?_
  exact g_38 (by decide +kernel : kd_ 63 106 = ((38, 141, 0, []), 109))
theorem b_C_firstWrongPlace_109 {L : Nat} {f : cg_G} {e : Nat × Nat} {x1 x2 x3 x4 x5 : Int32} {a0 : Nat} : cj_res 63 109 [.ref a0, .int x1, .int x2, .int x3, .int x4, .int x5] [] (cg_M L f e) = if x5 = (nI 91) then cj_res 63 117 [.ref a0, .int x1, .int x2, .int x3, .int x4, .int x5] [.int x1] (cg_M L f e) else cj_res 63 121 [.ref a0, .int x1, .int x2, .int x3, .int x4, .int x5] [.int x1] (cg_M L f e) := by
  refine (g_2 (by decide +kernel : kd_ 63 109 = ((2, 1, 0, []), 110)) rfl).trans ?_
  refine (g_2 (by decide +kernel : kd_ 63 110 = ((2, 5, 0, []), 112)) rfl).trans ?_
  refine (g_0 (by decide +kernel : kd_ 63 112 = ((0, 91, 0, []), 114))).trans ?_
  exact g_38 (by decide +kernel : kd_ 63 114 = ((38, 121, 0, []), 117))
theorem b_C_firstWrongPlace_117 {L : Nat} {f : cg_G} {e : Nat × Nat} {x1 x2 x3 x4 x5 y0 : Int32} {a0 : Nat} : cj_res 63 117 [.ref a0, .int x1, .int x2, .int x3, .int x4, .int x5] [.int y0] (cg_M L f e) = cj_res 63 122 [.ref a0, .int x1, .int x2, .int x3, .int x4, .int x5] [.int (nI 1), .int y0] (cg_M L f e) := by
  refine (g_0 (by decide +kernel : kd_ 63 117 = ((0, 1, 0, []), 118))).trans ?_
  refine (g_30 (by decide +kernel : kd_ 63 118 = ((30, 122, 0, []), 121))).trans ?_
  rfl
theorem b_C_firstWrongPlace_121 {L : Nat} {f : cg_G} {e : Nat × Nat} {x1 x2 x3 x4 x5 y0 : Int32} {a0 : Nat} : cj_res 63 121 [.ref a0, .int x1, .int x2, .int x3, .int x4, .int x5] [.int y0] (cg_M L f e) = cj_res 63 122 [.ref a0, .int x1, .int x2, .int x3, .int x4, .int x5] [.int (nI 0), .int y0] (cg_M L f e) := by
  refine (g_0 (by decide +kernel : kd_ 63 121 = ((0, 0, 0, []), 122))).trans ?_
  rfl
theorem b_C_firstWrongPlace_122 {L : Nat} {f : cg_G} {e : Nat × Nat} {x1 x2 x3 x4 x5 y0 y1 : Int32} {a0 : Nat} : cj_res 63 122 [.ref a0, .int x1, .int x2, .int x3, .int x4, .int x5] [.int y0, .int y1] (cg_M L f e) = if y1 = y0 then cj_res 63 125 [.ref a0, .int x1, .int x2, .int x3, .int x4, .int x5] [] (cg_M L f e) else cj_res 63 128 [.ref a0, .int x1, .int x2, .int x3, .int x4, .int x5] [] (cg_M L f e) := by
  exact g_38 (by decide +kernel : kd_ 63 122 = ((38, 128, 0, []), 125))
theorem b_C_firstWrongPlace_125 {L : Nat} {f : cg_G} {e : Nat × Nat} {x1 x2 x3 x4 x5 : Int32} {a0 : Nat} : cj_res 63 125 [.ref a0, .int x1, .int x2, .int x3, .int x4, .int x5] [] (cg_M L f e) = some (.inl (some (.int x4)), cg_M L f e) := by
  refine (g_2 (by decide +kernel : kd_ 63 125 = ((2, 4, 0, []), 127)) rfl).trans ?_
  exact g_90 (by decide +kernel : kd_ 63 127 = ((90, 0, 0, []), 128))
theorem b_C_firstWrongPlace_128 {L : Nat} {f : cg_G} {e : Nat × Nat} {x1 x2 x3 x4 x5 : Int32} {a0 : Nat} : cj_res 63 128 [.ref a0, .int x1, .int x2, .int x3, .int x4, .int x5] [] (cg_M L f e) = if x1 = 0 then cj_res 63 132 [.ref a0, .int x1, .int x2, .int x3, .int x4, .int x5] [] (cg_M L f e) else cj_res 63 136 [.ref a0, .int x1, .int x2, .int x3, .int x4, .int x5] [] (cg_M L f e) := by
  refine (g_2 (by decide +kernel : kd_ 63 128 = ((2, 1, 0, []), 129)) rfl).trans ?_
  exact g_32 (by decide +kernel : kd_ 63 129 = ((32, 136, 0, []), 132))
theorem b_C_firstWrongPlace_132 {L : Nat} {f : cg_G} {e : Nat × Nat} {x1 x2 x3 x4 x5 : Int32} {a0 : Nat} : cj_res 63 132 [.ref a0, .int x1, .int x2, .int x3, .int x4, .int x5] [] (cg_M L f e) = cj_res 63 137 [.ref a0, .int x1, .int x2, .int x3, .int x4, .int x5] [.int (nI 1)] (cg_M L f e) := by
  refine (g_0 (by decide +kernel : kd_ 63 132 = ((0, 1, 0, []), 133))).trans ?_
  refine (g_30 (by decide +kernel : kd_ 63 133 = ((30, 137, 0, []), 136))).trans ?_
  rfl
theorem b_C_firstWrongPlace_136 {L : Nat} {f : cg_G} {e : Nat × Nat} {x1 x2 x3 x4 x5 : Int32} {a0 : Nat} : cj_res 63 136 [.ref a0, .int x1, .int x2, .int x3, .int x4, .int x5] [] (cg_M L f e) = cj_res 63 137 [.ref a0, .int x1, .int x2, .int x3, .int x4, .int x5] [.int (nI 0)] (cg_M L f e) := by
  refine (g_0 (by decide +kernel : kd_ 63 136 = ((0, 0, 0, []), 137))).trans ?_
  rfl
theorem b_C_firstWrongPlace_137 {L : Nat} {f : cg_G} {e : Nat × Nat} {x1 x2 x3 x4 x5 y0 : Int32} {a0 : Nat} : cj_res 63 137 [.ref a0, .int x1, .int x2, .int x3, .int x4, .int x5] [.int y0] (cg_M L f e) = cj_res 63 159 [.ref a0, .int y0, .int x2, .int x3, .int x4, .int x5] [] (cg_M L f e) := by
  refine (g_4 (ls' := [.ref a0, .int y0, .int x2, .int x3, .int x4, .int x5]) (by decide +kernel : kd_ 63 137 = ((4, 1, 0, []), 138)) rfl rfl).trans ?_
  refine (g_30 (by decide +kernel : kd_ 63 138 = ((30, 159, 0, []), 141))).trans ?_
  rfl
theorem b_C_firstWrongPlace_141 {L : Nat} {f : cg_G} {e : Nat × Nat} {x1 x2 x3 x4 x5 : Int32} {a0 : Nat} : cj_res 63 141 [.ref a0, .int x1, .int x2, .int x3, .int x4, .int x5] [] (cg_M L f e) = if x5 = (nI 32) then cj_res 63 159 [.ref a0, .int x1, .int x2, .int x3, .int x4, .int x5] [] (cg_M L f e) else cj_res 63 148 [.ref a0, .int x1, .int x2, .int x3, .int x4, .int x5] [] (cg_M L f e) := by
  refine (g_2 (by decide +kernel : kd_ 63 141 = ((2, 5, 0, []), 143)) rfl).trans ?_
  refine (g_0 (by decide +kernel : kd_ 63 143 = ((0, 32, 0, []), 145))).trans ?_
  exact g_37 (by decide +kernel : kd_ 63 145 = ((37, 159, 0, []), 148))
theorem b_C_firstWrongPlace_148 {L : Nat} {f : cg_G} {e : Nat × Nat} {x1 x2 x3 x4 x5 : Int32} {a0 : Nat} : cj_res 63 148 [.ref a0, .int x1, .int x2, .int x3, .int x4, .int x5] [] (cg_M L f e) = cj_aft 63 150 153 [.ref a0, .int x1, .int x2, .int x3, .int x4, .int x5] [] (cj_ev 3 [.int x5] (cg_M L f e)) := by
  refine (g_2 (by decide +kernel : kd_ 63 148 = ((2, 5, 0, []), 150)) rfl).trans ?_
  exact g_81 (by decide +kernel : kd_ 63 150 = ((81, 3, 1, []), 153)) rfl rfl rfl
theorem b_C_firstWrongPlace_153 {L : Nat} {f : cg_G} {e : Nat × Nat} {x1 x2 x3 x4 x5 y0 : Int32} {a0 : Nat} : cj_res 63 153 [.ref a0, .int x1, .int x2, .int x3, .int x4, .int x5] [.int y0] (cg_M L f e) = if y0 = 0 then cj_res 63 156 [.ref a0, .int x1, .int x2, .int x3, .int x4, .int x5] [] (cg_M L f e) else cj_res 63 159 [.ref a0, .int x1, .int x2, .int x3, .int x4, .int x5] [] (cg_M L f e) := by
  exact g_32 (by decide +kernel : kd_ 63 153 = ((32, 159, 0, []), 156))
theorem b_C_firstWrongPlace_156 {L : Nat} {f : cg_G} {e : Nat × Nat} {x1 x2 x3 x4 x5 : Int32} {a0 : Nat} : cj_res 63 156 [.ref a0, .int x1, .int x2, .int x3, .int x4, .int x5] [] (cg_M L f e) = some (.inl (some (.int x4)), cg_M L f e) := by
  refine (g_2 (by decide +kernel : kd_ 63 156 = ((2, 4, 0, []), 158)) rfl).trans ?_
  exact g_90 (by decide +kernel : kd_ 63 158 = ((90, 0, 0, []), 159))
theorem b_C_firstWrongPlace_159 {L : Nat} {f : cg_G} {e : Nat × Nat} {x1 x2 x3 x4 x5 : Int32} {a0 : Nat} : cj_res 63 159 [.ref a0, .int x1, .int x2, .int x3, .int x4, .int x5] [] (cg_M L f e) = cj_res 63 9 [.ref a0, .int x1, .int x2, .int x3, .int (x4 + nI 1), .int x5] [] (cg_M L f e) := by
  refine (g_6 (ls' := [.ref a0, .int x1, .int x2, .int x3, .int (x4 + nI 1), .int x5]) (by decide +kernel : kd_ 63 159 = ((6, 4, 1, []), 162)) rfl rfl).trans ?_
  refine (g_30 (by decide +kernel : kd_ 63 162 = ((30, 9, 0, []), 165))).trans ?_
  rfl
theorem b_C_firstWrongPlace_165 {L : Nat} {f : cg_G} {e : Nat × Nat} {x1 x2 x3 x4 : Int32} {a0 : Nat} {u5 : Value} : cj_res 63 165 [.ref a0, .int x1, .int x2, .int x3, .int x4, u5] [] (cg_M L f e) = if x1 = 0 then cj_res 63 169 [.ref a0, .int x1, .int x2, .int x3, .int x4, u5] [] (cg_M L f e) else cj_res 63 173 [.ref a0, .int x1, .int x2, .int x3, .int x4, u5] [] (cg_M L f e) := by
  refine (g_2 (by decide +kernel : kd_ 63 165 = ((2, 1, 0, []), 166)) rfl).trans ?_
  exact g_32 (by decide +kernel : kd_ 63 166 = ((32, 173, 0, []), 169))
theorem b_C_firstWrongPlace_169 {L : Nat} {f : cg_G} {e : Nat × Nat} {x1 x2 x3 x4 : Int32} {a0 : Nat} {u5 : Value} : cj_res 63 169 [.ref a0, .int x1, .int x2, .int x3, .int x4, u5] [] (cg_M L f e) = if x3 = 0 then cj_res 63 180 [.ref a0, .int x1, .int x2, .int x3, .int x4, u5] [] (cg_M L f e) else cj_res 63 173 [.ref a0, .int x1, .int x2, .int x3, .int x4, u5] [] (cg_M L f e) := by
  refine (g_2 (by decide +kernel : kd_ 63 169 = ((2, 3, 0, []), 170)) rfl).trans ?_
  exact g_31 (by decide +kernel : kd_ 63 170 = ((31, 180, 0, []), 173))
theorem b_C_firstWrongPlace_173 {L : Nat} {f : cg_G} {e : Nat × Nat} {x1 x2 x3 x4 : Int32} {a0 : Nat} {u5 : Value} (h1 : sh_ a0 = 6): cj_res 63 173 [.ref a0, .int x1, .int x2, .int x3, .int x4, u5] [] (cg_M L f e) = cj_aft 63 174 177 [.ref a0, .int x1, .int x2, .int x3, .int x4, u5] [] (cj_ev 39 [.ref a0] (cg_M L f e)) := by
  refine (g_3 (by decide +kernel : kd_ 63 173 = ((3, 0, 0, []), 174)) rfl).trans ?_
  exact g_80 (by decide +kernel : kd_ 63 174 = ((80, 39, 1, [6]), 177)) rfl h1 rfl rfl rfl
theorem b_C_firstWrongPlace_177 {L : Nat} {f : cg_G} {e : Nat × Nat} {x1 x2 x3 x4 y0 : Int32} {a0 : Nat} {u5 : Value} : cj_res 63 177 [.ref a0, .int x1, .int x2, .int x3, .int x4, u5] [.int y0] (cg_M L f e) = cj_res 63 181 [.ref a0, .int x1, .int x2, .int x3, .int x4, u5] [.int y0] (cg_M L f e) := by
  refine (g_30 (by decide +kernel : kd_ 63 177 = ((30, 181, 0, []), 180))).trans ?_
  rfl
theorem b_C_firstWrongPlace_180 {L : Nat} {f : cg_G} {e : Nat × Nat} {x1 x2 x3 x4 : Int32} {a0 : Nat} {u5 : Value} : cj_res 63 180 [.ref a0, .int x1, .int x2, .int x3, .int x4, u5] [] (cg_M L f e) = cj_res 63 181 [.ref a0, .int x1, .int x2, .int x3, .int x4, u5] [.int (- nI 1)] (cg_M L f e) := by
  refine (g_1 (by decide +kernel : kd_ 63 180 = ((1, 1, 0, []), 181))).trans ?_
  rfl
theorem b_C_firstWrongPlace_181 {L : Nat} {f : cg_G} {e : Nat × Nat} {x1 x2 x3 x4 y0 : Int32} {a0 : Nat} {u5 : Value} : cj_res 63 181 [.ref a0, .int x1, .int x2, .int x3, .int x4, u5] [.int y0] (cg_M L f e) = some (.inl (some (.int y0)), cg_M L f e) := by
  exact g_90 (by decide +kernel : kd_ 63 181 = ((90, 0, 0, []), 182))
theorem b_C_hasGoodSigns_0 {L : Nat} {f : cg_G} {e : Nat × Nat} {x0 : Int32} {u1 u2 : Value} : cj_res 64 0 [.int x0, u1, u2] [] (cg_M L f e) = cj_res 64 2 [.int x0, .int (nI 0), u2] [] (cg_M L f e) := by
  refine (g_0 (by decide +kernel : kd_ 64 0 = ((0, 0, 0, []), 1))).trans ?_
  refine (g_4 (ls' := [.int x0, .int (nI 0), u2]) (by decide +kernel : kd_ 64 1 = ((4, 1, 0, []), 2)) rfl rfl).trans ?_
  rfl
theorem b_C_hasGoodSigns_2 {L : Nat} {f : cg_G} {e : Nat × Nat} {x0 x1 : Int32} {u2 : Value} : cj_res 64 2 [.int x0, .int x1, u2] [] (cg_M L f e) = if (nI 4) ≤ x1 then cj_res 64 37 [.int x0, .int x1, u2] [] (cg_M L f e) else cj_res 64 7 [.int x0, .int x1, u2] [] (cg_M L f e) := by
  refine (g_2 (by decide +kernel : kd_ 64 2 = ((2, 1, 0, []), 3)) rfl).trans ?_
  refine (g_0 (by decide +kernel : kd_ 64 3 = ((0, 4, 0, []), 4))).trans ?_
  exact g_40 (by decide +kernel : kd_ 64 4 = ((40, 37, 0, []), 7))
theorem b_C_hasGoodSigns_7 {L : Nat} {f : cg_G} {e : Nat × Nat} {x0 x1 : Int32} {u2 : Value} : cj_res 64 7 [.int x0, .int x1, u2] [] (cg_M L f e) = cj_aft 64 9 12 [.int x0, .int x1, u2] [] (cj_ev 0 [.int x0, .int x1] (cg_M L f e)) := by
  refine (g_2 (by decide +kernel : kd_ 64 7 = ((2, 0, 0, []), 8)) rfl).trans ?_
  refine (g_2 (by decide +kernel : kd_ 64 8 = ((2, 1, 0, []), 9)) rfl).trans ?_
  exact g_81 (by decide +kernel : kd_ 64 9 = ((81, 0, 2, []), 12)) rfl rfl rfl
theorem b_C_hasGoodSigns_12 {L : Nat} {f : cg_G} {e : Nat × Nat} {x0 x1 y0 : Int32} {u2 : Value} : cj_res 64 12 [.int x0, .int x1, u2] [.int y0] (cg_M L f e) = if y0 = 0 then cj_res 64 31 [.int x0, .int x1, .int y0] [] (cg_M L f e) else cj_res 64 17 [.int x0, .int x1, .int y0] [] (cg_M L f e) := by
  refine (g_4 (ls' := [.int x0, .int x1, .int y0]) (by decide +kernel : kd_ 64 12 = ((4, 2, 0, []), 13)) rfl rfl).trans ?_
  refine (g_2 (by decide +kernel : kd_ 64 13 = ((2, 2, 0, []), 14)) rfl).trans ?_
  exact g_31 (by decide +kernel : kd_ 64 14 = ((31, 31, 0, []), 17))
theorem b_C_hasGoodSigns_17 {L : Nat} {f : cg_G} {e : Nat × Nat} {x0 x1 x2 : Int32} : cj_res 64 17 [.int x0, .int x1, .int x2] [] (cg_M L f e) = if x2 < (nI 32) then cj_res 64 29 [.int x0, .int x1, .int x2] [] (cg_M L f e) else cj_res 64 23 [.int x0, .int x1, .int x2] [] (cg_M L f e) := by
  refine (g_2 (by decide +kernel : kd_ 64 17 = ((2, 2, 0, []), 18)) rfl).trans ?_
  refine (g_0 (by decide +kernel : kd_ 64 18 = ((0, 32, 0, []), 20))).trans ?_
  exact g_39 (by decide +kernel : kd_ 64 20 = ((39, 29, 0, []), 23))
theorem b_C_hasGoodSigns_23 {L : Nat} {f : cg_G} {e : Nat × Nat} {x0 x1 x2 : Int32} : cj_res 64 23 [.int x0, .int x1, .int x2] [] (cg_M L f e) = if x2 ≤ (nI 126) then cj_res 64 31 [.int x0, .int x1, .int x2] [] (cg_M L f e) else cj_res 64 29 [.int x0, .int x1, .int x2] [] (cg_M L f e) := by
  refine (g_2 (by decide +kernel : kd_ 64 23 = ((2, 2, 0, []), 24)) rfl).trans ?_
  refine (g_0 (by decide +kernel : kd_ 64 24 = ((0, 126, 0, []), 26))).trans ?_
  exact g_42 (by decide +kernel : kd_ 64 26 = ((42, 31, 0, []), 29))
theorem b_C_hasGoodSigns_29 {L : Nat} {f : cg_G} {e : Nat × Nat} {x0 x1 x2 : Int32} : cj_res 64 29 [.int x0, .int x1, .int x2] [] (cg_M L f e) = some (.inl (some (.int (nI 0))), cg_M L f e) := by
  refine (g_0 (by decide +kernel : kd_ 64 29 = ((0, 0, 0, []), 30))).trans ?_
  exact g_93 (by decide +kernel : kd_ 64 30 = ((93, 0, 0, []), 31)) (by decide)
theorem b_C_hasGoodSigns_31 {L : Nat} {f : cg_G} {e : Nat × Nat} {x0 x1 x2 : Int32} : cj_res 64 31 [.int x0, .int x1, .int x2] [] (cg_M L f e) = cj_res 64 2 [.int x0, .int (x1 + nI 1), .int x2] [] (cg_M L f e) := by
  refine (g_6 (ls' := [.int x0, .int (x1 + nI 1), .int x2]) (by decide +kernel : kd_ 64 31 = ((6, 1, 1, []), 34)) rfl rfl).trans ?_
  refine (g_30 (by decide +kernel : kd_ 64 34 = ((30, 2, 0, []), 37))).trans ?_
  rfl
theorem b_C_hasGoodSigns_37 {L : Nat} {f : cg_G} {e : Nat × Nat} {x0 x1 : Int32} {u2 : Value} : cj_res 64 37 [.int x0, .int x1, u2] [] (cg_M L f e) = some (.inl (some (.int (nI 1))), cg_M L f e) := by
  refine (g_0 (by decide +kernel : kd_ 64 37 = ((0, 1, 0, []), 38))).trans ?_
  exact g_93 (by decide +kernel : kd_ 64 38 = ((93, 0, 0, []), 39)) (by decide)
theorem b_C_isFieldText_0 {L : Nat} {f : cg_G} {e : Nat × Nat} {a0 : Nat} {u1 u2 : Value} : cj_res 65 0 [.ref a0, u1, u2] [] (cg_M L f e) = cj_res 65 2 [.ref a0, .int (nI 0), u2] [] (cg_M L f e) := by
  refine (g_0 (by decide +kernel : kd_ 65 0 = ((0, 0, 0, []), 1))).trans ?_
  refine (g_4 (ls' := [.ref a0, .int (nI 0), u2]) (by decide +kernel : kd_ 65 1 = ((4, 1, 0, []), 2)) rfl rfl).trans ?_
  rfl
theorem b_C_isFieldText_2 {L : Nat} {f : cg_G} {e : Nat × Nat} {x1 : Int32} {a0 : Nat} {u2 : Value} (h1 : sh_ a0 = 6): cj_res 65 2 [.ref a0, .int x1, u2] [] (cg_M L f e) = cj_aft 65 4 7 [.ref a0, .int x1, u2] [.int x1] (cj_ev 39 [.ref a0] (cg_M L f e)) := by
  refine (g_2 (by decide +kernel : kd_ 65 2 = ((2, 1, 0, []), 3)) rfl).trans ?_
  refine (g_3 (by decide +kernel : kd_ 65 3 = ((3, 0, 0, []), 4)) rfl).trans ?_
  exact g_80 (by decide +kernel : kd_ 65 4 = ((80, 39, 1, [6]), 7)) rfl h1 rfl rfl rfl
theorem b_C_isFieldText_7 {L : Nat} {f : cg_G} {e : Nat × Nat} {x1 y0 y1 : Int32} {a0 : Nat} {u2 : Value} : cj_res 65 7 [.ref a0, .int x1, u2] [.int y0, .int y1] (cg_M L f e) = if y0 ≤ y1 then cj_res 65 37 [.ref a0, .int x1, u2] [] (cg_M L f e) else cj_res 65 10 [.ref a0, .int x1, u2] [] (cg_M L f e) := by
  exact g_40 (by decide +kernel : kd_ 65 7 = ((40, 37, 0, []), 10))
theorem b_C_isFieldText_10 {L : Nat} {f : cg_G} {e : Nat × Nat} {x1 : Int32} {a0 : Nat} {u2 : Value} (h1 : sh_ a0 = 6): cj_res 65 10 [.ref a0, .int x1, u2] [] (cg_M L f e) = cj_aft 65 12 15 [.ref a0, .int x1, u2] [] (cj_ev 36 [.ref a0, .int x1] (cg_M L f e)) := by
  refine (g_3 (by decide +kernel : kd_ 65 10 = ((3, 0, 0, []), 11)) rfl).trans ?_
  refine (g_2 (by decide +kernel : kd_ 65 11 = ((2, 1, 0, []), 12)) rfl).trans ?_
  exact g_80 (by decide +kernel : kd_ 65 12 = ((80, 36, 2, [6]), 15)) rfl h1 rfl rfl rfl
theorem b_C_isFieldText_15 {L : Nat} {f : cg_G} {e : Nat × Nat} {x1 y0 : Int32} {a0 : Nat} {u2 : Value} : cj_res 65 15 [.ref a0, .int x1, u2] [.int y0] (cg_M L f e) = if y0 = (nI 32) then cj_res 65 31 [.ref a0, .int x1, .int y0] [] (cg_M L f e) else cj_res 65 22 [.ref a0, .int x1, .int y0] [] (cg_M L f e) := by
  refine (g_4 (ls' := [.ref a0, .int x1, .int y0]) (by decide +kernel : kd_ 65 15 = ((4, 2, 0, []), 16)) rfl rfl).trans ?_
  refine (g_2 (by decide +kernel : kd_ 65 16 = ((2, 2, 0, []), 17)) rfl).trans ?_
  refine (g_0 (by decide +kernel : kd_ 65 17 = ((0, 32, 0, []), 19))).trans ?_
  exact g_37 (by decide +kernel : kd_ 65 19 = ((37, 31, 0, []), 22))
theorem b_C_isFieldText_22 {L : Nat} {f : cg_G} {e : Nat × Nat} {x1 x2 : Int32} {a0 : Nat} : cj_res 65 22 [.ref a0, .int x1, .int x2] [] (cg_M L f e) = cj_aft 65 23 26 [.ref a0, .int x1, .int x2] [] (cj_ev 3 [.int x2] (cg_M L f e)) := by
  refine (g_2 (by decide +kernel : kd_ 65 22 = ((2, 2, 0, []), 23)) rfl).trans ?_
  exact g_81 (by decide +kernel : kd_ 65 23 = ((81, 3, 1, []), 26)) rfl rfl rfl
theorem b_C_isFieldText_26 {L : Nat} {f : cg_G} {e : Nat × Nat} {x1 x2 y0 : Int32} {a0 : Nat} : cj_res 65 26 [.ref a0, .int x1, .int x2] [.int y0] (cg_M L f e) = if y0 = 0 then cj_res 65 29 [.ref a0, .int x1, .int x2] [] (cg_M L f e) else cj_res 65 31 [.ref a0, .int x1, .int x2] [] (cg_M L f e) := by
  exact g_32 (by decide +kernel : kd_ 65 26 = ((32, 31, 0, []), 29))
theorem b_C_isFieldText_29 {L : Nat} {f : cg_G} {e : Nat × Nat} {x1 x2 : Int32} {a0 : Nat} : cj_res 65 29 [.ref a0, .int x1, .int x2] [] (cg_M L f e) = some (.inl (some (.int (nI 0))), cg_M L f e) := by
  refine (g_0 (by decide +kernel : kd_ 65 29 = ((0, 0, 0, []), 30))).trans ?_
  exact g_93 (by decide +kernel : kd_ 65 30 = ((93, 0, 0, []), 31)) (by decide)
theorem b_C_isFieldText_31 {L : Nat} {f : cg_G} {e : Nat × Nat} {x1 x2 : Int32} {a0 : Nat} : cj_res 65 31 [.ref a0, .int x1, .int x2] [] (cg_M L f e) = cj_res 65 2 [.ref a0, .int (x1 + nI 1), .int x2] [] (cg_M L f e) := by
  refine (g_6 (ls' := [.ref a0, .int (x1 + nI 1), .int x2]) (by decide +kernel : kd_ 65 31 = ((6, 1, 1, []), 34)) rfl rfl).trans ?_
  refine (g_30 (by decide +kernel : kd_ 65 34 = ((30, 2, 0, []), 37))).trans ?_
  rfl
theorem b_C_isFieldText_37 {L : Nat} {f : cg_G} {e : Nat × Nat} {x1 : Int32} {a0 : Nat} {u2 : Value} : cj_res 65 37 [.ref a0, .int x1, u2] [] (cg_M L f e) = some (.inl (some (.int (nI 1))), cg_M L f e) := by
  refine (g_0 (by decide +kernel : kd_ 65 37 = ((0, 1, 0, []), 38))).trans ?_
  exact g_93 (by decide +kernel : kd_ 65 38 = ((93, 0, 0, []), 39)) (by decide)
theorem b_C_isOrder_0 {L : Nat} {f : cg_G} {e : Nat × Nat} {a0 : Nat} {u1 : Value} : cj_res 66 0 [.ref a0, u1] [] (cg_M L f e) = cj_res 66 2 [.ref a0, .int (nI 0)] [] (cg_M L f e) := by
  refine (g_0 (by decide +kernel : kd_ 66 0 = ((0, 0, 0, []), 1))).trans ?_
  refine (g_4 (ls' := [.ref a0, .int (nI 0)]) (by decide +kernel : kd_ 66 1 = ((4, 1, 0, []), 2)) rfl rfl).trans ?_
  rfl
theorem b_C_isOrder_2 {L : Nat} {f : cg_G} {e : Nat × Nat} {x1 : Int32} {a0 : Nat} (h1 : sh_ a0 = 6): cj_res 66 2 [.ref a0, .int x1] [] (cg_M L f e) = cj_aft 66 4 7 [.ref a0, .int x1] [.int x1] (cj_ev 39 [.ref a0] (cg_M L f e)) := by
  refine (g_2 (by decide +kernel : kd_ 66 2 = ((2, 1, 0, []), 3)) rfl).trans ?_
  refine (g_3 (by decide +kernel : kd_ 66 3 = ((3, 0, 0, []), 4)) rfl).trans ?_
  exact g_80 (by decide +kernel : kd_ 66 4 = ((80, 39, 1, [6]), 7)) rfl h1 rfl rfl rfl
theorem b_C_isOrder_7 {L : Nat} {f : cg_G} {e : Nat × Nat} {x1 y0 y1 : Int32} {a0 : Nat} : cj_res 66 7 [.ref a0, .int x1] [.int y0, .int y1] (cg_M L f e) = if y0 ≤ y1 then cj_res 66 42 [.ref a0, .int x1] [] (cg_M L f e) else cj_res 66 10 [.ref a0, .int x1] [] (cg_M L f e) := by
  exact g_40 (by decide +kernel : kd_ 66 7 = ((40, 42, 0, []), 10))
theorem b_C_isOrder_10 {L : Nat} {f : cg_G} {e : Nat × Nat} {x1 : Int32} {a0 : Nat} (h1 : sh_ a0 = 6): cj_res 66 10 [.ref a0, .int x1] [] (cg_M L f e) = cj_aft 66 12 15 [.ref a0, .int x1] [] (cj_ev 36 [.ref a0, .int x1] (cg_M L f e)) := by
  refine (g_3 (by decide +kernel : kd_ 66 10 = ((3, 0, 0, []), 11)) rfl).trans ?_
  refine (g_2 (by decide +kernel : kd_ 66 11 = ((2, 1, 0, []), 12)) rfl).trans ?_
  exact g_80 (by decide +kernel : kd_ 66 12 = ((80, 36, 2, [6]), 15)) rfl h1 rfl rfl rfl
theorem b_C_isOrder_15 {L : Nat} {f : cg_G} {e : Nat × Nat} {x1 y0 : Int32} {a0 : Nat} : cj_res 66 15 [.ref a0, .int x1] [.int y0] (cg_M L f e) = cj_aft 66 15 18 [.ref a0, .int x1] [] (cj_ev 3 [.int y0] (cg_M L f e)) := by
  exact g_81 (by decide +kernel : kd_ 66 15 = ((81, 3, 1, []), 18)) rfl rfl rfl
theorem b_C_isOrder_18 {L : Nat} {f : cg_G} {e : Nat × Nat} {x1 y0 : Int32} {a0 : Nat} : cj_res 66 18 [.ref a0, .int x1] [.int y0] (cg_M L f e) = if y0 = 0 then cj_res 66 34 [.ref a0, .int x1] [] (cg_M L f e) else cj_res 66 21 [.ref a0, .int x1] [] (cg_M L f e) := by
  exact g_31 (by decide +kernel : kd_ 66 18 = ((31, 34, 0, []), 21))
theorem b_C_isOrder_21 {L : Nat} {f : cg_G} {e : Nat × Nat} {x1 : Int32} {a0 : Nat} (h1 : sh_ a0 = 6): cj_res 66 21 [.ref a0, .int x1] [] (cg_M L f e) = cj_aft 66 24 27 [.ref a0, .int x1] [.ref a0] (cj_ev 36 [.ref a0, .int x1] (cg_M L f e)) := by
  refine (g_3 (by decide +kernel : kd_ 66 21 = ((3, 0, 0, []), 22)) rfl).trans ?_
  refine (g_3 (by decide +kernel : kd_ 66 22 = ((3, 0, 0, []), 23)) rfl).trans ?_
  refine (g_2 (by decide +kernel : kd_ 66 23 = ((2, 1, 0, []), 24)) rfl).trans ?_
  exact g_80 (by decide +kernel : kd_ 66 24 = ((80, 36, 2, [6]), 27)) rfl h1 rfl rfl rfl
theorem b_C_isOrder_27 {L : Nat} {f : cg_G} {e : Nat × Nat} {x1 y0 : Int32} {a0 c1 : Nat} (h1 : sh_ c1 = 6): cj_res 66 27 [.ref a0, .int x1] [.int y0, .ref c1] (cg_M L f e) = cj_aft 66 27 30 [.ref a0, .int x1] [] (cj_ev 38 [.ref c1, .int y0] (cg_M L f e)) := by
  exact g_80 (by decide +kernel : kd_ 66 27 = ((80, 38, 2, [6]), 30)) rfl h1 rfl rfl rfl
theorem b_C_isOrder_30 {L : Nat} {f : cg_G} {e : Nat × Nat} {x1 y0 : Int32} {a0 : Nat} : cj_res 66 30 [.ref a0, .int x1] [.int y0] (cg_M L f e) = if y0 = x1 then cj_res 66 36 [.ref a0, .int x1] [] (cg_M L f e) else cj_res 66 34 [.ref a0, .int x1] [] (cg_M L f e) := by
  refine (g_2 (by decide +kernel : kd_ 66 30 = ((2, 1, 0, []), 31)) rfl).trans ?_
  exact g_37 (by decide +kernel : kd_ 66 31 = ((37, 36, 0, []), 34))
theorem b_C_isOrder_34 {L : Nat} {f : cg_G} {e : Nat × Nat} {x1 : Int32} {a0 : Nat} : cj_res 66 34 [.ref a0, .int x1] [] (cg_M L f e) = some (.inl (some (.int (nI 0))), cg_M L f e) := by
  refine (g_0 (by decide +kernel : kd_ 66 34 = ((0, 0, 0, []), 35))).trans ?_
  exact g_93 (by decide +kernel : kd_ 66 35 = ((93, 0, 0, []), 36)) (by decide)
theorem b_C_isOrder_36 {L : Nat} {f : cg_G} {e : Nat × Nat} {x1 : Int32} {a0 : Nat} : cj_res 66 36 [.ref a0, .int x1] [] (cg_M L f e) = cj_res 66 2 [.ref a0, .int (x1 + nI 1)] [] (cg_M L f e) := by
  refine (g_6 (ls' := [.ref a0, .int (x1 + nI 1)]) (by decide +kernel : kd_ 66 36 = ((6, 1, 1, []), 39)) rfl rfl).trans ?_
  refine (g_30 (by decide +kernel : kd_ 66 39 = ((30, 2, 0, []), 42))).trans ?_
  rfl
theorem b_C_isOrder_42 {L : Nat} {f : cg_G} {e : Nat × Nat} {x1 : Int32} {a0 : Nat} : cj_res 66 42 [.ref a0, .int x1] [] (cg_M L f e) = some (.inl (some (.int (nI 1))), cg_M L f e) := by
  refine (g_0 (by decide +kernel : kd_ 66 42 = ((0, 1, 0, []), 43))).trans ?_
  exact g_93 (by decide +kernel : kd_ 66 43 = ((93, 0, 0, []), 44)) (by decide)
theorem b_C_picture_0 {L : Nat} {f : cg_G} {e : Nat × Nat} {x1 x2 : Int32} {a0 : Nat} (h1 : sh_ a0 = 0): cj_res 67 0 [.ref a0, .int x1, .int x2] [] (cg_M L f e) = cj_aft 67 2 5 [.ref a0, .int x1, .int x2] [] (cj_ev 1 [.ref a0, .int x1] (cg_M L f e)) := by
  refine (g_3 (by decide +kernel : kd_ 67 0 = ((3, 0, 0, []), 1)) rfl).trans ?_
  refine (g_2 (by decide +kernel : kd_ 67 1 = ((2, 1, 0, []), 2)) rfl).trans ?_
  exact g_80 (by decide +kernel : kd_ 67 2 = ((80, 1, 2, [0]), 5)) rfl h1 rfl rfl rfl
theorem b_C_picture_5 {L : Nat} {f : cg_G} {e : Nat × Nat} {x1 x2 y0 : Int32} {a0 : Nat} : cj_res 67 5 [.ref a0, .int x1, .int x2] [.int y0] (cg_M L f e) = if y0 = 0 then cj_res 67 8 [.ref a0, .int x1, .int x2] [] (cg_M L f e) else cj_res 67 18 [.ref a0, .int x1, .int x2] [] (cg_M L f e) := by
  exact g_32 (by decide +kernel : kd_ 67 5 = ((32, 18, 0, []), 8))
theorem b_C_picture_8 {L : Nat} {f : cg_G} {e : Nat × Nat} {x1 x2 : Int32} {a0 : Nat} : cj_res 67 8 [.ref a0, .int x1, .int x2] [] (cg_M L f e) = some (.inr 2, cj_pay (cg_M L f e) 1 6) := by
  exact g_95 (by decide +kernel : kd_ 67 8 = ((95, 2, 0, []), 11))
theorem b_C_picture_18 {L : Nat} {f : cg_G} {e : Nat × Nat} {x1 x2 : Int32} {a0 : Nat} : cj_res 67 18 [.ref a0, .int x1, .int x2] [] (cg_M L f e) = if x2 < 0 then cj_res 67 28 [.ref a0, .int x1, .int x2] [] (cg_M L f e) else cj_res 67 22 [.ref a0, .int x1, .int x2] [] (cg_M L f e) := by
  refine (g_2 (by decide +kernel : kd_ 67 18 = ((2, 2, 0, []), 19)) rfl).trans ?_
  exact g_33 (by decide +kernel : kd_ 67 19 = ((33, 28, 0, []), 22))
theorem b_C_picture_22 {L : Nat} {f : cg_G} {e : Nat × Nat} {x1 x2 : Int32} {a0 : Nat} : cj_res 67 22 [.ref a0, .int x1, .int x2] [] (cg_M L f e) = if x2 ≤ (nI 30) then cj_res 67 38 [.ref a0, .int x1, .int x2] [] (cg_M L f e) else cj_res 67 28 [.ref a0, .int x1, .int x2] [] (cg_M L f e) := by
  refine (g_2 (by decide +kernel : kd_ 67 22 = ((2, 2, 0, []), 23)) rfl).trans ?_
  refine (g_0 (by decide +kernel : kd_ 67 23 = ((0, 30, 0, []), 25))).trans ?_
  exact g_42 (by decide +kernel : kd_ 67 25 = ((42, 38, 0, []), 28))
theorem b_C_picture_28 {L : Nat} {f : cg_G} {e : Nat × Nat} {x1 x2 : Int32} {a0 : Nat} : cj_res 67 28 [.ref a0, .int x1, .int x2] [] (cg_M L f e) = some (.inr 1, cj_pay (cg_M L f e) 1 6) := by
  exact g_95 (by decide +kernel : kd_ 67 28 = ((95, 1, 0, []), 31))
theorem b_C_picture_38 {L : Nat} {f : cg_G} {e : Nat × Nat} {x1 x2 : Int32} {a0 : Nat} (h1 : sh_ a0 = 0) (h2 : cg_in x1 8): cj_res 67 38 [.ref a0, .int x1, .int x2] [] (cg_M L f e) = cj_aft 67 45 48 [.ref a0, .int x1, .int x2] [] (cj_ev 10 [.ref ((a0 + 18) + 1 + 13 * x1.toNatClampNeg), .int x2] (cg_M L f e)) := by
  refine (g_3 (by decide +kernel : kd_ 67 38 = ((3, 0, 0, []), 39)) rfl).trans ?_
  refine (g_50 (v := .ref (a0 + 18)) (by decide +kernel : kd_ 67 39 = ((50, 0, 4, []), 42)) h1 rfl).trans ?_
  refine (g_2 (by decide +kernel : kd_ 67 42 = ((2, 1, 0, []), 43)) rfl).trans ?_
  refine (g_54 (v := .ref ((a0 + 18) + 1 + 13 * x1.toNatClampNeg)) (by decide +kernel : kd_ 67 43 = ((54, 4, 0, []), 44)) (sc_0_4 h1) rfl (by rw [sl_0_4 h1]; exact h2) (el_if (cg_in_lt h2))).trans ?_
  refine (g_2 (by decide +kernel : kd_ 67 44 = ((2, 2, 0, []), 45)) rfl).trans ?_
  exact g_80 (by decide +kernel : kd_ 67 45 = ((80, 10, 2, [2]), 48)) rfl (sa_104 (sc_0_4 h1) (cg_in_lt h2)) rfl rfl rfl
theorem b_C_picture_48 {L : Nat} {f : cg_G} {e : Nat × Nat} {x1 x2 y0 : Int32} {a0 : Nat} : cj_res 67 48 [.ref a0, .int x1, .int x2] [.int y0] (cg_M L f e) = some (.inl (some (.int y0)), cg_M L f e) := by
  exact g_90 (by decide +kernel : kd_ 67 48 = ((90, 0, 0, []), 49))
theorem b_C_rankOf_0 {L : Nat} {f : cg_G} {e : Nat × Nat} {x1 : Int32} {a0 : Nat} {u2 : Value} : cj_res 68 0 [.ref a0, .int x1, u2] [] (cg_M L f e) = if x1 = (nI 32) then cj_res 68 6 [.ref a0, .int x1, u2] [] (cg_M L f e) else cj_res 68 8 [.ref a0, .int x1, u2] [] (cg_M L f e) := by
  refine (g_2 (by decide +kernel : kd_ 68 0 = ((2, 1, 0, []), 1)) rfl).trans ?_
  refine (g_0 (by decide +kernel : kd_ 68 1 = ((0, 32, 0, []), 3))).trans ?_
  exact g_38 (by decide +kernel : kd_ 68 3 = ((38, 8, 0, []), 6))
theorem b_C_rankOf_6 {L : Nat} {f : cg_G} {e : Nat × Nat} {x1 : Int32} {a0 : Nat} {u2 : Value} : cj_res 68 6 [.ref a0, .int x1, u2] [] (cg_M L f e) = some (.inl (some (.int (nI 0))), cg_M L f e) := by
  refine (g_0 (by decide +kernel : kd_ 68 6 = ((0, 0, 0, []), 7))).trans ?_
  exact g_90 (by decide +kernel : kd_ 68 7 = ((90, 0, 0, []), 8))
theorem b_C_rankOf_8 {L : Nat} {f : cg_G} {e : Nat × Nat} {x1 : Int32} {a0 : Nat} {u2 : Value} (h1 : sh_ a0 = 0): cj_res 68 8 [.ref a0, .int x1, u2] [] (cg_M L f e) = cj_aft 68 13 16 [.ref a0, .int x1, u2] [] (cj_ev 38 [.ref (a0 + 3), .int x1] (cg_M L f e)) := by
  refine (g_3 (by decide +kernel : kd_ 68 8 = ((3, 0, 0, []), 9)) rfl).trans ?_
  refine (g_50 (v := .ref (a0 + 3)) (by decide +kernel : kd_ 68 9 = ((50, 0, 2, []), 12)) h1 rfl).trans ?_
  refine (g_2 (by decide +kernel : kd_ 68 12 = ((2, 1, 0, []), 13)) rfl).trans ?_
  exact g_80 (by decide +kernel : kd_ 68 13 = ((80, 38, 2, [6]), 16)) rfl (sc_0_2 h1) rfl rfl rfl
theorem b_C_rankOf_16 {L : Nat} {f : cg_G} {e : Nat × Nat} {x1 y0 : Int32} {a0 : Nat} {u2 : Value} : cj_res 68 16 [.ref a0, .int x1, u2] [.int y0] (cg_M L f e) = if y0 = (- nI 1) then cj_res 68 22 [.ref a0, .int x1, .int y0] [] (cg_M L f e) else cj_res 68 29 [.ref a0, .int x1, .int y0] [] (cg_M L f e) := by
  refine (g_4 (ls' := [.ref a0, .int x1, .int y0]) (by decide +kernel : kd_ 68 16 = ((4, 2, 0, []), 17)) rfl rfl).trans ?_
  refine (g_2 (by decide +kernel : kd_ 68 17 = ((2, 2, 0, []), 18)) rfl).trans ?_
  refine (g_1 (by decide +kernel : kd_ 68 18 = ((1, 1, 0, []), 19))).trans ?_
  exact g_38 (by decide +kernel : kd_ 68 19 = ((38, 29, 0, []), 22))
theorem b_C_rankOf_22 {L : Nat} {f : cg_G} {e : Nat × Nat} {x1 x2 : Int32} {a0 : Nat} : cj_res 68 22 [.ref a0, .int x1, .int x2] [] (cg_M L f e) = cj_res 68 32 [.ref a0, .int x1, .int x2] [.int ((nI 27) + x1)] (cg_M L f e) := by
  refine (g_0 (by decide +kernel : kd_ 68 22 = ((0, 27, 0, []), 24))).trans ?_
  refine (g_2 (by decide +kernel : kd_ 68 24 = ((2, 1, 0, []), 25)) rfl).trans ?_
  refine (g_10 (by decide +kernel : kd_ 68 25 = ((10, 0, 0, []), 26))).trans ?_
  refine (g_30 (by decide +kernel : kd_ 68 26 = ((30, 32, 0, []), 29))).trans ?_
  rfl
theorem b_C_rankOf_29 {L : Nat} {f : cg_G} {e : Nat × Nat} {x1 x2 : Int32} {a0 : Nat} : cj_res 68 29 [.ref a0, .int x1, .int x2] [] (cg_M L f e) = cj_res 68 32 [.ref a0, .int x1, .int x2] [.int ((nI 1) + x2)] (cg_M L f e) := by
  refine (g_0 (by decide +kernel : kd_ 68 29 = ((0, 1, 0, []), 30))).trans ?_
  refine (g_2 (by decide +kernel : kd_ 68 30 = ((2, 2, 0, []), 31)) rfl).trans ?_
  refine (g_10 (by decide +kernel : kd_ 68 31 = ((10, 0, 0, []), 32))).trans ?_
  rfl
theorem b_C_rankOf_32 {L : Nat} {f : cg_G} {e : Nat × Nat} {x1 x2 y0 : Int32} {a0 : Nat} : cj_res 68 32 [.ref a0, .int x1, .int x2] [.int y0] (cg_M L f e) = some (.inl (some (.int y0)), cg_M L f e) := by
  exact g_90 (by decide +kernel : kd_ 68 32 = ((90, 0, 0, []), 33))
theorem b_C_signsIn_0 {L : Nat} {f : cg_G} {e : Nat × Nat} {x0 : Int32} {u1 u2 : Value} : cj_res 69 0 [.int x0, u1, u2] [] (cg_M L f e) = cj_res 69 4 [.int x0, .int (nI 0), .int (nI 0)] [] (cg_M L f e) := by
  refine (g_0 (by decide +kernel : kd_ 69 0 = ((0, 0, 0, []), 1))).trans ?_
  refine (g_4 (ls' := [.int x0, .int (nI 0), u2]) (by decide +kernel : kd_ 69 1 = ((4, 1, 0, []), 2)) rfl rfl).trans ?_
  refine (g_0 (by decide +kernel : kd_ 69 2 = ((0, 0, 0, []), 3))).trans ?_
  refine (g_4 (ls' := [.int x0, .int (nI 0), .int (nI 0)]) (by decide +kernel : kd_ 69 3 = ((4, 2, 0, []), 4)) rfl rfl).trans ?_
  rfl
theorem b_C_signsIn_4 {L : Nat} {f : cg_G} {e : Nat × Nat} {x0 x1 x2 : Int32} : cj_res 69 4 [.int x0, .int x1, .int x2] [] (cg_M L f e) = if (nI 4) ≤ x2 then cj_res 69 26 [.int x0, .int x1, .int x2] [] (cg_M L f e) else cj_res 69 9 [.int x0, .int x1, .int x2] [] (cg_M L f e) := by
  refine (g_2 (by decide +kernel : kd_ 69 4 = ((2, 2, 0, []), 5)) rfl).trans ?_
  refine (g_0 (by decide +kernel : kd_ 69 5 = ((0, 4, 0, []), 6))).trans ?_
  exact g_40 (by decide +kernel : kd_ 69 6 = ((40, 26, 0, []), 9))
theorem b_C_signsIn_9 {L : Nat} {f : cg_G} {e : Nat × Nat} {x0 x1 x2 : Int32} : cj_res 69 9 [.int x0, .int x1, .int x2] [] (cg_M L f e) = cj_aft 69 11 14 [.int x0, .int x1, .int x2] [] (cj_ev 0 [.int x0, .int x2] (cg_M L f e)) := by
  refine (g_2 (by decide +kernel : kd_ 69 9 = ((2, 0, 0, []), 10)) rfl).trans ?_
  refine (g_2 (by decide +kernel : kd_ 69 10 = ((2, 2, 0, []), 11)) rfl).trans ?_
  exact g_81 (by decide +kernel : kd_ 69 11 = ((81, 0, 2, []), 14)) rfl rfl rfl
theorem b_C_signsIn_14 {L : Nat} {f : cg_G} {e : Nat × Nat} {x0 x1 x2 y0 : Int32} : cj_res 69 14 [.int x0, .int x1, .int x2] [.int y0] (cg_M L f e) = if y0 = 0 then cj_res 69 20 [.int x0, .int x1, .int x2] [] (cg_M L f e) else cj_res 69 17 [.int x0, .int x1, .int x2] [] (cg_M L f e) := by
  exact g_31 (by decide +kernel : kd_ 69 14 = ((31, 20, 0, []), 17))
theorem b_C_signsIn_17 {L : Nat} {f : cg_G} {e : Nat × Nat} {x0 x1 x2 : Int32} : cj_res 69 17 [.int x0, .int x1, .int x2] [] (cg_M L f e) = cj_res 69 20 [.int x0, .int (x1 + nI 1), .int x2] [] (cg_M L f e) := by
  refine (g_6 (ls' := [.int x0, .int (x1 + nI 1), .int x2]) (by decide +kernel : kd_ 69 17 = ((6, 1, 1, []), 20)) rfl rfl).trans ?_
  rfl
theorem b_C_signsIn_20 {L : Nat} {f : cg_G} {e : Nat × Nat} {x0 x1 x2 : Int32} : cj_res 69 20 [.int x0, .int x1, .int x2] [] (cg_M L f e) = cj_res 69 4 [.int x0, .int x1, .int (x2 + nI 1)] [] (cg_M L f e) := by
  refine (g_6 (ls' := [.int x0, .int x1, .int (x2 + nI 1)]) (by decide +kernel : kd_ 69 20 = ((6, 2, 1, []), 23)) rfl rfl).trans ?_
  refine (g_30 (by decide +kernel : kd_ 69 23 = ((30, 4, 0, []), 26))).trans ?_
  rfl
theorem b_C_signsIn_26 {L : Nat} {f : cg_G} {e : Nat × Nat} {x0 x1 x2 : Int32} : cj_res 69 26 [.int x0, .int x1, .int x2] [] (cg_M L f e) = some (.inl (some (.int x1)), cg_M L f e) := by
  refine (g_2 (by decide +kernel : kd_ 69 26 = ((2, 1, 0, []), 27)) rfl).trans ?_
  exact g_90 (by decide +kernel : kd_ 69 27 = ((90, 0, 0, []), 28))
theorem b_Block_markLines_0 {L : Nat} {f : cg_G} {e : Nat × Nat} {a0 a1 : Nat} {u2 u3 u4 u5 : Value} : cj_res 71 0 [.ref a0, .ref a1, u2, u3, u4, u5] [] (cg_M L f e) = cj_res 71 4 [.ref a0, .ref a1, .int (nI 0), .int (nI 0), u4, u5] [] (cg_M L f e) := by
  refine (g_0 (by decide +kernel : kd_ 71 0 = ((0, 0, 0, []), 1))).trans ?_
  refine (g_4 (ls' := [.ref a0, .ref a1, .int (nI 0), u3, u4, u5]) (by decide +kernel : kd_ 71 1 = ((4, 2, 0, []), 2)) rfl rfl).trans ?_
  refine (g_0 (by decide +kernel : kd_ 71 2 = ((0, 0, 0, []), 3))).trans ?_
  refine (g_4 (ls' := [.ref a0, .ref a1, .int (nI 0), .int (nI 0), u4, u5]) (by decide +kernel : kd_ 71 3 = ((4, 3, 0, []), 4)) rfl rfl).trans ?_
  rfl
theorem b_Block_markLines_4 {L : Nat} {f : cg_G} {e : Nat × Nat} {x2 x3 : Int32} {a0 a1 : Nat} {u4 u5 : Value} (h1 : sh_ a1 = 3): cj_res 71 4 [.ref a0, .ref a1, .int x2, .int x3, u4, u5] [] (cg_M L f e) = cj_aft 71 6 9 [.ref a0, .ref a1, .int x2, .int x3, u4, u5] [.int x3] (cj_ev 20 [.ref a1] (cg_M L f e)) := by
  refine (g_2 (by decide +kernel : kd_ 71 4 = ((2, 3, 0, []), 5)) rfl).trans ?_
  refine (g_3 (by decide +kernel : kd_ 71 5 = ((3, 1, 0, []), 6)) rfl).trans ?_
  exact g_80 (by decide +kernel : kd_ 71 6 = ((80, 20, 1, [3]), 9)) rfl h1 rfl rfl rfl
theorem b_Block_markLines_9 {L : Nat} {f : cg_G} {e : Nat × Nat} {x2 x3 y0 y1 : Int32} {a0 a1 : Nat} {u4 u5 : Value} : cj_res 71 9 [.ref a0, .ref a1, .int x2, .int x3, u4, u5] [.int y0, .int y1] (cg_M L f e) = if y0 ≤ y1 then cj_res 71 81 [.ref a0, .ref a1, .int x2, .int x3, u4, u5] [] (cg_M L f e) else cj_res 71 12 [.ref a0, .ref a1, .int x2, .int x3, u4, u5] [] (cg_M L f e) := by
  exact g_40 (by decide +kernel : kd_ 71 9 = ((40, 81, 0, []), 12))
theorem b_Block_markLines_12 {L : Nat} {f : cg_G} {e : Nat × Nat} {x2 x3 : Int32} {a0 a1 : Nat} {u4 u5 : Value} (h1 : sh_ a0 = 1): cj_res 71 12 [.ref a0, .ref a1, .int x2, .int x3, u4, u5] [] (cg_M L f e) = if (nI 106) ≤ (f a0 2) then cj_res 71 81 [.ref a0, .ref a1, .int x2, .int x3, u4, u5] [] (cg_M L f e) else cj_res 71 21 [.ref a0, .ref a1, .int x2, .int x3, u4, u5] [] (cg_M L f e) := by
  refine (g_3 (by decide +kernel : kd_ 71 12 = ((3, 0, 0, []), 13)) rfl).trans ?_
  refine (g_50 (v := .int (f a0 2)) (by decide +kernel : kd_ 71 13 = ((50, 1, 2, []), 16)) h1 rfl).trans ?_
  refine (g_0 (by decide +kernel : kd_ 71 16 = ((0, 106, 0, []), 18))).trans ?_
  exact g_40 (by decide +kernel : kd_ 71 18 = ((40, 81, 0, []), 21))
theorem b_Block_markLines_21 {L : Nat} {f : cg_G} {e : Nat × Nat} {x2 x3 : Int32} {a0 a1 : Nat} {u4 u5 : Value} (h1 : sh_ a0 = 1) (h2 : cg_in (f a0 2) 107) (h3 : sh_ a1 = 3): cj_res 71 21 [.ref a0, .ref a1, .int x2, .int x3, u4, u5] [] (cg_M L f e) = cj_aft 71 43 46 [.ref a0, .ref a1, .int x2, .int x3, u4, u5] [] (cj_ev 18 [.ref a1, .int x3] (cg_M L (cg_up (cg_up f (a0 + 3) (f a0 2).toNatClampNeg x2) a0 2 (((cg_up f (a0 + 3) (f a0 2).toNatClampNeg x2) a0 2) + (nI 1))) e)) := by
  refine (g_3 (by decide +kernel : kd_ 71 21 = ((3, 0, 0, []), 22)) rfl).trans ?_
  refine (g_50 (v := .ref (a0 + 3)) (by decide +kernel : kd_ 71 22 = ((50, 1, 1, []), 25)) h1 rfl).trans ?_
  refine (g_3 (by decide +kernel : kd_ 71 25 = ((3, 0, 0, []), 26)) rfl).trans ?_
  refine (g_50 (v := .int (f a0 2)) (by decide +kernel : kd_ 71 26 = ((50, 1, 2, []), 29)) h1 rfl).trans ?_
  refine (g_2 (by decide +kernel : kd_ 71 29 = ((2, 2, 0, []), 30)) rfl).trans ?_
  refine (g_56 (by decide +kernel : kd_ 71 30 = ((56, 0, 0, []), 31)) (sc_1_1 h1) (fun _ => rfl) (by rw [sl_1_1 h1]; exact h2) (by omega)).trans ?_
  refine (g_3 (by decide +kernel : kd_ 71 31 = ((3, 0, 0, []), 32)) rfl).trans ?_
  refine (g_25 (by decide +kernel : kd_ 71 32 = ((25, 0, 0, []), 33)) rfl).trans ?_
  refine (g_50 (v := .int ((cg_up f (a0 + 3) (f a0 2).toNatClampNeg x2) a0 2)) (by decide +kernel : kd_ 71 33 = ((50, 1, 2, []), 36)) h1 rfl).trans ?_
  refine (g_0 (by decide +kernel : kd_ 71 36 = ((0, 1, 0, []), 37))).trans ?_
  refine (g_10 (by decide +kernel : kd_ 71 37 = ((10, 0, 0, []), 38))).trans ?_
  refine (g_51 (x := ((cg_up f (a0 + 3) (f a0 2).toNatClampNeg x2) a0 2) + (nI 1)) (v := .int (((cg_up f (a0 + 3) (f a0 2).toNatClampNeg x2) a0 2) + (nI 1))) (by decide +kernel : kd_ 71 38 = ((51, 1, 2, [0]), 41)) h1 rfl rfl rfl (sz_1 h1) rfl).trans ?_
  refine (g_3 (by decide +kernel : kd_ 71 41 = ((3, 1, 0, []), 42)) rfl).trans ?_
  refine (g_2 (by decide +kernel : kd_ 71 42 = ((2, 3, 0, []), 43)) rfl).trans ?_
  exact g_80 (by decide +kernel : kd_ 71 43 = ((80, 18, 2, [3]), 46)) rfl h3 rfl rfl rfl
theorem b_Block_markLines_46 {L : Nat} {f : cg_G} {e : Nat × Nat} {x2 x3 y0 : Int32} {a0 a1 : Nat} {u4 u5 : Value} : cj_res 71 46 [.ref a0, .ref a1, .int x2, .int x3, u4, u5] [.int y0] (cg_M L f e) = cj_res 71 51 [.ref a0, .ref a1, .int x2, .int x3, .int y0, .int x3] [] (cg_M L f e) := by
  refine (g_4 (ls' := [.ref a0, .ref a1, .int x2, .int x3, .int y0, u5]) (by decide +kernel : kd_ 71 46 = ((4, 4, 0, []), 48)) rfl rfl).trans ?_
  refine (g_2 (by decide +kernel : kd_ 71 48 = ((2, 3, 0, []), 49)) rfl).trans ?_
  refine (g_4 (ls' := [.ref a0, .ref a1, .int x2, .int x3, .int y0, .int x3]) (by decide +kernel : kd_ 71 49 = ((4, 5, 0, []), 51)) rfl rfl).trans ?_
  rfl
theorem b_Block_markLines_51 {L : Nat} {f : cg_G} {e : Nat × Nat} {x2 x3 x4 x5 : Int32} {a0 a1 : Nat} : cj_res 71 51 [.ref a0, .ref a1, .int x2, .int x3, .int x4, .int x5] [] (cg_M L f e) = if x4 ≤ x5 then cj_res 71 75 [.ref a0, .ref a1, .int x2, .int x3, .int x4, .int x5] [] (cg_M L f e) else cj_res 71 58 [.ref a0, .ref a1, .int x2, .int x3, .int x4, .int x5] [] (cg_M L f e) := by
  refine (g_2 (by decide +kernel : kd_ 71 51 = ((2, 5, 0, []), 53)) rfl).trans ?_
  refine (g_2 (by decide +kernel : kd_ 71 53 = ((2, 4, 0, []), 55)) rfl).trans ?_
  exact g_40 (by decide +kernel : kd_ 71 55 = ((40, 75, 0, []), 58))
theorem b_Block_markLines_58 {L : Nat} {f : cg_G} {e : Nat × Nat} {x2 x3 x4 x5 : Int32} {a0 a1 : Nat} (h1 : sh_ a1 = 3): cj_res 71 58 [.ref a0, .ref a1, .int x2, .int x3, .int x4, .int x5] [] (cg_M L f e) = cj_aft 71 62 65 [.ref a0, .ref a1, .int x2, .int x3, .int x4, .int x5] [.int x2] (cj_ev 22 [.ref a1, .int x5] (cg_M L f e)) := by
  refine (g_2 (by decide +kernel : kd_ 71 58 = ((2, 2, 0, []), 59)) rfl).trans ?_
  refine (g_3 (by decide +kernel : kd_ 71 59 = ((3, 1, 0, []), 60)) rfl).trans ?_
  refine (g_2 (by decide +kernel : kd_ 71 60 = ((2, 5, 0, []), 62)) rfl).trans ?_
  exact g_80 (by decide +kernel : kd_ 71 62 = ((80, 22, 2, [3]), 65)) rfl h1 rfl rfl rfl
theorem b_Block_markLines_65 {L : Nat} {f : cg_G} {e : Nat × Nat} {x2 x3 x4 x5 y0 y1 : Int32} {a0 a1 : Nat} : cj_res 71 65 [.ref a0, .ref a1, .int x2, .int x3, .int x4, .int x5] [.int y0, .int y1] (cg_M L f e) = cj_res 71 51 [.ref a0, .ref a1, .int (y1 + (y0 + (nI 1))), .int x3, .int x4, .int (x5 + nI 1)] [] (cg_M L f e) := by
  refine (g_0 (by decide +kernel : kd_ 71 65 = ((0, 1, 0, []), 66))).trans ?_
  refine (g_10 (by decide +kernel : kd_ 71 66 = ((10, 0, 0, []), 67))).trans ?_
  refine (g_10 (by decide +kernel : kd_ 71 67 = ((10, 0, 0, []), 68))).trans ?_
  refine (g_4 (ls' := [.ref a0, .ref a1, .int (y1 + (y0 + (nI 1))), .int x3, .int x4, .int x5]) (by decide +kernel : kd_ 71 68 = ((4, 2, 0, []), 69)) rfl rfl).trans ?_
  refine (g_6 (ls' := [.ref a0, .ref a1, .int (y1 + (y0 + (nI 1))), .int x3, .int x4, .int (x5 + nI 1)]) (by decide +kernel : kd_ 71 69 = ((6, 5, 1, []), 72)) rfl rfl).trans ?_
  refine (g_30 (by decide +kernel : kd_ 71 72 = ((30, 51, 0, []), 75))).trans ?_
  rfl
theorem b_Block_markLines_75 {L : Nat} {f : cg_G} {e : Nat × Nat} {x2 x3 x4 x5 : Int32} {a0 a1 : Nat} : cj_res 71 75 [.ref a0, .ref a1, .int x2, .int x3, .int x4, .int x5] [] (cg_M L f e) = cj_res 71 4 [.ref a0, .ref a1, .int x2, .int x4, .int x4, .int x5] [] (cg_M L f e) := by
  refine (g_2 (by decide +kernel : kd_ 71 75 = ((2, 4, 0, []), 77)) rfl).trans ?_
  refine (g_4 (ls' := [.ref a0, .ref a1, .int x2, .int x4, .int x4, .int x5]) (by decide +kernel : kd_ 71 77 = ((4, 3, 0, []), 78)) rfl rfl).trans ?_
  refine (g_30 (by decide +kernel : kd_ 71 78 = ((30, 4, 0, []), 81))).trans ?_
  rfl
theorem b_Block_markLines_81 {L : Nat} {f : cg_G} {e : Nat × Nat} {x2 x3 : Int32} {a0 a1 : Nat} {u4 u5 : Value} (h1 : sh_ a0 = 1) (h2 : cg_in (f a0 2) 107): cj_res 71 81 [.ref a0, .ref a1, .int x2, .int x3, u4, u5] [] (cg_M L f e) = some (.inl none, cg_M L (cg_up f (a0 + 3) (f a0 2).toNatClampNeg x2) e) := by
  refine (g_3 (by decide +kernel : kd_ 71 81 = ((3, 0, 0, []), 82)) rfl).trans ?_
  refine (g_50 (v := .ref (a0 + 3)) (by decide +kernel : kd_ 71 82 = ((50, 1, 1, []), 85)) h1 rfl).trans ?_
  refine (g_3 (by decide +kernel : kd_ 71 85 = ((3, 0, 0, []), 86)) rfl).trans ?_
  refine (g_50 (v := .int (f a0 2)) (by decide +kernel : kd_ 71 86 = ((50, 1, 2, []), 89)) h1 rfl).trans ?_
  refine (g_2 (by decide +kernel : kd_ 71 89 = ((2, 2, 0, []), 90)) rfl).trans ?_
  refine (g_56 (by decide +kernel : kd_ 71 90 = ((56, 0, 0, []), 91)) (sc_1_1 h1) (fun _ => rfl) (by rw [sl_1_1 h1]; exact h2) (by omega)).trans ?_
  exact g_91 (by decide +kernel : kd_ 71 91 = ((91, 0, 0, []), 92))
theorem b_Block_signAt_0 {L : Nat} {f : cg_G} {e : Nat × Nat} {x1 x2 : Int32} {a0 : Nat} : cj_res 72 0 [.ref a0, .int x1, .int x2] [] (cg_M L f e) = if x2 < 0 then cj_res 72 31 [.ref a0, .int x1, .int x2] [] (cg_M L f e) else cj_res 72 4 [.ref a0, .int x1, .int x2] [] (cg_M L f e) := by
  refine (g_2 (by decide +kernel : kd_ 72 0 = ((2, 2, 0, []), 1)) rfl).trans ?_
  exact g_33 (by decide +kernel : kd_ 72 1 = ((33, 31, 0, []), 4))
theorem b_Block_signAt_4 {L : Nat} {f : cg_G} {e : Nat × Nat} {x1 x2 : Int32} {a0 : Nat} (h1 : sh_ a0 = 1): cj_res 72 4 [.ref a0, .int x1, .int x2] [] (cg_M L f e) = cj_aft 72 7 10 [.ref a0, .int x1, .int x2] [.int x2] (cj_ev 5 [.ref a0, .int x1] (cg_M L f e)) := by
  refine (g_2 (by decide +kernel : kd_ 72 4 = ((2, 2, 0, []), 5)) rfl).trans ?_
  refine (g_3 (by decide +kernel : kd_ 72 5 = ((3, 0, 0, []), 6)) rfl).trans ?_
  refine (g_2 (by decide +kernel : kd_ 72 6 = ((2, 1, 0, []), 7)) rfl).trans ?_
  exact g_80 (by decide +kernel : kd_ 72 7 = ((80, 5, 2, [1]), 10)) rfl h1 rfl rfl rfl
theorem b_Block_signAt_10 {L : Nat} {f : cg_G} {e : Nat × Nat} {x1 x2 y0 y1 : Int32} {a0 : Nat} : cj_res 72 10 [.ref a0, .int x1, .int x2] [.int y0, .int y1] (cg_M L f e) = if y0 ≤ y1 then cj_res 72 31 [.ref a0, .int x1, .int x2] [] (cg_M L f e) else cj_res 72 13 [.ref a0, .int x1, .int x2] [] (cg_M L f e) := by
  exact g_40 (by decide +kernel : kd_ 72 10 = ((40, 31, 0, []), 13))
theorem b_Block_signAt_13 {L : Nat} {f : cg_G} {e : Nat × Nat} {x1 x2 : Int32} {a0 : Nat} (h1 : sh_ a0 = 1) (h2 : cg_in x1 107): cj_res 72 13 [.ref a0, .int x1, .int x2] [] (cg_M L f e) = cj_aft 72 25 28 [.ref a0, .int x1, .int x2] [] (cj_ev 36 [.ref (a0 + 1), .int ((f (a0 + 3) x1.toNatClampNeg) + x2)] (cg_M L f e)) := by
  refine (g_3 (by decide +kernel : kd_ 72 13 = ((3, 0, 0, []), 14)) rfl).trans ?_
  refine (g_50 (v := .ref (a0 + 1)) (by decide +kernel : kd_ 72 14 = ((50, 1, 0, []), 17)) h1 rfl).trans ?_
  refine (g_3 (by decide +kernel : kd_ 72 17 = ((3, 0, 0, []), 18)) rfl).trans ?_
  refine (g_50 (v := .ref (a0 + 3)) (by decide +kernel : kd_ 72 18 = ((50, 1, 1, []), 21)) h1 rfl).trans ?_
  refine (g_2 (by decide +kernel : kd_ 72 21 = ((2, 1, 0, []), 22)) rfl).trans ?_
  refine (g_54 (v := .int (f (a0 + 3) x1.toNatClampNeg)) (by decide +kernel : kd_ 72 22 = ((54, 0, 0, []), 23)) (sc_1_1 h1) rfl (by rw [sl_1_1 h1]; exact h2) rfl).trans ?_
  refine (g_2 (by decide +kernel : kd_ 72 23 = ((2, 2, 0, []), 24)) rfl).trans ?_
  refine (g_10 (by decide +kernel : kd_ 72 24 = ((10, 0, 0, []), 25))).trans ?_
  exact g_80 (by decide +kernel : kd_ 72 25 = ((80, 36, 2, [6]), 28)) rfl (sc_1_0 h1) rfl rfl rfl
theorem b_Block_signAt_28 {L : Nat} {f : cg_G} {e : Nat × Nat} {x1 x2 y0 : Int32} {a0 : Nat} : cj_res 72 28 [.ref a0, .int x1, .int x2] [.int y0] (cg_M L f e) = cj_res 72 32 [.ref a0, .int x1, .int x2] [.int y0] (cg_M L f e) := by
  refine (g_30 (by decide +kernel : kd_ 72 28 = ((30, 32, 0, []), 31))).trans ?_
  rfl
theorem b_Block_signAt_31 {L : Nat} {f : cg_G} {e : Nat × Nat} {x1 x2 : Int32} {a0 : Nat} : cj_res 72 31 [.ref a0, .int x1, .int x2] [] (cg_M L f e) = cj_res 72 32 [.ref a0, .int x1, .int x2] [.int (nI 0)] (cg_M L f e) := by
  refine (g_0 (by decide +kernel : kd_ 72 31 = ((0, 0, 0, []), 32))).trans ?_
  rfl
theorem b_Block_signAt_32 {L : Nat} {f : cg_G} {e : Nat × Nat} {x1 x2 y0 : Int32} {a0 : Nat} : cj_res 72 32 [.ref a0, .int x1, .int x2] [.int y0] (cg_M L f e) = some (.inl (some (.int y0)), cg_M L f e) := by
  exact g_90 (by decide +kernel : kd_ 72 32 = ((90, 0, 0, []), 33))
theorem b_Block_takeWords_0 {L : Nat} {f : cg_G} {e : Nat × Nat} {a0 a1 a2 : Nat} {u3 u4 u5 : Value} (h1 : sh_ a0 = 1): cj_res 73 0 [.ref a0, .ref a1, .ref a2, u3, u4, u5] [] (cg_M L f e) = cj_aft 73 4 7 [.ref a0, .ref a1, .ref a2, u3, u4, u5] [] (cj_ev 37 [.ref (a0 + 1)] (cg_M L f e)) := by
  refine (g_3 (by decide +kernel : kd_ 73 0 = ((3, 0, 0, []), 1)) rfl).trans ?_
  refine (g_50 (v := .ref (a0 + 1)) (by decide +kernel : kd_ 73 1 = ((50, 1, 0, []), 4)) h1 rfl).trans ?_
  exact g_80 (by decide +kernel : kd_ 73 4 = ((80, 37, 1, [6]), 7)) rfl (sc_1_0 h1) rfl rfl rfl
theorem b_Block_takeWords_7 {L : Nat} {f : cg_G} {e : Nat × Nat} {a0 a1 a2 : Nat} {u3 u4 u5 : Value} : cj_res 73 7 [.ref a0, .ref a1, .ref a2, u3, u4, u5] [] (cg_M L f e) = cj_res 73 12 [.ref a0, .ref a1, .ref a2, .int (nI 0), .int (nI 0), u5] [] (cg_M L f e) := by
  refine (g_0 (by decide +kernel : kd_ 73 7 = ((0, 0, 0, []), 8))).trans ?_
  refine (g_4 (ls' := [.ref a0, .ref a1, .ref a2, .int (nI 0), u4, u5]) (by decide +kernel : kd_ 73 8 = ((4, 3, 0, []), 9)) rfl rfl).trans ?_
  refine (g_0 (by decide +kernel : kd_ 73 9 = ((0, 0, 0, []), 10))).trans ?_
  refine (g_4 (ls' := [.ref a0, .ref a1, .ref a2, .int (nI 0), .int (nI 0), u5]) (by decide +kernel : kd_ 73 10 = ((4, 4, 0, []), 12)) rfl rfl).trans ?_
  rfl
theorem b_Block_takeWords_12 {L : Nat} {f : cg_G} {e : Nat × Nat} {x3 x4 : Int32} {a0 a1 a2 : Nat} {u5 : Value} (h1 : sh_ a1 = 6): cj_res 73 12 [.ref a0, .ref a1, .ref a2, .int x3, .int x4, u5] [] (cg_M L f e) = cj_aft 73 15 18 [.ref a0, .ref a1, .ref a2, .int x3, .int x4, u5] [.int x4] (cj_ev 39 [.ref a1] (cg_M L f e)) := by
  refine (g_2 (by decide +kernel : kd_ 73 12 = ((2, 4, 0, []), 14)) rfl).trans ?_
  refine (g_3 (by decide +kernel : kd_ 73 14 = ((3, 1, 0, []), 15)) rfl).trans ?_
  exact g_80 (by decide +kernel : kd_ 73 15 = ((80, 39, 1, [6]), 18)) rfl h1 rfl rfl rfl
theorem b_Block_takeWords_18 {L : Nat} {f : cg_G} {e : Nat × Nat} {x3 x4 y0 y1 : Int32} {a0 a1 a2 : Nat} {u5 : Value} : cj_res 73 18 [.ref a0, .ref a1, .ref a2, .int x3, .int x4, u5] [.int y0, .int y1] (cg_M L f e) = if y0 ≤ y1 then cj_res 73 91 [.ref a0, .ref a1, .ref a2, .int x3, .int x4, u5] [] (cg_M L f e) else cj_res 73 21 [.ref a0, .ref a1, .ref a2, .int x3, .int x4, u5] [] (cg_M L f e) := by
  exact g_40 (by decide +kernel : kd_ 73 18 = ((40, 91, 0, []), 21))
theorem b_Block_takeWords_21 {L : Nat} {f : cg_G} {e : Nat × Nat} {x3 x4 : Int32} {a0 a1 a2 : Nat} {u5 : Value} (h1 : sh_ a1 = 6): cj_res 73 21 [.ref a0, .ref a1, .ref a2, .int x3, .int x4, u5] [] (cg_M L f e) = cj_aft 73 24 27 [.ref a0, .ref a1, .ref a2, .int x3, .int x4, u5] [] (cj_ev 36 [.ref a1, .int x4] (cg_M L f e)) := by
  refine (g_3 (by decide +kernel : kd_ 73 21 = ((3, 1, 0, []), 22)) rfl).trans ?_
  refine (g_2 (by decide +kernel : kd_ 73 22 = ((2, 4, 0, []), 24)) rfl).trans ?_
  exact g_80 (by decide +kernel : kd_ 73 24 = ((80, 36, 2, [6]), 27)) rfl h1 rfl rfl rfl
theorem b_Block_takeWords_27 {L : Nat} {f : cg_G} {e : Nat × Nat} {x3 x4 y0 : Int32} {a0 a1 a2 : Nat} {u5 : Value} : cj_res 73 27 [.ref a0, .ref a1, .ref a2, .int x3, .int x4, u5] [.int y0] (cg_M L f e) = if y0 = (nI 32) then cj_res 73 74 [.ref a0, .ref a1, .ref a2, .int x3, .int x4, .int y0] [] (cg_M L f e) else cj_res 73 36 [.ref a0, .ref a1, .ref a2, .int x3, .int x4, .int y0] [] (cg_M L f e) := by
  refine (g_4 (ls' := [.ref a0, .ref a1, .ref a2, .int x3, .int x4, .int y0]) (by decide +kernel : kd_ 73 27 = ((4, 5, 0, []), 29)) rfl rfl).trans ?_
  refine (g_2 (by decide +kernel : kd_ 73 29 = ((2, 5, 0, []), 31)) rfl).trans ?_
  refine (g_0 (by decide +kernel : kd_ 73 31 = ((0, 32, 0, []), 33))).trans ?_
  exact g_37 (by decide +kernel : kd_ 73 33 = ((37, 74, 0, []), 36))
theorem b_Block_takeWords_36 {L : Nat} {f : cg_G} {e : Nat × Nat} {x3 x4 x5 : Int32} {a0 a1 a2 : Nat} : cj_res 73 36 [.ref a0, .ref a1, .ref a2, .int x3, .int x4, .int x5] [] (cg_M L f e) = if x3 = 0 then cj_res 73 40 [.ref a0, .ref a1, .ref a2, .int x3, .int x4, .int x5] [] (cg_M L f e) else cj_res 73 59 [.ref a0, .ref a1, .ref a2, .int x3, .int x4, .int x5] [] (cg_M L f e) := by
  refine (g_2 (by decide +kernel : kd_ 73 36 = ((2, 3, 0, []), 37)) rfl).trans ?_
  exact g_32 (by decide +kernel : kd_ 73 37 = ((32, 59, 0, []), 40))
theorem b_Block_takeWords_40 {L : Nat} {f : cg_G} {e : Nat × Nat} {x3 x4 x5 : Int32} {a0 a1 a2 : Nat} (h1 : sh_ a0 = 1): cj_res 73 40 [.ref a0, .ref a1, .ref a2, .int x3, .int x4, .int x5] [] (cg_M L f e) = cj_aft 73 44 47 [.ref a0, .ref a1, .ref a2, .int x3, .int x4, .int x5] [] (cj_ev 39 [.ref (a0 + 1)] (cg_M L f e)) := by
  refine (g_3 (by decide +kernel : kd_ 73 40 = ((3, 0, 0, []), 41)) rfl).trans ?_
  refine (g_50 (v := .ref (a0 + 1)) (by decide +kernel : kd_ 73 41 = ((50, 1, 0, []), 44)) h1 rfl).trans ?_
  exact g_80 (by decide +kernel : kd_ 73 44 = ((80, 39, 1, [6]), 47)) rfl (sc_1_0 h1) rfl rfl rfl
theorem b_Block_takeWords_47 {L : Nat} {f : cg_G} {e : Nat × Nat} {x3 x4 x5 y0 : Int32} {a0 a1 a2 : Nat} : cj_res 73 47 [.ref a0, .ref a1, .ref a2, .int x3, .int x4, .int x5] [.int y0] (cg_M L f e) = if y0 ≤ 0 then cj_res 73 59 [.ref a0, .ref a1, .ref a2, .int x3, .int x4, .int x5] [] (cg_M L f e) else cj_res 73 50 [.ref a0, .ref a1, .ref a2, .int x3, .int x4, .int x5] [] (cg_M L f e) := by
  exact g_36 (by decide +kernel : kd_ 73 47 = ((36, 59, 0, []), 50))
theorem b_Block_takeWords_50 {L : Nat} {f : cg_G} {e : Nat × Nat} {x3 x4 x5 : Int32} {a0 a1 a2 : Nat} (h1 : sh_ a0 = 1): cj_res 73 50 [.ref a0, .ref a1, .ref a2, .int x3, .int x4, .int x5] [] (cg_M L f e) = cj_aft 73 56 59 [.ref a0, .ref a1, .ref a2, .int x3, .int x4, .int x5] [] (cj_ev 35 [.ref (a0 + 1), .int (nI 32)] (cg_M L f e)) := by
  refine (g_3 (by decide +kernel : kd_ 73 50 = ((3, 0, 0, []), 51)) rfl).trans ?_
  refine (g_50 (v := .ref (a0 + 1)) (by decide +kernel : kd_ 73 51 = ((50, 1, 0, []), 54)) h1 rfl).trans ?_
  refine (g_0 (by decide +kernel : kd_ 73 54 = ((0, 32, 0, []), 56))).trans ?_
  exact g_80 (by decide +kernel : kd_ 73 56 = ((80, 35, 2, [6]), 59)) rfl (sc_1_0 h1) rfl rfl rfl
theorem b_Block_takeWords_59 {L : Nat} {f : cg_G} {e : Nat × Nat} {x3 x4 x5 : Int32} {a0 a1 a2 : Nat} (h1 : sh_ a0 = 1): cj_res 73 59 [.ref a0, .ref a1, .ref a2, .int x3, .int x4, .int x5] [] (cg_M L f e) = cj_aft 73 65 68 [.ref a0, .ref a1, .ref a2, .int x3, .int x4, .int x5] [] (cj_ev 35 [.ref (a0 + 1), .int x5] (cg_M L f e)) := by
  refine (g_3 (by decide +kernel : kd_ 73 59 = ((3, 0, 0, []), 60)) rfl).trans ?_
  refine (g_50 (v := .ref (a0 + 1)) (by decide +kernel : kd_ 73 60 = ((50, 1, 0, []), 63)) h1 rfl).trans ?_
  refine (g_2 (by decide +kernel : kd_ 73 63 = ((2, 5, 0, []), 65)) rfl).trans ?_
  exact g_80 (by decide +kernel : kd_ 73 65 = ((80, 35, 2, [6]), 68)) rfl (sc_1_0 h1) rfl rfl rfl
theorem b_Block_takeWords_68 {L : Nat} {f : cg_G} {e : Nat × Nat} {x3 x4 x5 : Int32} {a0 a1 a2 : Nat} : cj_res 73 68 [.ref a0, .ref a1, .ref a2, .int x3, .int x4, .int x5] [] (cg_M L f e) = cj_res 73 85 [.ref a0, .ref a1, .ref a2, .int (x3 + nI 1), .int x4, .int x5] [] (cg_M L f e) := by
  refine (g_6 (ls' := [.ref a0, .ref a1, .ref a2, .int (x3 + nI 1), .int x4, .int x5]) (by decide +kernel : kd_ 73 68 = ((6, 3, 1, []), 71)) rfl rfl).trans ?_
  refine (g_30 (by decide +kernel : kd_ 73 71 = ((30, 85, 0, []), 74))).trans ?_
  rfl
theorem b_Block_takeWords_74 {L : Nat} {f : cg_G} {e : Nat × Nat} {x3 x4 x5 : Int32} {a0 a1 a2 : Nat} : cj_res 73 74 [.ref a0, .ref a1, .ref a2, .int x3, .int x4, .int x5] [] (cg_M L f e) = if x3 ≤ 0 then cj_res 73 85 [.ref a0, .ref a1, .ref a2, .int x3, .int x4, .int x5] [] (cg_M L f e) else cj_res 73 78 [.ref a0, .ref a1, .ref a2, .int x3, .int x4, .int x5] [] (cg_M L f e) := by
  refine (g_2 (by decide +kernel : kd_ 73 74 = ((2, 3, 0, []), 75)) rfl).trans ?_
  exact g_36 (by decide +kernel : kd_ 73 75 = ((36, 85, 0, []), 78))
theorem b_Block_takeWords_78 {L : Nat} {f : cg_G} {e : Nat × Nat} {x3 x4 x5 : Int32} {a0 a1 a2 : Nat} (h1 : sh_ a2 = 3): cj_res 73 78 [.ref a0, .ref a1, .ref a2, .int x3, .int x4, .int x5] [] (cg_M L f e) = cj_aft 73 80 83 [.ref a0, .ref a1, .ref a2, .int x3, .int x4, .int x5] [] (cj_ev 17 [.ref a2, .int x3] (cg_M L f e)) := by
  refine (g_3 (by decide +kernel : kd_ 73 78 = ((3, 2, 0, []), 79)) rfl).trans ?_
  refine (g_2 (by decide +kernel : kd_ 73 79 = ((2, 3, 0, []), 80)) rfl).trans ?_
  exact g_80 (by decide +kernel : kd_ 73 80 = ((80, 17, 2, [3]), 83)) rfl h1 rfl rfl rfl
theorem b_Block_takeWords_83 {L : Nat} {f : cg_G} {e : Nat × Nat} {x3 x4 x5 : Int32} {a0 a1 a2 : Nat} : cj_res 73 83 [.ref a0, .ref a1, .ref a2, .int x3, .int x4, .int x5] [] (cg_M L f e) = cj_res 73 85 [.ref a0, .ref a1, .ref a2, .int (nI 0), .int x4, .int x5] [] (cg_M L f e) := by
  refine (g_0 (by decide +kernel : kd_ 73 83 = ((0, 0, 0, []), 84))).trans ?_
  refine (g_4 (ls' := [.ref a0, .ref a1, .ref a2, .int (nI 0), .int x4, .int x5]) (by decide +kernel : kd_ 73 84 = ((4, 3, 0, []), 85)) rfl rfl).trans ?_
  rfl
theorem b_Block_takeWords_85 {L : Nat} {f : cg_G} {e : Nat × Nat} {x3 x4 x5 : Int32} {a0 a1 a2 : Nat} : cj_res 73 85 [.ref a0, .ref a1, .ref a2, .int x3, .int x4, .int x5] [] (cg_M L f e) = cj_res 73 12 [.ref a0, .ref a1, .ref a2, .int x3, .int (x4 + nI 1), .int x5] [] (cg_M L f e) := by
  refine (g_6 (ls' := [.ref a0, .ref a1, .ref a2, .int x3, .int (x4 + nI 1), .int x5]) (by decide +kernel : kd_ 73 85 = ((6, 4, 1, []), 88)) rfl rfl).trans ?_
  refine (g_30 (by decide +kernel : kd_ 73 88 = ((30, 12, 0, []), 91))).trans ?_
  rfl
theorem b_Block_takeWords_91 {L : Nat} {f : cg_G} {e : Nat × Nat} {x3 x4 : Int32} {a0 a1 a2 : Nat} {u5 : Value} : cj_res 73 91 [.ref a0, .ref a1, .ref a2, .int x3, .int x4, u5] [] (cg_M L f e) = if x3 ≤ 0 then cj_res 73 100 [.ref a0, .ref a1, .ref a2, .int x3, .int x4, u5] [] (cg_M L f e) else cj_res 73 95 [.ref a0, .ref a1, .ref a2, .int x3, .int x4, u5] [] (cg_M L f e) := by
  refine (g_2 (by decide +kernel : kd_ 73 91 = ((2, 3, 0, []), 92)) rfl).trans ?_
  exact g_36 (by decide +kernel : kd_ 73 92 = ((36, 100, 0, []), 95))
theorem b_Block_takeWords_95 {L : Nat} {f : cg_G} {e : Nat × Nat} {x3 x4 : Int32} {a0 a1 a2 : Nat} {u5 : Value} (h1 : sh_ a2 = 3): cj_res 73 95 [.ref a0, .ref a1, .ref a2, .int x3, .int x4, u5] [] (cg_M L f e) = cj_aft 73 97 100 [.ref a0, .ref a1, .ref a2, .int x3, .int x4, u5] [] (cj_ev 17 [.ref a2, .int x3] (cg_M L f e)) := by
  refine (g_3 (by decide +kernel : kd_ 73 95 = ((3, 2, 0, []), 96)) rfl).trans ?_
  refine (g_2 (by decide +kernel : kd_ 73 96 = ((2, 3, 0, []), 97)) rfl).trans ?_
  exact g_80 (by decide +kernel : kd_ 73 97 = ((80, 17, 2, [3]), 100)) rfl h1 rfl rfl rfl
theorem b_Block_takeWords_100 {L : Nat} {f : cg_G} {e : Nat × Nat} {x3 x4 : Int32} {a0 a1 a2 : Nat} {u5 : Value} : cj_res 73 100 [.ref a0, .ref a1, .ref a2, .int x3, .int x4, u5] [] (cg_M L f e) = some (.inl none, cg_M L f e) := by
  exact g_91 (by decide +kernel : kd_ 73 100 = ((91, 0, 0, []), 101))
theorem b_Entry_partEnd_0 {L : Nat} {f : cg_G} {e : Nat × Nat} {x1 : Int32} {a0 : Nat} {u2 : Value} : cj_res 75 0 [.ref a0, .int x1, u2] [] (cg_M L f e) = cj_res 75 2 [.ref a0, .int x1, .int x1] [] (cg_M L f e) := by
  refine (g_2 (by decide +kernel : kd_ 75 0 = ((2, 1, 0, []), 1)) rfl).trans ?_
  refine (g_4 (ls' := [.ref a0, .int x1, .int x1]) (by decide +kernel : kd_ 75 1 = ((4, 2, 0, []), 2)) rfl rfl).trans ?_
  rfl
theorem b_Entry_partEnd_2 {L : Nat} {f : cg_G} {e : Nat × Nat} {x1 x2 : Int32} {a0 : Nat} (h1 : sh_ a0 = 2) (h2 : sh_ ((f a0 2).toNatClampNeg) = 6): cj_res 75 2 [.ref a0, .int x1, .int x2] [] (cg_M L f e) = cj_aft 75 7 10 [.ref a0, .int x1, .int x2] [.int x2] (cj_ev 39 [.ref (f a0 2).toNatClampNeg] (cg_M L f e)) := by
  refine (g_2 (by decide +kernel : kd_ 75 2 = ((2, 2, 0, []), 3)) rfl).trans ?_
  refine (g_3 (by decide +kernel : kd_ 75 3 = ((3, 0, 0, []), 4)) rfl).trans ?_
  refine (g_50 (v := .ref (f a0 2).toNatClampNeg) (by decide +kernel : kd_ 75 4 = ((50, 2, 2, []), 7)) h1 rfl).trans ?_
  exact g_80 (by decide +kernel : kd_ 75 7 = ((80, 39, 1, [6]), 10)) rfl h2 rfl rfl rfl
theorem b_Entry_partEnd_10 {L : Nat} {f : cg_G} {e : Nat × Nat} {x1 x2 y0 y1 : Int32} {a0 : Nat} : cj_res 75 10 [.ref a0, .int x1, .int x2] [.int y0, .int y1] (cg_M L f e) = if y0 ≤ y1 then cj_res 75 34 [.ref a0, .int x1, .int x2] [] (cg_M L f e) else cj_res 75 13 [.ref a0, .int x1, .int x2] [] (cg_M L f e) := by
  exact g_40 (by decide +kernel : kd_ 75 10 = ((40, 34, 0, []), 13))
theorem b_Entry_partEnd_13 {L : Nat} {f : cg_G} {e : Nat × Nat} {x1 x2 : Int32} {a0 : Nat} (h1 : sh_ a0 = 2) (h2 : sh_ ((f a0 2).toNatClampNeg) = 6): cj_res 75 13 [.ref a0, .int x1, .int x2] [] (cg_M L f e) = cj_aft 75 18 21 [.ref a0, .int x1, .int x2] [] (cj_ev 36 [.ref (f a0 2).toNatClampNeg, .int x2] (cg_M L f e)) := by
  refine (g_3 (by decide +kernel : kd_ 75 13 = ((3, 0, 0, []), 14)) rfl).trans ?_
  refine (g_50 (v := .ref (f a0 2).toNatClampNeg) (by decide +kernel : kd_ 75 14 = ((50, 2, 2, []), 17)) h1 rfl).trans ?_
  refine (g_2 (by decide +kernel : kd_ 75 17 = ((2, 2, 0, []), 18)) rfl).trans ?_
  exact g_80 (by decide +kernel : kd_ 75 18 = ((80, 36, 2, [6]), 21)) rfl h2 rfl rfl rfl
theorem b_Entry_partEnd_21 {L : Nat} {f : cg_G} {e : Nat × Nat} {x1 x2 y0 : Int32} {a0 : Nat} : cj_res 75 21 [.ref a0, .int x1, .int x2] [.int y0] (cg_M L f e) = if y0 = (nI 93) then cj_res 75 26 [.ref a0, .int x1, .int x2] [] (cg_M L f e) else cj_res 75 28 [.ref a0, .int x1, .int x2] [] (cg_M L f e) := by
  refine (g_0 (by decide +kernel : kd_ 75 21 = ((0, 93, 0, []), 23))).trans ?_
  exact g_38 (by decide +kernel : kd_ 75 23 = ((38, 28, 0, []), 26))
theorem b_Entry_partEnd_26 {L : Nat} {f : cg_G} {e : Nat × Nat} {x1 x2 : Int32} {a0 : Nat} : cj_res 75 26 [.ref a0, .int x1, .int x2] [] (cg_M L f e) = some (.inl (some (.int x2)), cg_M L f e) := by
  refine (g_2 (by decide +kernel : kd_ 75 26 = ((2, 2, 0, []), 27)) rfl).trans ?_
  exact g_90 (by decide +kernel : kd_ 75 27 = ((90, 0, 0, []), 28))
theorem b_Entry_partEnd_28 {L : Nat} {f : cg_G} {e : Nat × Nat} {x1 x2 : Int32} {a0 : Nat} : cj_res 75 28 [.ref a0, .int x1, .int x2] [] (cg_M L f e) = cj_res 75 2 [.ref a0, .int x1, .int (x2 + nI 1)] [] (cg_M L f e) := by
  refine (g_6 (ls' := [.ref a0, .int x1, .int (x2 + nI 1)]) (by decide +kernel : kd_ 75 28 = ((6, 2, 1, []), 31)) rfl rfl).trans ?_
  refine (g_30 (by decide +kernel : kd_ 75 31 = ((30, 2, 0, []), 34))).trans ?_
  rfl
theorem b_Entry_partEnd_34 {L : Nat} {f : cg_G} {e : Nat × Nat} {x1 x2 : Int32} {a0 : Nat} (h1 : sh_ a0 = 2) (h2 : sh_ ((f a0 2).toNatClampNeg) = 6): cj_res 75 34 [.ref a0, .int x1, .int x2] [] (cg_M L f e) = cj_aft 75 38 41 [.ref a0, .int x1, .int x2] [] (cj_ev 39 [.ref (f a0 2).toNatClampNeg] (cg_M L f e)) := by
  refine (g_3 (by decide +kernel : kd_ 75 34 = ((3, 0, 0, []), 35)) rfl).trans ?_
  refine (g_50 (v := .ref (f a0 2).toNatClampNeg) (by decide +kernel : kd_ 75 35 = ((50, 2, 2, []), 38)) h1 rfl).trans ?_
  exact g_80 (by decide +kernel : kd_ 75 38 = ((80, 39, 1, [6]), 41)) rfl h2 rfl rfl rfl
theorem b_Entry_partEnd_41 {L : Nat} {f : cg_G} {e : Nat × Nat} {x1 x2 y0 : Int32} {a0 : Nat} : cj_res 75 41 [.ref a0, .int x1, .int x2] [.int y0] (cg_M L f e) = some (.inl (some (.int y0)), cg_M L f e) := by
  exact g_90 (by decide +kernel : kd_ 75 41 = ((90, 0, 0, []), 42))
theorem b_Entry_printNumber_0 {L : Nat} {f : cg_G} {e : Nat × Nat} {x1 : Int32} {a0 : Nat} : cj_res 76 0 [.ref a0, .int x1] [] (cg_M L f e) = if x1 < (nI 100) then cj_res 76 20 [.ref a0, .int x1] [] (cg_M L f e) else cj_res 76 6 [.ref a0, .int x1] [] (cg_M L f e) := by
  refine (g_2 (by decide +kernel : kd_ 76 0 = ((2, 1, 0, []), 1)) rfl).trans ?_
  refine (g_0 (by decide +kernel : kd_ 76 1 = ((0, 100, 0, []), 3))).trans ?_
  exact g_39 (by decide +kernel : kd_ 76 3 = ((39, 20, 0, []), 6))
theorem b_Entry_printNumber_6 {L : Nat} {f : cg_G} {e : Nat × Nat} {x1 : Int32} {a0 : Nat} (h1 : sh_ a0 = 6): cj_res 76 6 [.ref a0, .int x1] [] (cg_M L f e) = cj_aft 76 17 20 [.ref a0, .int x1] [] (cj_ev 35 [.ref a0, .int ((nI 48) + ((x1 / (nI 100)) - (x1 / (nI 100)) / (nI 10) * (nI 10)))] (cg_M L f e)) := by
  refine (g_3 (by decide +kernel : kd_ 76 6 = ((3, 0, 0, []), 7)) rfl).trans ?_
  refine (g_0 (by decide +kernel : kd_ 76 7 = ((0, 48, 0, []), 9))).trans ?_
  refine (g_2 (by decide +kernel : kd_ 76 9 = ((2, 1, 0, []), 10)) rfl).trans ?_
  refine (g_0 (by decide +kernel : kd_ 76 10 = ((0, 100, 0, []), 12))).trans ?_
  refine (g_13 (by decide +kernel : kd_ 76 12 = ((13, 0, 0, []), 13)) (by decide)).trans ?_
  refine (g_0 (by decide +kernel : kd_ 76 13 = ((0, 10, 0, []), 15))).trans ?_
  refine (g_14 (by decide +kernel : kd_ 76 15 = ((14, 0, 0, []), 16)) (by decide)).trans ?_
  refine (g_10 (by decide +kernel : kd_ 76 16 = ((10, 0, 0, []), 17))).trans ?_
  exact g_80 (by decide +kernel : kd_ 76 17 = ((80, 35, 2, [6]), 20)) rfl h1 rfl rfl rfl
theorem b_Entry_printNumber_20 {L : Nat} {f : cg_G} {e : Nat × Nat} {x1 : Int32} {a0 : Nat} : cj_res 76 20 [.ref a0, .int x1] [] (cg_M L f e) = if x1 < (nI 10) then cj_res 76 40 [.ref a0, .int x1] [] (cg_M L f e) else cj_res 76 26 [.ref a0, .int x1] [] (cg_M L f e) := by
  refine (g_2 (by decide +kernel : kd_ 76 20 = ((2, 1, 0, []), 21)) rfl).trans ?_
  refine (g_0 (by decide +kernel : kd_ 76 21 = ((0, 10, 0, []), 23))).trans ?_
  exact g_39 (by decide +kernel : kd_ 76 23 = ((39, 40, 0, []), 26))
theorem b_Entry_printNumber_26 {L : Nat} {f : cg_G} {e : Nat × Nat} {x1 : Int32} {a0 : Nat} (h1 : sh_ a0 = 6): cj_res 76 26 [.ref a0, .int x1] [] (cg_M L f e) = cj_aft 76 37 40 [.ref a0, .int x1] [] (cj_ev 35 [.ref a0, .int ((nI 48) + ((x1 / (nI 10)) - (x1 / (nI 10)) / (nI 10) * (nI 10)))] (cg_M L f e)) := by
  refine (g_3 (by decide +kernel : kd_ 76 26 = ((3, 0, 0, []), 27)) rfl).trans ?_
  refine (g_0 (by decide +kernel : kd_ 76 27 = ((0, 48, 0, []), 29))).trans ?_
  refine (g_2 (by decide +kernel : kd_ 76 29 = ((2, 1, 0, []), 30)) rfl).trans ?_
  refine (g_0 (by decide +kernel : kd_ 76 30 = ((0, 10, 0, []), 32))).trans ?_
  refine (g_13 (by decide +kernel : kd_ 76 32 = ((13, 0, 0, []), 33)) (by decide)).trans ?_
  refine (g_0 (by decide +kernel : kd_ 76 33 = ((0, 10, 0, []), 35))).trans ?_
  refine (g_14 (by decide +kernel : kd_ 76 35 = ((14, 0, 0, []), 36)) (by decide)).trans ?_
  refine (g_10 (by decide +kernel : kd_ 76 36 = ((10, 0, 0, []), 37))).trans ?_
  exact g_80 (by decide +kernel : kd_ 76 37 = ((80, 35, 2, [6]), 40)) rfl h1 rfl rfl rfl
theorem b_Entry_printNumber_40 {L : Nat} {f : cg_G} {e : Nat × Nat} {x1 : Int32} {a0 : Nat} (h1 : sh_ a0 = 6): cj_res 76 40 [.ref a0, .int x1] [] (cg_M L f e) = cj_aft 76 48 51 [.ref a0, .int x1] [] (cj_ev 35 [.ref a0, .int ((nI 48) + (x1 - x1 / (nI 10) * (nI 10)))] (cg_M L f e)) := by
  refine (g_3 (by decide +kernel : kd_ 76 40 = ((3, 0, 0, []), 41)) rfl).trans ?_
  refine (g_0 (by decide +kernel : kd_ 76 41 = ((0, 48, 0, []), 43))).trans ?_
  refine (g_2 (by decide +kernel : kd_ 76 43 = ((2, 1, 0, []), 44)) rfl).trans ?_
  refine (g_0 (by decide +kernel : kd_ 76 44 = ((0, 10, 0, []), 46))).trans ?_
  refine (g_14 (by decide +kernel : kd_ 76 46 = ((14, 0, 0, []), 47)) (by decide)).trans ?_
  refine (g_10 (by decide +kernel : kd_ 76 47 = ((10, 0, 0, []), 48))).trans ?_
  exact g_80 (by decide +kernel : kd_ 76 48 = ((80, 35, 2, [6]), 51)) rfl h1 rfl rfl rfl
theorem b_Entry_printNumber_51 {L : Nat} {f : cg_G} {e : Nat × Nat} {x1 : Int32} {a0 : Nat} : cj_res 76 51 [.ref a0, .int x1] [] (cg_M L f e) = some (.inl none, cg_M L f e) := by
  exact g_91 (by decide +kernel : kd_ 76 51 = ((91, 0, 0, []), 52))
theorem b_Filling_solveFrom_0 {L : Nat} {f : cg_G} {e : Nat × Nat} {x1 : Int32} {a0 : Nat} {u2 u3 u4 u5 : Value} (h1 : sh_ a0 = 3) (h2 : cg_in x1 849) (h3 : cg_in x1 848): cj_res 77 0 [.ref a0, .int x1, u2, u3, u4, u5] [] (cg_M L f e) = cj_res 77 28 [.ref a0, .int x1, .int ((cg_up (cg_up f (a0 + 2) x1.toNatClampNeg (nI 1356800)) (a0 + 3) x1.toNatClampNeg (x1 + (nI 1))) (a0 + 1) x1.toNatClampNeg), .int (x1 + (nI 1)), u4, u5] [] (cg_M L (cg_up (cg_up f (a0 + 2) x1.toNatClampNeg (nI 1356800)) (a0 + 3) x1.toNatClampNeg (x1 + (nI 1))) e) := by
  refine (g_3 (by decide +kernel : kd_ 77 0 = ((3, 0, 0, []), 1)) rfl).trans ?_
  refine (g_50 (v := .ref (a0 + 2)) (by decide +kernel : kd_ 77 1 = ((50, 3, 1, []), 4)) h1 rfl).trans ?_
  refine (g_2 (by decide +kernel : kd_ 77 4 = ((2, 1, 0, []), 5)) rfl).trans ?_
  refine (g_0 (by decide +kernel : kd_ 77 5 = ((0, 1356800, 0, []), 7))).trans ?_
  refine (g_56 (by decide +kernel : kd_ 77 7 = ((56, 0, 0, []), 8)) (sc_3_1 h1) (fun _ => rfl) (by rw [sl_3_1 h1]; exact h2) (by omega)).trans ?_
  refine (g_3 (by decide +kernel : kd_ 77 8 = ((3, 0, 0, []), 9)) rfl).trans ?_
  refine (g_50 (v := .ref (a0 + 3)) (by decide +kernel : kd_ 77 9 = ((50, 3, 2, []), 12)) h1 rfl).trans ?_
  refine (g_2 (by decide +kernel : kd_ 77 12 = ((2, 1, 0, []), 13)) rfl).trans ?_
  refine (g_2 (by decide +kernel : kd_ 77 13 = ((2, 1, 0, []), 14)) rfl).trans ?_
  refine (g_0 (by decide +kernel : kd_ 77 14 = ((0, 1, 0, []), 15))).trans ?_
  refine (g_10 (by decide +kernel : kd_ 77 15 = ((10, 0, 0, []), 16))).trans ?_
  refine (g_56 (by decide +kernel : kd_ 77 16 = ((56, 0, 0, []), 17)) (sc_3_2 h1) (fun _ => rfl) (by rw [sl_3_2 h1]; exact h3) (by omega)).trans ?_
  refine (g_3 (by decide +kernel : kd_ 77 17 = ((3, 0, 0, []), 18)) rfl).trans ?_
  refine (g_50 (v := .ref (a0 + 1)) (by decide +kernel : kd_ 77 18 = ((50, 3, 0, []), 21)) h1 rfl).trans ?_
  refine (g_2 (by decide +kernel : kd_ 77 21 = ((2, 1, 0, []), 22)) rfl).trans ?_
  refine (g_54 (v := .int ((cg_up (cg_up f (a0 + 2) x1.toNatClampNeg (nI 1356800)) (a0 + 3) x1.toNatClampNeg (x1 + (nI 1))) (a0 + 1) x1.toNatClampNeg)) (by decide +kernel : kd_ 77 22 = ((54, 0, 0, []), 23)) (sc_3_0 h1) rfl (by rw [sl_3_0 h1]; exact h3) rfl).trans ?_
  refine (g_4 (ls' := [.ref a0, .int x1, .int ((cg_up (cg_up f (a0 + 2) x1.toNatClampNeg (nI 1356800)) (a0 + 3) x1.toNatClampNeg (x1 + (nI 1))) (a0 + 1) x1.toNatClampNeg), u3, u4, u5]) (by decide +kernel : kd_ 77 23 = ((4, 2, 0, []), 24)) rfl rfl).trans ?_
  refine (g_2 (by decide +kernel : kd_ 77 24 = ((2, 1, 0, []), 25)) rfl).trans ?_
  refine (g_0 (by decide +kernel : kd_ 77 25 = ((0, 1, 0, []), 26))).trans ?_
  refine (g_10 (by decide +kernel : kd_ 77 26 = ((10, 0, 0, []), 27))).trans ?_
  refine (g_4 (ls' := [.ref a0, .int x1, .int ((cg_up (cg_up f (a0 + 2) x1.toNatClampNeg (nI 1356800)) (a0 + 3) x1.toNatClampNeg (x1 + (nI 1))) (a0 + 1) x1.toNatClampNeg), .int (x1 + (nI 1)), u4, u5]) (by decide +kernel : kd_ 77 27 = ((4, 3, 0, []), 28)) rfl rfl).trans ?_
  rfl
theorem b_Filling_solveFrom_28 {L : Nat} {f : cg_G} {e : Nat × Nat} {x1 x2 x3 : Int32} {a0 : Nat} {u4 u5 : Value} (h1 : sh_ a0 = 3): cj_res 77 28 [.ref a0, .int x1, .int x2, .int x3, u4, u5] [] (cg_M L f e) = if (f a0 3) < x3 then cj_res 77 123 [.ref a0, .int x1, .int x2, .int x3, u4, u5] [] (cg_M L f e) else cj_res 77 36 [.ref a0, .int x1, .int x2, .int x3, u4, u5] [] (cg_M L f e) := by
  refine (g_2 (by decide +kernel : kd_ 77 28 = ((2, 3, 0, []), 29)) rfl).trans ?_
  refine (g_3 (by decide +kernel : kd_ 77 29 = ((3, 0, 0, []), 30)) rfl).trans ?_
  refine (g_50 (v := .int (f a0 3)) (by decide +kernel : kd_ 77 30 = ((50, 3, 3, []), 33)) h1 rfl).trans ?_
  exact g_41 (by decide +kernel : kd_ 77 33 = ((41, 123, 0, []), 36))
theorem b_Filling_solveFrom_36 {L : Nat} {f : cg_G} {e : Nat × Nat} {x1 x2 x3 : Int32} {a0 : Nat} {u4 u5 : Value} (h1 : sh_ a0 = 3): cj_res 77 36 [.ref a0, .int x1, .int x2, .int x3, u4, u5] [] (cg_M L f e) = if (f a0 4) < x2 then cj_res 77 123 [.ref a0, .int x1, .int x2, .int x3, u4, u5] [] (cg_M L f e) else cj_res 77 44 [.ref a0, .int x1, .int x2, .int x3, u4, u5] [] (cg_M L f e) := by
  refine (g_2 (by decide +kernel : kd_ 77 36 = ((2, 2, 0, []), 37)) rfl).trans ?_
  refine (g_3 (by decide +kernel : kd_ 77 37 = ((3, 0, 0, []), 38)) rfl).trans ?_
  refine (g_50 (v := .int (f a0 4)) (by decide +kernel : kd_ 77 38 = ((50, 3, 4, []), 41)) h1 rfl).trans ?_
  exact g_41 (by decide +kernel : kd_ 77 41 = ((41, 123, 0, []), 44))
theorem b_Filling_solveFrom_44 {L : Nat} {f : cg_G} {e : Nat × Nat} {x1 x2 x3 : Int32} {a0 : Nat} {u4 u5 : Value} (h1 : sh_ a0 = 3): cj_res 77 44 [.ref a0, .int x1, .int x2, .int x3, u4, u5] [] (cg_M L f e) = if x3 = (f a0 3) then cj_res 77 60 [.ref a0, .int x1, .int x2, .int x3, .int ((f a0 4) - x2), u5] [] (cg_M L f e) else cj_res 77 64 [.ref a0, .int x1, .int x2, .int x3, .int ((f a0 4) - x2), u5] [] (cg_M L f e) := by
  refine (g_3 (by decide +kernel : kd_ 77 44 = ((3, 0, 0, []), 45)) rfl).trans ?_
  refine (g_50 (v := .int (f a0 4)) (by decide +kernel : kd_ 77 45 = ((50, 3, 4, []), 48)) h1 rfl).trans ?_
  refine (g_2 (by decide +kernel : kd_ 77 48 = ((2, 2, 0, []), 49)) rfl).trans ?_
  refine (g_11 (by decide +kernel : kd_ 77 49 = ((11, 0, 0, []), 50))).trans ?_
  refine (g_4 (ls' := [.ref a0, .int x1, .int x2, .int x3, .int ((f a0 4) - x2), u5]) (by decide +kernel : kd_ 77 50 = ((4, 4, 0, []), 52)) rfl rfl).trans ?_
  refine (g_2 (by decide +kernel : kd_ 77 52 = ((2, 3, 0, []), 53)) rfl).trans ?_
  refine (g_3 (by decide +kernel : kd_ 77 53 = ((3, 0, 0, []), 54)) rfl).trans ?_
  refine (g_50 (v := .int (f a0 3)) (by decide +kernel : kd_ 77 54 = ((50, 3, 3, []), 57)) h1 rfl).trans ?_
  exact g_38 (by decide +kernel : kd_ 77 57 = ((38, 64, 0, []), 60))
theorem b_Filling_solveFrom_60 {L : Nat} {f : cg_G} {e : Nat × Nat} {x1 x2 x3 x4 : Int32} {a0 : Nat} {u5 : Value} : cj_res 77 60 [.ref a0, .int x1, .int x2, .int x3, .int x4, u5] [] (cg_M L f e) = cj_res 77 76 [.ref a0, .int x1, .int x2, .int x3, .int x4, u5] [.int (nI 0)] (cg_M L f e) := by
  refine (g_0 (by decide +kernel : kd_ 77 60 = ((0, 0, 0, []), 61))).trans ?_
  refine (g_30 (by decide +kernel : kd_ 77 61 = ((30, 76, 0, []), 64))).trans ?_
  rfl
theorem b_Filling_solveFrom_64 {L : Nat} {f : cg_G} {e : Nat × Nat} {x1 x2 x3 x4 : Int32} {a0 : Nat} {u5 : Value} (h1 : sh_ a0 = 3) (h2 : cg_in x3 849): cj_res 77 64 [.ref a0, .int x1, .int x2, .int x3, .int x4, u5] [] (cg_M L f e) = cj_res 77 76 [.ref a0, .int x1, .int x2, .int x3, .int x4, u5] [.int ((x4 * x4) + (f (a0 + 2) x3.toNatClampNeg))] (cg_M L f e) := by
  refine (g_2 (by decide +kernel : kd_ 77 64 = ((2, 4, 0, []), 66)) rfl).trans ?_
  refine (g_2 (by decide +kernel : kd_ 77 66 = ((2, 4, 0, []), 68)) rfl).trans ?_
  refine (g_12 (by decide +kernel : kd_ 77 68 = ((12, 0, 0, []), 69))).trans ?_
  refine (g_3 (by decide +kernel : kd_ 77 69 = ((3, 0, 0, []), 70)) rfl).trans ?_
  refine (g_50 (v := .ref (a0 + 2)) (by decide +kernel : kd_ 77 70 = ((50, 3, 1, []), 73)) h1 rfl).trans ?_
  refine (g_2 (by decide +kernel : kd_ 77 73 = ((2, 3, 0, []), 74)) rfl).trans ?_
  refine (g_54 (v := .int (f (a0 + 2) x3.toNatClampNeg)) (by decide +kernel : kd_ 77 74 = ((54, 0, 0, []), 75)) (sc_3_1 h1) rfl (by rw [sl_3_1 h1]; exact h2) rfl).trans ?_
  refine (g_10 (by decide +kernel : kd_ 77 75 = ((10, 0, 0, []), 76))).trans ?_
  rfl
theorem b_Filling_solveFrom_76 {L : Nat} {f : cg_G} {e : Nat × Nat} {x1 x2 x3 x4 y0 : Int32} {a0 : Nat} {u5 : Value} (h1 : sh_ a0 = 3) (h2 : cg_in x1 849): cj_res 77 76 [.ref a0, .int x1, .int x2, .int x3, .int x4, u5] [.int y0] (cg_M L f e) = if (f (a0 + 2) x1.toNatClampNeg) ≤ y0 then cj_res 77 104 [.ref a0, .int x1, .int x2, .int x3, .int x4, .int y0] [] (cg_M L f e) else cj_res 77 89 [.ref a0, .int x1, .int x2, .int x3, .int x4, .int y0] [] (cg_M L f e) := by
  refine (g_4 (ls' := [.ref a0, .int x1, .int x2, .int x3, .int x4, .int y0]) (by decide +kernel : kd_ 77 76 = ((4, 5, 0, []), 78)) rfl rfl).trans ?_
  refine (g_2 (by decide +kernel : kd_ 77 78 = ((2, 5, 0, []), 80)) rfl).trans ?_
  refine (g_3 (by decide +kernel : kd_ 77 80 = ((3, 0, 0, []), 81)) rfl).trans ?_
  refine (g_50 (v := .ref (a0 + 2)) (by decide +kernel : kd_ 77 81 = ((50, 3, 1, []), 84)) h1 rfl).trans ?_
  refine (g_2 (by decide +kernel : kd_ 77 84 = ((2, 1, 0, []), 85)) rfl).trans ?_
  refine (g_54 (v := .int (f (a0 + 2) x1.toNatClampNeg)) (by decide +kernel : kd_ 77 85 = ((54, 0, 0, []), 86)) (sc_3_1 h1) rfl (by rw [sl_3_1 h1]; exact h2) rfl).trans ?_
  exact g_40 (by decide +kernel : kd_ 77 86 = ((40, 104, 0, []), 89))
theorem b_Filling_solveFrom_89 {L : Nat} {f : cg_G} {e : Nat × Nat} {x1 x2 x3 x4 x5 : Int32} {a0 : Nat} (h1 : sh_ a0 = 3) (h2 : cg_in x1 849) (h3 : cg_in x1 848): cj_res 77 89 [.ref a0, .int x1, .int x2, .int x3, .int x4, .int x5] [] (cg_M L f e) = cj_res 77 104 [.ref a0, .int x1, .int x2, .int x3, .int x4, .int x5] [] (cg_M L (cg_up (cg_up f (a0 + 2) x1.toNatClampNeg x5) (a0 + 3) x1.toNatClampNeg x3) e) := by
  refine (g_3 (by decide +kernel : kd_ 77 89 = ((3, 0, 0, []), 90)) rfl).trans ?_
  refine (g_50 (v := .ref (a0 + 2)) (by decide +kernel : kd_ 77 90 = ((50, 3, 1, []), 93)) h1 rfl).trans ?_
  refine (g_2 (by decide +kernel : kd_ 77 93 = ((2, 1, 0, []), 94)) rfl).trans ?_
  refine (g_2 (by decide +kernel : kd_ 77 94 = ((2, 5, 0, []), 96)) rfl).trans ?_
  refine (g_56 (by decide +kernel : kd_ 77 96 = ((56, 0, 0, []), 97)) (sc_3_1 h1) (fun _ => rfl) (by rw [sl_3_1 h1]; exact h2) (by omega)).trans ?_
  refine (g_3 (by decide +kernel : kd_ 77 97 = ((3, 0, 0, []), 98)) rfl).trans ?_
  refine (g_50 (v := .ref (a0 + 3)) (by decide +kernel : kd_ 77 98 = ((50, 3, 2, []), 101)) h1 rfl).trans ?_
  refine (g_2 (by decide +kernel : kd_ 77 101 = ((2, 1, 0, []), 102)) rfl).trans ?_
  refine (g_2 (by decide +kernel : kd_ 77 102 = ((2, 3, 0, []), 103)) rfl).trans ?_
  refine (g_56 (by decide +kernel : kd_ 77 103 = ((56, 0, 0, []), 104)) (sc_3_2 h1) (fun _ => rfl) (by rw [sl_3_2 h1]; exact h3) (by omega)).trans ?_
  rfl
theorem b_Filling_solveFrom_104 {L : Nat} {f : cg_G} {e : Nat × Nat} {x1 x2 x3 x4 x5 : Int32} {a0 : Nat} (h1 : sh_ a0 = 3): cj_res 77 104 [.ref a0, .int x1, .int x2, .int x3, .int x4, .int x5] [] (cg_M L f e) = cj_aft 77 111 114 [.ref a0, .int x1, .int x2, .int x3, .int x4, .int x5] [.int (f a0 5), .int x2] (cj_ev 22 [.ref a0, .int x3] (cg_M L f e)) := by
  refine (g_2 (by decide +kernel : kd_ 77 104 = ((2, 2, 0, []), 105)) rfl).trans ?_
  refine (g_3 (by decide +kernel : kd_ 77 105 = ((3, 0, 0, []), 106)) rfl).trans ?_
  refine (g_50 (v := .int (f a0 5)) (by decide +kernel : kd_ 77 106 = ((50, 3, 5, []), 109)) h1 rfl).trans ?_
  refine (g_3 (by decide +kernel : kd_ 77 109 = ((3, 0, 0, []), 110)) rfl).trans ?_
  refine (g_2 (by decide +kernel : kd_ 77 110 = ((2, 3, 0, []), 111)) rfl).trans ?_
  exact g_80 (by decide +kernel : kd_ 77 111 = ((80, 22, 2, [3]), 114)) rfl h1 rfl rfl rfl
theorem b_Filling_solveFrom_114 {L : Nat} {f : cg_G} {e : Nat × Nat} {x1 x2 x3 x4 x5 y0 y1 y2 : Int32} {a0 : Nat} : cj_res 77 114 [.ref a0, .int x1, .int x2, .int x3, .int x4, .int x5] [.int y0, .int y1, .int y2] (cg_M L f e) = cj_res 77 28 [.ref a0, .int x1, .int (y2 + (y1 + y0)), .int (x3 + nI 1), .int x4, .int x5] [] (cg_M L f e) := by
  refine (g_10 (by decide +kernel : kd_ 77 114 = ((10, 0, 0, []), 115))).trans ?_
  refine (g_10 (by decide +kernel : kd_ 77 115 = ((10, 0, 0, []), 116))).trans ?_
  refine (g_4 (ls' := [.ref a0, .int x1, .int (y2 + (y1 + y0)), .int x3, .int x4, .int x5]) (by decide +kernel : kd_ 77 116 = ((4, 2, 0, []), 117)) rfl rfl).trans ?_
  refine (g_6 (ls' := [.ref a0, .int x1, .int (y2 + (y1 + y0)), .int (x3 + nI 1), .int x4, .int x5]) (by decide +kernel : kd_ 77 117 = ((6, 3, 1, []), 120)) rfl rfl).trans ?_
  refine (g_30 (by decide +kernel : kd_ 77 120 = ((30, 28, 0, []), 123))).trans ?_
  rfl
theorem b_Filling_solveFrom_123 {L : Nat} {f : cg_G} {e : Nat × Nat} {x1 x2 x3 : Int32} {a0 : Nat} {u4 u5 : Value} : cj_res 77 123 [.ref a0, .int x1, .int x2, .int x3, u4, u5] [] (cg_M L f e) = some (.inl none, cg_M L f e) := by
  exact g_91 (by decide +kernel : kd_ 77 123 = ((91, 0, 0, []), 124))
theorem b_Setting_findEntryPages_0 {L : Nat} {f : cg_G} {e : Nat × Nat} {a0 : Nat} {u1 : Value} : cj_res 79 0 [.ref a0, u1] [] (cg_M L f e) = cj_res 79 2 [.ref a0, .int (nI 0)] [] (cg_M L f e) := by
  refine (g_0 (by decide +kernel : kd_ 79 0 = ((0, 0, 0, []), 1))).trans ?_
  refine (g_4 (ls' := [.ref a0, .int (nI 0)]) (by decide +kernel : kd_ 79 1 = ((4, 1, 0, []), 2)) rfl rfl).trans ?_
  rfl
theorem b_Setting_findEntryPages_2 {L : Nat} {f : cg_G} {e : Nat × Nat} {x1 : Int32} {a0 : Nat} (h1 : sh_ a0 = 5): cj_res 79 2 [.ref a0, .int x1] [] (cg_M L f e) = if (f a0 4) ≤ x1 then cj_res 79 48 [.ref a0, .int x1] [] (cg_M L f e) else cj_res 79 10 [.ref a0, .int x1] [] (cg_M L f e) := by
  refine (g_2 (by decide +kernel : kd_ 79 2 = ((2, 1, 0, []), 3)) rfl).trans ?_
  refine (g_3 (by decide +kernel : kd_ 79 3 = ((3, 0, 0, []), 4)) rfl).trans ?_
  refine (g_50 (v := .int (f a0 4)) (by decide +kernel : kd_ 79 4 = ((50, 5, 4, []), 7)) h1 rfl).trans ?_
  exact g_40 (by decide +kernel : kd_ 79 7 = ((40, 48, 0, []), 10))
theorem b_Setting_findEntryPages_10 {L : Nat} {f : cg_G} {e : Nat × Nat} {x1 : Int32} {a0 : Nat} (h1 : sh_ a0 = 5) (h2 : cg_in x1 8): cj_res 79 10 [.ref a0, .int x1] [] (cg_M L f e) = cj_aft 79 21 24 [.ref a0, .int x1] [.int x1, .ref (a0 + 4)] (cj_ev 9 [.ref ((a0 + 1) + 4 + 4 * x1.toNatClampNeg)] (cg_M L f e)) := by
  refine (g_3 (by decide +kernel : kd_ 79 10 = ((3, 0, 0, []), 11)) rfl).trans ?_
  refine (g_50 (v := .ref (a0 + 4)) (by decide +kernel : kd_ 79 11 = ((50, 5, 3, []), 14)) h1 rfl).trans ?_
  refine (g_2 (by decide +kernel : kd_ 79 14 = ((2, 1, 0, []), 15)) rfl).trans ?_
  refine (g_3 (by decide +kernel : kd_ 79 15 = ((3, 0, 0, []), 16)) rfl).trans ?_
  refine (g_50 (v := .ref (a0 + 1)) (by decide +kernel : kd_ 79 16 = ((50, 5, 0, []), 19)) h1 rfl).trans ?_
  refine (g_2 (by decide +kernel : kd_ 79 19 = ((2, 1, 0, []), 20)) rfl).trans ?_
  refine (g_54 (v := .ref ((a0 + 1) + 4 + 4 * x1.toNatClampNeg)) (by decide +kernel : kd_ 79 20 = ((54, 5, 0, []), 21)) (sc_5_0 h1) rfl (by rw [sl_5_0 h1]; exact h2) (el_if (cg_in_lt h2))).trans ?_
  exact g_80 (by decide +kernel : kd_ 79 21 = ((80, 9, 1, [1]), 24)) rfl (sa_105 (sc_5_0 h1) (cg_in_lt h2)) rfl rfl rfl
theorem b_Setting_findEntryPages_24 {L : Nat} {f : cg_G} {e : Nat × Nat} {x1 y0 y1 : Int32} {a0 c2 : Nat} : cj_res 79 24 [.ref a0, .int x1] [.int y0, .int y1, .ref c2] (cg_M L f e) = if y0 = 0 then cj_res 79 27 [.ref a0, .int x1] [.int y1, .ref c2] (cg_M L f e) else cj_res 79 31 [.ref a0, .int x1] [.int y1, .ref c2] (cg_M L f e) := by
  exact g_32 (by decide +kernel : kd_ 79 24 = ((32, 31, 0, []), 27))
theorem b_Setting_findEntryPages_27 {L : Nat} {f : cg_G} {e : Nat × Nat} {x1 y0 : Int32} {a0 c1 : Nat} : cj_res 79 27 [.ref a0, .int x1] [.int y0, .ref c1] (cg_M L f e) = cj_res 79 41 [.ref a0, .int x1] [.int (nI 0), .int y0, .ref c1] (cg_M L f e) := by
  refine (g_0 (by decide +kernel : kd_ 79 27 = ((0, 0, 0, []), 28))).trans ?_
  refine (g_30 (by decide +kernel : kd_ 79 28 = ((30, 41, 0, []), 31))).trans ?_
  rfl
theorem b_Setting_findEntryPages_31 {L : Nat} {f : cg_G} {e : Nat × Nat} {x1 y0 : Int32} {a0 c1 : Nat} (h1 : sh_ a0 = 5) (h2 : cg_in x1 9): cj_res 79 31 [.ref a0, .int x1] [.int y0, .ref c1] (cg_M L f e) = cj_aft 79 38 41 [.ref a0, .int x1] [.int y0, .ref c1] (cj_ev 29 [.ref a0, .int (f (a0 + 2) x1.toNatClampNeg)] (cg_M L f e)) := by
  refine (g_3 (by decide +kernel : kd_ 79 31 = ((3, 0, 0, []), 32)) rfl).trans ?_
  refine (g_3 (by decide +kernel : kd_ 79 32 = ((3, 0, 0, []), 33)) rfl).trans ?_
  refine (g_50 (v := .ref (a0 + 2)) (by decide +kernel : kd_ 79 33 = ((50, 5, 1, []), 36)) h1 rfl).trans ?_
  refine (g_2 (by decide +kernel : kd_ 79 36 = ((2, 1, 0, []), 37)) rfl).trans ?_
  refine (g_54 (v := .int (f (a0 + 2) x1.toNatClampNeg)) (by decide +kernel : kd_ 79 37 = ((54, 0, 0, []), 38)) (sc_5_1 h1) rfl (by rw [sl_5_1 h1]; exact h2) rfl).trans ?_
  exact g_80 (by decide +kernel : kd_ 79 38 = ((80, 29, 2, [5]), 41)) rfl h1 rfl rfl rfl
theorem b_Setting_findEntryPages_41 {L : Nat} {f : cg_G} {e : Nat × Nat} {x1 y0 y1 : Int32} {a0 c2 : Nat} (h1 : sh_ c2 = 100) (h2 : cg_in y1 (ln_ L c2)) (h3 : c2 ≠ 0): cj_res 79 41 [.ref a0, .int x1] [.int y0, .int y1, .ref c2] (cg_M L f e) = cj_res 79 2 [.ref a0, .int (x1 + nI 1)] [] (cg_M L (cg_up f c2 y1.toNatClampNeg y0) e) := by
  refine (g_56 (by decide +kernel : kd_ 79 41 = ((56, 0, 0, []), 42)) h1 (fun _ => rfl) h2 h3).trans ?_
  refine (g_6 (ls' := [.ref a0, .int (x1 + nI 1)]) (by decide +kernel : kd_ 79 42 = ((6, 1, 1, []), 45)) rfl rfl).trans ?_
  refine (g_30 (by decide +kernel : kd_ 79 45 = ((30, 2, 0, []), 48))).trans ?_
  rfl
theorem b_Setting_findEntryPages_48 {L : Nat} {f : cg_G} {e : Nat × Nat} {x1 : Int32} {a0 : Nat} : cj_res 79 48 [.ref a0, .int x1] [] (cg_M L f e) = some (.inl none, cg_M L f e) := by
  exact g_91 (by decide +kernel : kd_ 79 48 = ((91, 0, 0, []), 49))
theorem b_Setting_holdsPlace_0 {L : Nat} {f : cg_G} {e : Nat × Nat} {x1 x2 x3 : Int32} {a0 : Nat} (h1 : sh_ a0 = 5): cj_res 80 0 [.ref a0, .int x1, .int x2, .int x3] [] (cg_M L f e) = cj_aft 80 2 5 [.ref a0, .int x1, .int x2, .int x3] [] (cj_ev 28 [.ref a0, .int x1] (cg_M L f e)) := by
  refine (g_3 (by decide +kernel : kd_ 80 0 = ((3, 0, 0, []), 1)) rfl).trans ?_
  refine (g_2 (by decide +kernel : kd_ 80 1 = ((2, 1, 0, []), 2)) rfl).trans ?_
  exact g_80 (by decide +kernel : kd_ 80 2 = ((80, 28, 2, [5]), 5)) rfl h1 rfl rfl rfl
theorem b_Setting_holdsPlace_5 {L : Nat} {f : cg_G} {e : Nat × Nat} {x1 x2 x3 y0 : Int32} {a0 : Nat} : cj_res 80 5 [.ref a0, .int x1, .int x2, .int x3] [.int y0] (cg_M L f e) = if y0 = 0 then cj_res 80 8 [.ref a0, .int x1, .int x2, .int x3] [] (cg_M L f e) else cj_res 80 10 [.ref a0, .int x1, .int x2, .int x3] [] (cg_M L f e) := by
  exact g_32 (by decide +kernel : kd_ 80 5 = ((32, 10, 0, []), 8))
theorem b_Setting_holdsPlace_8 {L : Nat} {f : cg_G} {e : Nat × Nat} {x1 x2 x3 : Int32} {a0 : Nat} : cj_res 80 8 [.ref a0, .int x1, .int x2, .int x3] [] (cg_M L f e) = some (.inl (some (.int (nI 0))), cg_M L f e) := by
  refine (g_0 (by decide +kernel : kd_ 80 8 = ((0, 0, 0, []), 9))).trans ?_
  exact g_93 (by decide +kernel : kd_ 80 9 = ((93, 0, 0, []), 10)) (by decide)
theorem b_Setting_holdsPlace_10 {L : Nat} {f : cg_G} {e : Nat × Nat} {x1 x2 x3 : Int32} {a0 : Nat} : cj_res 80 10 [.ref a0, .int x1, .int x2, .int x3] [] (cg_M L f e) = if x2 = (- nI 1) then cj_res 80 42 [.ref a0, .int x1, .int x2, .int x3] [] (cg_M L f e) else cj_res 80 15 [.ref a0, .int x1, .int x2, .int x3] [] (cg_M L f e) := by
  refine (g_2 (by decide +kernel : kd_ 80 10 = ((2, 2, 0, []), 11)) rfl).trans ?_
  refine (g_1 (by decide +kernel : kd_ 80 11 = ((1, 1, 0, []), 12))).trans ?_
  exact g_37 (by decide +kernel : kd_ 80 12 = ((37, 42, 0, []), 15))
theorem b_Setting_holdsPlace_15 {L : Nat} {f : cg_G} {e : Nat × Nat} {x1 x2 x3 : Int32} {a0 : Nat} (h1 : sh_ a0 = 5) (h2 : cg_in x1 8): cj_res 80 15 [.ref a0, .int x1, .int x2, .int x3] [] (cg_M L f e) = cj_aft 80 22 25 [.ref a0, .int x1, .int x2, .int x3] [.int x2] (cj_ev 7 [.ref ((a0 + 1) + 4 + 4 * x1.toNatClampNeg)] (cg_M L f e)) := by
  refine (g_2 (by decide +kernel : kd_ 80 15 = ((2, 2, 0, []), 16)) rfl).trans ?_
  refine (g_3 (by decide +kernel : kd_ 80 16 = ((3, 0, 0, []), 17)) rfl).trans ?_
  refine (g_50 (v := .ref (a0 + 1)) (by decide +kernel : kd_ 80 17 = ((50, 5, 0, []), 20)) h1 rfl).trans ?_
  refine (g_2 (by decide +kernel : kd_ 80 20 = ((2, 1, 0, []), 21)) rfl).trans ?_
  refine (g_54 (v := .ref ((a0 + 1) + 4 + 4 * x1.toNatClampNeg)) (by decide +kernel : kd_ 80 21 = ((54, 5, 0, []), 22)) (sc_5_0 h1) rfl (by rw [sl_5_0 h1]; exact h2) (el_if (cg_in_lt h2))).trans ?_
  exact g_80 (by decide +kernel : kd_ 80 22 = ((80, 7, 1, [1]), 25)) rfl (sa_105 (sc_5_0 h1) (cg_in_lt h2)) rfl rfl rfl
theorem b_Setting_holdsPlace_25 {L : Nat} {f : cg_G} {e : Nat × Nat} {x1 x2 x3 y0 y1 : Int32} {a0 : Nat} : cj_res 80 25 [.ref a0, .int x1, .int x2, .int x3] [.int y0, .int y1] (cg_M L f e) = if y0 ≤ y1 then cj_res 80 46 [.ref a0, .int x1, .int x2, .int x3] [] (cg_M L f e) else cj_res 80 28 [.ref a0, .int x1, .int x2, .int x3] [] (cg_M L f e) := by
  exact g_40 (by decide +kernel : kd_ 80 25 = ((40, 46, 0, []), 28))
theorem b_Setting_holdsPlace_28 {L : Nat} {f : cg_G} {e : Nat × Nat} {x1 x2 x3 : Int32} {a0 : Nat} (h1 : sh_ a0 = 5) (h2 : cg_in x1 8): cj_res 80 28 [.ref a0, .int x1, .int x2, .int x3] [] (cg_M L f e) = cj_aft 80 36 39 [.ref a0, .int x1, .int x2, .int x3] [.int x3] (cj_ev 5 [.ref ((a0 + 1) + 4 + 4 * x1.toNatClampNeg), .int x2] (cg_M L f e)) := by
  refine (g_2 (by decide +kernel : kd_ 80 28 = ((2, 3, 0, []), 29)) rfl).trans ?_
  refine (g_3 (by decide +kernel : kd_ 80 29 = ((3, 0, 0, []), 30)) rfl).trans ?_
  refine (g_50 (v := .ref (a0 + 1)) (by decide +kernel : kd_ 80 30 = ((50, 5, 0, []), 33)) h1 rfl).trans ?_
  refine (g_2 (by decide +kernel : kd_ 80 33 = ((2, 1, 0, []), 34)) rfl).trans ?_
  refine (g_54 (v := .ref ((a0 + 1) + 4 + 4 * x1.toNatClampNeg)) (by decide +kernel : kd_ 80 34 = ((54, 5, 0, []), 35)) (sc_5_0 h1) rfl (by rw [sl_5_0 h1]; exact h2) (el_if (cg_in_lt h2))).trans ?_
  refine (g_2 (by decide +kernel : kd_ 80 35 = ((2, 2, 0, []), 36)) rfl).trans ?_
  exact g_80 (by decide +kernel : kd_ 80 36 = ((80, 5, 2, [1]), 39)) rfl (sa_105 (sc_5_0 h1) (cg_in_lt h2)) rfl rfl rfl
theorem b_Setting_holdsPlace_39 {L : Nat} {f : cg_G} {e : Nat × Nat} {x1 x2 x3 y0 y1 : Int32} {a0 : Nat} : cj_res 80 39 [.ref a0, .int x1, .int x2, .int x3] [.int y0, .int y1] (cg_M L f e) = if y0 ≤ y1 then cj_res 80 46 [.ref a0, .int x1, .int x2, .int x3] [] (cg_M L f e) else cj_res 80 42 [.ref a0, .int x1, .int x2, .int x3] [] (cg_M L f e) := by
  exact g_40 (by decide +kernel : kd_ 80 39 = ((40, 46, 0, []), 42))
theorem b_Setting_holdsPlace_42 {L : Nat} {f : cg_G} {e : Nat × Nat} {x1 x2 x3 : Int32} {a0 : Nat} : cj_res 80 42 [.ref a0, .int x1, .int x2, .int x3] [] (cg_M L f e) = cj_res 80 47 [.ref a0, .int x1, .int x2, .int x3] [.int (nI 1)] (cg_M L f e) := by
  refine (g_0 (by decide +kernel : kd_ 80 42 = ((0, 1, 0, []), 43))).trans ?_
  refine (g_30 (by decide +kernel : kd_ 80 43 = ((30, 47, 0, []), 46))).trans ?_
  rfl
theorem b_Setting_holdsPlace_46 {L : Nat} {f : cg_G} {e : Nat × Nat} {x1 x2 x3 : Int32} {a0 : Nat} : cj_res 80 46 [.ref a0, .int x1, .int x2, .int x3] [] (cg_M L f e) = cj_res 80 47 [.ref a0, .int x1, .int x2, .int x3] [.int (nI 0)] (cg_M L f e) := by
  refine (g_0 (by decide +kernel : kd_ 80 46 = ((0, 0, 0, []), 47))).trans ?_
  rfl
theorem b_Setting_holdsPlace_47 {L : Nat} {f : cg_G} {e : Nat × Nat} {x1 x2 x3 y0 : Int32} {a0 : Nat} (h1 : y0 = 0 ∨ y0 = 1): cj_res 80 47 [.ref a0, .int x1, .int x2, .int x3] [.int y0] (cg_M L f e) = some (.inl (some (.int y0)), cg_M L f e) := by
  exact g_93 (by decide +kernel : kd_ 80 47 = ((93, 0, 0, []), 48)) h1
theorem b_Setting_markPages_0 {L : Nat} {f : cg_G} {e : Nat × Nat} {a0 a1 : Nat} {u2 : Value} (h1 : sh_ a0 = 5): cj_res 81 0 [.ref a0, .ref a1, u2] [] (cg_M L f e) = cj_res 81 7 [.ref a0, .ref a1, .int (nI 0)] [] (cg_M L (cg_up f a0 5 (nI 0)) e) := by
  refine (g_3 (by decide +kernel : kd_ 81 0 = ((3, 0, 0, []), 1)) rfl).trans ?_
  refine (g_0 (by decide +kernel : kd_ 81 1 = ((0, 0, 0, []), 2))).trans ?_
  refine (g_51 (x := nI 0) (v := .int (nI 0)) (by decide +kernel : kd_ 81 2 = ((51, 5, 5, [0]), 5)) h1 rfl rfl rfl (sz_5 h1) rfl).trans ?_
  refine (g_0 (by decide +kernel : kd_ 81 5 = ((0, 0, 0, []), 6))).trans ?_
  refine (g_4 (ls' := [.ref a0, .ref a1, .int (nI 0)]) (by decide +kernel : kd_ 81 6 = ((4, 2, 0, []), 7)) rfl rfl).trans ?_
  rfl
theorem b_Setting_markPages_7 {L : Nat} {f : cg_G} {e : Nat × Nat} {x2 : Int32} {a0 a1 : Nat} (h1 : sh_ a1 = 3): cj_res 81 7 [.ref a0, .ref a1, .int x2] [] (cg_M L f e) = cj_aft 81 9 12 [.ref a0, .ref a1, .int x2] [.int x2] (cj_ev 20 [.ref a1] (cg_M L f e)) := by
  refine (g_2 (by decide +kernel : kd_ 81 7 = ((2, 2, 0, []), 8)) rfl).trans ?_
  refine (g_3 (by decide +kernel : kd_ 81 8 = ((3, 1, 0, []), 9)) rfl).trans ?_
  exact g_80 (by decide +kernel : kd_ 81 9 = ((80, 20, 1, [3]), 12)) rfl h1 rfl rfl rfl
theorem b_Setting_markPages_12 {L : Nat} {f : cg_G} {e : Nat × Nat} {x2 y0 y1 : Int32} {a0 a1 : Nat} : cj_res 81 12 [.ref a0, .ref a1, .int x2] [.int y0, .int y1] (cg_M L f e) = if y0 ≤ y1 then cj_res 81 54 [.ref a0, .ref a1, .int x2] [] (cg_M L f e) else cj_res 81 15 [.ref a0, .ref a1, .int x2] [] (cg_M L f e) := by
  exact g_40 (by decide +kernel : kd_ 81 12 = ((40, 54, 0, []), 15))
theorem b_Setting_markPages_15 {L : Nat} {f : cg_G} {e : Nat × Nat} {x2 : Int32} {a0 a1 : Nat} (h1 : sh_ a0 = 5): cj_res 81 15 [.ref a0, .ref a1, .int x2] [] (cg_M L f e) = if (nI 848) ≤ (f a0 5) then cj_res 81 54 [.ref a0, .ref a1, .int x2] [] (cg_M L f e) else cj_res 81 25 [.ref a0, .ref a1, .int x2] [] (cg_M L f e) := by
  refine (g_3 (by decide +kernel : kd_ 81 15 = ((3, 0, 0, []), 16)) rfl).trans ?_
  refine (g_50 (v := .int (f a0 5)) (by decide +kernel : kd_ 81 16 = ((50, 5, 5, []), 19)) h1 rfl).trans ?_
  refine (g_0 (by decide +kernel : kd_ 81 19 = ((0, 848, 0, []), 22))).trans ?_
  exact g_40 (by decide +kernel : kd_ 81 22 = ((40, 54, 0, []), 25))
theorem b_Setting_markPages_25 {L : Nat} {f : cg_G} {e : Nat × Nat} {x2 : Int32} {a0 a1 : Nat} (h1 : sh_ a1 = 3): cj_res 81 25 [.ref a0, .ref a1, .int x2] [] (cg_M L f e) = cj_aft 81 27 30 [.ref a0, .ref a1, .int x2] [] (cj_ev 18 [.ref a1, .int x2] (cg_M L f e)) := by
  refine (g_3 (by decide +kernel : kd_ 81 25 = ((3, 1, 0, []), 26)) rfl).trans ?_
  refine (g_2 (by decide +kernel : kd_ 81 26 = ((2, 2, 0, []), 27)) rfl).trans ?_
  exact g_80 (by decide +kernel : kd_ 81 27 = ((80, 18, 2, [3]), 30)) rfl h1 rfl rfl rfl
theorem b_Setting_markPages_30 {L : Nat} {f : cg_G} {e : Nat × Nat} {x2 y0 : Int32} {a0 a1 : Nat} (h1 : sh_ a0 = 5) (h2 : cg_in ((cg_up f a0 5 ((f a0 5) + (nI 1))) a0 5) 849): cj_res 81 30 [.ref a0, .ref a1, .int x2] [.int y0] (cg_M L f e) = cj_res 81 7 [.ref a0, .ref a1, .int y0] [] (cg_M L (cg_up (cg_up f a0 5 ((f a0 5) + (nI 1))) (a0 + 3) ((cg_up f a0 5 ((f a0 5) + (nI 1))) a0 5).toNatClampNeg y0) e) := by
  refine (g_4 (ls' := [.ref a0, .ref a1, .int y0]) (by decide +kernel : kd_ 81 30 = ((4, 2, 0, []), 31)) rfl rfl).trans ?_
  refine (g_3 (by decide +kernel : kd_ 81 31 = ((3, 0, 0, []), 32)) rfl).trans ?_
  refine (g_25 (by decide +kernel : kd_ 81 32 = ((25, 0, 0, []), 33)) rfl).trans ?_
  refine (g_50 (v := .int (f a0 5)) (by decide +kernel : kd_ 81 33 = ((50, 5, 5, []), 36)) h1 rfl).trans ?_
  refine (g_0 (by decide +kernel : kd_ 81 36 = ((0, 1, 0, []), 37))).trans ?_
  refine (g_10 (by decide +kernel : kd_ 81 37 = ((10, 0, 0, []), 38))).trans ?_
  refine (g_51 (x := (f a0 5) + (nI 1)) (v := .int ((f a0 5) + (nI 1))) (by decide +kernel : kd_ 81 38 = ((51, 5, 5, [0]), 41)) h1 rfl rfl rfl (sz_5 h1) rfl).trans ?_
  refine (g_3 (by decide +kernel : kd_ 81 41 = ((3, 0, 0, []), 42)) rfl).trans ?_
  refine (g_50 (v := .ref (a0 + 3)) (by decide +kernel : kd_ 81 42 = ((50, 5, 2, []), 45)) h1 rfl).trans ?_
  refine (g_3 (by decide +kernel : kd_ 81 45 = ((3, 0, 0, []), 46)) rfl).trans ?_
  refine (g_50 (v := .int ((cg_up f a0 5 ((f a0 5) + (nI 1))) a0 5)) (by decide +kernel : kd_ 81 46 = ((50, 5, 5, []), 49)) h1 rfl).trans ?_
  refine (g_2 (by decide +kernel : kd_ 81 49 = ((2, 2, 0, []), 50)) rfl).trans ?_
  refine (g_56 (by decide +kernel : kd_ 81 50 = ((56, 0, 0, []), 51)) (sc_5_2 h1) (fun _ => rfl) (by rw [sl_5_2 h1]; exact h2) (by omega)).trans ?_
  refine (g_30 (by decide +kernel : kd_ 81 51 = ((30, 7, 0, []), 54))).trans ?_
  rfl
theorem b_Setting_markPages_54 {L : Nat} {f : cg_G} {e : Nat × Nat} {x2 : Int32} {a0 a1 : Nat} : cj_res 81 54 [.ref a0, .ref a1, .int x2] [] (cg_M L f e) = some (.inl none, cg_M L f e) := by
  exact g_91 (by decide +kernel : kd_ 81 54 = ((91, 0, 0, []), 55))
theorem b_Setting_onPage_0 {L : Nat} {f : cg_G} {e : Nat × Nat} {x1 x2 x3 : Int32} {a0 : Nat} {u4 u5 u6 u7 u8 : Value} : cj_res 82 0 [.ref a0, .int x1, .int x2, .int x3, u4, u5, u6, u7, u8] [] (cg_M L f e) = if x1 < (nI 1) then cj_res 82 13 [.ref a0, .int x1, .int x2, .int x3, u4, u5, u6, u7, u8] [] (cg_M L f e) else cj_res 82 5 [.ref a0, .int x1, .int x2, .int x3, u4, u5, u6, u7, u8] [] (cg_M L f e) := by
  refine (g_2 (by decide +kernel : kd_ 82 0 = ((2, 1, 0, []), 1)) rfl).trans ?_
  refine (g_0 (by decide +kernel : kd_ 82 1 = ((0, 1, 0, []), 2))).trans ?_
  exact g_39 (by decide +kernel : kd_ 82 2 = ((39, 13, 0, []), 5))
theorem b_Setting_onPage_5 {L : Nat} {f : cg_G} {e : Nat × Nat} {x1 x2 x3 : Int32} {a0 : Nat} {u4 u5 u6 u7 u8 : Value} (h1 : sh_ a0 = 5): cj_res 82 5 [.ref a0, .int x1, .int x2, .int x3, u4, u5, u6, u7, u8] [] (cg_M L f e) = if x1 ≤ (f a0 5) then cj_res 82 15 [.ref a0, .int x1, .int x2, .int x3, u4, u5, u6, u7, u8] [] (cg_M L f e) else cj_res 82 13 [.ref a0, .int x1, .int x2, .int x3, u4, u5, u6, u7, u8] [] (cg_M L f e) := by
  refine (g_2 (by decide +kernel : kd_ 82 5 = ((2, 1, 0, []), 6)) rfl).trans ?_
  refine (g_3 (by decide +kernel : kd_ 82 6 = ((3, 0, 0, []), 7)) rfl).trans ?_
  refine (g_50 (v := .int (f a0 5)) (by decide +kernel : kd_ 82 7 = ((50, 5, 5, []), 10)) h1 rfl).trans ?_
  exact g_42 (by decide +kernel : kd_ 82 10 = ((42, 15, 0, []), 13))
theorem b_Setting_onPage_13 {L : Nat} {f : cg_G} {e : Nat × Nat} {x1 x2 x3 : Int32} {a0 : Nat} {u4 u5 u6 u7 u8 : Value} : cj_res 82 13 [.ref a0, .int x1, .int x2, .int x3, u4, u5, u6, u7, u8] [] (cg_M L f e) = some (.inl (some (.int (- nI 1))), cg_M L f e) := by
  refine (g_1 (by decide +kernel : kd_ 82 13 = ((1, 1, 0, []), 14))).trans ?_
  exact g_90 (by decide +kernel : kd_ 82 14 = ((90, 0, 0, []), 15))
theorem b_Setting_onPage_15 {L : Nat} {f : cg_G} {e : Nat × Nat} {x1 x2 x3 : Int32} {a0 : Nat} {u4 u5 u6 u7 u8 : Value} (h1 : sh_ a0 = 5) (h2 : cg_in (x1 - (nI 1)) 849): cj_res 82 15 [.ref a0, .int x1, .int x2, .int x3, u4, u5, u6, u7, u8] [] (cg_M L f e) = cj_res 82 28 [.ref a0, .int x1, .int x2, .int x3, .int x2, .int (f (a0 + 3) (x1 - (nI 1)).toNatClampNeg), u6, u7, u8] [] (cg_M L f e) := by
  refine (g_2 (by decide +kernel : kd_ 82 15 = ((2, 2, 0, []), 16)) rfl).trans ?_
  refine (g_4 (ls' := [.ref a0, .int x1, .int x2, .int x3, .int x2, u5, u6, u7, u8]) (by decide +kernel : kd_ 82 16 = ((4, 4, 0, []), 18)) rfl rfl).trans ?_
  refine (g_3 (by decide +kernel : kd_ 82 18 = ((3, 0, 0, []), 19)) rfl).trans ?_
  refine (g_50 (v := .ref (a0 + 3)) (by decide +kernel : kd_ 82 19 = ((50, 5, 2, []), 22)) h1 rfl).trans ?_
  refine (g_2 (by decide +kernel : kd_ 82 22 = ((2, 1, 0, []), 23)) rfl).trans ?_
  refine (g_0 (by decide +kernel : kd_ 82 23 = ((0, 1, 0, []), 24))).trans ?_
  refine (g_11 (by decide +kernel : kd_ 82 24 = ((11, 0, 0, []), 25))).trans ?_
  refine (g_54 (v := .int (f (a0 + 3) (x1 - (nI 1)).toNatClampNeg)) (by decide +kernel : kd_ 82 25 = ((54, 0, 0, []), 26)) (sc_5_2 h1) rfl (by rw [sl_5_2 h1]; exact h2) rfl).trans ?_
  refine (g_4 (ls' := [.ref a0, .int x1, .int x2, .int x3, .int x2, .int (f (a0 + 3) (x1 - (nI 1)).toNatClampNeg), u6, u7, u8]) (by decide +kernel : kd_ 82 26 = ((4, 5, 0, []), 28)) rfl rfl).trans ?_
  rfl
theorem b_Setting_onPage_28 {L : Nat} {f : cg_G} {e : Nat × Nat} {x1 x2 x3 x4 x5 : Int32} {a0 : Nat} {u6 u7 u8 : Value} (h1 : sh_ a0 = 5) (h2 : cg_in x1 849): cj_res 82 28 [.ref a0, .int x1, .int x2, .int x3, .int x4, .int x5, u6, u7, u8] [] (cg_M L f e) = if (f (a0 + 3) x1.toNatClampNeg) ≤ x5 then cj_res 82 117 [.ref a0, .int x1, .int x2, .int x3, .int x4, .int x5, u6, u7, u8] [] (cg_M L f e) else cj_res 82 39 [.ref a0, .int x1, .int x2, .int x3, .int x4, .int x5, u6, u7, u8] [] (cg_M L f e) := by
  refine (g_2 (by decide +kernel : kd_ 82 28 = ((2, 5, 0, []), 30)) rfl).trans ?_
  refine (g_3 (by decide +kernel : kd_ 82 30 = ((3, 0, 0, []), 31)) rfl).trans ?_
  refine (g_50 (v := .ref (a0 + 3)) (by decide +kernel : kd_ 82 31 = ((50, 5, 2, []), 34)) h1 rfl).trans ?_
  refine (g_2 (by decide +kernel : kd_ 82 34 = ((2, 1, 0, []), 35)) rfl).trans ?_
  refine (g_54 (v := .int (f (a0 + 3) x1.toNatClampNeg)) (by decide +kernel : kd_ 82 35 = ((54, 0, 0, []), 36)) (sc_5_2 h1) rfl (by rw [sl_5_2 h1]; exact h2) rfl).trans ?_
  exact g_40 (by decide +kernel : kd_ 82 36 = ((40, 117, 0, []), 39))
theorem b_Setting_onPage_39 {L : Nat} {f : cg_G} {e : Nat × Nat} {x1 x2 x3 x4 x5 : Int32} {a0 : Nat} {u6 u7 u8 : Value} (h1 : sh_ a0 = 5): cj_res 82 39 [.ref a0, .int x1, .int x2, .int x3, .int x4, .int x5, u6, u7, u8] [] (cg_M L f e) = cj_aft 82 42 45 [.ref a0, .int x1, .int x2, .int x3, .int x4, .int x5, u6, u7, u8] [] (cj_ev 26 [.ref a0, .int x5] (cg_M L f e)) := by
  refine (g_3 (by decide +kernel : kd_ 82 39 = ((3, 0, 0, []), 40)) rfl).trans ?_
  refine (g_2 (by decide +kernel : kd_ 82 40 = ((2, 5, 0, []), 42)) rfl).trans ?_
  exact g_80 (by decide +kernel : kd_ 82 42 = ((80, 26, 2, [5]), 45)) rfl h1 rfl rfl rfl
theorem b_Setting_onPage_45 {L : Nat} {f : cg_G} {e : Nat × Nat} {x1 x2 x3 x4 x5 y0 : Int32} {a0 : Nat} {u6 u7 u8 : Value} (h1 : sh_ a0 = 5) (h2 : cg_in y0 9) (h3 : cg_in y0 8): cj_res 82 45 [.ref a0, .int x1, .int x2, .int x3, .int x4, .int x5, u6, u7, u8] [.int y0] (cg_M L f e) = cj_aft 82 68 71 [.ref a0, .int x1, .int x2, .int x3, .int x4, .int x5, .int y0, .int (x5 - (f (a0 + 2) y0.toNatClampNeg)), u8] [] (cj_ev 4 [.ref ((a0 + 1) + 4 + 4 * y0.toNatClampNeg), .int (x5 - (f (a0 + 2) y0.toNatClampNeg))] (cg_M L f e)) := by
  refine (g_4 (ls' := [.ref a0, .int x1, .int x2, .int x3, .int x4, .int x5, .int y0, u7, u8]) (by decide +kernel : kd_ 82 45 = ((4, 6, 0, []), 47)) rfl rfl).trans ?_
  refine (g_2 (by decide +kernel : kd_ 82 47 = ((2, 5, 0, []), 49)) rfl).trans ?_
  refine (g_3 (by decide +kernel : kd_ 82 49 = ((3, 0, 0, []), 50)) rfl).trans ?_
  refine (g_50 (v := .ref (a0 + 2)) (by decide +kernel : kd_ 82 50 = ((50, 5, 1, []), 53)) h1 rfl).trans ?_
  refine (g_2 (by decide +kernel : kd_ 82 53 = ((2, 6, 0, []), 55)) rfl).trans ?_
  refine (g_54 (v := .int (f (a0 + 2) y0.toNatClampNeg)) (by decide +kernel : kd_ 82 55 = ((54, 0, 0, []), 56)) (sc_5_1 h1) rfl (by rw [sl_5_1 h1]; exact h2) rfl).trans ?_
  refine (g_11 (by decide +kernel : kd_ 82 56 = ((11, 0, 0, []), 57))).trans ?_
  refine (g_4 (ls' := [.ref a0, .int x1, .int x2, .int x3, .int x4, .int x5, .int y0, .int (x5 - (f (a0 + 2) y0.toNatClampNeg)), u8]) (by decide +kernel : kd_ 82 57 = ((4, 7, 0, []), 59)) rfl rfl).trans ?_
  refine (g_3 (by decide +kernel : kd_ 82 59 = ((3, 0, 0, []), 60)) rfl).trans ?_
  refine (g_50 (v := .ref (a0 + 1)) (by decide +kernel : kd_ 82 60 = ((50, 5, 0, []), 63)) h1 rfl).trans ?_
  refine (g_2 (by decide +kernel : kd_ 82 63 = ((2, 6, 0, []), 65)) rfl).trans ?_
  refine (g_54 (v := .ref ((a0 + 1) + 4 + 4 * y0.toNatClampNeg)) (by decide +kernel : kd_ 82 65 = ((54, 5, 0, []), 66)) (sc_5_0 h1) rfl (by rw [sl_5_0 h1]; exact h3) (el_if (cg_in_lt h3))).trans ?_
  refine (g_2 (by decide +kernel : kd_ 82 66 = ((2, 7, 0, []), 68)) rfl).trans ?_
  exact g_80 (by decide +kernel : kd_ 82 68 = ((80, 4, 2, [1]), 71)) rfl (sa_105 (sc_5_0 h1) (cg_in_lt h3)) rfl rfl rfl
theorem b_Setting_onPage_71 {L : Nat} {f : cg_G} {e : Nat × Nat} {x1 x2 x3 x4 x5 x6 x7 y0 : Int32} {a0 : Nat} {u8 : Value} : cj_res 82 71 [.ref a0, .int x1, .int x2, .int x3, .int x4, .int x5, .int x6, .int x7, u8] [.int y0] (cg_M L f e) = if y0 ≤ x4 then cj_res 82 104 [.ref a0, .int x1, .int x2, .int x3, .int x4, .int x5, .int x6, .int x7, .int y0] [] (cg_M L f e) else cj_res 82 80 [.ref a0, .int x1, .int x2, .int x3, .int x4, .int x5, .int x6, .int x7, .int y0] [] (cg_M L f e) := by
  refine (g_4 (ls' := [.ref a0, .int x1, .int x2, .int x3, .int x4, .int x5, .int x6, .int x7, .int y0]) (by decide +kernel : kd_ 82 71 = ((4, 8, 0, []), 73)) rfl rfl).trans ?_
  refine (g_2 (by decide +kernel : kd_ 82 73 = ((2, 4, 0, []), 75)) rfl).trans ?_
  refine (g_2 (by decide +kernel : kd_ 82 75 = ((2, 8, 0, []), 77)) rfl).trans ?_
  exact g_40 (by decide +kernel : kd_ 82 77 = ((40, 104, 0, []), 80))
theorem b_Setting_onPage_80 {L : Nat} {f : cg_G} {e : Nat × Nat} {x1 x2 x3 x4 x5 x6 x7 x8 : Int32} {a0 : Nat} : cj_res 82 80 [.ref a0, .int x1, .int x2, .int x3, .int x4, .int x5, .int x6, .int x7, .int x8] [] (cg_M L f e) = if x3 = 0 then cj_res 82 89 [.ref a0, .int x1, .int x2, .int x3, .int x4, .int x5, .int x6, .int x7, .int x8] [] (cg_M L f e) else cj_res 82 84 [.ref a0, .int x1, .int x2, .int x3, .int x4, .int x5, .int x6, .int x7, .int x8] [] (cg_M L f e) := by
  refine (g_2 (by decide +kernel : kd_ 82 80 = ((2, 3, 0, []), 81)) rfl).trans ?_
  exact g_31 (by decide +kernel : kd_ 82 81 = ((31, 89, 0, []), 84))
theorem b_Setting_onPage_84 {L : Nat} {f : cg_G} {e : Nat × Nat} {x1 x2 x3 x4 x5 x6 x7 x8 : Int32} {a0 : Nat} : cj_res 82 84 [.ref a0, .int x1, .int x2, .int x3, .int x4, .int x5, .int x6, .int x7, .int x8] [] (cg_M L f e) = cj_res 82 103 [.ref a0, .int x1, .int x2, .int x3, .int x4, .int x5, .int x6, .int x7, .int x8] [.int x6] (cg_M L f e) := by
  refine (g_2 (by decide +kernel : kd_ 82 84 = ((2, 6, 0, []), 86)) rfl).trans ?_
  refine (g_30 (by decide +kernel : kd_ 82 86 = ((30, 103, 0, []), 89))).trans ?_
  rfl
theorem b_Setting_onPage_89 {L : Nat} {f : cg_G} {e : Nat × Nat} {x1 x2 x3 x4 x5 x6 x7 x8 : Int32} {a0 : Nat} (h1 : sh_ a0 = 5) (h2 : cg_in x6 8): cj_res 82 89 [.ref a0, .int x1, .int x2, .int x3, .int x4, .int x5, .int x6, .int x7, .int x8] [] (cg_M L f e) = cj_aft 82 100 103 [.ref a0, .int x1, .int x2, .int x3, .int x4, .int x5, .int x6, .int x7, .int x8] [] (cj_ev 6 [.ref ((a0 + 1) + 4 + 4 * x6.toNatClampNeg), .int x7, .int x4] (cg_M L f e)) := by
  refine (g_3 (by decide +kernel : kd_ 82 89 = ((3, 0, 0, []), 90)) rfl).trans ?_
  refine (g_50 (v := .ref (a0 + 1)) (by decide +kernel : kd_ 82 90 = ((50, 5, 0, []), 93)) h1 rfl).trans ?_
  refine (g_2 (by decide +kernel : kd_ 82 93 = ((2, 6, 0, []), 95)) rfl).trans ?_
  refine (g_54 (v := .ref ((a0 + 1) + 4 + 4 * x6.toNatClampNeg)) (by decide +kernel : kd_ 82 95 = ((54, 5, 0, []), 96)) (sc_5_0 h1) rfl (by rw [sl_5_0 h1]; exact h2) (el_if (cg_in_lt h2))).trans ?_
  refine (g_2 (by decide +kernel : kd_ 82 96 = ((2, 7, 0, []), 98)) rfl).trans ?_
  refine (g_2 (by decide +kernel : kd_ 82 98 = ((2, 4, 0, []), 100)) rfl).trans ?_
  exact g_80 (by decide +kernel : kd_ 82 100 = ((80, 6, 3, [1]), 103)) rfl (sa_105 (sc_5_0 h1) (cg_in_lt h2)) rfl rfl rfl
theorem b_Setting_onPage_103 {L : Nat} {f : cg_G} {e : Nat × Nat} {x1 x2 x3 x4 x5 x6 x7 x8 y0 : Int32} {a0 : Nat} : cj_res 82 103 [.ref a0, .int x1, .int x2, .int x3, .int x4, .int x5, .int x6, .int x7, .int x8] [.int y0] (cg_M L f e) = some (.inl (some (.int y0)), cg_M L f e) := by
  exact g_90 (by decide +kernel : kd_ 82 103 = ((90, 0, 0, []), 104))
theorem b_Setting_onPage_104 {L : Nat} {f : cg_G} {e : Nat × Nat} {x1 x2 x3 x4 x5 x6 x7 x8 : Int32} {a0 : Nat} : cj_res 82 104 [.ref a0, .int x1, .int x2, .int x3, .int x4, .int x5, .int x6, .int x7, .int x8] [] (cg_M L f e) = cj_res 82 28 [.ref a0, .int x1, .int x2, .int x3, .int (x4 - x8), .int (x5 + nI 1), .int x6, .int x7, .int x8] [] (cg_M L f e) := by
  refine (g_2 (by decide +kernel : kd_ 82 104 = ((2, 4, 0, []), 106)) rfl).trans ?_
  refine (g_2 (by decide +kernel : kd_ 82 106 = ((2, 8, 0, []), 108)) rfl).trans ?_
  refine (g_11 (by decide +kernel : kd_ 82 108 = ((11, 0, 0, []), 109))).trans ?_
  refine (g_4 (ls' := [.ref a0, .int x1, .int x2, .int x3, .int (x4 - x8), .int x5, .int x6, .int x7, .int x8]) (by decide +kernel : kd_ 82 109 = ((4, 4, 0, []), 111)) rfl rfl).trans ?_
  refine (g_6 (ls' := [.ref a0, .int x1, .int x2, .int x3, .int (x4 - x8), .int (x5 + nI 1), .int x6, .int x7, .int x8]) (by decide +kernel : kd_ 82 111 = ((6, 5, 1, []), 114)) rfl rfl).trans ?_
  refine (g_30 (by decide +kernel : kd_ 82 114 = ((30, 28, 0, []), 117))).trans ?_
  rfl
theorem b_Setting_onPage_117 {L : Nat} {f : cg_G} {e : Nat × Nat} {x1 x2 x3 x4 x5 : Int32} {a0 : Nat} {u6 u7 u8 : Value} : cj_res 82 117 [.ref a0, .int x1, .int x2, .int x3, .int x4, .int x5, u6, u7, u8] [] (cg_M L f e) = some (.inl (some (.int (- nI 1))), cg_M L f e) := by
  refine (g_1 (by decide +kernel : kd_ 82 117 = ((1, 1, 0, []), 118))).trans ?_
  exact g_90 (by decide +kernel : kd_ 82 118 = ((90, 0, 0, []), 119))
theorem b_Setting_pageOf_0 {L : Nat} {f : cg_G} {e : Nat × Nat} {x1 : Int32} {a0 : Nat} (h1 : sh_ a0 = 5): cj_res 83 0 [.ref a0, .int x1] [] (cg_M L f e) = cj_aft 83 2 5 [.ref a0, .int x1] [] (cj_ev 28 [.ref a0, .int x1] (cg_M L f e)) := by
  refine (g_3 (by decide +kernel : kd_ 83 0 = ((3, 0, 0, []), 1)) rfl).trans ?_
  refine (g_2 (by decide +kernel : kd_ 83 1 = ((2, 1, 0, []), 2)) rfl).trans ?_
  exact g_80 (by decide +kernel : kd_ 83 2 = ((80, 28, 2, [5]), 5)) rfl h1 rfl rfl rfl
theorem b_Setting_pageOf_5 {L : Nat} {f : cg_G} {e : Nat × Nat} {x1 y0 : Int32} {a0 : Nat} : cj_res 83 5 [.ref a0, .int x1] [.int y0] (cg_M L f e) = if y0 = 0 then cj_res 83 17 [.ref a0, .int x1] [] (cg_M L f e) else cj_res 83 8 [.ref a0, .int x1] [] (cg_M L f e) := by
  exact g_31 (by decide +kernel : kd_ 83 5 = ((31, 17, 0, []), 8))
theorem b_Setting_pageOf_8 {L : Nat} {f : cg_G} {e : Nat × Nat} {x1 : Int32} {a0 : Nat} (h1 : sh_ a0 = 5) (h2 : cg_in x1 8): cj_res 83 8 [.ref a0, .int x1] [] (cg_M L f e) = cj_res 83 18 [.ref a0, .int x1] [.int (f (a0 + 4) x1.toNatClampNeg)] (cg_M L f e) := by
  refine (g_3 (by decide +kernel : kd_ 83 8 = ((3, 0, 0, []), 9)) rfl).trans ?_
  refine (g_50 (v := .ref (a0 + 4)) (by decide +kernel : kd_ 83 9 = ((50, 5, 3, []), 12)) h1 rfl).trans ?_
  refine (g_2 (by decide +kernel : kd_ 83 12 = ((2, 1, 0, []), 13)) rfl).trans ?_
  refine (g_54 (v := .int (f (a0 + 4) x1.toNatClampNeg)) (by decide +kernel : kd_ 83 13 = ((54, 0, 0, []), 14)) (sc_5_3 h1) rfl (by rw [sl_5_3 h1]; exact h2) rfl).trans ?_
  refine (g_30 (by decide +kernel : kd_ 83 14 = ((30, 18, 0, []), 17))).trans ?_
  rfl
theorem b_Setting_pageOf_17 {L : Nat} {f : cg_G} {e : Nat × Nat} {x1 : Int32} {a0 : Nat} : cj_res 83 17 [.ref a0, .int x1] [] (cg_M L f e) = cj_res 83 18 [.ref a0, .int x1] [.int (nI 0)] (cg_M L f e) := by
  refine (g_0 (by decide +kernel : kd_ 83 17 = ((0, 0, 0, []), 18))).trans ?_
  rfl
theorem b_Setting_pageOf_18 {L : Nat} {f : cg_G} {e : Nat × Nat} {x1 y0 : Int32} {a0 : Nat} : cj_res 83 18 [.ref a0, .int x1] [.int y0] (cg_M L f e) = some (.inl (some (.int y0)), cg_M L f e) := by
  exact g_90 (by decide +kernel : kd_ 83 18 = ((90, 0, 0, []), 19))
theorem b_Signs_addAll_0 {L : Nat} {f : cg_G} {e : Nat × Nat} {a0 a1 : Nat} {u2 u3 : Value} (h1 : sh_ a1 = 6): cj_res 84 0 [.ref a0, .ref a1, u2, u3] [] (cg_M L f e) = cj_aft 84 1 4 [.ref a0, .ref a1, u2, u3] [] (cj_ev 39 [.ref a1] (cg_M L f e)) := by
  refine (g_3 (by decide +kernel : kd_ 84 0 = ((3, 1, 0, []), 1)) rfl).trans ?_
  exact g_80 (by decide +kernel : kd_ 84 1 = ((80, 39, 1, [6]), 4)) rfl h1 rfl rfl rfl
theorem b_Signs_addAll_4 {L : Nat} {f : cg_G} {e : Nat × Nat} {y0 : Int32} {a0 a1 : Nat} {u2 u3 : Value} : cj_res 84 4 [.ref a0, .ref a1, u2, u3] [.int y0] (cg_M L f e) = cj_res 84 7 [.ref a0, .ref a1, .int y0, .int (nI 0)] [] (cg_M L f e) := by
  refine (g_4 (ls' := [.ref a0, .ref a1, .int y0, u3]) (by decide +kernel : kd_ 84 4 = ((4, 2, 0, []), 5)) rfl rfl).trans ?_
  refine (g_0 (by decide +kernel : kd_ 84 5 = ((0, 0, 0, []), 6))).trans ?_
  refine (g_4 (ls' := [.ref a0, .ref a1, .int y0, .int (nI 0)]) (by decide +kernel : kd_ 84 6 = ((4, 3, 0, []), 7)) rfl rfl).trans ?_
  rfl
theorem b_Signs_addAll_7 {L : Nat} {f : cg_G} {e : Nat × Nat} {x2 x3 : Int32} {a0 a1 : Nat} : cj_res 84 7 [.ref a0, .ref a1, .int x2, .int x3] [] (cg_M L f e) = if x2 ≤ x3 then cj_res 84 27 [.ref a0, .ref a1, .int x2, .int x3] [] (cg_M L f e) else cj_res 84 12 [.ref a0, .ref a1, .int x2, .int x3] [] (cg_M L f e) := by
  refine (g_2 (by decide +kernel : kd_ 84 7 = ((2, 3, 0, []), 8)) rfl).trans ?_
  refine (g_2 (by decide +kernel : kd_ 84 8 = ((2, 2, 0, []), 9)) rfl).trans ?_
  exact g_40 (by decide +kernel : kd_ 84 9 = ((40, 27, 0, []), 12))
theorem b_Signs_addAll_12 {L : Nat} {f : cg_G} {e : Nat × Nat} {x2 x3 : Int32} {a0 a1 : Nat} (h1 : sh_ a1 = 6): cj_res 84 12 [.ref a0, .ref a1, .int x2, .int x3] [] (cg_M L f e) = cj_aft 84 15 18 [.ref a0, .ref a1, .int x2, .int x3] [.ref a0] (cj_ev 36 [.ref a1, .int x3] (cg_M L f e)) := by
  refine (g_3 (by decide +kernel : kd_ 84 12 = ((3, 0, 0, []), 13)) rfl).trans ?_
  refine (g_3 (by decide +kernel : kd_ 84 13 = ((3, 1, 0, []), 14)) rfl).trans ?_
  refine (g_2 (by decide +kernel : kd_ 84 14 = ((2, 3, 0, []), 15)) rfl).trans ?_
  exact g_80 (by decide +kernel : kd_ 84 15 = ((80, 36, 2, [6]), 18)) rfl h1 rfl rfl rfl
theorem b_Signs_addAll_18 {L : Nat} {f : cg_G} {e : Nat × Nat} {x2 x3 y0 : Int32} {a0 a1 c1 : Nat} (h1 : sh_ c1 = 6): cj_res 84 18 [.ref a0, .ref a1, .int x2, .int x3] [.int y0, .ref c1] (cg_M L f e) = cj_aft 84 18 21 [.ref a0, .ref a1, .int x2, .int x3] [] (cj_ev 35 [.ref c1, .int y0] (cg_M L f e)) := by
  exact g_80 (by decide +kernel : kd_ 84 18 = ((80, 35, 2, [6]), 21)) rfl h1 rfl rfl rfl
theorem b_Signs_addAll_21 {L : Nat} {f : cg_G} {e : Nat × Nat} {x2 x3 : Int32} {a0 a1 : Nat} : cj_res 84 21 [.ref a0, .ref a1, .int x2, .int x3] [] (cg_M L f e) = cj_res 84 7 [.ref a0, .ref a1, .int x2, .int (x3 + nI 1)] [] (cg_M L f e) := by
  refine (g_6 (ls' := [.ref a0, .ref a1, .int x2, .int (x3 + nI 1)]) (by decide +kernel : kd_ 84 21 = ((6, 3, 1, []), 24)) rfl rfl).trans ?_
  refine (g_30 (by decide +kernel : kd_ 84 24 = ((30, 7, 0, []), 27))).trans ?_
  rfl
theorem b_Signs_addAll_27 {L : Nat} {f : cg_G} {e : Nat × Nat} {x2 x3 : Int32} {a0 a1 : Nat} : cj_res 84 27 [.ref a0, .ref a1, .int x2, .int x3] [] (cg_M L f e) = some (.inl none, cg_M L f e) := by
  exact g_91 (by decide +kernel : kd_ 84 27 = ((91, 0, 0, []), 28))
theorem b_M_about_0 {L : Nat} {f : cg_G} {e : Nat × Nat} {x1 : Int32} {a0 : Nat} : cj_res 85 0 [.ref a0, .int x1] [] (cg_M L f e) = cj_aft 85 3 6 [.ref a0, .int x1] [.ref a0] (cj_ev 44 [.int x1, .int (nI 5)] (cg_M L f e)) := by
  refine (g_3 (by decide +kernel : kd_ 85 0 = ((3, 0, 0, []), 1)) rfl).trans ?_
  refine (g_2 (by decide +kernel : kd_ 85 1 = ((2, 1, 0, []), 2)) rfl).trans ?_
  refine (g_0 (by decide +kernel : kd_ 85 2 = ((0, 5, 0, []), 3))).trans ?_
  exact g_81 (by decide +kernel : kd_ 85 3 = ((81, 44, 2, []), 6)) rfl rfl rfl
theorem b_M_about_6 {L : Nat} {f : cg_G} {e : Nat × Nat} {x1 y0 : Int32} {a0 c1 : Nat} (h1 : sh_ a0 = 7): cj_res 85 6 [.ref a0, .int x1] [.int y0, .ref c1] (cg_M L f e) = if (f a0 23) = (- nI 1) then cj_res 85 18 [.ref a0, .int x1] [.int y0, .ref c1] (cg_M L f e) else cj_res 85 14 [.ref a0, .int x1] [.int y0, .ref c1] (cg_M L f e) := by
  refine (g_3 (by decide +kernel : kd_ 85 6 = ((3, 0, 0, []), 7)) rfl).trans ?_
  refine (g_50 (v := .int (f a0 23)) (by decide +kernel : kd_ 85 7 = ((50, 7, 23, []), 10)) h1 rfl).trans ?_
  refine (g_1 (by decide +kernel : kd_ 85 10 = ((1, 1, 0, []), 11))).trans ?_
  exact g_37 (by decide +kernel : kd_ 85 11 = ((37, 18, 0, []), 14))
theorem b_M_about_14 {L : Nat} {f : cg_G} {e : Nat × Nat} {x1 y0 : Int32} {a0 c1 : Nat} : cj_res 85 14 [.ref a0, .int x1] [.int y0, .ref c1] (cg_M L f e) = cj_res 85 19 [.ref a0, .int x1] [.int (nI 1), .int y0, .ref c1] (cg_M L f e) := by
  refine (g_0 (by decide +kernel : kd_ 85 14 = ((0, 1, 0, []), 15))).trans ?_
  refine (g_30 (by decide +kernel : kd_ 85 15 = ((30, 19, 0, []), 18))).trans ?_
  rfl
theorem b_M_about_18 {L : Nat} {f : cg_G} {e : Nat × Nat} {x1 y0 : Int32} {a0 c1 : Nat} : cj_res 85 18 [.ref a0, .int x1] [.int y0, .ref c1] (cg_M L f e) = cj_res 85 19 [.ref a0, .int x1] [.int (nI 0), .int y0, .ref c1] (cg_M L f e) := by
  refine (g_0 (by decide +kernel : kd_ 85 18 = ((0, 0, 0, []), 19))).trans ?_
  rfl
theorem b_M_about_19 {L : Nat} {f : cg_G} {e : Nat × Nat} {x1 y0 y1 : Int32} {a0 c2 : Nat} (h1 : sh_ c2 = 7): cj_res 85 19 [.ref a0, .int x1] [.int y0, .int y1, .ref c2] (cg_M L f e) = cj_aft 85 19 22 [.ref a0, .int x1] [] (cj_ev 46 [.ref c2, .int y1, .int y0] (cg_M L f e)) := by
  exact g_80 (by decide +kernel : kd_ 85 19 = ((80, 46, 3, [7]), 22)) rfl h1 rfl rfl rfl
theorem b_M_about_22 {L : Nat} {f : cg_G} {e : Nat × Nat} {x1 y0 : Int32} {a0 : Nat} : cj_res 85 22 [.ref a0, .int x1] [.int y0] (cg_M L f e) = if y0 = 0 then cj_res 85 41 [.ref a0, .int x1] [] (cg_M L f e) else cj_res 85 25 [.ref a0, .int x1] [] (cg_M L f e) := by
  exact g_31 (by decide +kernel : kd_ 85 22 = ((31, 41, 0, []), 25))
theorem b_M_about_25 {L : Nat} {f : cg_G} {e : Nat × Nat} {x1 : Int32} {a0 : Nat} (h1 : sh_ a0 = 7) (h2 : cg_in (((nI 5) * (f a0 23)) + x1) 10): cj_res 85 25 [.ref a0, .int x1] [] (cg_M L f e) = cj_res 85 42 [.ref a0, .int x1] [.int (f (a0 + 16) (((nI 5) * (f a0 23)) + x1).toNatClampNeg)] (cg_M L f e) := by
  refine (g_3 (by decide +kernel : kd_ 85 25 = ((3, 0, 0, []), 26)) rfl).trans ?_
  refine (g_50 (v := .ref (a0 + 16)) (by decide +kernel : kd_ 85 26 = ((50, 7, 25, []), 29)) h1 rfl).trans ?_
  refine (g_0 (by decide +kernel : kd_ 85 29 = ((0, 5, 0, []), 30))).trans ?_
  refine (g_3 (by decide +kernel : kd_ 85 30 = ((3, 0, 0, []), 31)) rfl).trans ?_
  refine (g_50 (v := .int (f a0 23)) (by decide +kernel : kd_ 85 31 = ((50, 7, 23, []), 34)) h1 rfl).trans ?_
  refine (g_12 (by decide +kernel : kd_ 85 34 = ((12, 0, 0, []), 35))).trans ?_
  refine (g_2 (by decide +kernel : kd_ 85 35 = ((2, 1, 0, []), 36)) rfl).trans ?_
  refine (g_10 (by decide +kernel : kd_ 85 36 = ((10, 0, 0, []), 37))).trans ?_
  refine (g_54 (v := .int (f (a0 + 16) (((nI 5) * (f a0 23)) + x1).toNatClampNeg)) (by decide +kernel : kd_ 85 37 = ((54, 0, 0, []), 38)) (sc_7_25 h1) rfl (by rw [sl_7_25 h1]; exact h2) rfl).trans ?_
  refine (g_30 (by decide +kernel : kd_ 85 38 = ((30, 42, 0, []), 41))).trans ?_
  rfl
theorem b_M_about_41 {L : Nat} {f : cg_G} {e : Nat × Nat} {x1 : Int32} {a0 : Nat} : cj_res 85 41 [.ref a0, .int x1] [] (cg_M L f e) = cj_res 85 42 [.ref a0, .int x1] [.int (nI 0)] (cg_M L f e) := by
  refine (g_0 (by decide +kernel : kd_ 85 41 = ((0, 0, 0, []), 42))).trans ?_
  rfl
theorem b_M_about_42 {L : Nat} {f : cg_G} {e : Nat × Nat} {x1 y0 : Int32} {a0 : Nat} : cj_res 85 42 [.ref a0, .int x1] [.int y0] (cg_M L f e) = some (.inl (some (.int y0)), cg_M L f e) := by
  exact g_90 (by decide +kernel : kd_ 85 42 = ((90, 0, 0, []), 43))
