theorem b_C_byteOf_0 {L : Nat} {f : cg_G} {e : Nat × Nat} {x0 x1 : Int32} : cj_res 0 0 [.int x0, .int x1] [] (cg_M L f e) = some (.inl (some (.int (((x0.toUInt32 >>> (((nI 8) * x1).toUInt32 &&& Int32.toUInt32 31)).toInt32) &&& (nI 255)))), cg_M L f e) := by
  refine (g_2 (by decide +kernel : kd_ 0 0 = ((2, 0, 0, []), 1)) rfl).trans ?_
  refine (g_0 (by decide +kernel : kd_ 0 1 = ((0, 8, 0, []), 3))).trans ?_
  refine (g_2 (by decide +kernel : kd_ 0 3 = ((2, 1, 0, []), 4)) rfl).trans ?_
  refine (g_12 (by decide +kernel : kd_ 0 4 = ((12, 0, 0, []), 5))).trans ?_
  refine (g_18 (by decide +kernel : kd_ 0 5 = ((18, 0, 0, []), 6))).trans ?_
  refine (g_0 (by decide +kernel : kd_ 0 6 = ((0, 255, 0, []), 9))).trans ?_
  refine (g_19 (by decide +kernel : kd_ 0 9 = ((19, 0, 0, []), 10))).trans ?_
  exact g_90 (by decide +kernel : kd_ 0 10 = ((90, 0, 0, []), 11))
theorem b_C_isEntry_0 {L : Nat} {f : cg_G} {e : Nat × Nat} {x1 : Int32} {a0 : Nat} : cj_res 1 0 [.ref a0, .int x1] [] (cg_M L f e) = if x1 < 0 then cj_res 1 16 [.ref a0, .int x1] [] (cg_M L f e) else cj_res 1 4 [.ref a0, .int x1] [] (cg_M L f e) := by
  refine (g_2 (by decide +kernel : kd_ 1 0 = ((2, 1, 0, []), 1)) rfl).trans ?_
  exact g_33 (by decide +kernel : kd_ 1 1 = ((33, 16, 0, []), 4))
theorem b_C_isEntry_4 {L : Nat} {f : cg_G} {e : Nat × Nat} {x1 : Int32} {a0 : Nat} (h1 : sh_ a0 = 0): cj_res 1 4 [.ref a0, .int x1] [] (cg_M L f e) = if (f a0 7) ≤ x1 then cj_res 1 16 [.ref a0, .int x1] [] (cg_M L f e) else cj_res 1 12 [.ref a0, .int x1] [] (cg_M L f e) := by
  refine (g_2 (by decide +kernel : kd_ 1 4 = ((2, 1, 0, []), 5)) rfl).trans ?_
  refine (g_3 (by decide +kernel : kd_ 1 5 = ((3, 0, 0, []), 6)) rfl).trans ?_
  refine (g_50 (v := .int (f a0 7)) (by decide +kernel : kd_ 1 6 = ((50, 0, 7, []), 9)) h1 rfl).trans ?_
  exact g_40 (by decide +kernel : kd_ 1 9 = ((40, 16, 0, []), 12))
theorem b_C_isEntry_12 {L : Nat} {f : cg_G} {e : Nat × Nat} {x1 : Int32} {a0 : Nat} : cj_res 1 12 [.ref a0, .int x1] [] (cg_M L f e) = cj_res 1 17 [.ref a0, .int x1] [.int (nI 1)] (cg_M L f e) := by
  refine (g_0 (by decide +kernel : kd_ 1 12 = ((0, 1, 0, []), 13))).trans ?_
  refine (g_30 (by decide +kernel : kd_ 1 13 = ((30, 17, 0, []), 16))).trans ?_
  rfl
theorem b_C_isEntry_16 {L : Nat} {f : cg_G} {e : Nat × Nat} {x1 : Int32} {a0 : Nat} : cj_res 1 16 [.ref a0, .int x1] [] (cg_M L f e) = cj_res 1 17 [.ref a0, .int x1] [.int (nI 0)] (cg_M L f e) := by
  refine (g_0 (by decide +kernel : kd_ 1 16 = ((0, 0, 0, []), 17))).trans ?_
  rfl
theorem b_C_isEntry_17 {L : Nat} {f : cg_G} {e : Nat × Nat} {x1 y0 : Int32} {a0 : Nat} (h1 : y0 = 0 ∨ y0 = 1): cj_res 1 17 [.ref a0, .int x1] [.int y0] (cg_M L f e) = some (.inl (some (.int y0)), cg_M L f e) := by
  exact g_93 (by decide +kernel : kd_ 1 17 = ((93, 0, 0, []), 18)) h1
theorem b_C_isField_0 {L : Nat} {f : cg_G} {e : Nat × Nat} {x0 : Int32} : cj_res 2 0 [.int x0] [] (cg_M L f e) = if x0 < 0 then cj_res 2 13 [.int x0] [] (cg_M L f e) else cj_res 2 4 [.int x0] [] (cg_M L f e) := by
  refine (g_2 (by decide +kernel : kd_ 2 0 = ((2, 0, 0, []), 1)) rfl).trans ?_
  exact g_33 (by decide +kernel : kd_ 2 1 = ((33, 13, 0, []), 4))
theorem b_C_isField_4 {L : Nat} {f : cg_G} {e : Nat × Nat} {x0 : Int32} : cj_res 2 4 [.int x0] [] (cg_M L f e) = if (nI 4) ≤ x0 then cj_res 2 13 [.int x0] [] (cg_M L f e) else cj_res 2 9 [.int x0] [] (cg_M L f e) := by
  refine (g_2 (by decide +kernel : kd_ 2 4 = ((2, 0, 0, []), 5)) rfl).trans ?_
  refine (g_0 (by decide +kernel : kd_ 2 5 = ((0, 4, 0, []), 6))).trans ?_
  exact g_40 (by decide +kernel : kd_ 2 6 = ((40, 13, 0, []), 9))
theorem b_C_isField_9 {L : Nat} {f : cg_G} {e : Nat × Nat} {x0 : Int32} : cj_res 2 9 [.int x0] [] (cg_M L f e) = cj_res 2 14 [.int x0] [.int (nI 1)] (cg_M L f e) := by
  refine (g_0 (by decide +kernel : kd_ 2 9 = ((0, 1, 0, []), 10))).trans ?_
  refine (g_30 (by decide +kernel : kd_ 2 10 = ((30, 14, 0, []), 13))).trans ?_
  rfl
theorem b_C_isField_13 {L : Nat} {f : cg_G} {e : Nat × Nat} {x0 : Int32} : cj_res 2 13 [.int x0] [] (cg_M L f e) = cj_res 2 14 [.int x0] [.int (nI 0)] (cg_M L f e) := by
  refine (g_0 (by decide +kernel : kd_ 2 13 = ((0, 0, 0, []), 14))).trans ?_
  rfl
theorem b_C_isField_14 {L : Nat} {f : cg_G} {e : Nat × Nat} {x0 y0 : Int32} (h1 : y0 = 0 ∨ y0 = 1): cj_res 2 14 [.int x0] [.int y0] (cg_M L f e) = some (.inl (some (.int y0)), cg_M L f e) := by
  exact g_93 (by decide +kernel : kd_ 2 14 = ((93, 0, 0, []), 15)) h1
theorem b_C_isLetter_0 {L : Nat} {f : cg_G} {e : Nat × Nat} {x0 : Int32} : cj_res 3 0 [.int x0] [] (cg_M L f e) = if x0 < (nI 97) then cj_res 3 16 [.int x0] [] (cg_M L f e) else cj_res 3 6 [.int x0] [] (cg_M L f e) := by
  refine (g_2 (by decide +kernel : kd_ 3 0 = ((2, 0, 0, []), 1)) rfl).trans ?_
  refine (g_0 (by decide +kernel : kd_ 3 1 = ((0, 97, 0, []), 3))).trans ?_
  exact g_39 (by decide +kernel : kd_ 3 3 = ((39, 16, 0, []), 6))
theorem b_C_isLetter_6 {L : Nat} {f : cg_G} {e : Nat × Nat} {x0 : Int32} : cj_res 3 6 [.int x0] [] (cg_M L f e) = if (nI 122) < x0 then cj_res 3 16 [.int x0] [] (cg_M L f e) else cj_res 3 12 [.int x0] [] (cg_M L f e) := by
  refine (g_2 (by decide +kernel : kd_ 3 6 = ((2, 0, 0, []), 7)) rfl).trans ?_
  refine (g_0 (by decide +kernel : kd_ 3 7 = ((0, 122, 0, []), 9))).trans ?_
  exact g_41 (by decide +kernel : kd_ 3 9 = ((41, 16, 0, []), 12))
theorem b_C_isLetter_12 {L : Nat} {f : cg_G} {e : Nat × Nat} {x0 : Int32} : cj_res 3 12 [.int x0] [] (cg_M L f e) = cj_res 3 17 [.int x0] [.int (nI 1)] (cg_M L f e) := by
  refine (g_0 (by decide +kernel : kd_ 3 12 = ((0, 1, 0, []), 13))).trans ?_
  refine (g_30 (by decide +kernel : kd_ 3 13 = ((30, 17, 0, []), 16))).trans ?_
  rfl
theorem b_C_isLetter_16 {L : Nat} {f : cg_G} {e : Nat × Nat} {x0 : Int32} : cj_res 3 16 [.int x0] [] (cg_M L f e) = cj_res 3 17 [.int x0] [.int (nI 0)] (cg_M L f e) := by
  refine (g_0 (by decide +kernel : kd_ 3 16 = ((0, 0, 0, []), 17))).trans ?_
  rfl
theorem b_C_isLetter_17 {L : Nat} {f : cg_G} {e : Nat × Nat} {x0 y0 : Int32} (h1 : y0 = 0 ∨ y0 = 1): cj_res 3 17 [.int x0] [.int y0] (cg_M L f e) = some (.inl (some (.int y0)), cg_M L f e) := by
  exact g_93 (by decide +kernel : kd_ 3 17 = ((93, 0, 0, []), 18)) h1
theorem b_Block_heightOfUnit_0 {L : Nat} {f : cg_G} {e : Nat × Nat} {x1 : Int32} {a0 : Nat} : cj_res 4 0 [.ref a0, .int x1] [] (cg_M L f e) = if x1 = 0 then cj_res 4 4 [.ref a0, .int x1] [] (cg_M L f e) else cj_res 4 20 [.ref a0, .int x1] [] (cg_M L f e) := by
  refine (g_2 (by decide +kernel : kd_ 4 0 = ((2, 1, 0, []), 1)) rfl).trans ?_
  exact g_32 (by decide +kernel : kd_ 4 1 = ((32, 20, 0, []), 4))
theorem b_Block_heightOfUnit_4 {L : Nat} {f : cg_G} {e : Nat × Nat} {x1 : Int32} {a0 : Nat} (h1 : sh_ a0 = 1): cj_res 4 4 [.ref a0, .int x1] [] (cg_M L f e) = cj_res 4 21 [.ref a0, .int x1] [.int ((f a0 3) + (if (f a0 2) < (nI 2) then (f a0 2) else (nI 2)))] (cg_M L f e) := by
  refine (g_3 (by decide +kernel : kd_ 4 4 = ((3, 0, 0, []), 5)) rfl).trans ?_
  refine (g_50 (v := .int (f a0 3)) (by decide +kernel : kd_ 4 5 = ((50, 1, 3, []), 8)) h1 rfl).trans ?_
  refine (g_0 (by decide +kernel : kd_ 4 8 = ((0, 2, 0, []), 9))).trans ?_
  refine (g_3 (by decide +kernel : kd_ 4 9 = ((3, 0, 0, []), 10)) rfl).trans ?_
  refine (g_50 (v := .int (f a0 2)) (by decide +kernel : kd_ 4 10 = ((50, 1, 2, []), 13)) h1 rfl).trans ?_
  refine (g_85 (by decide +kernel : kd_ 4 13 = ((85, 0, 0, []), 16)) rfl).trans ?_
  refine (g_10 (by decide +kernel : kd_ 4 16 = ((10, 0, 0, []), 17))).trans ?_
  refine (g_30 (by decide +kernel : kd_ 4 17 = ((30, 21, 0, []), 20))).trans ?_
  rfl
theorem b_Block_heightOfUnit_20 {L : Nat} {f : cg_G} {e : Nat × Nat} {x1 : Int32} {a0 : Nat} : cj_res 4 20 [.ref a0, .int x1] [] (cg_M L f e) = cj_res 4 21 [.ref a0, .int x1] [.int (nI 1)] (cg_M L f e) := by
  refine (g_0 (by decide +kernel : kd_ 4 20 = ((0, 1, 0, []), 21))).trans ?_
  rfl
theorem b_Block_heightOfUnit_21 {L : Nat} {f : cg_G} {e : Nat × Nat} {x1 y0 : Int32} {a0 : Nat} : cj_res 4 21 [.ref a0, .int x1] [.int y0] (cg_M L f e) = some (.inl (some (.int y0)), cg_M L f e) := by
  exact g_90 (by decide +kernel : kd_ 4 21 = ((90, 0, 0, []), 22))
theorem b_Block_lengthOf_0 {L : Nat} {f : cg_G} {e : Nat × Nat} {x1 : Int32} {a0 : Nat} : cj_res 5 0 [.ref a0, .int x1] [] (cg_M L f e) = if x1 < 0 then cj_res 5 32 [.ref a0, .int x1] [] (cg_M L f e) else cj_res 5 4 [.ref a0, .int x1] [] (cg_M L f e) := by
  refine (g_2 (by decide +kernel : kd_ 5 0 = ((2, 1, 0, []), 1)) rfl).trans ?_
  exact g_33 (by decide +kernel : kd_ 5 1 = ((33, 32, 0, []), 4))
theorem b_Block_lengthOf_4 {L : Nat} {f : cg_G} {e : Nat × Nat} {x1 : Int32} {a0 : Nat} (h1 : sh_ a0 = 1): cj_res 5 4 [.ref a0, .int x1] [] (cg_M L f e) = if (f a0 2) ≤ x1 then cj_res 5 32 [.ref a0, .int x1] [] (cg_M L f e) else cj_res 5 12 [.ref a0, .int x1] [] (cg_M L f e) := by
  refine (g_2 (by decide +kernel : kd_ 5 4 = ((2, 1, 0, []), 5)) rfl).trans ?_
  refine (g_3 (by decide +kernel : kd_ 5 5 = ((3, 0, 0, []), 6)) rfl).trans ?_
  refine (g_50 (v := .int (f a0 2)) (by decide +kernel : kd_ 5 6 = ((50, 1, 2, []), 9)) h1 rfl).trans ?_
  exact g_40 (by decide +kernel : kd_ 5 9 = ((40, 32, 0, []), 12))
theorem b_Block_lengthOf_12 {L : Nat} {f : cg_G} {e : Nat × Nat} {x1 : Int32} {a0 : Nat} (h1 : sh_ a0 = 1) (h2 : cg_in (x1 + (nI 1)) 107) (h3 : cg_in x1 107): cj_res 5 12 [.ref a0, .int x1] [] (cg_M L f e) = cj_res 5 33 [.ref a0, .int x1] [.int (((f (a0 + 3) (x1 + (nI 1)).toNatClampNeg) - (nI 1)) - (f (a0 + 3) x1.toNatClampNeg))] (cg_M L f e) := by
  refine (g_3 (by decide +kernel : kd_ 5 12 = ((3, 0, 0, []), 13)) rfl).trans ?_
  refine (g_50 (v := .ref (a0 + 3)) (by decide +kernel : kd_ 5 13 = ((50, 1, 1, []), 16)) h1 rfl).trans ?_
  refine (g_2 (by decide +kernel : kd_ 5 16 = ((2, 1, 0, []), 17)) rfl).trans ?_
  refine (g_0 (by decide +kernel : kd_ 5 17 = ((0, 1, 0, []), 18))).trans ?_
  refine (g_10 (by decide +kernel : kd_ 5 18 = ((10, 0, 0, []), 19))).trans ?_
  refine (g_54 (v := .int (f (a0 + 3) (x1 + (nI 1)).toNatClampNeg)) (by decide +kernel : kd_ 5 19 = ((54, 0, 0, []), 20)) (sc_1_1 h1) rfl (by rw [sl_1_1 h1]; exact h2) rfl).trans ?_
  refine (g_0 (by decide +kernel : kd_ 5 20 = ((0, 1, 0, []), 21))).trans ?_
  refine (g_11 (by decide +kernel : kd_ 5 21 = ((11, 0, 0, []), 22))).trans ?_
  refine (g_3 (by decide +kernel : kd_ 5 22 = ((3, 0, 0, []), 23)) rfl).trans ?_
  refine (g_50 (v := .ref (a0 + 3)) (by decide +kernel : kd_ 5 23 = ((50, 1, 1, []), 26)) h1 rfl).trans ?_
  refine (g_2 (by decide +kernel : kd_ 5 26 = ((2, 1, 0, []), 27)) rfl).trans ?_
  refine (g_54 (v := .int (f (a0 + 3) x1.toNatClampNeg)) (by decide +kernel : kd_ 5 27 = ((54, 0, 0, []), 28)) (sc_1_1 h1) rfl (by rw [sl_1_1 h1]; exact h3) rfl).trans ?_
  refine (g_11 (by decide +kernel : kd_ 5 28 = ((11, 0, 0, []), 29))).trans ?_
  refine (g_30 (by decide +kernel : kd_ 5 29 = ((30, 33, 0, []), 32))).trans ?_
  rfl
theorem b_Block_lengthOf_32 {L : Nat} {f : cg_G} {e : Nat × Nat} {x1 : Int32} {a0 : Nat} : cj_res 5 32 [.ref a0, .int x1] [] (cg_M L f e) = cj_res 5 33 [.ref a0, .int x1] [.int (nI 0)] (cg_M L f e) := by
  refine (g_0 (by decide +kernel : kd_ 5 32 = ((0, 0, 0, []), 33))).trans ?_
  rfl
theorem b_Block_lengthOf_33 {L : Nat} {f : cg_G} {e : Nat × Nat} {x1 y0 : Int32} {a0 : Nat} : cj_res 5 33 [.ref a0, .int x1] [.int y0] (cg_M L f e) = some (.inl (some (.int y0)), cg_M L f e) := by
  exact g_90 (by decide +kernel : kd_ 5 33 = ((90, 0, 0, []), 34))
theorem b_Block_lineOfRow_0 {L : Nat} {f : cg_G} {e : Nat × Nat} {x1 x2 : Int32} {a0 : Nat} : cj_res 6 0 [.ref a0, .int x1, .int x2] [] (cg_M L f e) = if x1 ≤ 0 then cj_res 6 8 [.ref a0, .int x1, .int x2] [] (cg_M L f e) else cj_res 6 4 [.ref a0, .int x1, .int x2] [] (cg_M L f e) := by
  refine (g_2 (by decide +kernel : kd_ 6 0 = ((2, 1, 0, []), 1)) rfl).trans ?_
  exact g_36 (by decide +kernel : kd_ 6 1 = ((36, 8, 0, []), 4))
theorem b_Block_lineOfRow_4 {L : Nat} {f : cg_G} {e : Nat × Nat} {x1 x2 : Int32} {a0 : Nat} : cj_res 6 4 [.ref a0, .int x1, .int x2] [] (cg_M L f e) = some (.inl (some (.int (x1 + (nI 1)))), cg_M L f e) := by
  refine (g_2 (by decide +kernel : kd_ 6 4 = ((2, 1, 0, []), 5)) rfl).trans ?_
  refine (g_0 (by decide +kernel : kd_ 6 5 = ((0, 1, 0, []), 6))).trans ?_
  refine (g_10 (by decide +kernel : kd_ 6 6 = ((10, 0, 0, []), 7))).trans ?_
  exact g_90 (by decide +kernel : kd_ 6 7 = ((90, 0, 0, []), 8))
theorem b_Block_lineOfRow_8 {L : Nat} {f : cg_G} {e : Nat × Nat} {x1 x2 : Int32} {a0 : Nat} (h1 : sh_ a0 = 1): cj_res 6 8 [.ref a0, .int x1, .int x2] [] (cg_M L f e) = if (f a0 3) ≤ x2 then cj_res 6 20 [.ref a0, .int x1, .int x2] [] (cg_M L f e) else cj_res 6 16 [.ref a0, .int x1, .int x2] [] (cg_M L f e) := by
  refine (g_2 (by decide +kernel : kd_ 6 8 = ((2, 2, 0, []), 9)) rfl).trans ?_
  refine (g_3 (by decide +kernel : kd_ 6 9 = ((3, 0, 0, []), 10)) rfl).trans ?_
  refine (g_50 (v := .int (f a0 3)) (by decide +kernel : kd_ 6 10 = ((50, 1, 3, []), 13)) h1 rfl).trans ?_
  exact g_40 (by decide +kernel : kd_ 6 13 = ((40, 20, 0, []), 16))
theorem b_Block_lineOfRow_16 {L : Nat} {f : cg_G} {e : Nat × Nat} {x1 x2 : Int32} {a0 : Nat} : cj_res 6 16 [.ref a0, .int x1, .int x2] [] (cg_M L f e) = cj_res 6 26 [.ref a0, .int x1, .int x2] [.int (- nI 1)] (cg_M L f e) := by
  refine (g_1 (by decide +kernel : kd_ 6 16 = ((1, 1, 0, []), 17))).trans ?_
  refine (g_30 (by decide +kernel : kd_ 6 17 = ((30, 26, 0, []), 20))).trans ?_
  rfl
theorem b_Block_lineOfRow_20 {L : Nat} {f : cg_G} {e : Nat × Nat} {x1 x2 : Int32} {a0 : Nat} (h1 : sh_ a0 = 1): cj_res 6 20 [.ref a0, .int x1, .int x2] [] (cg_M L f e) = cj_res 6 26 [.ref a0, .int x1, .int x2] [.int (x2 - (f a0 3))] (cg_M L f e) := by
  refine (g_2 (by decide +kernel : kd_ 6 20 = ((2, 2, 0, []), 21)) rfl).trans ?_
  refine (g_3 (by decide +kernel : kd_ 6 21 = ((3, 0, 0, []), 22)) rfl).trans ?_
  refine (g_50 (v := .int (f a0 3)) (by decide +kernel : kd_ 6 22 = ((50, 1, 3, []), 25)) h1 rfl).trans ?_
  refine (g_11 (by decide +kernel : kd_ 6 25 = ((11, 0, 0, []), 26))).trans ?_
  rfl
theorem b_Block_lineOfRow_26 {L : Nat} {f : cg_G} {e : Nat × Nat} {x1 x2 y0 : Int32} {a0 : Nat} : cj_res 6 26 [.ref a0, .int x1, .int x2] [.int y0] (cg_M L f e) = some (.inl (some (.int y0)), cg_M L f e) := by
  exact g_90 (by decide +kernel : kd_ 6 26 = ((90, 0, 0, []), 27))
theorem b_Block_lines_0 {L : Nat} {f : cg_G} {e : Nat × Nat} {a0 : Nat} (h1 : sh_ a0 = 1): cj_res 7 0 [.ref a0] [] (cg_M L f e) = some (.inl (some (.int (f a0 2))), cg_M L f e) := by
  refine (g_3 (by decide +kernel : kd_ 7 0 = ((3, 0, 0, []), 1)) rfl).trans ?_
  refine (g_50 (v := .int (f a0 2)) (by decide +kernel : kd_ 7 1 = ((50, 1, 2, []), 4)) h1 rfl).trans ?_
  exact g_90 (by decide +kernel : kd_ 7 4 = ((90, 0, 0, []), 5))
theorem b_Block_takePicture_0 {L : Nat} {f : cg_G} {e : Nat × Nat} {x1 : Int32} {a0 : Nat} (h1 : sh_ a0 = 1): cj_res 8 0 [.ref a0, .int x1] [] (cg_M L f e) = some (.inl none, cg_M L (cg_up f a0 3 x1) e) := by
  refine (g_3 (by decide +kernel : kd_ 8 0 = ((3, 0, 0, []), 1)) rfl).trans ?_
  refine (g_2 (by decide +kernel : kd_ 8 1 = ((2, 1, 0, []), 2)) rfl).trans ?_
  refine (g_51 (x := x1) (v := .int x1) (by decide +kernel : kd_ 8 2 = ((51, 1, 3, [0]), 5)) h1 rfl rfl rfl (sz_1 h1) rfl).trans ?_
  exact g_91 (by decide +kernel : kd_ 8 5 = ((91, 0, 0, []), 6))
theorem b_Block_units_0 {L : Nat} {f : cg_G} {e : Nat × Nat} {a0 : Nat} (h1 : sh_ a0 = 1): cj_res 9 0 [.ref a0] [] (cg_M L f e) = if (f a0 2) = 0 then cj_res 9 7 [.ref a0] [] (cg_M L f e) else cj_res 9 20 [.ref a0] [] (cg_M L f e) := by
  refine (g_3 (by decide +kernel : kd_ 9 0 = ((3, 0, 0, []), 1)) rfl).trans ?_
  refine (g_50 (v := .int (f a0 2)) (by decide +kernel : kd_ 9 1 = ((50, 1, 2, []), 4)) h1 rfl).trans ?_
  exact g_32 (by decide +kernel : kd_ 9 4 = ((32, 20, 0, []), 7))
theorem b_Block_units_7 {L : Nat} {f : cg_G} {e : Nat × Nat} {a0 : Nat} (h1 : sh_ a0 = 1): cj_res 9 7 [.ref a0] [] (cg_M L f e) = if (f a0 3) ≤ 0 then cj_res 9 18 [.ref a0] [] (cg_M L f e) else cj_res 9 14 [.ref a0] [] (cg_M L f e) := by
  refine (g_3 (by decide +kernel : kd_ 9 7 = ((3, 0, 0, []), 8)) rfl).trans ?_
  refine (g_50 (v := .int (f a0 3)) (by decide +kernel : kd_ 9 8 = ((50, 1, 3, []), 11)) h1 rfl).trans ?_
  exact g_36 (by decide +kernel : kd_ 9 11 = ((36, 18, 0, []), 14))
theorem b_Block_units_14 {L : Nat} {f : cg_G} {e : Nat × Nat} {a0 : Nat} : cj_res 9 14 [.ref a0] [] (cg_M L f e) = cj_res 9 19 [.ref a0] [.int (nI 1)] (cg_M L f e) := by
  refine (g_0 (by decide +kernel : kd_ 9 14 = ((0, 1, 0, []), 15))).trans ?_
  refine (g_30 (by decide +kernel : kd_ 9 15 = ((30, 19, 0, []), 18))).trans ?_
  rfl
theorem b_Block_units_18 {L : Nat} {f : cg_G} {e : Nat × Nat} {a0 : Nat} : cj_res 9 18 [.ref a0] [] (cg_M L f e) = cj_res 9 19 [.ref a0] [.int (nI 0)] (cg_M L f e) := by
  refine (g_0 (by decide +kernel : kd_ 9 18 = ((0, 0, 0, []), 19))).trans ?_
  rfl
theorem b_Block_units_19 {L : Nat} {f : cg_G} {e : Nat × Nat} {y0 : Int32} {a0 : Nat} : cj_res 9 19 [.ref a0] [.int y0] (cg_M L f e) = some (.inl (some (.int y0)), cg_M L f e) := by
  exact g_90 (by decide +kernel : kd_ 9 19 = ((90, 0, 0, []), 20))
theorem b_Block_units_20 {L : Nat} {f : cg_G} {e : Nat × Nat} {a0 : Nat} (h1 : sh_ a0 = 1): cj_res 9 20 [.ref a0] [] (cg_M L f e) = some (.inl (some (.int (if (nI 1) < ((f a0 2) - (nI 1)) then ((f a0 2) - (nI 1)) else (nI 1)))), cg_M L f e) := by
  refine (g_0 (by decide +kernel : kd_ 9 20 = ((0, 1, 0, []), 21))).trans ?_
  refine (g_3 (by decide +kernel : kd_ 9 21 = ((3, 0, 0, []), 22)) rfl).trans ?_
  refine (g_50 (v := .int (f a0 2)) (by decide +kernel : kd_ 9 22 = ((50, 1, 2, []), 25)) h1 rfl).trans ?_
  refine (g_0 (by decide +kernel : kd_ 9 25 = ((0, 1, 0, []), 26))).trans ?_
  refine (g_11 (by decide +kernel : kd_ 9 26 = ((11, 0, 0, []), 27))).trans ?_
  refine (g_84 (by decide +kernel : kd_ 9 27 = ((84, 0, 0, []), 30)) rfl).trans ?_
  exact g_90 (by decide +kernel : kd_ 9 30 = ((90, 0, 0, []), 31))
theorem b_Entry_changePicture_0 {L : Nat} {f : cg_G} {e : Nat × Nat} {x1 : Int32} {a0 : Nat} {u2 : Value} (h1 : sh_ a0 = 2): cj_res 10 0 [.ref a0, .int x1, u2] [] (cg_M L f e) = some (.inl (some (.int (f a0 3))), cg_M L (cg_up f a0 3 x1) e) := by
  refine (g_3 (by decide +kernel : kd_ 10 0 = ((3, 0, 0, []), 1)) rfl).trans ?_
  refine (g_50 (v := .int (f a0 3)) (by decide +kernel : kd_ 10 1 = ((50, 2, 3, []), 4)) h1 rfl).trans ?_
  refine (g_4 (ls' := [.ref a0, .int x1, .int (f a0 3)]) (by decide +kernel : kd_ 10 4 = ((4, 2, 0, []), 5)) rfl rfl).trans ?_
  refine (g_3 (by decide +kernel : kd_ 10 5 = ((3, 0, 0, []), 6)) rfl).trans ?_
  refine (g_2 (by decide +kernel : kd_ 10 6 = ((2, 1, 0, []), 7)) rfl).trans ?_
  refine (g_51 (x := x1) (v := .int x1) (by decide +kernel : kd_ 10 7 = ((51, 2, 3, [0]), 10)) h1 rfl rfl rfl (sz_2 h1) rfl).trans ?_
  refine (g_2 (by decide +kernel : kd_ 10 10 = ((2, 2, 0, []), 11)) rfl).trans ?_
  exact g_90 (by decide +kernel : kd_ 10 11 = ((90, 0, 0, []), 12))
theorem b_Entry_hasUnsourcedClaim_0 {L : Nat} {f : cg_G} {e : Nat × Nat} {a0 : Nat} {u1 : Value} : cj_res 11 0 [.ref a0, u1] [] (cg_M L f e) = cj_res 11 2 [.ref a0, .int (nI 0)] [] (cg_M L f e) := by
  refine (g_0 (by decide +kernel : kd_ 11 0 = ((0, 0, 0, []), 1))).trans ?_
  refine (g_4 (ls' := [.ref a0, .int (nI 0)]) (by decide +kernel : kd_ 11 1 = ((4, 1, 0, []), 2)) rfl rfl).trans ?_
  rfl
theorem b_Entry_hasUnsourcedClaim_2 {L : Nat} {f : cg_G} {e : Nat × Nat} {x1 : Int32} {a0 : Nat} : cj_res 11 2 [.ref a0, .int x1] [] (cg_M L f e) = if (nI 4) ≤ x1 then cj_res 11 24 [.ref a0, .int x1] [] (cg_M L f e) else cj_res 11 7 [.ref a0, .int x1] [] (cg_M L f e) := by
  refine (g_2 (by decide +kernel : kd_ 11 2 = ((2, 1, 0, []), 3)) rfl).trans ?_
  refine (g_0 (by decide +kernel : kd_ 11 3 = ((0, 4, 0, []), 4))).trans ?_
  exact g_40 (by decide +kernel : kd_ 11 4 = ((40, 24, 0, []), 7))
theorem b_Entry_hasUnsourcedClaim_7 {L : Nat} {f : cg_G} {e : Nat × Nat} {x1 : Int32} {a0 : Nat} (h1 : sh_ a0 = 2) (h2 : cg_in x1 4): cj_res 11 7 [.ref a0, .int x1] [] (cg_M L f e) = if (f (a0 + 2) x1.toNatClampNeg) = 0 then cj_res 11 16 [.ref a0, .int x1] [] (cg_M L f e) else cj_res 11 18 [.ref a0, .int x1] [] (cg_M L f e) := by
  refine (g_3 (by decide +kernel : kd_ 11 7 = ((3, 0, 0, []), 8)) rfl).trans ?_
  refine (g_50 (v := .ref (a0 + 2)) (by decide +kernel : kd_ 11 8 = ((50, 2, 1, []), 11)) h1 rfl).trans ?_
  refine (g_2 (by decide +kernel : kd_ 11 11 = ((2, 1, 0, []), 12)) rfl).trans ?_
  refine (g_54 (v := .int (f (a0 + 2) x1.toNatClampNeg)) (by decide +kernel : kd_ 11 12 = ((54, 0, 0, []), 13)) (sc_2_1 h1) rfl (by rw [sl_2_1 h1]; exact h2) rfl).trans ?_
  exact g_32 (by decide +kernel : kd_ 11 13 = ((32, 18, 0, []), 16))
theorem b_Entry_hasUnsourcedClaim_16 {L : Nat} {f : cg_G} {e : Nat × Nat} {x1 : Int32} {a0 : Nat} : cj_res 11 16 [.ref a0, .int x1] [] (cg_M L f e) = some (.inl (some (.int (nI 1))), cg_M L f e) := by
  refine (g_0 (by decide +kernel : kd_ 11 16 = ((0, 1, 0, []), 17))).trans ?_
  exact g_93 (by decide +kernel : kd_ 11 17 = ((93, 0, 0, []), 18)) (by decide)
theorem b_Entry_hasUnsourcedClaim_18 {L : Nat} {f : cg_G} {e : Nat × Nat} {x1 : Int32} {a0 : Nat} : cj_res 11 18 [.ref a0, .int x1] [] (cg_M L f e) = cj_res 11 2 [.ref a0, .int (x1 + nI 1)] [] (cg_M L f e) := by
  refine (g_6 (ls' := [.ref a0, .int (x1 + nI 1)]) (by decide +kernel : kd_ 11 18 = ((6, 1, 1, []), 21)) rfl rfl).trans ?_
  refine (g_30 (by decide +kernel : kd_ 11 21 = ((30, 2, 0, []), 24))).trans ?_
  rfl
theorem b_Entry_hasUnsourcedClaim_24 {L : Nat} {f : cg_G} {e : Nat × Nat} {x1 : Int32} {a0 : Nat} : cj_res 11 24 [.ref a0, .int x1] [] (cg_M L f e) = some (.inl (some (.int (nI 0))), cg_M L f e) := by
  refine (g_0 (by decide +kernel : kd_ 11 24 = ((0, 0, 0, []), 25))).trans ?_
  exact g_93 (by decide +kernel : kd_ 11 25 = ((93, 0, 0, []), 26)) (by decide)
theorem b_Entry_pictureHeight_0 {L : Nat} {f : cg_G} {e : Nat × Nat} {a0 : Nat} (h1 : sh_ a0 = 2): cj_res 12 0 [.ref a0] [] (cg_M L f e) = some (.inl (some (.int (f a0 3))), cg_M L f e) := by
  refine (g_3 (by decide +kernel : kd_ 12 0 = ((3, 0, 0, []), 1)) rfl).trans ?_
  refine (g_50 (v := .int (f a0 3)) (by decide +kernel : kd_ 12 1 = ((50, 2, 3, []), 4)) h1 rfl).trans ?_
  exact g_90 (by decide +kernel : kd_ 12 4 = ((90, 0, 0, []), 5))
theorem b_Entry_tellClaim_0 {L : Nat} {f : cg_G} {e : Nat × Nat} {x1 x2 : Int32} {a0 : Nat} {u3 : Value} : cj_res 13 0 [.ref a0, .int x1, .int x2, u3] [] (cg_M L f e) = if x1 < 0 then cj_res 13 9 [.ref a0, .int x1, .int x2, u3] [] (cg_M L f e) else cj_res 13 4 [.ref a0, .int x1, .int x2, u3] [] (cg_M L f e) := by
  refine (g_2 (by decide +kernel : kd_ 13 0 = ((2, 1, 0, []), 1)) rfl).trans ?_
  exact g_33 (by decide +kernel : kd_ 13 1 = ((33, 9, 0, []), 4))
theorem b_Entry_tellClaim_4 {L : Nat} {f : cg_G} {e : Nat × Nat} {x1 x2 : Int32} {a0 : Nat} {u3 : Value} : cj_res 13 4 [.ref a0, .int x1, .int x2, u3] [] (cg_M L f e) = if x1 < (nI 4) then cj_res 13 11 [.ref a0, .int x1, .int x2, u3] [] (cg_M L f e) else cj_res 13 9 [.ref a0, .int x1, .int x2, u3] [] (cg_M L f e) := by
  refine (g_2 (by decide +kernel : kd_ 13 4 = ((2, 1, 0, []), 5)) rfl).trans ?_
  refine (g_0 (by decide +kernel : kd_ 13 5 = ((0, 4, 0, []), 6))).trans ?_
  exact g_39 (by decide +kernel : kd_ 13 6 = ((39, 11, 0, []), 9))
theorem b_Entry_tellClaim_9 {L : Nat} {f : cg_G} {e : Nat × Nat} {x1 x2 : Int32} {a0 : Nat} {u3 : Value} : cj_res 13 9 [.ref a0, .int x1, .int x2, u3] [] (cg_M L f e) = some (.inl (some (.int (- nI 1))), cg_M L f e) := by
  refine (g_1 (by decide +kernel : kd_ 13 9 = ((1, 1, 0, []), 10))).trans ?_
  exact g_90 (by decide +kernel : kd_ 13 10 = ((90, 0, 0, []), 11))
theorem b_Entry_tellClaim_11 {L : Nat} {f : cg_G} {e : Nat × Nat} {x1 x2 : Int32} {a0 : Nat} {u3 : Value} (h1 : sh_ a0 = 2) (h2 : cg_in x1 4): cj_res 13 11 [.ref a0, .int x1, .int x2, u3] [] (cg_M L f e) = some (.inl (some (.int (f (a0 + 2) x1.toNatClampNeg))), cg_M L (cg_up f (a0 + 2) x1.toNatClampNeg x2) e) := by
  refine (g_3 (by decide +kernel : kd_ 13 11 = ((3, 0, 0, []), 12)) rfl).trans ?_
  refine (g_50 (v := .ref (a0 + 2)) (by decide +kernel : kd_ 13 12 = ((50, 2, 1, []), 15)) h1 rfl).trans ?_
  refine (g_2 (by decide +kernel : kd_ 13 15 = ((2, 1, 0, []), 16)) rfl).trans ?_
  refine (g_54 (v := .int (f (a0 + 2) x1.toNatClampNeg)) (by decide +kernel : kd_ 13 16 = ((54, 0, 0, []), 17)) (sc_2_1 h1) rfl (by rw [sl_2_1 h1]; exact h2) rfl).trans ?_
  refine (g_4 (ls' := [.ref a0, .int x1, .int x2, .int (f (a0 + 2) x1.toNatClampNeg)]) (by decide +kernel : kd_ 13 17 = ((4, 3, 0, []), 18)) rfl rfl).trans ?_
  refine (g_3 (by decide +kernel : kd_ 13 18 = ((3, 0, 0, []), 19)) rfl).trans ?_
  refine (g_50 (v := .ref (a0 + 2)) (by decide +kernel : kd_ 13 19 = ((50, 2, 1, []), 22)) h1 rfl).trans ?_
  refine (g_2 (by decide +kernel : kd_ 13 22 = ((2, 1, 0, []), 23)) rfl).trans ?_
  refine (g_2 (by decide +kernel : kd_ 13 23 = ((2, 2, 0, []), 24)) rfl).trans ?_
  refine (g_56 (by decide +kernel : kd_ 13 24 = ((56, 0, 0, []), 25)) (sc_2_1 h1) (fun _ => rfl) (by rw [sl_2_1 h1]; exact h2) (by omega)).trans ?_
  refine (g_2 (by decide +kernel : kd_ 13 25 = ((2, 3, 0, []), 26)) rfl).trans ?_
  exact g_90 (by decide +kernel : kd_ 13 26 = ((90, 0, 0, []), 27))
theorem b_Entry_textOf_0 {L : Nat} {f : cg_G} {e : Nat × Nat} {x1 : Int32} {a0 : Nat} (h1 : sh_ a0 = 2): cj_res 14 0 [.ref a0, .int x1] [] (cg_M L f e) = if x1 < 0 then cj_res 14 13 [.ref a0, .int x1] [.ref (a0 + 1)] (cg_M L f e) else cj_res 14 8 [.ref a0, .int x1] [.ref (a0 + 1)] (cg_M L f e) := by
  refine (g_3 (by decide +kernel : kd_ 14 0 = ((3, 0, 0, []), 1)) rfl).trans ?_
  refine (g_50 (v := .ref (a0 + 1)) (by decide +kernel : kd_ 14 1 = ((50, 2, 0, []), 4)) h1 rfl).trans ?_
  refine (g_2 (by decide +kernel : kd_ 14 4 = ((2, 1, 0, []), 5)) rfl).trans ?_
  exact g_33 (by decide +kernel : kd_ 14 5 = ((33, 13, 0, []), 8))
theorem b_Entry_textOf_8 {L : Nat} {f : cg_G} {e : Nat × Nat} {x1 : Int32} {a0 c0 : Nat} : cj_res 14 8 [.ref a0, .int x1] [.ref c0] (cg_M L f e) = if x1 < (nI 4) then cj_res 14 17 [.ref a0, .int x1] [.ref c0] (cg_M L f e) else cj_res 14 13 [.ref a0, .int x1] [.ref c0] (cg_M L f e) := by
  refine (g_2 (by decide +kernel : kd_ 14 8 = ((2, 1, 0, []), 9)) rfl).trans ?_
  refine (g_0 (by decide +kernel : kd_ 14 9 = ((0, 4, 0, []), 10))).trans ?_
  exact g_39 (by decide +kernel : kd_ 14 10 = ((39, 17, 0, []), 13))
theorem b_Entry_textOf_13 {L : Nat} {f : cg_G} {e : Nat × Nat} {x1 : Int32} {a0 c0 : Nat} : cj_res 14 13 [.ref a0, .int x1] [.ref c0] (cg_M L f e) = cj_res 14 18 [.ref a0, .int x1] [.int (nI 0), .ref c0] (cg_M L f e) := by
  refine (g_0 (by decide +kernel : kd_ 14 13 = ((0, 0, 0, []), 14))).trans ?_
  refine (g_30 (by decide +kernel : kd_ 14 14 = ((30, 18, 0, []), 17))).trans ?_
  rfl
theorem b_Entry_textOf_17 {L : Nat} {f : cg_G} {e : Nat × Nat} {x1 : Int32} {a0 c0 : Nat} : cj_res 14 17 [.ref a0, .int x1] [.ref c0] (cg_M L f e) = cj_res 14 18 [.ref a0, .int x1] [.int x1, .ref c0] (cg_M L f e) := by
  refine (g_2 (by decide +kernel : kd_ 14 17 = ((2, 1, 0, []), 18)) rfl).trans ?_
  rfl
theorem b_Entry_textOf_18 {L : Nat} {f : cg_G} {e : Nat × Nat} {x1 y0 : Int32} {a0 c1 : Nat} (h1 : sh_ c1 = 106) (h2 : cg_in y0 4): cj_res 14 18 [.ref a0, .int x1] [.int y0, .ref c1] (cg_M L f e) = some (.inl (some (.ref (c1 + 4 + 2 * y0.toNatClampNeg))), cg_M L f e) := by
  refine (g_54 (v := .ref (c1 + 4 + 2 * y0.toNatClampNeg)) (by decide +kernel : kd_ 14 18 = ((54, 3, 0, []), 19)) h1 rfl (by rw [sla_106 h1]; exact h2) (el_if (cg_in_lt h2))).trans ?_
  exact g_92 (by decide +kernel : kd_ 14 19 = ((92, 0, 0, []), 20))
theorem b_Entry_useTemplate_0 {L : Nat} {f : cg_G} {e : Nat × Nat} {a0 a1 : Nat} (h1 : sh_ a0 = 2) (h2 : a1 < 2 ^ 31): cj_res 15 0 [.ref a0, .ref a1] [] (cg_M L f e) = some (.inl none, cg_M L (cg_up f a0 2 (nI a1)) e) := by
  refine (g_3 (by decide +kernel : kd_ 15 0 = ((3, 0, 0, []), 1)) rfl).trans ?_
  refine (g_3 (by decide +kernel : kd_ 15 1 = ((3, 1, 0, []), 2)) rfl).trans ?_
  refine (g_51 (x := nI a1) (by decide +kernel : kd_ 15 2 = ((51, 2, 2, [2]), 5)) h1 rfl rfl rfl (sz_2 h1) (cg_dyn_2_2 h2)).trans ?_
  exact g_91 (by decide +kernel : kd_ 15 5 = ((91, 0, 0, []), 6))
theorem b_Filling_add_0 {L : Nat} {f : cg_G} {e : Nat × Nat} {x1 : Int32} {a0 : Nat} (h1 : sh_ a0 = 3): cj_res 17 0 [.ref a0, .int x1] [] (cg_M L f e) = if (nI 848) ≤ (f a0 3) then cj_res 17 30 [.ref a0, .int x1] [] (cg_M L f e) else cj_res 17 10 [.ref a0, .int x1] [] (cg_M L f e) := by
  refine (g_3 (by decide +kernel : kd_ 17 0 = ((3, 0, 0, []), 1)) rfl).trans ?_
  refine (g_50 (v := .int (f a0 3)) (by decide +kernel : kd_ 17 1 = ((50, 3, 3, []), 4)) h1 rfl).trans ?_
  refine (g_0 (by decide +kernel : kd_ 17 4 = ((0, 848, 0, []), 7))).trans ?_
  exact g_40 (by decide +kernel : kd_ 17 7 = ((40, 30, 0, []), 10))
theorem b_Filling_add_10 {L : Nat} {f : cg_G} {e : Nat × Nat} {x1 : Int32} {a0 : Nat} (h1 : sh_ a0 = 3) (h2 : cg_in (f a0 3) 848): cj_res 17 10 [.ref a0, .int x1] [] (cg_M L f e) = cj_res 17 30 [.ref a0, .int x1] [] (cg_M L (cg_up (cg_up f (a0 + 1) (f a0 3).toNatClampNeg x1) a0 3 (((cg_up f (a0 + 1) (f a0 3).toNatClampNeg x1) a0 3) + (nI 1))) e) := by
  refine (g_3 (by decide +kernel : kd_ 17 10 = ((3, 0, 0, []), 11)) rfl).trans ?_
  refine (g_50 (v := .ref (a0 + 1)) (by decide +kernel : kd_ 17 11 = ((50, 3, 0, []), 14)) h1 rfl).trans ?_
  refine (g_3 (by decide +kernel : kd_ 17 14 = ((3, 0, 0, []), 15)) rfl).trans ?_
  refine (g_50 (v := .int (f a0 3)) (by decide +kernel : kd_ 17 15 = ((50, 3, 3, []), 18)) h1 rfl).trans ?_
  refine (g_2 (by decide +kernel : kd_ 17 18 = ((2, 1, 0, []), 19)) rfl).trans ?_
  refine (g_56 (by decide +kernel : kd_ 17 19 = ((56, 0, 0, []), 20)) (sc_3_0 h1) (fun _ => rfl) (by rw [sl_3_0 h1]; exact h2) (by omega)).trans ?_
  refine (g_3 (by decide +kernel : kd_ 17 20 = ((3, 0, 0, []), 21)) rfl).trans ?_
  refine (g_25 (by decide +kernel : kd_ 17 21 = ((25, 0, 0, []), 22)) rfl).trans ?_
  refine (g_50 (v := .int ((cg_up f (a0 + 1) (f a0 3).toNatClampNeg x1) a0 3)) (by decide +kernel : kd_ 17 22 = ((50, 3, 3, []), 25)) h1 rfl).trans ?_
  refine (g_0 (by decide +kernel : kd_ 17 25 = ((0, 1, 0, []), 26))).trans ?_
  refine (g_10 (by decide +kernel : kd_ 17 26 = ((10, 0, 0, []), 27))).trans ?_
  refine (g_51 (x := ((cg_up f (a0 + 1) (f a0 3).toNatClampNeg x1) a0 3) + (nI 1)) (v := .int (((cg_up f (a0 + 1) (f a0 3).toNatClampNeg x1) a0 3) + (nI 1))) (by decide +kernel : kd_ 17 27 = ((51, 3, 3, [0]), 30)) h1 rfl rfl rfl (sz_3 h1) rfl).trans ?_
  rfl
theorem b_Filling_add_30 {L : Nat} {f : cg_G} {e : Nat × Nat} {x1 : Int32} {a0 : Nat} : cj_res 17 30 [.ref a0, .int x1] [] (cg_M L f e) = some (.inl none, cg_M L f e) := by
  exact g_91 (by decide +kernel : kd_ 17 30 = ((91, 0, 0, []), 31))
theorem b_Filling_endOfRow_0 {L : Nat} {f : cg_G} {e : Nat × Nat} {x1 : Int32} {a0 : Nat} : cj_res 18 0 [.ref a0, .int x1] [] (cg_M L f e) = if x1 < 0 then cj_res 18 21 [.ref a0, .int x1] [] (cg_M L f e) else cj_res 18 4 [.ref a0, .int x1] [] (cg_M L f e) := by
  refine (g_2 (by decide +kernel : kd_ 18 0 = ((2, 1, 0, []), 1)) rfl).trans ?_
  exact g_33 (by decide +kernel : kd_ 18 1 = ((33, 21, 0, []), 4))
theorem b_Filling_endOfRow_4 {L : Nat} {f : cg_G} {e : Nat × Nat} {x1 : Int32} {a0 : Nat} (h1 : sh_ a0 = 3): cj_res 18 4 [.ref a0, .int x1] [] (cg_M L f e) = if (f a0 3) ≤ x1 then cj_res 18 21 [.ref a0, .int x1] [] (cg_M L f e) else cj_res 18 12 [.ref a0, .int x1] [] (cg_M L f e) := by
  refine (g_2 (by decide +kernel : kd_ 18 4 = ((2, 1, 0, []), 5)) rfl).trans ?_
  refine (g_3 (by decide +kernel : kd_ 18 5 = ((3, 0, 0, []), 6)) rfl).trans ?_
  refine (g_50 (v := .int (f a0 3)) (by decide +kernel : kd_ 18 6 = ((50, 3, 3, []), 9)) h1 rfl).trans ?_
  exact g_40 (by decide +kernel : kd_ 18 9 = ((40, 21, 0, []), 12))
theorem b_Filling_endOfRow_12 {L : Nat} {f : cg_G} {e : Nat × Nat} {x1 : Int32} {a0 : Nat} (h1 : sh_ a0 = 3) (h2 : cg_in x1 848): cj_res 18 12 [.ref a0, .int x1] [] (cg_M L f e) = cj_res 18 25 [.ref a0, .int x1] [.int (f (a0 + 3) x1.toNatClampNeg)] (cg_M L f e) := by
  refine (g_3 (by decide +kernel : kd_ 18 12 = ((3, 0, 0, []), 13)) rfl).trans ?_
  refine (g_50 (v := .ref (a0 + 3)) (by decide +kernel : kd_ 18 13 = ((50, 3, 2, []), 16)) h1 rfl).trans ?_
  refine (g_2 (by decide +kernel : kd_ 18 16 = ((2, 1, 0, []), 17)) rfl).trans ?_
  refine (g_54 (v := .int (f (a0 + 3) x1.toNatClampNeg)) (by decide +kernel : kd_ 18 17 = ((54, 0, 0, []), 18)) (sc_3_2 h1) rfl (by rw [sl_3_2 h1]; exact h2) rfl).trans ?_
  refine (g_30 (by decide +kernel : kd_ 18 18 = ((30, 25, 0, []), 21))).trans ?_
  rfl
theorem b_Filling_endOfRow_21 {L : Nat} {f : cg_G} {e : Nat × Nat} {x1 : Int32} {a0 : Nat} (h1 : sh_ a0 = 3): cj_res 18 21 [.ref a0, .int x1] [] (cg_M L f e) = cj_res 18 25 [.ref a0, .int x1] [.int (f a0 3)] (cg_M L f e) := by
  refine (g_3 (by decide +kernel : kd_ 18 21 = ((3, 0, 0, []), 22)) rfl).trans ?_
  refine (g_50 (v := .int (f a0 3)) (by decide +kernel : kd_ 18 22 = ((50, 3, 3, []), 25)) h1 rfl).trans ?_
  rfl
theorem b_Filling_endOfRow_25 {L : Nat} {f : cg_G} {e : Nat × Nat} {x1 y0 : Int32} {a0 : Nat} : cj_res 18 25 [.ref a0, .int x1] [.int y0] (cg_M L f e) = some (.inl (some (.int y0)), cg_M L f e) := by
  exact g_90 (by decide +kernel : kd_ 18 25 = ((90, 0, 0, []), 26))
theorem b_Filling_hasRoomForEach_0 {L : Nat} {f : cg_G} {e : Nat × Nat} {a0 : Nat} {u1 : Value} : cj_res 19 0 [.ref a0, u1] [] (cg_M L f e) = cj_res 19 2 [.ref a0, .int (nI 0)] [] (cg_M L f e) := by
  refine (g_0 (by decide +kernel : kd_ 19 0 = ((0, 0, 0, []), 1))).trans ?_
  refine (g_4 (ls' := [.ref a0, .int (nI 0)]) (by decide +kernel : kd_ 19 1 = ((4, 1, 0, []), 2)) rfl rfl).trans ?_
  rfl
theorem b_Filling_hasRoomForEach_2 {L : Nat} {f : cg_G} {e : Nat × Nat} {x1 : Int32} {a0 : Nat} (h1 : sh_ a0 = 3): cj_res 19 2 [.ref a0, .int x1] [] (cg_M L f e) = if (f a0 3) ≤ x1 then cj_res 19 31 [.ref a0, .int x1] [] (cg_M L f e) else cj_res 19 10 [.ref a0, .int x1] [] (cg_M L f e) := by
  refine (g_2 (by decide +kernel : kd_ 19 2 = ((2, 1, 0, []), 3)) rfl).trans ?_
  refine (g_3 (by decide +kernel : kd_ 19 3 = ((3, 0, 0, []), 4)) rfl).trans ?_
  refine (g_50 (v := .int (f a0 3)) (by decide +kernel : kd_ 19 4 = ((50, 3, 3, []), 7)) h1 rfl).trans ?_
  exact g_40 (by decide +kernel : kd_ 19 7 = ((40, 31, 0, []), 10))
theorem b_Filling_hasRoomForEach_10 {L : Nat} {f : cg_G} {e : Nat × Nat} {x1 : Int32} {a0 : Nat} (h1 : sh_ a0 = 3) (h2 : cg_in x1 848): cj_res 19 10 [.ref a0, .int x1] [] (cg_M L f e) = if (f (a0 + 1) x1.toNatClampNeg) ≤ (f a0 4) then cj_res 19 25 [.ref a0, .int x1] [] (cg_M L f e) else cj_res 19 23 [.ref a0, .int x1] [] (cg_M L f e) := by
  refine (g_3 (by decide +kernel : kd_ 19 10 = ((3, 0, 0, []), 11)) rfl).trans ?_
  refine (g_50 (v := .ref (a0 + 1)) (by decide +kernel : kd_ 19 11 = ((50, 3, 0, []), 14)) h1 rfl).trans ?_
  refine (g_2 (by decide +kernel : kd_ 19 14 = ((2, 1, 0, []), 15)) rfl).trans ?_
  refine (g_54 (v := .int (f (a0 + 1) x1.toNatClampNeg)) (by decide +kernel : kd_ 19 15 = ((54, 0, 0, []), 16)) (sc_3_0 h1) rfl (by rw [sl_3_0 h1]; exact h2) rfl).trans ?_
  refine (g_3 (by decide +kernel : kd_ 19 16 = ((3, 0, 0, []), 17)) rfl).trans ?_
  refine (g_50 (v := .int (f a0 4)) (by decide +kernel : kd_ 19 17 = ((50, 3, 4, []), 20)) h1 rfl).trans ?_
  exact g_42 (by decide +kernel : kd_ 19 20 = ((42, 25, 0, []), 23))
theorem b_Filling_hasRoomForEach_23 {L : Nat} {f : cg_G} {e : Nat × Nat} {x1 : Int32} {a0 : Nat} : cj_res 19 23 [.ref a0, .int x1] [] (cg_M L f e) = some (.inl (some (.int (nI 0))), cg_M L f e) := by
  refine (g_0 (by decide +kernel : kd_ 19 23 = ((0, 0, 0, []), 24))).trans ?_
  exact g_93 (by decide +kernel : kd_ 19 24 = ((93, 0, 0, []), 25)) (by decide)
theorem b_Filling_hasRoomForEach_25 {L : Nat} {f : cg_G} {e : Nat × Nat} {x1 : Int32} {a0 : Nat} : cj_res 19 25 [.ref a0, .int x1] [] (cg_M L f e) = cj_res 19 2 [.ref a0, .int (x1 + nI 1)] [] (cg_M L f e) := by
  refine (g_6 (ls' := [.ref a0, .int (x1 + nI 1)]) (by decide +kernel : kd_ 19 25 = ((6, 1, 1, []), 28)) rfl rfl).trans ?_
  refine (g_30 (by decide +kernel : kd_ 19 28 = ((30, 2, 0, []), 31))).trans ?_
  rfl
theorem b_Filling_hasRoomForEach_31 {L : Nat} {f : cg_G} {e : Nat × Nat} {x1 : Int32} {a0 : Nat} : cj_res 19 31 [.ref a0, .int x1] [] (cg_M L f e) = some (.inl (some (.int (nI 1))), cg_M L f e) := by
  refine (g_0 (by decide +kernel : kd_ 19 31 = ((0, 1, 0, []), 32))).trans ?_
  exact g_93 (by decide +kernel : kd_ 19 32 = ((93, 0, 0, []), 33)) (by decide)
theorem b_Filling_items_0 {L : Nat} {f : cg_G} {e : Nat × Nat} {a0 : Nat} (h1 : sh_ a0 = 3): cj_res 20 0 [.ref a0] [] (cg_M L f e) = some (.inl (some (.int (f a0 3))), cg_M L f e) := by
  refine (g_3 (by decide +kernel : kd_ 20 0 = ((3, 0, 0, []), 1)) rfl).trans ?_
  refine (g_50 (v := .int (f a0 3)) (by decide +kernel : kd_ 20 1 = ((50, 3, 3, []), 4)) h1 rfl).trans ?_
  exact g_90 (by decide +kernel : kd_ 20 4 = ((90, 0, 0, []), 5))
theorem b_Filling_leastSquares_0 {L : Nat} {f : cg_G} {e : Nat × Nat} {a0 : Nat} (h1 : sh_ a0 = 3) (h2 : cg_in (nI 0) 849): cj_res 21 0 [.ref a0] [] (cg_M L f e) = some (.inl (some (.int (f (a0 + 2) (nI 0).toNatClampNeg))), cg_M L f e) := by
  refine (g_3 (by decide +kernel : kd_ 21 0 = ((3, 0, 0, []), 1)) rfl).trans ?_
  refine (g_50 (v := .ref (a0 + 2)) (by decide +kernel : kd_ 21 1 = ((50, 3, 1, []), 4)) h1 rfl).trans ?_
  refine (g_0 (by decide +kernel : kd_ 21 4 = ((0, 0, 0, []), 5))).trans ?_
  refine (g_54 (v := .int (f (a0 + 2) (nI 0).toNatClampNeg)) (by decide +kernel : kd_ 21 5 = ((54, 0, 0, []), 6)) (sc_3_1 h1) rfl (by rw [sl_3_1 h1]; exact h2) rfl).trans ?_
  exact g_90 (by decide +kernel : kd_ 21 6 = ((90, 0, 0, []), 7))
theorem b_Filling_sizeOf_0 {L : Nat} {f : cg_G} {e : Nat × Nat} {x1 : Int32} {a0 : Nat} : cj_res 22 0 [.ref a0, .int x1] [] (cg_M L f e) = if x1 < 0 then cj_res 22 21 [.ref a0, .int x1] [] (cg_M L f e) else cj_res 22 4 [.ref a0, .int x1] [] (cg_M L f e) := by
  refine (g_2 (by decide +kernel : kd_ 22 0 = ((2, 1, 0, []), 1)) rfl).trans ?_
  exact g_33 (by decide +kernel : kd_ 22 1 = ((33, 21, 0, []), 4))
theorem b_Filling_sizeOf_4 {L : Nat} {f : cg_G} {e : Nat × Nat} {x1 : Int32} {a0 : Nat} (h1 : sh_ a0 = 3): cj_res 22 4 [.ref a0, .int x1] [] (cg_M L f e) = if (f a0 3) ≤ x1 then cj_res 22 21 [.ref a0, .int x1] [] (cg_M L f e) else cj_res 22 12 [.ref a0, .int x1] [] (cg_M L f e) := by
  refine (g_2 (by decide +kernel : kd_ 22 4 = ((2, 1, 0, []), 5)) rfl).trans ?_
  refine (g_3 (by decide +kernel : kd_ 22 5 = ((3, 0, 0, []), 6)) rfl).trans ?_
  refine (g_50 (v := .int (f a0 3)) (by decide +kernel : kd_ 22 6 = ((50, 3, 3, []), 9)) h1 rfl).trans ?_
  exact g_40 (by decide +kernel : kd_ 22 9 = ((40, 21, 0, []), 12))
theorem b_Filling_sizeOf_12 {L : Nat} {f : cg_G} {e : Nat × Nat} {x1 : Int32} {a0 : Nat} (h1 : sh_ a0 = 3) (h2 : cg_in x1 848): cj_res 22 12 [.ref a0, .int x1] [] (cg_M L f e) = cj_res 22 22 [.ref a0, .int x1] [.int (f (a0 + 1) x1.toNatClampNeg)] (cg_M L f e) := by
  refine (g_3 (by decide +kernel : kd_ 22 12 = ((3, 0, 0, []), 13)) rfl).trans ?_
  refine (g_50 (v := .ref (a0 + 1)) (by decide +kernel : kd_ 22 13 = ((50, 3, 0, []), 16)) h1 rfl).trans ?_
  refine (g_2 (by decide +kernel : kd_ 22 16 = ((2, 1, 0, []), 17)) rfl).trans ?_
  refine (g_54 (v := .int (f (a0 + 1) x1.toNatClampNeg)) (by decide +kernel : kd_ 22 17 = ((54, 0, 0, []), 18)) (sc_3_0 h1) rfl (by rw [sl_3_0 h1]; exact h2) rfl).trans ?_
  refine (g_30 (by decide +kernel : kd_ 22 18 = ((30, 22, 0, []), 21))).trans ?_
  rfl
theorem b_Filling_sizeOf_21 {L : Nat} {f : cg_G} {e : Nat × Nat} {x1 : Int32} {a0 : Nat} : cj_res 22 21 [.ref a0, .int x1] [] (cg_M L f e) = cj_res 22 22 [.ref a0, .int x1] [.int (nI 0)] (cg_M L f e) := by
  refine (g_0 (by decide +kernel : kd_ 22 21 = ((0, 0, 0, []), 22))).trans ?_
  rfl
theorem b_Filling_sizeOf_22 {L : Nat} {f : cg_G} {e : Nat × Nat} {x1 y0 : Int32} {a0 : Nat} : cj_res 22 22 [.ref a0, .int x1] [.int y0] (cg_M L f e) = some (.inl (some (.int y0)), cg_M L f e) := by
  exact g_90 (by decide +kernel : kd_ 22 22 = ((90, 0, 0, []), 23))
theorem b_Filling_start_0 {L : Nat} {f : cg_G} {e : Nat × Nat} {x1 x2 : Int32} {a0 : Nat} (h1 : sh_ a0 = 3): cj_res 23 0 [.ref a0, .int x1, .int x2] [] (cg_M L f e) = some (.inl none, cg_M L (cg_up (cg_up (cg_up f a0 4 x1) a0 5 x2) a0 3 (nI 0)) e) := by
  refine (g_3 (by decide +kernel : kd_ 23 0 = ((3, 0, 0, []), 1)) rfl).trans ?_
  refine (g_2 (by decide +kernel : kd_ 23 1 = ((2, 1, 0, []), 2)) rfl).trans ?_
  refine (g_51 (x := x1) (v := .int x1) (by decide +kernel : kd_ 23 2 = ((51, 3, 4, [0]), 5)) h1 rfl rfl rfl (sz_3 h1) rfl).trans ?_
  refine (g_3 (by decide +kernel : kd_ 23 5 = ((3, 0, 0, []), 6)) rfl).trans ?_
  refine (g_2 (by decide +kernel : kd_ 23 6 = ((2, 2, 0, []), 7)) rfl).trans ?_
  refine (g_51 (x := x2) (v := .int x2) (by decide +kernel : kd_ 23 7 = ((51, 3, 5, [0]), 10)) h1 rfl rfl rfl (sz_3 h1) rfl).trans ?_
  refine (g_3 (by decide +kernel : kd_ 23 10 = ((3, 0, 0, []), 11)) rfl).trans ?_
  refine (g_0 (by decide +kernel : kd_ 23 11 = ((0, 0, 0, []), 12))).trans ?_
  refine (g_51 (x := nI 0) (v := .int (nI 0)) (by decide +kernel : kd_ 23 12 = ((51, 3, 3, [0]), 15)) h1 rfl rfl rfl (sz_3 h1) rfl).trans ?_
  exact g_91 (by decide +kernel : kd_ 23 15 = ((91, 0, 0, []), 16))
theorem b_Setting_addLineSquares_0 {L : Nat} {f : cg_G} {e : Nat × Nat} {x1 : Int32} {a0 : Nat} (h1 : sh_ a0 = 5): cj_res 24 0 [.ref a0, .int x1] [] (cg_M L f e) = some (.inl none, cg_M L (cg_up f a0 8 ((f a0 8) + x1)) e) := by
  refine (g_3 (by decide +kernel : kd_ 24 0 = ((3, 0, 0, []), 1)) rfl).trans ?_
  refine (g_25 (by decide +kernel : kd_ 24 1 = ((25, 0, 0, []), 2)) rfl).trans ?_
  refine (g_50 (v := .int (f a0 8)) (by decide +kernel : kd_ 24 2 = ((50, 5, 8, []), 5)) h1 rfl).trans ?_
  refine (g_2 (by decide +kernel : kd_ 24 5 = ((2, 1, 0, []), 6)) rfl).trans ?_
  refine (g_10 (by decide +kernel : kd_ 24 6 = ((10, 0, 0, []), 7))).trans ?_
  refine (g_51 (x := (f a0 8) + x1) (v := .int ((f a0 8) + x1)) (by decide +kernel : kd_ 24 7 = ((51, 5, 8, [0]), 10)) h1 rfl rfl rfl (sz_5 h1) rfl).trans ?_
  exact g_91 (by decide +kernel : kd_ 24 10 = ((91, 0, 0, []), 11))
theorem b_Setting_blockOf_0 {L : Nat} {f : cg_G} {e : Nat × Nat} {x1 : Int32} {a0 : Nat} (h1 : sh_ a0 = 5): cj_res 25 0 [.ref a0, .int x1] [] (cg_M L f e) = if x1 < 0 then cj_res 25 14 [.ref a0, .int x1] [.ref (a0 + 1)] (cg_M L f e) else cj_res 25 8 [.ref a0, .int x1] [.ref (a0 + 1)] (cg_M L f e) := by
  refine (g_3 (by decide +kernel : kd_ 25 0 = ((3, 0, 0, []), 1)) rfl).trans ?_
  refine (g_50 (v := .ref (a0 + 1)) (by decide +kernel : kd_ 25 1 = ((50, 5, 0, []), 4)) h1 rfl).trans ?_
  refine (g_2 (by decide +kernel : kd_ 25 4 = ((2, 1, 0, []), 5)) rfl).trans ?_
  exact g_33 (by decide +kernel : kd_ 25 5 = ((33, 14, 0, []), 8))
theorem b_Setting_blockOf_8 {L : Nat} {f : cg_G} {e : Nat × Nat} {x1 : Int32} {a0 c0 : Nat} : cj_res 25 8 [.ref a0, .int x1] [.ref c0] (cg_M L f e) = if x1 < (nI 8) then cj_res 25 18 [.ref a0, .int x1] [.ref c0] (cg_M L f e) else cj_res 25 14 [.ref a0, .int x1] [.ref c0] (cg_M L f e) := by
  refine (g_2 (by decide +kernel : kd_ 25 8 = ((2, 1, 0, []), 9)) rfl).trans ?_
  refine (g_0 (by decide +kernel : kd_ 25 9 = ((0, 8, 0, []), 11))).trans ?_
  exact g_39 (by decide +kernel : kd_ 25 11 = ((39, 18, 0, []), 14))
theorem b_Setting_blockOf_14 {L : Nat} {f : cg_G} {e : Nat × Nat} {x1 : Int32} {a0 c0 : Nat} : cj_res 25 14 [.ref a0, .int x1] [.ref c0] (cg_M L f e) = cj_res 25 19 [.ref a0, .int x1] [.int (nI 0), .ref c0] (cg_M L f e) := by
  refine (g_0 (by decide +kernel : kd_ 25 14 = ((0, 0, 0, []), 15))).trans ?_
  refine (g_30 (by decide +kernel : kd_ 25 15 = ((30, 19, 0, []), 18))).trans ?_
  rfl
theorem b_Setting_blockOf_18 {L : Nat} {f : cg_G} {e : Nat × Nat} {x1 : Int32} {a0 c0 : Nat} : cj_res 25 18 [.ref a0, .int x1] [.ref c0] (cg_M L f e) = cj_res 25 19 [.ref a0, .int x1] [.int x1, .ref c0] (cg_M L f e) := by
  refine (g_2 (by decide +kernel : kd_ 25 18 = ((2, 1, 0, []), 19)) rfl).trans ?_
  rfl
theorem b_Setting_blockOf_19 {L : Nat} {f : cg_G} {e : Nat × Nat} {x1 y0 : Int32} {a0 c1 : Nat} (h1 : sh_ c1 = 105) (h2 : cg_in y0 8): cj_res 25 19 [.ref a0, .int x1] [.int y0, .ref c1] (cg_M L f e) = some (.inl (some (.ref (c1 + 4 + 4 * y0.toNatClampNeg))), cg_M L f e) := by
  refine (g_54 (v := .ref (c1 + 4 + 4 * y0.toNatClampNeg)) (by decide +kernel : kd_ 25 19 = ((54, 5, 0, []), 20)) h1 rfl (by rw [sla_105 h1]; exact h2) (el_if (cg_in_lt h2))).trans ?_
  exact g_92 (by decide +kernel : kd_ 25 20 = ((92, 0, 0, []), 21))
theorem b_Setting_entryOfUnit_0 {L : Nat} {f : cg_G} {e : Nat × Nat} {x1 : Int32} {a0 : Nat} {u2 : Value} : cj_res 26 0 [.ref a0, .int x1, u2] [] (cg_M L f e) = cj_res 26 2 [.ref a0, .int x1, .int (nI 0)] [] (cg_M L f e) := by
  refine (g_0 (by decide +kernel : kd_ 26 0 = ((0, 0, 0, []), 1))).trans ?_
  refine (g_4 (ls' := [.ref a0, .int x1, .int (nI 0)]) (by decide +kernel : kd_ 26 1 = ((4, 2, 0, []), 2)) rfl rfl).trans ?_
  rfl
theorem b_Setting_entryOfUnit_2 {L : Nat} {f : cg_G} {e : Nat × Nat} {x1 x2 : Int32} {a0 : Nat} (h1 : sh_ a0 = 5): cj_res 26 2 [.ref a0, .int x1, .int x2] [] (cg_M L f e) = if (f a0 4) ≤ x2 then cj_res 26 30 [.ref a0, .int x1, .int x2] [] (cg_M L f e) else cj_res 26 10 [.ref a0, .int x1, .int x2] [] (cg_M L f e) := by
  refine (g_2 (by decide +kernel : kd_ 26 2 = ((2, 2, 0, []), 3)) rfl).trans ?_
  refine (g_3 (by decide +kernel : kd_ 26 3 = ((3, 0, 0, []), 4)) rfl).trans ?_
  refine (g_50 (v := .int (f a0 4)) (by decide +kernel : kd_ 26 4 = ((50, 5, 4, []), 7)) h1 rfl).trans ?_
  exact g_40 (by decide +kernel : kd_ 26 7 = ((40, 30, 0, []), 10))
theorem b_Setting_entryOfUnit_10 {L : Nat} {f : cg_G} {e : Nat × Nat} {x1 x2 : Int32} {a0 : Nat} (h1 : sh_ a0 = 5) (h2 : cg_in (x2 + (nI 1)) 9): cj_res 26 10 [.ref a0, .int x1, .int x2] [] (cg_M L f e) = if (f (a0 + 2) (x2 + (nI 1)).toNatClampNeg) ≤ x1 then cj_res 26 24 [.ref a0, .int x1, .int x2] [] (cg_M L f e) else cj_res 26 22 [.ref a0, .int x1, .int x2] [] (cg_M L f e) := by
  refine (g_2 (by decide +kernel : kd_ 26 10 = ((2, 1, 0, []), 11)) rfl).trans ?_
  refine (g_3 (by decide +kernel : kd_ 26 11 = ((3, 0, 0, []), 12)) rfl).trans ?_
  refine (g_50 (v := .ref (a0 + 2)) (by decide +kernel : kd_ 26 12 = ((50, 5, 1, []), 15)) h1 rfl).trans ?_
  refine (g_2 (by decide +kernel : kd_ 26 15 = ((2, 2, 0, []), 16)) rfl).trans ?_
  refine (g_0 (by decide +kernel : kd_ 26 16 = ((0, 1, 0, []), 17))).trans ?_
  refine (g_10 (by decide +kernel : kd_ 26 17 = ((10, 0, 0, []), 18))).trans ?_
  refine (g_54 (v := .int (f (a0 + 2) (x2 + (nI 1)).toNatClampNeg)) (by decide +kernel : kd_ 26 18 = ((54, 0, 0, []), 19)) (sc_5_1 h1) rfl (by rw [sl_5_1 h1]; exact h2) rfl).trans ?_
  exact g_40 (by decide +kernel : kd_ 26 19 = ((40, 24, 0, []), 22))
theorem b_Setting_entryOfUnit_22 {L : Nat} {f : cg_G} {e : Nat × Nat} {x1 x2 : Int32} {a0 : Nat} : cj_res 26 22 [.ref a0, .int x1, .int x2] [] (cg_M L f e) = some (.inl (some (.int x2)), cg_M L f e) := by
  refine (g_2 (by decide +kernel : kd_ 26 22 = ((2, 2, 0, []), 23)) rfl).trans ?_
  exact g_90 (by decide +kernel : kd_ 26 23 = ((90, 0, 0, []), 24))
theorem b_Setting_entryOfUnit_24 {L : Nat} {f : cg_G} {e : Nat × Nat} {x1 x2 : Int32} {a0 : Nat} : cj_res 26 24 [.ref a0, .int x1, .int x2] [] (cg_M L f e) = cj_res 26 2 [.ref a0, .int x1, .int (x2 + nI 1)] [] (cg_M L f e) := by
  refine (g_6 (ls' := [.ref a0, .int x1, .int (x2 + nI 1)]) (by decide +kernel : kd_ 26 24 = ((6, 2, 1, []), 27)) rfl rfl).trans ?_
  refine (g_30 (by decide +kernel : kd_ 26 27 = ((30, 2, 0, []), 30))).trans ?_
  rfl
theorem b_Setting_entryOfUnit_30 {L : Nat} {f : cg_G} {e : Nat × Nat} {x1 x2 : Int32} {a0 : Nat} : cj_res 26 30 [.ref a0, .int x1, .int x2] [] (cg_M L f e) = some (.inl (some (.int (nI 0))), cg_M L f e) := by
  refine (g_0 (by decide +kernel : kd_ 26 30 = ((0, 0, 0, []), 31))).trans ?_
  exact g_90 (by decide +kernel : kd_ 26 31 = ((90, 0, 0, []), 32))
theorem b_Setting_figure_0 {L : Nat} {f : cg_G} {e : Nat × Nat} {x1 : Int32} {a0 : Nat} : cj_res 27 0 [.ref a0, .int x1] [] (cg_M L f e) = cj_res 27 (cj_sw x1 0 60 [32, 37, 42, 55]) [.ref a0, .int x1] [] (cg_M L f e) := by
  refine (g_2 (by decide +kernel : kd_ 27 0 = ((2, 1, 0, []), 1)) rfl).trans ?_
  exact g_45 (by decide +kernel : kd_ 27 1 = ((45, 0, 60, [32, 37, 42, 55]), 32))
theorem b_Setting_figure_32 {L : Nat} {f : cg_G} {e : Nat × Nat} {x1 : Int32} {a0 : Nat} (h1 : sh_ a0 = 5): cj_res 27 32 [.ref a0, .int x1] [] (cg_M L f e) = some (.inl (some (.int (f a0 5))), cg_M L f e) := by
  refine (g_3 (by decide +kernel : kd_ 27 32 = ((3, 0, 0, []), 33)) rfl).trans ?_
  refine (g_50 (v := .int (f a0 5)) (by decide +kernel : kd_ 27 33 = ((50, 5, 5, []), 36)) h1 rfl).trans ?_
  exact g_90 (by decide +kernel : kd_ 27 36 = ((90, 0, 0, []), 37))
theorem b_Setting_figure_37 {L : Nat} {f : cg_G} {e : Nat × Nat} {x1 : Int32} {a0 : Nat} (h1 : sh_ a0 = 5): cj_res 27 37 [.ref a0, .int x1] [] (cg_M L f e) = some (.inl (some (.int (f a0 6))), cg_M L f e) := by
  refine (g_3 (by decide +kernel : kd_ 27 37 = ((3, 0, 0, []), 38)) rfl).trans ?_
  refine (g_50 (v := .int (f a0 6)) (by decide +kernel : kd_ 27 38 = ((50, 5, 6, []), 41)) h1 rfl).trans ?_
  exact g_90 (by decide +kernel : kd_ 27 41 = ((90, 0, 0, []), 42))
theorem b_Setting_figure_42 {L : Nat} {f : cg_G} {e : Nat × Nat} {x1 : Int32} {a0 : Nat} (h1 : sh_ a0 = 5): cj_res 27 42 [.ref a0, .int x1] [] (cg_M L f e) = if (f a0 7) = 0 then cj_res 27 53 [.ref a0, .int x1] [] (cg_M L f e) else cj_res 27 49 [.ref a0, .int x1] [] (cg_M L f e) := by
  refine (g_3 (by decide +kernel : kd_ 27 42 = ((3, 0, 0, []), 43)) rfl).trans ?_
  refine (g_50 (v := .int (f a0 7)) (by decide +kernel : kd_ 27 43 = ((50, 5, 7, []), 46)) h1 rfl).trans ?_
  exact g_31 (by decide +kernel : kd_ 27 46 = ((31, 53, 0, []), 49))
theorem b_Setting_figure_49 {L : Nat} {f : cg_G} {e : Nat × Nat} {x1 : Int32} {a0 : Nat} : cj_res 27 49 [.ref a0, .int x1] [] (cg_M L f e) = cj_res 27 54 [.ref a0, .int x1] [.int (nI 1)] (cg_M L f e) := by
  refine (g_0 (by decide +kernel : kd_ 27 49 = ((0, 1, 0, []), 50))).trans ?_
  refine (g_30 (by decide +kernel : kd_ 27 50 = ((30, 54, 0, []), 53))).trans ?_
  rfl
theorem b_Setting_figure_53 {L : Nat} {f : cg_G} {e : Nat × Nat} {x1 : Int32} {a0 : Nat} : cj_res 27 53 [.ref a0, .int x1] [] (cg_M L f e) = cj_res 27 54 [.ref a0, .int x1] [.int (nI 0)] (cg_M L f e) := by
  refine (g_0 (by decide +kernel : kd_ 27 53 = ((0, 0, 0, []), 54))).trans ?_
  rfl
theorem b_Setting_figure_54 {L : Nat} {f : cg_G} {e : Nat × Nat} {x1 y0 : Int32} {a0 : Nat} : cj_res 27 54 [.ref a0, .int x1] [.int y0] (cg_M L f e) = some (.inl (some (.int y0)), cg_M L f e) := by
  exact g_90 (by decide +kernel : kd_ 27 54 = ((90, 0, 0, []), 55))
theorem b_Setting_figure_55 {L : Nat} {f : cg_G} {e : Nat × Nat} {x1 : Int32} {a0 : Nat} (h1 : sh_ a0 = 5): cj_res 27 55 [.ref a0, .int x1] [] (cg_M L f e) = some (.inl (some (.int (f a0 8))), cg_M L f e) := by
  refine (g_3 (by decide +kernel : kd_ 27 55 = ((3, 0, 0, []), 56)) rfl).trans ?_
  refine (g_50 (v := .int (f a0 8)) (by decide +kernel : kd_ 27 56 = ((50, 5, 8, []), 59)) h1 rfl).trans ?_
  exact g_90 (by decide +kernel : kd_ 27 59 = ((90, 0, 0, []), 60))
theorem b_Setting_figure_60 {L : Nat} {f : cg_G} {e : Nat × Nat} {x1 : Int32} {a0 : Nat} (h1 : sh_ a0 = 5): cj_res 27 60 [.ref a0, .int x1] [] (cg_M L f e) = some (.inl (some (.int (f a0 9))), cg_M L f e) := by
  refine (g_3 (by decide +kernel : kd_ 27 60 = ((3, 0, 0, []), 61)) rfl).trans ?_
  refine (g_50 (v := .int (f a0 9)) (by decide +kernel : kd_ 27 61 = ((50, 5, 9, []), 64)) h1 rfl).trans ?_
  exact g_90 (by decide +kernel : kd_ 27 64 = ((90, 0, 0, []), 65))
theorem b_Setting_holdsEntry_0 {L : Nat} {f : cg_G} {e : Nat × Nat} {x1 : Int32} {a0 : Nat} : cj_res 28 0 [.ref a0, .int x1] [] (cg_M L f e) = if x1 < 0 then cj_res 28 16 [.ref a0, .int x1] [] (cg_M L f e) else cj_res 28 4 [.ref a0, .int x1] [] (cg_M L f e) := by
  refine (g_2 (by decide +kernel : kd_ 28 0 = ((2, 1, 0, []), 1)) rfl).trans ?_
  exact g_33 (by decide +kernel : kd_ 28 1 = ((33, 16, 0, []), 4))
theorem b_Setting_holdsEntry_4 {L : Nat} {f : cg_G} {e : Nat × Nat} {x1 : Int32} {a0 : Nat} (h1 : sh_ a0 = 5): cj_res 28 4 [.ref a0, .int x1] [] (cg_M L f e) = if (f a0 4) ≤ x1 then cj_res 28 16 [.ref a0, .int x1] [] (cg_M L f e) else cj_res 28 12 [.ref a0, .int x1] [] (cg_M L f e) := by
  refine (g_2 (by decide +kernel : kd_ 28 4 = ((2, 1, 0, []), 5)) rfl).trans ?_
  refine (g_3 (by decide +kernel : kd_ 28 5 = ((3, 0, 0, []), 6)) rfl).trans ?_
  refine (g_50 (v := .int (f a0 4)) (by decide +kernel : kd_ 28 6 = ((50, 5, 4, []), 9)) h1 rfl).trans ?_
  exact g_40 (by decide +kernel : kd_ 28 9 = ((40, 16, 0, []), 12))
theorem b_Setting_holdsEntry_12 {L : Nat} {f : cg_G} {e : Nat × Nat} {x1 : Int32} {a0 : Nat} : cj_res 28 12 [.ref a0, .int x1] [] (cg_M L f e) = cj_res 28 17 [.ref a0, .int x1] [.int (nI 1)] (cg_M L f e) := by
  refine (g_0 (by decide +kernel : kd_ 28 12 = ((0, 1, 0, []), 13))).trans ?_
  refine (g_30 (by decide +kernel : kd_ 28 13 = ((30, 17, 0, []), 16))).trans ?_
  rfl
theorem b_Setting_holdsEntry_16 {L : Nat} {f : cg_G} {e : Nat × Nat} {x1 : Int32} {a0 : Nat} : cj_res 28 16 [.ref a0, .int x1] [] (cg_M L f e) = cj_res 28 17 [.ref a0, .int x1] [.int (nI 0)] (cg_M L f e) := by
  refine (g_0 (by decide +kernel : kd_ 28 16 = ((0, 0, 0, []), 17))).trans ?_
  rfl
theorem b_Setting_holdsEntry_17 {L : Nat} {f : cg_G} {e : Nat × Nat} {x1 y0 : Int32} {a0 : Nat} (h1 : y0 = 0 ∨ y0 = 1): cj_res 28 17 [.ref a0, .int x1] [.int y0] (cg_M L f e) = some (.inl (some (.int y0)), cg_M L f e) := by
  exact g_93 (by decide +kernel : kd_ 28 17 = ((93, 0, 0, []), 18)) h1
theorem b_Setting_pageOfUnit_0 {L : Nat} {f : cg_G} {e : Nat × Nat} {x1 : Int32} {a0 : Nat} {u2 : Value} : cj_res 29 0 [.ref a0, .int x1, u2] [] (cg_M L f e) = cj_res 29 2 [.ref a0, .int x1, .int (nI 1)] [] (cg_M L f e) := by
  refine (g_0 (by decide +kernel : kd_ 29 0 = ((0, 1, 0, []), 1))).trans ?_
  refine (g_4 (ls' := [.ref a0, .int x1, .int (nI 1)]) (by decide +kernel : kd_ 29 1 = ((4, 2, 0, []), 2)) rfl rfl).trans ?_
  rfl
theorem b_Setting_pageOfUnit_2 {L : Nat} {f : cg_G} {e : Nat × Nat} {x1 x2 : Int32} {a0 : Nat} (h1 : sh_ a0 = 5): cj_res 29 2 [.ref a0, .int x1, .int x2] [] (cg_M L f e) = if (f a0 5) < x2 then cj_res 29 28 [.ref a0, .int x1, .int x2] [] (cg_M L f e) else cj_res 29 10 [.ref a0, .int x1, .int x2] [] (cg_M L f e) := by
  refine (g_2 (by decide +kernel : kd_ 29 2 = ((2, 2, 0, []), 3)) rfl).trans ?_
  refine (g_3 (by decide +kernel : kd_ 29 3 = ((3, 0, 0, []), 4)) rfl).trans ?_
  refine (g_50 (v := .int (f a0 5)) (by decide +kernel : kd_ 29 4 = ((50, 5, 5, []), 7)) h1 rfl).trans ?_
  exact g_41 (by decide +kernel : kd_ 29 7 = ((41, 28, 0, []), 10))
theorem b_Setting_pageOfUnit_10 {L : Nat} {f : cg_G} {e : Nat × Nat} {x1 x2 : Int32} {a0 : Nat} (h1 : sh_ a0 = 5) (h2 : cg_in x2 849): cj_res 29 10 [.ref a0, .int x1, .int x2] [] (cg_M L f e) = if (f (a0 + 3) x2.toNatClampNeg) ≤ x1 then cj_res 29 22 [.ref a0, .int x1, .int x2] [] (cg_M L f e) else cj_res 29 20 [.ref a0, .int x1, .int x2] [] (cg_M L f e) := by
  refine (g_2 (by decide +kernel : kd_ 29 10 = ((2, 1, 0, []), 11)) rfl).trans ?_
  refine (g_3 (by decide +kernel : kd_ 29 11 = ((3, 0, 0, []), 12)) rfl).trans ?_
  refine (g_50 (v := .ref (a0 + 3)) (by decide +kernel : kd_ 29 12 = ((50, 5, 2, []), 15)) h1 rfl).trans ?_
  refine (g_2 (by decide +kernel : kd_ 29 15 = ((2, 2, 0, []), 16)) rfl).trans ?_
  refine (g_54 (v := .int (f (a0 + 3) x2.toNatClampNeg)) (by decide +kernel : kd_ 29 16 = ((54, 0, 0, []), 17)) (sc_5_2 h1) rfl (by rw [sl_5_2 h1]; exact h2) rfl).trans ?_
  exact g_40 (by decide +kernel : kd_ 29 17 = ((40, 22, 0, []), 20))
theorem b_Setting_pageOfUnit_20 {L : Nat} {f : cg_G} {e : Nat × Nat} {x1 x2 : Int32} {a0 : Nat} : cj_res 29 20 [.ref a0, .int x1, .int x2] [] (cg_M L f e) = some (.inl (some (.int x2)), cg_M L f e) := by
  refine (g_2 (by decide +kernel : kd_ 29 20 = ((2, 2, 0, []), 21)) rfl).trans ?_
  exact g_90 (by decide +kernel : kd_ 29 21 = ((90, 0, 0, []), 22))
theorem b_Setting_pageOfUnit_22 {L : Nat} {f : cg_G} {e : Nat × Nat} {x1 x2 : Int32} {a0 : Nat} : cj_res 29 22 [.ref a0, .int x1, .int x2] [] (cg_M L f e) = cj_res 29 2 [.ref a0, .int x1, .int (x2 + nI 1)] [] (cg_M L f e) := by
  refine (g_6 (ls' := [.ref a0, .int x1, .int (x2 + nI 1)]) (by decide +kernel : kd_ 29 22 = ((6, 2, 1, []), 25)) rfl rfl).trans ?_
  refine (g_30 (by decide +kernel : kd_ 29 25 = ((30, 2, 0, []), 28))).trans ?_
  rfl
theorem b_Setting_pageOfUnit_28 {L : Nat} {f : cg_G} {e : Nat × Nat} {x1 x2 : Int32} {a0 : Nat} : cj_res 29 28 [.ref a0, .int x1, .int x2] [] (cg_M L f e) = some (.inl (some (.int (nI 0))), cg_M L f e) := by
  refine (g_0 (by decide +kernel : kd_ 29 28 = ((0, 0, 0, []), 29))).trans ?_
  exact g_90 (by decide +kernel : kd_ 29 29 = ((90, 0, 0, []), 30))
theorem b_Setting_pages_0 {L : Nat} {f : cg_G} {e : Nat × Nat} {a0 : Nat} (h1 : sh_ a0 = 5): cj_res 30 0 [.ref a0] [] (cg_M L f e) = some (.inl (some (.int (f a0 5))), cg_M L f e) := by
  refine (g_3 (by decide +kernel : kd_ 30 0 = ((3, 0, 0, []), 1)) rfl).trans ?_
  refine (g_50 (v := .int (f a0 5)) (by decide +kernel : kd_ 30 1 = ((50, 5, 5, []), 4)) h1 rfl).trans ?_
  exact g_90 (by decide +kernel : kd_ 30 4 = ((90, 0, 0, []), 5))
theorem b_Setting_settle_0 {L : Nat} {f : cg_G} {e : Nat × Nat} {a0 a1 : Nat} {u2 : Value} (h1 : sh_ a0 = 5): cj_res 31 0 [.ref a0, .ref a1, u2] [] (cg_M L f e) = cj_res 31 7 [.ref a0, .ref a1, .int (nI 0)] [] (cg_M L (cg_up f a0 7 (nI 1)) e) := by
  refine (g_3 (by decide +kernel : kd_ 31 0 = ((3, 0, 0, []), 1)) rfl).trans ?_
  refine (g_0 (by decide +kernel : kd_ 31 1 = ((0, 1, 0, []), 2))).trans ?_
  refine (g_51 (x := nI 1) (v := .int (nI 1)) (by decide +kernel : kd_ 31 2 = ((51, 5, 7, [1]), 5)) h1 rfl rfl (by decide) (sz_5 h1) rfl).trans ?_
  refine (g_0 (by decide +kernel : kd_ 31 5 = ((0, 0, 0, []), 6))).trans ?_
  refine (g_4 (ls' := [.ref a0, .ref a1, .int (nI 0)]) (by decide +kernel : kd_ 31 6 = ((4, 2, 0, []), 7)) rfl rfl).trans ?_
  rfl
theorem b_Setting_settle_7 {L : Nat} {f : cg_G} {e : Nat × Nat} {x2 : Int32} {a0 a1 : Nat} (h1 : sh_ a0 = 5): cj_res 31 7 [.ref a0, .ref a1, .int x2] [] (cg_M L f e) = if (f a0 4) ≤ x2 then cj_res 31 44 [.ref a0, .ref a1, .int x2] [] (cg_M L f e) else cj_res 31 15 [.ref a0, .ref a1, .int x2] [] (cg_M L f e) := by
  refine (g_2 (by decide +kernel : kd_ 31 7 = ((2, 2, 0, []), 8)) rfl).trans ?_
  refine (g_3 (by decide +kernel : kd_ 31 8 = ((3, 0, 0, []), 9)) rfl).trans ?_
  refine (g_50 (v := .int (f a0 4)) (by decide +kernel : kd_ 31 9 = ((50, 5, 4, []), 12)) h1 rfl).trans ?_
  exact g_40 (by decide +kernel : kd_ 31 12 = ((40, 44, 0, []), 15))
theorem b_Setting_settle_15 {L : Nat} {f : cg_G} {e : Nat × Nat} {x2 : Int32} {a0 a1 : Nat} (h1 : sh_ a1 = 100): cj_res 31 15 [.ref a0, .ref a1, .int x2] [] (cg_M L f e) = if (nI (ln_ L a1)) ≤ x2 then cj_res 31 44 [.ref a0, .ref a1, .int x2] [] (cg_M L f e) else cj_res 31 21 [.ref a0, .ref a1, .int x2] [] (cg_M L f e) := by
  refine (g_2 (by decide +kernel : kd_ 31 15 = ((2, 2, 0, []), 16)) rfl).trans ?_
  refine (g_3 (by decide +kernel : kd_ 31 16 = ((3, 1, 0, []), 17)) rfl).trans ?_
  refine (g_53 (by decide +kernel : kd_ 31 17 = ((53, 0, 0, []), 18)) h1 rfl).trans ?_
  exact g_40 (by decide +kernel : kd_ 31 18 = ((40, 44, 0, []), 21))
theorem b_Setting_settle_21 {L : Nat} {f : cg_G} {e : Nat × Nat} {x2 : Int32} {a0 a1 : Nat} (h1 : sh_ a0 = 5) (h2 : cg_in x2 8) (h3 : sh_ a1 = 100) (h4 : cg_in x2 (ln_ L a1)): cj_res 31 21 [.ref a0, .ref a1, .int x2] [] (cg_M L f e) = if (f (a0 + 4) x2.toNatClampNeg) = (f a1 x2.toNatClampNeg) then cj_res 31 38 [.ref a0, .ref a1, .int x2] [] (cg_M L f e) else cj_res 31 33 [.ref a0, .ref a1, .int x2] [] (cg_M L f e) := by
  refine (g_3 (by decide +kernel : kd_ 31 21 = ((3, 0, 0, []), 22)) rfl).trans ?_
  refine (g_50 (v := .ref (a0 + 4)) (by decide +kernel : kd_ 31 22 = ((50, 5, 3, []), 25)) h1 rfl).trans ?_
  refine (g_2 (by decide +kernel : kd_ 31 25 = ((2, 2, 0, []), 26)) rfl).trans ?_
  refine (g_54 (v := .int (f (a0 + 4) x2.toNatClampNeg)) (by decide +kernel : kd_ 31 26 = ((54, 0, 0, []), 27)) (sc_5_3 h1) rfl (by rw [sl_5_3 h1]; exact h2) rfl).trans ?_
  refine (g_3 (by decide +kernel : kd_ 31 27 = ((3, 1, 0, []), 28)) rfl).trans ?_
  refine (g_2 (by decide +kernel : kd_ 31 28 = ((2, 2, 0, []), 29)) rfl).trans ?_
  refine (g_54 (v := .int (f a1 x2.toNatClampNeg)) (by decide +kernel : kd_ 31 29 = ((54, 0, 0, []), 30)) h3 rfl h4 rfl).trans ?_
  exact g_37 (by decide +kernel : kd_ 31 30 = ((37, 38, 0, []), 33))
theorem b_Setting_settle_33 {L : Nat} {f : cg_G} {e : Nat × Nat} {x2 : Int32} {a0 a1 : Nat} (h1 : sh_ a0 = 5): cj_res 31 33 [.ref a0, .ref a1, .int x2] [] (cg_M L f e) = cj_res 31 38 [.ref a0, .ref a1, .int x2] [] (cg_M L (cg_up f a0 7 (nI 0)) e) := by
  refine (g_3 (by decide +kernel : kd_ 31 33 = ((3, 0, 0, []), 34)) rfl).trans ?_
  refine (g_0 (by decide +kernel : kd_ 31 34 = ((0, 0, 0, []), 35))).trans ?_
  refine (g_51 (x := nI 0) (v := .int (nI 0)) (by decide +kernel : kd_ 31 35 = ((51, 5, 7, [1]), 38)) h1 rfl rfl (by decide) (sz_5 h1) rfl).trans ?_
  rfl
theorem b_Setting_settle_38 {L : Nat} {f : cg_G} {e : Nat × Nat} {x2 : Int32} {a0 a1 : Nat} : cj_res 31 38 [.ref a0, .ref a1, .int x2] [] (cg_M L f e) = cj_res 31 7 [.ref a0, .ref a1, .int (x2 + nI 1)] [] (cg_M L f e) := by
  refine (g_6 (ls' := [.ref a0, .ref a1, .int (x2 + nI 1)]) (by decide +kernel : kd_ 31 38 = ((6, 2, 1, []), 41)) rfl rfl).trans ?_
  refine (g_30 (by decide +kernel : kd_ 31 41 = ((30, 7, 0, []), 44))).trans ?_
  rfl
theorem b_Setting_settle_44 {L : Nat} {f : cg_G} {e : Nat × Nat} {x2 : Int32} {a0 a1 : Nat} (h1 : sh_ a0 = 5) (h2 : (f a0 7) = 0 ∨ (f a0 7) = 1): cj_res 31 44 [.ref a0, .ref a1, .int x2] [] (cg_M L f e) = some (.inl (some (.int (f a0 7))), cg_M L f e) := by
  refine (g_3 (by decide +kernel : kd_ 31 44 = ((3, 0, 0, []), 45)) rfl).trans ?_
  refine (g_50 (v := .int (f a0 7)) (by decide +kernel : kd_ 31 45 = ((50, 5, 7, []), 48)) h1 rfl).trans ?_
  exact g_93 (by decide +kernel : kd_ 31 48 = ((93, 0, 0, []), 49)) h2
theorem b_Setting_startPass_0 {L : Nat} {f : cg_G} {e : Nat × Nat} {x1 x2 : Int32} {a0 : Nat} (h1 : sh_ a0 = 5): cj_res 32 0 [.ref a0, .int x1, .int x2] [] (cg_M L f e) = some (.inl none, cg_M L (cg_up (cg_up (cg_up f a0 4 (if (nI 8) < x1 then (nI 8) else x1)) a0 6 x2) a0 8 (nI 0)) e) := by
  refine (g_3 (by decide +kernel : kd_ 32 0 = ((3, 0, 0, []), 1)) rfl).trans ?_
  refine (g_2 (by decide +kernel : kd_ 32 1 = ((2, 1, 0, []), 2)) rfl).trans ?_
  refine (g_0 (by decide +kernel : kd_ 32 2 = ((0, 8, 0, []), 4))).trans ?_
  refine (g_85 (by decide +kernel : kd_ 32 4 = ((85, 0, 0, []), 7)) rfl).trans ?_
  refine (g_51 (x := if (nI 8) < x1 then (nI 8) else x1) (v := .int (if (nI 8) < x1 then (nI 8) else x1)) (by decide +kernel : kd_ 32 7 = ((51, 5, 4, [0]), 10)) h1 rfl rfl rfl (sz_5 h1) rfl).trans ?_
  refine (g_3 (by decide +kernel : kd_ 32 10 = ((3, 0, 0, []), 11)) rfl).trans ?_
  refine (g_2 (by decide +kernel : kd_ 32 11 = ((2, 2, 0, []), 12)) rfl).trans ?_
  refine (g_51 (x := x2) (v := .int x2) (by decide +kernel : kd_ 32 12 = ((51, 5, 6, [0]), 15)) h1 rfl rfl rfl (sz_5 h1) rfl).trans ?_
  refine (g_3 (by decide +kernel : kd_ 32 15 = ((3, 0, 0, []), 16)) rfl).trans ?_
  refine (g_0 (by decide +kernel : kd_ 32 16 = ((0, 0, 0, []), 17))).trans ?_
  refine (g_51 (x := nI 0) (v := .int (nI 0)) (by decide +kernel : kd_ 32 17 = ((51, 5, 8, [0]), 20)) h1 rfl rfl rfl (sz_5 h1) rfl).trans ?_
  exact g_91 (by decide +kernel : kd_ 32 20 = ((91, 0, 0, []), 21))
theorem b_Setting_tellPages_0 {L : Nat} {f : cg_G} {e : Nat × Nat} {a0 a1 : Nat} {u2 : Value} : cj_res 33 0 [.ref a0, .ref a1, u2] [] (cg_M L f e) = cj_res 33 2 [.ref a0, .ref a1, .int (nI 0)] [] (cg_M L f e) := by
  refine (g_0 (by decide +kernel : kd_ 33 0 = ((0, 0, 0, []), 1))).trans ?_
  refine (g_4 (ls' := [.ref a0, .ref a1, .int (nI 0)]) (by decide +kernel : kd_ 33 1 = ((4, 2, 0, []), 2)) rfl rfl).trans ?_
  rfl
theorem b_Setting_tellPages_2 {L : Nat} {f : cg_G} {e : Nat × Nat} {x2 : Int32} {a0 a1 : Nat} (h1 : sh_ a0 = 5): cj_res 33 2 [.ref a0, .ref a1, .int x2] [] (cg_M L f e) = if (f a0 4) ≤ x2 then cj_res 33 31 [.ref a0, .ref a1, .int x2] [] (cg_M L f e) else cj_res 33 10 [.ref a0, .ref a1, .int x2] [] (cg_M L f e) := by
  refine (g_2 (by decide +kernel : kd_ 33 2 = ((2, 2, 0, []), 3)) rfl).trans ?_
  refine (g_3 (by decide +kernel : kd_ 33 3 = ((3, 0, 0, []), 4)) rfl).trans ?_
  refine (g_50 (v := .int (f a0 4)) (by decide +kernel : kd_ 33 4 = ((50, 5, 4, []), 7)) h1 rfl).trans ?_
  exact g_40 (by decide +kernel : kd_ 33 7 = ((40, 31, 0, []), 10))
theorem b_Setting_tellPages_10 {L : Nat} {f : cg_G} {e : Nat × Nat} {x2 : Int32} {a0 a1 : Nat} (h1 : sh_ a1 = 100): cj_res 33 10 [.ref a0, .ref a1, .int x2] [] (cg_M L f e) = if (nI (ln_ L a1)) ≤ x2 then cj_res 33 31 [.ref a0, .ref a1, .int x2] [] (cg_M L f e) else cj_res 33 16 [.ref a0, .ref a1, .int x2] [] (cg_M L f e) := by
  refine (g_2 (by decide +kernel : kd_ 33 10 = ((2, 2, 0, []), 11)) rfl).trans ?_
  refine (g_3 (by decide +kernel : kd_ 33 11 = ((3, 1, 0, []), 12)) rfl).trans ?_
  refine (g_53 (by decide +kernel : kd_ 33 12 = ((53, 0, 0, []), 13)) h1 rfl).trans ?_
  exact g_40 (by decide +kernel : kd_ 33 13 = ((40, 31, 0, []), 16))
theorem b_Setting_tellPages_16 {L : Nat} {f : cg_G} {e : Nat × Nat} {x2 : Int32} {a0 a1 : Nat} (h1 : sh_ a0 = 5) (h2 : cg_in x2 8) (h3 : sh_ a1 = 100) (h4 : cg_in x2 (ln_ L a1)) (h5 : a1 ≠ 0): cj_res 33 16 [.ref a0, .ref a1, .int x2] [] (cg_M L f e) = cj_res 33 2 [.ref a0, .ref a1, .int (x2 + nI 1)] [] (cg_M L (cg_up f a1 x2.toNatClampNeg (f (a0 + 4) x2.toNatClampNeg)) e) := by
  refine (g_3 (by decide +kernel : kd_ 33 16 = ((3, 1, 0, []), 17)) rfl).trans ?_
  refine (g_2 (by decide +kernel : kd_ 33 17 = ((2, 2, 0, []), 18)) rfl).trans ?_
  refine (g_3 (by decide +kernel : kd_ 33 18 = ((3, 0, 0, []), 19)) rfl).trans ?_
  refine (g_50 (v := .ref (a0 + 4)) (by decide +kernel : kd_ 33 19 = ((50, 5, 3, []), 22)) h1 rfl).trans ?_
  refine (g_2 (by decide +kernel : kd_ 33 22 = ((2, 2, 0, []), 23)) rfl).trans ?_
  refine (g_54 (v := .int (f (a0 + 4) x2.toNatClampNeg)) (by decide +kernel : kd_ 33 23 = ((54, 0, 0, []), 24)) (sc_5_3 h1) rfl (by rw [sl_5_3 h1]; exact h2) rfl).trans ?_
  refine (g_56 (by decide +kernel : kd_ 33 24 = ((56, 0, 0, []), 25)) h3 (fun _ => rfl) h4 h5).trans ?_
  refine (g_6 (ls' := [.ref a0, .ref a1, .int (x2 + nI 1)]) (by decide +kernel : kd_ 33 25 = ((6, 2, 1, []), 28)) rfl rfl).trans ?_
  refine (g_30 (by decide +kernel : kd_ 33 28 = ((30, 2, 0, []), 31))).trans ?_
  rfl
theorem b_Setting_tellPages_31 {L : Nat} {f : cg_G} {e : Nat × Nat} {x2 : Int32} {a0 a1 : Nat} : cj_res 33 31 [.ref a0, .ref a1, .int x2] [] (cg_M L f e) = some (.inl none, cg_M L f e) := by
  exact g_91 (by decide +kernel : kd_ 33 31 = ((91, 0, 0, []), 32))
theorem b_Signs_add_0 {L : Nat} {f : cg_G} {e : Nat × Nat} {x1 : Int32} {a0 : Nat} (h1 : sh_ a0 = 6): cj_res 35 0 [.ref a0, .int x1] [] (cg_M L f e) = if (nI (ln_ L (a0 + 1))) ≤ (f a0 1) then cj_res 35 33 [.ref a0, .int x1] [] (cg_M L f e) else cj_res 35 12 [.ref a0, .int x1] [] (cg_M L f e) := by
  refine (g_3 (by decide +kernel : kd_ 35 0 = ((3, 0, 0, []), 1)) rfl).trans ?_
  refine (g_50 (v := .int (f a0 1)) (by decide +kernel : kd_ 35 1 = ((50, 6, 1, []), 4)) h1 rfl).trans ?_
  refine (g_3 (by decide +kernel : kd_ 35 4 = ((3, 0, 0, []), 5)) rfl).trans ?_
  refine (g_50 (v := .ref (a0 + 1)) (by decide +kernel : kd_ 35 5 = ((50, 6, 0, []), 8)) h1 rfl).trans ?_
  refine (g_53 (by decide +kernel : kd_ 35 8 = ((53, 0, 0, []), 9)) (sc_6_0 h1) rfl).trans ?_
  exact g_40 (by decide +kernel : kd_ 35 9 = ((40, 33, 0, []), 12))
theorem b_Signs_add_12 {L : Nat} {f : cg_G} {e : Nat × Nat} {x1 : Int32} {a0 : Nat} (h1 : sh_ a0 = 6) (h2 : cg_in (f a0 1) (ln_ L (a0 + 1))): cj_res 35 12 [.ref a0, .int x1] [] (cg_M L f e) = cj_res 35 33 [.ref a0, .int x1] [] (cg_M L (cg_up (cg_up f (a0 + 1) (f a0 1).toNatClampNeg (vp_nar .char ((x1.toUInt32 % 65536).toInt32))) a0 1 (((cg_up f (a0 + 1) (f a0 1).toNatClampNeg (vp_nar .char ((x1.toUInt32 % 65536).toInt32))) a0 1) + (nI 1))) e) := by
  refine (g_3 (by decide +kernel : kd_ 35 12 = ((3, 0, 0, []), 13)) rfl).trans ?_
  refine (g_50 (v := .ref (a0 + 1)) (by decide +kernel : kd_ 35 13 = ((50, 6, 0, []), 16)) h1 rfl).trans ?_
  refine (g_3 (by decide +kernel : kd_ 35 16 = ((3, 0, 0, []), 17)) rfl).trans ?_
  refine (g_50 (v := .int (f a0 1)) (by decide +kernel : kd_ 35 17 = ((50, 6, 1, []), 20)) h1 rfl).trans ?_
  refine (g_2 (by decide +kernel : kd_ 35 20 = ((2, 1, 0, []), 21)) rfl).trans ?_
  refine (g_22 (by decide +kernel : kd_ 35 21 = ((22, 0, 0, []), 22))).trans ?_
  refine (g_57 (by decide +kernel : kd_ 35 22 = ((57, 1, 0, []), 23)) (sc_6_0 h1) (fun _ => rfl) h2 (by omega)).trans ?_
  refine (g_3 (by decide +kernel : kd_ 35 23 = ((3, 0, 0, []), 24)) rfl).trans ?_
  refine (g_25 (by decide +kernel : kd_ 35 24 = ((25, 0, 0, []), 25)) rfl).trans ?_
  refine (g_50 (v := .int ((cg_up f (a0 + 1) (f a0 1).toNatClampNeg (vp_nar .char ((x1.toUInt32 % 65536).toInt32))) a0 1)) (by decide +kernel : kd_ 35 25 = ((50, 6, 1, []), 28)) h1 rfl).trans ?_
  refine (g_0 (by decide +kernel : kd_ 35 28 = ((0, 1, 0, []), 29))).trans ?_
  refine (g_10 (by decide +kernel : kd_ 35 29 = ((10, 0, 0, []), 30))).trans ?_
  refine (g_51 (x := ((cg_up f (a0 + 1) (f a0 1).toNatClampNeg (vp_nar .char ((x1.toUInt32 % 65536).toInt32))) a0 1) + (nI 1)) (v := .int (((cg_up f (a0 + 1) (f a0 1).toNatClampNeg (vp_nar .char ((x1.toUInt32 % 65536).toInt32))) a0 1) + (nI 1))) (by decide +kernel : kd_ 35 30 = ((51, 6, 1, [0]), 33)) h1 rfl rfl rfl (sz_6 h1) rfl).trans ?_
  rfl
theorem b_Signs_add_33 {L : Nat} {f : cg_G} {e : Nat × Nat} {x1 : Int32} {a0 : Nat} : cj_res 35 33 [.ref a0, .int x1] [] (cg_M L f e) = some (.inl none, cg_M L f e) := by
  exact g_91 (by decide +kernel : kd_ 35 33 = ((91, 0, 0, []), 34))
theorem b_Signs_at_0 {L : Nat} {f : cg_G} {e : Nat × Nat} {x1 : Int32} {a0 : Nat} : cj_res 36 0 [.ref a0, .int x1] [] (cg_M L f e) = if x1 < 0 then cj_res 36 21 [.ref a0, .int x1] [] (cg_M L f e) else cj_res 36 4 [.ref a0, .int x1] [] (cg_M L f e) := by
  refine (g_2 (by decide +kernel : kd_ 36 0 = ((2, 1, 0, []), 1)) rfl).trans ?_
  exact g_33 (by decide +kernel : kd_ 36 1 = ((33, 21, 0, []), 4))
theorem b_Signs_at_4 {L : Nat} {f : cg_G} {e : Nat × Nat} {x1 : Int32} {a0 : Nat} (h1 : sh_ a0 = 6): cj_res 36 4 [.ref a0, .int x1] [] (cg_M L f e) = if (f a0 1) ≤ x1 then cj_res 36 21 [.ref a0, .int x1] [] (cg_M L f e) else cj_res 36 12 [.ref a0, .int x1] [] (cg_M L f e) := by
  refine (g_2 (by decide +kernel : kd_ 36 4 = ((2, 1, 0, []), 5)) rfl).trans ?_
  refine (g_3 (by decide +kernel : kd_ 36 5 = ((3, 0, 0, []), 6)) rfl).trans ?_
  refine (g_50 (v := .int (f a0 1)) (by decide +kernel : kd_ 36 6 = ((50, 6, 1, []), 9)) h1 rfl).trans ?_
  exact g_40 (by decide +kernel : kd_ 36 9 = ((40, 21, 0, []), 12))
theorem b_Signs_at_12 {L : Nat} {f : cg_G} {e : Nat × Nat} {x1 : Int32} {a0 : Nat} (h1 : sh_ a0 = 6) (h2 : cg_in x1 (ln_ L (a0 + 1))): cj_res 36 12 [.ref a0, .int x1] [] (cg_M L f e) = cj_res 36 22 [.ref a0, .int x1] [.int (f (a0 + 1) x1.toNatClampNeg)] (cg_M L f e) := by
  refine (g_3 (by decide +kernel : kd_ 36 12 = ((3, 0, 0, []), 13)) rfl).trans ?_
  refine (g_50 (v := .ref (a0 + 1)) (by decide +kernel : kd_ 36 13 = ((50, 6, 0, []), 16)) h1 rfl).trans ?_
  refine (g_2 (by decide +kernel : kd_ 36 16 = ((2, 1, 0, []), 17)) rfl).trans ?_
  refine (g_54 (v := .int (f (a0 + 1) x1.toNatClampNeg)) (by decide +kernel : kd_ 36 17 = ((54, 1, 0, []), 18)) (sc_6_0 h1) rfl h2 rfl).trans ?_
  refine (g_30 (by decide +kernel : kd_ 36 18 = ((30, 22, 0, []), 21))).trans ?_
  rfl
theorem b_Signs_at_21 {L : Nat} {f : cg_G} {e : Nat × Nat} {x1 : Int32} {a0 : Nat} : cj_res 36 21 [.ref a0, .int x1] [] (cg_M L f e) = cj_res 36 22 [.ref a0, .int x1] [.int (nI 0)] (cg_M L f e) := by
  refine (g_0 (by decide +kernel : kd_ 36 21 = ((0, 0, 0, []), 22))).trans ?_
  rfl
theorem b_Signs_at_22 {L : Nat} {f : cg_G} {e : Nat × Nat} {x1 y0 : Int32} {a0 : Nat} : cj_res 36 22 [.ref a0, .int x1] [.int y0] (cg_M L f e) = some (.inl (some (.int y0)), cg_M L f e) := by
  exact g_90 (by decide +kernel : kd_ 36 22 = ((90, 0, 0, []), 23))
theorem b_Signs_clear_0 {L : Nat} {f : cg_G} {e : Nat × Nat} {a0 : Nat} (h1 : sh_ a0 = 6): cj_res 37 0 [.ref a0] [] (cg_M L f e) = some (.inl none, cg_M L (cg_up f a0 1 (nI 0)) e) := by
  refine (g_3 (by decide +kernel : kd_ 37 0 = ((3, 0, 0, []), 1)) rfl).trans ?_
  refine (g_0 (by decide +kernel : kd_ 37 1 = ((0, 0, 0, []), 2))).trans ?_
  refine (g_51 (x := nI 0) (v := .int (nI 0)) (by decide +kernel : kd_ 37 2 = ((51, 6, 1, [0]), 5)) h1 rfl rfl rfl (sz_6 h1) rfl).trans ?_
  exact g_91 (by decide +kernel : kd_ 37 5 = ((91, 0, 0, []), 6))
theorem b_Signs_placeOf_0 {L : Nat} {f : cg_G} {e : Nat × Nat} {x1 : Int32} {a0 : Nat} {u2 : Value} : cj_res 38 0 [.ref a0, .int x1, u2] [] (cg_M L f e) = cj_res 38 2 [.ref a0, .int x1, .int (nI 0)] [] (cg_M L f e) := by
  refine (g_0 (by decide +kernel : kd_ 38 0 = ((0, 0, 0, []), 1))).trans ?_
  refine (g_4 (ls' := [.ref a0, .int x1, .int (nI 0)]) (by decide +kernel : kd_ 38 1 = ((4, 2, 0, []), 2)) rfl rfl).trans ?_
  rfl
theorem b_Signs_placeOf_2 {L : Nat} {f : cg_G} {e : Nat × Nat} {x1 x2 : Int32} {a0 : Nat} (h1 : sh_ a0 = 6): cj_res 38 2 [.ref a0, .int x1, .int x2] [] (cg_M L f e) = if (f a0 1) ≤ x2 then cj_res 38 28 [.ref a0, .int x1, .int x2] [] (cg_M L f e) else cj_res 38 10 [.ref a0, .int x1, .int x2] [] (cg_M L f e) := by
  refine (g_2 (by decide +kernel : kd_ 38 2 = ((2, 2, 0, []), 3)) rfl).trans ?_
  refine (g_3 (by decide +kernel : kd_ 38 3 = ((3, 0, 0, []), 4)) rfl).trans ?_
  refine (g_50 (v := .int (f a0 1)) (by decide +kernel : kd_ 38 4 = ((50, 6, 1, []), 7)) h1 rfl).trans ?_
  exact g_40 (by decide +kernel : kd_ 38 7 = ((40, 28, 0, []), 10))
theorem b_Signs_placeOf_10 {L : Nat} {f : cg_G} {e : Nat × Nat} {x1 x2 : Int32} {a0 : Nat} (h1 : sh_ a0 = 6) (h2 : cg_in x2 (ln_ L (a0 + 1))): cj_res 38 10 [.ref a0, .int x1, .int x2] [] (cg_M L f e) = if (f (a0 + 1) x2.toNatClampNeg) = x1 then cj_res 38 20 [.ref a0, .int x1, .int x2] [] (cg_M L f e) else cj_res 38 22 [.ref a0, .int x1, .int x2] [] (cg_M L f e) := by
  refine (g_3 (by decide +kernel : kd_ 38 10 = ((3, 0, 0, []), 11)) rfl).trans ?_
  refine (g_50 (v := .ref (a0 + 1)) (by decide +kernel : kd_ 38 11 = ((50, 6, 0, []), 14)) h1 rfl).trans ?_
  refine (g_2 (by decide +kernel : kd_ 38 14 = ((2, 2, 0, []), 15)) rfl).trans ?_
  refine (g_54 (v := .int (f (a0 + 1) x2.toNatClampNeg)) (by decide +kernel : kd_ 38 15 = ((54, 1, 0, []), 16)) (sc_6_0 h1) rfl h2 rfl).trans ?_
  refine (g_2 (by decide +kernel : kd_ 38 16 = ((2, 1, 0, []), 17)) rfl).trans ?_
  exact g_38 (by decide +kernel : kd_ 38 17 = ((38, 22, 0, []), 20))
theorem b_Signs_placeOf_20 {L : Nat} {f : cg_G} {e : Nat × Nat} {x1 x2 : Int32} {a0 : Nat} : cj_res 38 20 [.ref a0, .int x1, .int x2] [] (cg_M L f e) = some (.inl (some (.int x2)), cg_M L f e) := by
  refine (g_2 (by decide +kernel : kd_ 38 20 = ((2, 2, 0, []), 21)) rfl).trans ?_
  exact g_90 (by decide +kernel : kd_ 38 21 = ((90, 0, 0, []), 22))
theorem b_Signs_placeOf_22 {L : Nat} {f : cg_G} {e : Nat × Nat} {x1 x2 : Int32} {a0 : Nat} : cj_res 38 22 [.ref a0, .int x1, .int x2] [] (cg_M L f e) = cj_res 38 2 [.ref a0, .int x1, .int (x2 + nI 1)] [] (cg_M L f e) := by
  refine (g_6 (ls' := [.ref a0, .int x1, .int (x2 + nI 1)]) (by decide +kernel : kd_ 38 22 = ((6, 2, 1, []), 25)) rfl rfl).trans ?_
  refine (g_30 (by decide +kernel : kd_ 38 25 = ((30, 2, 0, []), 28))).trans ?_
  rfl
theorem b_Signs_placeOf_28 {L : Nat} {f : cg_G} {e : Nat × Nat} {x1 x2 : Int32} {a0 : Nat} : cj_res 38 28 [.ref a0, .int x1, .int x2] [] (cg_M L f e) = some (.inl (some (.int (- nI 1))), cg_M L f e) := by
  refine (g_1 (by decide +kernel : kd_ 38 28 = ((1, 1, 0, []), 29))).trans ?_
  exact g_90 (by decide +kernel : kd_ 38 29 = ((90, 0, 0, []), 30))
theorem b_Signs_size_0 {L : Nat} {f : cg_G} {e : Nat × Nat} {a0 : Nat} (h1 : sh_ a0 = 6): cj_res 39 0 [.ref a0] [] (cg_M L f e) = some (.inl (some (.int (f a0 1))), cg_M L f e) := by
  refine (g_3 (by decide +kernel : kd_ 39 0 = ((3, 0, 0, []), 1)) rfl).trans ?_
  refine (g_50 (v := .int (f a0 1)) (by decide +kernel : kd_ 39 1 = ((50, 6, 1, []), 4)) h1 rfl).trans ?_
  exact g_90 (by decide +kernel : kd_ 39 4 = ((90, 0, 0, []), 5))
theorem b_W_cell_0 {L : Nat} {f : cg_G} {e : Nat × Nat} {x1 : Int32} {a0 : Nat} (h1 : sh_ a0 = 100): cj_res 40 0 [.ref a0, .int x1] [] (cg_M L f e) = if (nI (ln_ L a0)) ≤ x1 then cj_res 40 12 [.ref a0, .int x1] [] (cg_M L f e) else cj_res 40 6 [.ref a0, .int x1] [] (cg_M L f e) := by
  refine (g_2 (by decide +kernel : kd_ 40 0 = ((2, 1, 0, []), 1)) rfl).trans ?_
  refine (g_3 (by decide +kernel : kd_ 40 1 = ((3, 0, 0, []), 2)) rfl).trans ?_
  refine (g_53 (by decide +kernel : kd_ 40 2 = ((53, 0, 0, []), 3)) h1 rfl).trans ?_
  exact g_40 (by decide +kernel : kd_ 40 3 = ((40, 12, 0, []), 6))
theorem b_W_cell_6 {L : Nat} {f : cg_G} {e : Nat × Nat} {x1 : Int32} {a0 : Nat} (h1 : sh_ a0 = 100) (h2 : cg_in x1 (ln_ L a0)): cj_res 40 6 [.ref a0, .int x1] [] (cg_M L f e) = cj_res 40 13 [.ref a0, .int x1] [.int (f a0 x1.toNatClampNeg)] (cg_M L f e) := by
  refine (g_3 (by decide +kernel : kd_ 40 6 = ((3, 0, 0, []), 7)) rfl).trans ?_
  refine (g_2 (by decide +kernel : kd_ 40 7 = ((2, 1, 0, []), 8)) rfl).trans ?_
  refine (g_54 (v := .int (f a0 x1.toNatClampNeg)) (by decide +kernel : kd_ 40 8 = ((54, 0, 0, []), 9)) h1 rfl h2 rfl).trans ?_
  refine (g_30 (by decide +kernel : kd_ 40 9 = ((30, 13, 0, []), 12))).trans ?_
  rfl
theorem b_W_cell_12 {L : Nat} {f : cg_G} {e : Nat × Nat} {x1 : Int32} {a0 : Nat} : cj_res 40 12 [.ref a0, .int x1] [] (cg_M L f e) = cj_res 40 13 [.ref a0, .int x1] [.int (nI 0)] (cg_M L f e) := by
  refine (g_0 (by decide +kernel : kd_ 40 12 = ((0, 0, 0, []), 13))).trans ?_
  rfl
theorem b_W_cell_13 {L : Nat} {f : cg_G} {e : Nat × Nat} {x1 y0 : Int32} {a0 : Nat} : cj_res 40 13 [.ref a0, .int x1] [.int y0] (cg_M L f e) = some (.inl (some (.int y0)), cg_M L f e) := by
  exact g_90 (by decide +kernel : kd_ 40 13 = ((90, 0, 0, []), 14))
theorem b_M_addUnit_0 {L : Nat} {f : cg_G} {e : Nat × Nat} {x1 x2 x3 x4 x5 : Int32} {a0 : Nat} {u6 : Value} (h1 : sh_ a0 = 7) (h2 : cg_in x1 2) (h3 : cg_in (((nI 900) * x1) + (f (a0 + 23) x1.toNatClampNeg)) 1800): cj_res 42 0 [.ref a0, .int x1, .int x2, .int x3, .int x4, .int x5, u6] [] (cg_M L f e) = some (.inl none, cg_M L (cg_up (cg_up (cg_up (cg_up (cg_up f (a0 + 24) (((nI 900) * x1) + (f (a0 + 23) x1.toNatClampNeg)).toNatClampNeg x2) (a0 + 25) (((nI 900) * x1) + (f (a0 + 23) x1.toNatClampNeg)).toNatClampNeg x3) (a0 + 26) (((nI 900) * x1) + (f (a0 + 23) x1.toNatClampNeg)).toNatClampNeg x4) (a0 + 27) (((nI 900) * x1) + (f (a0 + 23) x1.toNatClampNeg)).toNatClampNeg x5) (a0 + 23) x1.toNatClampNeg (((cg_up (cg_up (cg_up (cg_up f (a0 + 24) (((nI 900) * x1) + (f (a0 + 23) x1.toNatClampNeg)).toNatClampNeg x2) (a0 + 25) (((nI 900) * x1) + (f (a0 + 23) x1.toNatClampNeg)).toNatClampNeg x3) (a0 + 26) (((nI 900) * x1) + (f (a0 + 23) x1.toNatClampNeg)).toNatClampNeg x4) (a0 + 27) (((nI 900) * x1) + (f (a0 + 23) x1.toNatClampNeg)).toNatClampNeg x5) (a0 + 23) x1.toNatClampNeg) + (nI 1))) e) := by
  refine (g_0 (by decide +kernel : kd_ 42 0 = ((0, 900, 0, []), 3))).trans ?_
  refine (g_2 (by decide +kernel : kd_ 42 3 = ((2, 1, 0, []), 4)) rfl).trans ?_
  refine (g_12 (by decide +kernel : kd_ 42 4 = ((12, 0, 0, []), 5))).trans ?_
  refine (g_3 (by decide +kernel : kd_ 42 5 = ((3, 0, 0, []), 6)) rfl).trans ?_
  refine (g_50 (v := .ref (a0 + 23)) (by decide +kernel : kd_ 42 6 = ((50, 7, 32, []), 9)) h1 rfl).trans ?_
  refine (g_2 (by decide +kernel : kd_ 42 9 = ((2, 1, 0, []), 10)) rfl).trans ?_
  refine (g_54 (v := .int (f (a0 + 23) x1.toNatClampNeg)) (by decide +kernel : kd_ 42 10 = ((54, 0, 0, []), 11)) (sc_7_32 h1) rfl (by rw [sl_7_32 h1]; exact h2) rfl).trans ?_
  refine (g_10 (by decide +kernel : kd_ 42 11 = ((10, 0, 0, []), 12))).trans ?_
  refine (g_4 (ls' := [.ref a0, .int x1, .int x2, .int x3, .int x4, .int x5, .int (((nI 900) * x1) + (f (a0 + 23) x1.toNatClampNeg))]) (by decide +kernel : kd_ 42 12 = ((4, 6, 0, []), 14)) rfl rfl).trans ?_
  refine (g_3 (by decide +kernel : kd_ 42 14 = ((3, 0, 0, []), 15)) rfl).trans ?_
  refine (g_50 (v := .ref (a0 + 24)) (by decide +kernel : kd_ 42 15 = ((50, 7, 33, []), 18)) h1 rfl).trans ?_
  refine (g_2 (by decide +kernel : kd_ 42 18 = ((2, 6, 0, []), 20)) rfl).trans ?_
  refine (g_2 (by decide +kernel : kd_ 42 20 = ((2, 2, 0, []), 21)) rfl).trans ?_
  refine (g_56 (by decide +kernel : kd_ 42 21 = ((56, 0, 0, []), 22)) (sc_7_33 h1) (fun _ => rfl) (by rw [sl_7_33 h1]; exact h3) (by omega)).trans ?_
  refine (g_3 (by decide +kernel : kd_ 42 22 = ((3, 0, 0, []), 23)) rfl).trans ?_
  refine (g_50 (v := .ref (a0 + 25)) (by decide +kernel : kd_ 42 23 = ((50, 7, 34, []), 26)) h1 rfl).trans ?_
  refine (g_2 (by decide +kernel : kd_ 42 26 = ((2, 6, 0, []), 28)) rfl).trans ?_
  refine (g_2 (by decide +kernel : kd_ 42 28 = ((2, 3, 0, []), 29)) rfl).trans ?_
  refine (g_56 (by decide +kernel : kd_ 42 29 = ((56, 0, 0, []), 30)) (sc_7_34 h1) (fun _ => rfl) (by rw [sl_7_34 h1]; exact h3) (by omega)).trans ?_
  refine (g_3 (by decide +kernel : kd_ 42 30 = ((3, 0, 0, []), 31)) rfl).trans ?_
  refine (g_50 (v := .ref (a0 + 26)) (by decide +kernel : kd_ 42 31 = ((50, 7, 35, []), 34)) h1 rfl).trans ?_
  refine (g_2 (by decide +kernel : kd_ 42 34 = ((2, 6, 0, []), 36)) rfl).trans ?_
  refine (g_2 (by decide +kernel : kd_ 42 36 = ((2, 4, 0, []), 38)) rfl).trans ?_
  refine (g_56 (by decide +kernel : kd_ 42 38 = ((56, 0, 0, []), 39)) (sc_7_35 h1) (fun _ => rfl) (by rw [sl_7_35 h1]; exact h3) (by omega)).trans ?_
  refine (g_3 (by decide +kernel : kd_ 42 39 = ((3, 0, 0, []), 40)) rfl).trans ?_
  refine (g_50 (v := .ref (a0 + 27)) (by decide +kernel : kd_ 42 40 = ((50, 7, 36, []), 43)) h1 rfl).trans ?_
  refine (g_2 (by decide +kernel : kd_ 42 43 = ((2, 6, 0, []), 45)) rfl).trans ?_
  refine (g_2 (by decide +kernel : kd_ 42 45 = ((2, 5, 0, []), 47)) rfl).trans ?_
  refine (g_56 (by decide +kernel : kd_ 42 47 = ((56, 0, 0, []), 48)) (sc_7_36 h1) (fun _ => rfl) (by rw [sl_7_36 h1]; exact h3) (by omega)).trans ?_
  refine (g_3 (by decide +kernel : kd_ 42 48 = ((3, 0, 0, []), 49)) rfl).trans ?_
  refine (g_50 (v := .ref (a0 + 23)) (by decide +kernel : kd_ 42 49 = ((50, 7, 32, []), 52)) h1 rfl).trans ?_
  refine (g_2 (by decide +kernel : kd_ 42 52 = ((2, 1, 0, []), 53)) rfl).trans ?_
  refine (g_28 (by decide +kernel : kd_ 42 53 = ((28, 0, 0, []), 54)) rfl rfl).trans ?_
  refine (g_54 (v := .int ((cg_up (cg_up (cg_up (cg_up f (a0 + 24) (((nI 900) * x1) + (f (a0 + 23) x1.toNatClampNeg)).toNatClampNeg x2) (a0 + 25) (((nI 900) * x1) + (f (a0 + 23) x1.toNatClampNeg)).toNatClampNeg x3) (a0 + 26) (((nI 900) * x1) + (f (a0 + 23) x1.toNatClampNeg)).toNatClampNeg x4) (a0 + 27) (((nI 900) * x1) + (f (a0 + 23) x1.toNatClampNeg)).toNatClampNeg x5) (a0 + 23) x1.toNatClampNeg)) (by decide +kernel : kd_ 42 54 = ((54, 0, 0, []), 55)) (sc_7_32 h1) rfl (by rw [sl_7_32 h1]; exact h2) rfl).trans ?_
  refine (g_0 (by decide +kernel : kd_ 42 55 = ((0, 1, 0, []), 56))).trans ?_
  refine (g_10 (by decide +kernel : kd_ 42 56 = ((10, 0, 0, []), 57))).trans ?_
  refine (g_56 (by decide +kernel : kd_ 42 57 = ((56, 0, 0, []), 58)) (sc_7_32 h1) (fun _ => rfl) (by rw [sl_7_32 h1]; exact h2) (by omega)).trans ?_
  exact g_91 (by decide +kernel : kd_ 42 58 = ((91, 0, 0, []), 59))
theorem b_M_arePlain_0 {L : Nat} {f : cg_G} {e : Nat × Nat} {x0 : Int32} {u1 u2 u3 : Value} : cj_res 43 0 [.int x0, u1, u2, u3] [] (cg_M L f e) = cj_res 43 4 [.int x0, .int (nI 1), .int (nI 0), u3] [] (cg_M L f e) := by
  refine (g_0 (by decide +kernel : kd_ 43 0 = ((0, 1, 0, []), 1))).trans ?_
  refine (g_4 (ls' := [.int x0, .int (nI 1), u2, u3]) (by decide +kernel : kd_ 43 1 = ((4, 1, 0, []), 2)) rfl rfl).trans ?_
  refine (g_0 (by decide +kernel : kd_ 43 2 = ((0, 0, 0, []), 3))).trans ?_
  refine (g_4 (ls' := [.int x0, .int (nI 1), .int (nI 0), u3]) (by decide +kernel : kd_ 43 3 = ((4, 2, 0, []), 4)) rfl rfl).trans ?_
  rfl
theorem b_M_arePlain_4 {L : Nat} {f : cg_G} {e : Nat × Nat} {x0 x1 x2 : Int32} {u3 : Value} : cj_res 43 4 [.int x0, .int x1, .int x2, u3] [] (cg_M L f e) = if (nI 4) ≤ x2 then cj_res 43 52 [.int x0, .int x1, .int x2, u3] [] (cg_M L f e) else cj_res 43 9 [.int x0, .int x1, .int x2, u3] [] (cg_M L f e) := by
  refine (g_2 (by decide +kernel : kd_ 43 4 = ((2, 2, 0, []), 5)) rfl).trans ?_
  refine (g_0 (by decide +kernel : kd_ 43 5 = ((0, 4, 0, []), 6))).trans ?_
  exact g_40 (by decide +kernel : kd_ 43 6 = ((40, 52, 0, []), 9))
theorem b_M_arePlain_9 {L : Nat} {f : cg_G} {e : Nat × Nat} {x0 x1 x2 : Int32} {u3 : Value} : cj_res 43 9 [.int x0, .int x1, .int x2, u3] [] (cg_M L f e) = if x1 = 0 then cj_res 43 44 [.int x0, .int x1, .int x2, .int (((x0.toUInt32 >>> (((nI 8) * x2).toUInt32 &&& Int32.toUInt32 31)).toInt32) &&& (nI 255))] [] (cg_M L f e) else cj_res 43 24 [.int x0, .int x1, .int x2, .int (((x0.toUInt32 >>> (((nI 8) * x2).toUInt32 &&& Int32.toUInt32 31)).toInt32) &&& (nI 255))] [] (cg_M L f e) := by
  refine (g_2 (by decide +kernel : kd_ 43 9 = ((2, 0, 0, []), 10)) rfl).trans ?_
  refine (g_0 (by decide +kernel : kd_ 43 10 = ((0, 8, 0, []), 12))).trans ?_
  refine (g_2 (by decide +kernel : kd_ 43 12 = ((2, 2, 0, []), 13)) rfl).trans ?_
  refine (g_12 (by decide +kernel : kd_ 43 13 = ((12, 0, 0, []), 14))).trans ?_
  refine (g_18 (by decide +kernel : kd_ 43 14 = ((18, 0, 0, []), 15))).trans ?_
  refine (g_0 (by decide +kernel : kd_ 43 15 = ((0, 255, 0, []), 18))).trans ?_
  refine (g_19 (by decide +kernel : kd_ 43 18 = ((19, 0, 0, []), 19))).trans ?_
  refine (g_4 (ls' := [.int x0, .int x1, .int x2, .int (((x0.toUInt32 >>> (((nI 8) * x2).toUInt32 &&& Int32.toUInt32 31)).toInt32) &&& (nI 255))]) (by decide +kernel : kd_ 43 19 = ((4, 3, 0, []), 20)) rfl rfl).trans ?_
  refine (g_2 (by decide +kernel : kd_ 43 20 = ((2, 1, 0, []), 21)) rfl).trans ?_
  exact g_31 (by decide +kernel : kd_ 43 21 = ((31, 44, 0, []), 24))
theorem b_M_arePlain_24 {L : Nat} {f : cg_G} {e : Nat × Nat} {x0 x1 x2 x3 : Int32} : cj_res 43 24 [.int x0, .int x1, .int x2, .int x3] [] (cg_M L f e) = if x3 = 0 then cj_res 43 40 [.int x0, .int x1, .int x2, .int x3] [] (cg_M L f e) else cj_res 43 28 [.int x0, .int x1, .int x2, .int x3] [] (cg_M L f e) := by
  refine (g_2 (by decide +kernel : kd_ 43 24 = ((2, 3, 0, []), 25)) rfl).trans ?_
  exact g_31 (by decide +kernel : kd_ 43 25 = ((31, 40, 0, []), 28))
theorem b_M_arePlain_28 {L : Nat} {f : cg_G} {e : Nat × Nat} {x0 x1 x2 x3 : Int32} : cj_res 43 28 [.int x0, .int x1, .int x2, .int x3] [] (cg_M L f e) = if x3 < (nI 32) then cj_res 43 44 [.int x0, .int x1, .int x2, .int x3] [] (cg_M L f e) else cj_res 43 34 [.int x0, .int x1, .int x2, .int x3] [] (cg_M L f e) := by
  refine (g_2 (by decide +kernel : kd_ 43 28 = ((2, 3, 0, []), 29)) rfl).trans ?_
  refine (g_0 (by decide +kernel : kd_ 43 29 = ((0, 32, 0, []), 31))).trans ?_
  exact g_39 (by decide +kernel : kd_ 43 31 = ((39, 44, 0, []), 34))
theorem b_M_arePlain_34 {L : Nat} {f : cg_G} {e : Nat × Nat} {x0 x1 x2 x3 : Int32} : cj_res 43 34 [.int x0, .int x1, .int x2, .int x3] [] (cg_M L f e) = if (nI 126) < x3 then cj_res 43 44 [.int x0, .int x1, .int x2, .int x3] [] (cg_M L f e) else cj_res 43 40 [.int x0, .int x1, .int x2, .int x3] [] (cg_M L f e) := by
  refine (g_2 (by decide +kernel : kd_ 43 34 = ((2, 3, 0, []), 35)) rfl).trans ?_
  refine (g_0 (by decide +kernel : kd_ 43 35 = ((0, 126, 0, []), 37))).trans ?_
  exact g_41 (by decide +kernel : kd_ 43 37 = ((41, 44, 0, []), 40))
theorem b_M_arePlain_40 {L : Nat} {f : cg_G} {e : Nat × Nat} {x0 x1 x2 x3 : Int32} : cj_res 43 40 [.int x0, .int x1, .int x2, .int x3] [] (cg_M L f e) = cj_res 43 45 [.int x0, .int x1, .int x2, .int x3] [.int (nI 1)] (cg_M L f e) := by
  refine (g_0 (by decide +kernel : kd_ 43 40 = ((0, 1, 0, []), 41))).trans ?_
  refine (g_30 (by decide +kernel : kd_ 43 41 = ((30, 45, 0, []), 44))).trans ?_
  rfl
theorem b_M_arePlain_44 {L : Nat} {f : cg_G} {e : Nat × Nat} {x0 x1 x2 x3 : Int32} : cj_res 43 44 [.int x0, .int x1, .int x2, .int x3] [] (cg_M L f e) = cj_res 43 45 [.int x0, .int x1, .int x2, .int x3] [.int (nI 0)] (cg_M L f e) := by
  refine (g_0 (by decide +kernel : kd_ 43 44 = ((0, 0, 0, []), 45))).trans ?_
  rfl
theorem b_M_arePlain_45 {L : Nat} {f : cg_G} {e : Nat × Nat} {x0 x1 x2 x3 y0 : Int32} : cj_res 43 45 [.int x0, .int x1, .int x2, .int x3] [.int y0] (cg_M L f e) = cj_res 43 4 [.int x0, .int y0, .int (x2 + nI 1), .int x3] [] (cg_M L f e) := by
  refine (g_4 (ls' := [.int x0, .int y0, .int x2, .int x3]) (by decide +kernel : kd_ 43 45 = ((4, 1, 0, []), 46)) rfl rfl).trans ?_
  refine (g_6 (ls' := [.int x0, .int y0, .int (x2 + nI 1), .int x3]) (by decide +kernel : kd_ 43 46 = ((6, 2, 1, []), 49)) rfl rfl).trans ?_
  refine (g_30 (by decide +kernel : kd_ 43 49 = ((30, 4, 0, []), 52))).trans ?_
  rfl
theorem b_M_arePlain_52 {L : Nat} {f : cg_G} {e : Nat × Nat} {x0 x1 x2 : Int32} {u3 : Value} (h1 : x1 = 0 ∨ x1 = 1): cj_res 43 52 [.int x0, .int x1, .int x2, u3] [] (cg_M L f e) = some (.inl (some (.int x1)), cg_M L f e) := by
  refine (g_2 (by decide +kernel : kd_ 43 52 = ((2, 1, 0, []), 53)) rfl).trans ?_
  exact g_93 (by decide +kernel : kd_ 43 53 = ((93, 0, 0, []), 54)) h1
theorem b_M_below_0 {L : Nat} {f : cg_G} {e : Nat × Nat} {x0 x1 : Int32} : cj_res 44 0 [.int x0, .int x1] [] (cg_M L f e) = if x0 < 0 then cj_res 44 13 [.int x0, .int x1] [] (cg_M L f e) else cj_res 44 4 [.int x0, .int x1] [] (cg_M L f e) := by
  refine (g_2 (by decide +kernel : kd_ 44 0 = ((2, 0, 0, []), 1)) rfl).trans ?_
  exact g_33 (by decide +kernel : kd_ 44 1 = ((33, 13, 0, []), 4))
theorem b_M_below_4 {L : Nat} {f : cg_G} {e : Nat × Nat} {x0 x1 : Int32} : cj_res 44 4 [.int x0, .int x1] [] (cg_M L f e) = if x1 ≤ x0 then cj_res 44 13 [.int x0, .int x1] [] (cg_M L f e) else cj_res 44 9 [.int x0, .int x1] [] (cg_M L f e) := by
  refine (g_2 (by decide +kernel : kd_ 44 4 = ((2, 0, 0, []), 5)) rfl).trans ?_
  refine (g_2 (by decide +kernel : kd_ 44 5 = ((2, 1, 0, []), 6)) rfl).trans ?_
  exact g_40 (by decide +kernel : kd_ 44 6 = ((40, 13, 0, []), 9))
theorem b_M_below_9 {L : Nat} {f : cg_G} {e : Nat × Nat} {x0 x1 : Int32} : cj_res 44 9 [.int x0, .int x1] [] (cg_M L f e) = cj_res 44 14 [.int x0, .int x1] [.int (nI 1)] (cg_M L f e) := by
  refine (g_0 (by decide +kernel : kd_ 44 9 = ((0, 1, 0, []), 10))).trans ?_
  refine (g_30 (by decide +kernel : kd_ 44 10 = ((30, 14, 0, []), 13))).trans ?_
  rfl
theorem b_M_below_13 {L : Nat} {f : cg_G} {e : Nat × Nat} {x0 x1 : Int32} : cj_res 44 13 [.int x0, .int x1] [] (cg_M L f e) = cj_res 44 14 [.int x0, .int x1] [.int (nI 0)] (cg_M L f e) := by
  refine (g_0 (by decide +kernel : kd_ 44 13 = ((0, 0, 0, []), 14))).trans ?_
  rfl
theorem b_M_below_14 {L : Nat} {f : cg_G} {e : Nat × Nat} {x0 x1 y0 : Int32} (h1 : y0 = 0 ∨ y0 = 1): cj_res 44 14 [.int x0, .int x1] [.int y0] (cg_M L f e) = some (.inl (some (.int y0)), cg_M L f e) := by
  exact g_93 (by decide +kernel : kd_ 44 14 = ((93, 0, 0, []), 15)) h1
theorem b_M_endOf_0 {L : Nat} {f : cg_G} {e : Nat × Nat} {x1 x2 : Int32} {a0 : Nat} {u3 : Value} : cj_res 45 0 [.ref a0, .int x1, .int x2, u3] [] (cg_M L f e) = cj_res 45 2 [.ref a0, .int x1, .int x2, .int x2] [] (cg_M L f e) := by
  refine (g_2 (by decide +kernel : kd_ 45 0 = ((2, 2, 0, []), 1)) rfl).trans ?_
  refine (g_4 (ls' := [.ref a0, .int x1, .int x2, .int x2]) (by decide +kernel : kd_ 45 1 = ((4, 3, 0, []), 2)) rfl rfl).trans ?_
  rfl
theorem b_M_endOf_2 {L : Nat} {f : cg_G} {e : Nat × Nat} {x1 x2 x3 : Int32} {a0 : Nat} (h1 : sh_ a0 = 7) (h2 : cg_in (((nI 32) * x1) + x3) 192): cj_res 45 2 [.ref a0, .int x1, .int x2, .int x3] [] (cg_M L f e) = if (f (a0 + 3) (((nI 32) * x1) + x3).toNatClampNeg) = (nI 93) then cj_res 45 24 [.ref a0, .int x1, .int x2, .int x3] [] (cg_M L f e) else cj_res 45 18 [.ref a0, .int x1, .int x2, .int x3] [] (cg_M L f e) := by
  refine (g_3 (by decide +kernel : kd_ 45 2 = ((3, 0, 0, []), 3)) rfl).trans ?_
  refine (g_50 (v := .ref (a0 + 3)) (by decide +kernel : kd_ 45 3 = ((50, 7, 7, []), 6)) h1 rfl).trans ?_
  refine (g_0 (by decide +kernel : kd_ 45 6 = ((0, 32, 0, []), 8))).trans ?_
  refine (g_2 (by decide +kernel : kd_ 45 8 = ((2, 1, 0, []), 9)) rfl).trans ?_
  refine (g_12 (by decide +kernel : kd_ 45 9 = ((12, 0, 0, []), 10))).trans ?_
  refine (g_2 (by decide +kernel : kd_ 45 10 = ((2, 3, 0, []), 11)) rfl).trans ?_
  refine (g_10 (by decide +kernel : kd_ 45 11 = ((10, 0, 0, []), 12))).trans ?_
  refine (g_54 (v := .int (f (a0 + 3) (((nI 32) * x1) + x3).toNatClampNeg)) (by decide +kernel : kd_ 45 12 = ((54, 0, 0, []), 13)) (sc_7_7 h1) rfl (by rw [sl_7_7 h1]; exact h2) rfl).trans ?_
  refine (g_0 (by decide +kernel : kd_ 45 13 = ((0, 93, 0, []), 15))).trans ?_
  exact g_37 (by decide +kernel : kd_ 45 15 = ((37, 24, 0, []), 18))
theorem b_M_endOf_18 {L : Nat} {f : cg_G} {e : Nat × Nat} {x1 x2 x3 : Int32} {a0 : Nat} : cj_res 45 18 [.ref a0, .int x1, .int x2, .int x3] [] (cg_M L f e) = cj_res 45 2 [.ref a0, .int x1, .int x2, .int (x3 + nI 1)] [] (cg_M L f e) := by
  refine (g_6 (ls' := [.ref a0, .int x1, .int x2, .int (x3 + nI 1)]) (by decide +kernel : kd_ 45 18 = ((6, 3, 1, []), 21)) rfl rfl).trans ?_
  refine (g_30 (by decide +kernel : kd_ 45 21 = ((30, 2, 0, []), 24))).trans ?_
  rfl
theorem b_M_endOf_24 {L : Nat} {f : cg_G} {e : Nat × Nat} {x1 x2 x3 : Int32} {a0 : Nat} : cj_res 45 24 [.ref a0, .int x1, .int x2, .int x3] [] (cg_M L f e) = some (.inl (some (.int x3)), cg_M L f e) := by
  refine (g_2 (by decide +kernel : kd_ 45 24 = ((2, 3, 0, []), 25)) rfl).trans ?_
  exact g_90 (by decide +kernel : kd_ 45 25 = ((90, 0, 0, []), 26))
theorem b_M_goes_0 {L : Nat} {f : cg_G} {e : Nat × Nat} {x1 x2 : Int32} {a0 : Nat} : cj_res 46 0 [.ref a0, .int x1, .int x2] [] (cg_M L f e) = if x1 = 0 then cj_res 46 5 [.ref a0, .int x1, .int x2] [.ref a0] (cg_M L f e) else cj_res 46 9 [.ref a0, .int x1, .int x2] [.ref a0] (cg_M L f e) := by
  refine (g_3 (by decide +kernel : kd_ 46 0 = ((3, 0, 0, []), 1)) rfl).trans ?_
  refine (g_2 (by decide +kernel : kd_ 46 1 = ((2, 1, 0, []), 2)) rfl).trans ?_
  exact g_32 (by decide +kernel : kd_ 46 2 = ((32, 9, 0, []), 5))
theorem b_M_goes_5 {L : Nat} {f : cg_G} {e : Nat × Nat} {x1 x2 : Int32} {a0 c0 : Nat} : cj_res 46 5 [.ref a0, .int x1, .int x2] [.ref c0] (cg_M L f e) = cj_res 46 18 [.ref a0, .int x1, .int x2] [.int (nI 1), .ref c0] (cg_M L f e) := by
  refine (g_0 (by decide +kernel : kd_ 46 5 = ((0, 1, 0, []), 6))).trans ?_
  refine (g_30 (by decide +kernel : kd_ 46 6 = ((30, 18, 0, []), 9))).trans ?_
  rfl
theorem b_M_goes_9 {L : Nat} {f : cg_G} {e : Nat × Nat} {x1 x2 : Int32} {a0 c0 : Nat} : cj_res 46 9 [.ref a0, .int x1, .int x2] [.ref c0] (cg_M L f e) = if x2 = 0 then cj_res 46 13 [.ref a0, .int x1, .int x2] [.ref c0] (cg_M L f e) else cj_res 46 17 [.ref a0, .int x1, .int x2] [.ref c0] (cg_M L f e) := by
  refine (g_2 (by decide +kernel : kd_ 46 9 = ((2, 2, 0, []), 10)) rfl).trans ?_
  exact g_32 (by decide +kernel : kd_ 46 10 = ((32, 17, 0, []), 13))
theorem b_M_goes_13 {L : Nat} {f : cg_G} {e : Nat × Nat} {x1 x2 : Int32} {a0 c0 : Nat} : cj_res 46 13 [.ref a0, .int x1, .int x2] [.ref c0] (cg_M L f e) = cj_res 46 18 [.ref a0, .int x1, .int x2] [.int (nI 2), .ref c0] (cg_M L f e) := by
  refine (g_0 (by decide +kernel : kd_ 46 13 = ((0, 2, 0, []), 14))).trans ?_
  refine (g_30 (by decide +kernel : kd_ 46 14 = ((30, 18, 0, []), 17))).trans ?_
  rfl
theorem b_M_goes_17 {L : Nat} {f : cg_G} {e : Nat × Nat} {x1 x2 : Int32} {a0 c0 : Nat} : cj_res 46 17 [.ref a0, .int x1, .int x2] [.ref c0] (cg_M L f e) = cj_res 46 18 [.ref a0, .int x1, .int x2] [.int (nI 0), .ref c0] (cg_M L f e) := by
  refine (g_0 (by decide +kernel : kd_ 46 17 = ((0, 0, 0, []), 18))).trans ?_
  rfl
theorem b_M_goes_18 {L : Nat} {f : cg_G} {e : Nat × Nat} {x1 x2 y0 : Int32} {a0 c1 : Nat} (h1 : sh_ c1 = 7) (h2 : sh_ a0 = 7): cj_res 46 18 [.ref a0, .int x1, .int x2] [.int y0, .ref c1] (cg_M L f e) = if ((cg_up f c1 2 y0) a0 2) = 0 then cj_res 46 28 [.ref a0, .int x1, .int x2] [] (cg_M L (cg_up f c1 2 y0) e) else cj_res 46 32 [.ref a0, .int x1, .int x2] [] (cg_M L (cg_up f c1 2 y0) e) := by
  refine (g_51 (x := y0) (v := .int y0) (by decide +kernel : kd_ 46 18 = ((51, 7, 2, [0]), 21)) h1 rfl rfl rfl (sz_7 h1) rfl).trans ?_
  refine (g_3 (by decide +kernel : kd_ 46 21 = ((3, 0, 0, []), 22)) rfl).trans ?_
  refine (g_50 (v := .int ((cg_up f c1 2 y0) a0 2)) (by decide +kernel : kd_ 46 22 = ((50, 7, 2, []), 25)) h2 rfl).trans ?_
  exact g_32 (by decide +kernel : kd_ 46 25 = ((32, 32, 0, []), 28))
theorem b_M_goes_28 {L : Nat} {f : cg_G} {e : Nat × Nat} {x1 x2 : Int32} {a0 : Nat} : cj_res 46 28 [.ref a0, .int x1, .int x2] [] (cg_M L f e) = cj_res 46 33 [.ref a0, .int x1, .int x2] [.int (nI 1)] (cg_M L f e) := by
  refine (g_0 (by decide +kernel : kd_ 46 28 = ((0, 1, 0, []), 29))).trans ?_
  refine (g_30 (by decide +kernel : kd_ 46 29 = ((30, 33, 0, []), 32))).trans ?_
  rfl
theorem b_M_goes_32 {L : Nat} {f : cg_G} {e : Nat × Nat} {x1 x2 : Int32} {a0 : Nat} : cj_res 46 32 [.ref a0, .int x1, .int x2] [] (cg_M L f e) = cj_res 46 33 [.ref a0, .int x1, .int x2] [.int (nI 0)] (cg_M L f e) := by
  refine (g_0 (by decide +kernel : kd_ 46 32 = ((0, 0, 0, []), 33))).trans ?_
  rfl
theorem b_M_goes_33 {L : Nat} {f : cg_G} {e : Nat × Nat} {x1 x2 y0 : Int32} {a0 : Nat} (h1 : y0 = 0 ∨ y0 = 1): cj_res 46 33 [.ref a0, .int x1, .int x2] [.int y0] (cg_M L f e) = some (.inl (some (.int y0)), cg_M L f e) := by
  exact g_93 (by decide +kernel : kd_ 46 33 = ((93, 0, 0, []), 34)) h1
theorem b_M_hasEmpty_0 {L : Nat} {f : cg_G} {e : Nat × Nat} {x1 x2 x3 x4 : Int32} {a0 : Nat} {u5 u6 : Value} : cj_res 47 0 [.ref a0, .int x1, .int x2, .int x3, .int x4, u5, u6] [] (cg_M L f e) = cj_res 47 6 [.ref a0, .int x1, .int x2, .int x3, .int x4, .int (nI 0), .int x3] [] (cg_M L f e) := by
  refine (g_0 (by decide +kernel : kd_ 47 0 = ((0, 0, 0, []), 1))).trans ?_
  refine (g_4 (ls' := [.ref a0, .int x1, .int x2, .int x3, .int x4, .int (nI 0), u6]) (by decide +kernel : kd_ 47 1 = ((4, 5, 0, []), 3)) rfl rfl).trans ?_
  refine (g_2 (by decide +kernel : kd_ 47 3 = ((2, 3, 0, []), 4)) rfl).trans ?_
  refine (g_4 (ls' := [.ref a0, .int x1, .int x2, .int x3, .int x4, .int (nI 0), .int x3]) (by decide +kernel : kd_ 47 4 = ((4, 6, 0, []), 6)) rfl rfl).trans ?_
  rfl
theorem b_M_hasEmpty_6 {L : Nat} {f : cg_G} {e : Nat × Nat} {x1 x2 x3 x4 x5 x6 : Int32} {a0 : Nat} : cj_res 47 6 [.ref a0, .int x1, .int x2, .int x3, .int x4, .int x5, .int x6] [] (cg_M L f e) = if x4 ≤ x6 then cj_res 47 77 [.ref a0, .int x1, .int x2, .int x3, .int x4, .int x5, .int x6] [] (cg_M L f e) else cj_res 47 13 [.ref a0, .int x1, .int x2, .int x3, .int x4, .int x5, .int x6] [] (cg_M L f e) := by
  refine (g_2 (by decide +kernel : kd_ 47 6 = ((2, 6, 0, []), 8)) rfl).trans ?_
  refine (g_2 (by decide +kernel : kd_ 47 8 = ((2, 4, 0, []), 10)) rfl).trans ?_
  exact g_40 (by decide +kernel : kd_ 47 10 = ((40, 77, 0, []), 13))
theorem b_M_hasEmpty_13 {L : Nat} {f : cg_G} {e : Nat × Nat} {x1 x2 x3 x4 x5 x6 : Int32} {a0 : Nat} : cj_res 47 13 [.ref a0, .int x1, .int x2, .int x3, .int x4, .int x5, .int x6] [] (cg_M L f e) = if x5 = 0 then cj_res 47 18 [.ref a0, .int x1, .int x2, .int x3, .int x4, .int x5, .int x6] [] (cg_M L f e) else cj_res 47 64 [.ref a0, .int x1, .int x2, .int x3, .int x4, .int x5, .int x6] [] (cg_M L f e) := by
  refine (g_2 (by decide +kernel : kd_ 47 13 = ((2, 5, 0, []), 15)) rfl).trans ?_
  exact g_32 (by decide +kernel : kd_ 47 15 = ((32, 64, 0, []), 18))
theorem b_M_hasEmpty_18 {L : Nat} {f : cg_G} {e : Nat × Nat} {x1 x2 x3 x4 x5 x6 : Int32} {a0 : Nat} (h1 : sh_ a0 = 7) (h2 : cg_in (((nI 32) * x2) + x6) 192): cj_res 47 18 [.ref a0, .int x1, .int x2, .int x3, .int x4, .int x5, .int x6] [] (cg_M L f e) = if (f (a0 + 3) (((nI 32) * x2) + x6).toNatClampNeg) = (nI 35) then cj_res 47 35 [.ref a0, .int x1, .int x2, .int x3, .int x4, .int x5, .int x6] [] (cg_M L f e) else cj_res 47 68 [.ref a0, .int x1, .int x2, .int x3, .int x4, .int x5, .int x6] [] (cg_M L f e) := by
  refine (g_3 (by decide +kernel : kd_ 47 18 = ((3, 0, 0, []), 19)) rfl).trans ?_
  refine (g_50 (v := .ref (a0 + 3)) (by decide +kernel : kd_ 47 19 = ((50, 7, 7, []), 22)) h1 rfl).trans ?_
  refine (g_0 (by decide +kernel : kd_ 47 22 = ((0, 32, 0, []), 24))).trans ?_
  refine (g_2 (by decide +kernel : kd_ 47 24 = ((2, 2, 0, []), 25)) rfl).trans ?_
  refine (g_12 (by decide +kernel : kd_ 47 25 = ((12, 0, 0, []), 26))).trans ?_
  refine (g_2 (by decide +kernel : kd_ 47 26 = ((2, 6, 0, []), 28)) rfl).trans ?_
  refine (g_10 (by decide +kernel : kd_ 47 28 = ((10, 0, 0, []), 29))).trans ?_
  refine (g_54 (v := .int (f (a0 + 3) (((nI 32) * x2) + x6).toNatClampNeg)) (by decide +kernel : kd_ 47 29 = ((54, 0, 0, []), 30)) (sc_7_7 h1) rfl (by rw [sl_7_7 h1]; exact h2) rfl).trans ?_
  refine (g_0 (by decide +kernel : kd_ 47 30 = ((0, 35, 0, []), 32))).trans ?_
  exact g_38 (by decide +kernel : kd_ 47 32 = ((38, 68, 0, []), 35))
theorem b_M_hasEmpty_35 {L : Nat} {f : cg_G} {e : Nat × Nat} {x1 x2 x3 x4 x5 x6 : Int32} {a0 : Nat} (h1 : sh_ a0 = 7) (h2 : cg_in ((((nI 32) * x2) + x6) + (nI 1)) 192) (h3 : cg_in ((((nI 4) * x1) + (f (a0 + 3) ((((nI 32) * x2) + x6) + (nI 1)).toNatClampNeg)) - (nI 48)) 32): cj_res 47 35 [.ref a0, .int x1, .int x2, .int x3, .int x4, .int x5, .int x6] [] (cg_M L f e) = if (f (a0 + 5) ((((nI 4) * x1) + (f (a0 + 3) ((((nI 32) * x2) + x6) + (nI 1)).toNatClampNeg)) - (nI 48)).toNatClampNeg) = 0 then cj_res 47 64 [.ref a0, .int x1, .int x2, .int x3, .int x4, .int x5, .int x6] [] (cg_M L f e) else cj_res 47 68 [.ref a0, .int x1, .int x2, .int x3, .int x4, .int x5, .int x6] [] (cg_M L f e) := by
  refine (g_3 (by decide +kernel : kd_ 47 35 = ((3, 0, 0, []), 36)) rfl).trans ?_
  refine (g_50 (v := .ref (a0 + 5)) (by decide +kernel : kd_ 47 36 = ((50, 7, 10, []), 39)) h1 rfl).trans ?_
  refine (g_0 (by decide +kernel : kd_ 47 39 = ((0, 4, 0, []), 40))).trans ?_
  refine (g_2 (by decide +kernel : kd_ 47 40 = ((2, 1, 0, []), 41)) rfl).trans ?_
  refine (g_12 (by decide +kernel : kd_ 47 41 = ((12, 0, 0, []), 42))).trans ?_
  refine (g_3 (by decide +kernel : kd_ 47 42 = ((3, 0, 0, []), 43)) rfl).trans ?_
  refine (g_50 (v := .ref (a0 + 3)) (by decide +kernel : kd_ 47 43 = ((50, 7, 7, []), 46)) h1 rfl).trans ?_
  refine (g_0 (by decide +kernel : kd_ 47 46 = ((0, 32, 0, []), 48))).trans ?_
  refine (g_2 (by decide +kernel : kd_ 47 48 = ((2, 2, 0, []), 49)) rfl).trans ?_
  refine (g_12 (by decide +kernel : kd_ 47 49 = ((12, 0, 0, []), 50))).trans ?_
  refine (g_2 (by decide +kernel : kd_ 47 50 = ((2, 6, 0, []), 52)) rfl).trans ?_
  refine (g_10 (by decide +kernel : kd_ 47 52 = ((10, 0, 0, []), 53))).trans ?_
  refine (g_0 (by decide +kernel : kd_ 47 53 = ((0, 1, 0, []), 54))).trans ?_
  refine (g_10 (by decide +kernel : kd_ 47 54 = ((10, 0, 0, []), 55))).trans ?_
  refine (g_54 (v := .int (f (a0 + 3) ((((nI 32) * x2) + x6) + (nI 1)).toNatClampNeg)) (by decide +kernel : kd_ 47 55 = ((54, 0, 0, []), 56)) (sc_7_7 h1) rfl (by rw [sl_7_7 h1]; exact h2) rfl).trans ?_
  refine (g_10 (by decide +kernel : kd_ 47 56 = ((10, 0, 0, []), 57))).trans ?_
  refine (g_0 (by decide +kernel : kd_ 47 57 = ((0, 48, 0, []), 59))).trans ?_
  refine (g_11 (by decide +kernel : kd_ 47 59 = ((11, 0, 0, []), 60))).trans ?_
  refine (g_54 (v := .int (f (a0 + 5) ((((nI 4) * x1) + (f (a0 + 3) ((((nI 32) * x2) + x6) + (nI 1)).toNatClampNeg)) - (nI 48)).toNatClampNeg)) (by decide +kernel : kd_ 47 60 = ((54, 0, 0, []), 61)) (sc_7_10 h1) rfl (by rw [sl_7_10 h1]; exact h3) rfl).trans ?_
  exact g_32 (by decide +kernel : kd_ 47 61 = ((32, 68, 0, []), 64))
theorem b_M_hasEmpty_64 {L : Nat} {f : cg_G} {e : Nat × Nat} {x1 x2 x3 x4 x5 x6 : Int32} {a0 : Nat} : cj_res 47 64 [.ref a0, .int x1, .int x2, .int x3, .int x4, .int x5, .int x6] [] (cg_M L f e) = cj_res 47 69 [.ref a0, .int x1, .int x2, .int x3, .int x4, .int x5, .int x6] [.int (nI 1)] (cg_M L f e) := by
  refine (g_0 (by decide +kernel : kd_ 47 64 = ((0, 1, 0, []), 65))).trans ?_
  refine (g_30 (by decide +kernel : kd_ 47 65 = ((30, 69, 0, []), 68))).trans ?_
  rfl
theorem b_M_hasEmpty_68 {L : Nat} {f : cg_G} {e : Nat × Nat} {x1 x2 x3 x4 x5 x6 : Int32} {a0 : Nat} : cj_res 47 68 [.ref a0, .int x1, .int x2, .int x3, .int x4, .int x5, .int x6] [] (cg_M L f e) = cj_res 47 69 [.ref a0, .int x1, .int x2, .int x3, .int x4, .int x5, .int x6] [.int (nI 0)] (cg_M L f e) := by
  refine (g_0 (by decide +kernel : kd_ 47 68 = ((0, 0, 0, []), 69))).trans ?_
  rfl
theorem b_M_hasEmpty_69 {L : Nat} {f : cg_G} {e : Nat × Nat} {x1 x2 x3 x4 x5 x6 y0 : Int32} {a0 : Nat} : cj_res 47 69 [.ref a0, .int x1, .int x2, .int x3, .int x4, .int x5, .int x6] [.int y0] (cg_M L f e) = cj_res 47 6 [.ref a0, .int x1, .int x2, .int x3, .int x4, .int y0, .int (x6 + nI 1)] [] (cg_M L f e) := by
  refine (g_4 (ls' := [.ref a0, .int x1, .int x2, .int x3, .int x4, .int y0, .int x6]) (by decide +kernel : kd_ 47 69 = ((4, 5, 0, []), 71)) rfl rfl).trans ?_
  refine (g_6 (ls' := [.ref a0, .int x1, .int x2, .int x3, .int x4, .int y0, .int (x6 + nI 1)]) (by decide +kernel : kd_ 47 71 = ((6, 6, 1, []), 74)) rfl rfl).trans ?_
  refine (g_30 (by decide +kernel : kd_ 47 74 = ((30, 6, 0, []), 77))).trans ?_
  rfl
theorem b_M_hasEmpty_77 {L : Nat} {f : cg_G} {e : Nat × Nat} {x1 x2 x3 x4 x5 x6 : Int32} {a0 : Nat} (h1 : x5 = 0 ∨ x5 = 1): cj_res 47 77 [.ref a0, .int x1, .int x2, .int x3, .int x4, .int x5, .int x6] [] (cg_M L f e) = some (.inl (some (.int x5)), cg_M L f e) := by
  refine (g_2 (by decide +kernel : kd_ 47 77 = ((2, 5, 0, []), 79)) rfl).trans ?_
  exact g_93 (by decide +kernel : kd_ 47 79 = ((93, 0, 0, []), 80)) h1
theorem b_M_high_0 {L : Nat} {f : cg_G} {e : Nat × Nat} {x1 : Int32} {a0 : Nat} (h1 : sh_ a0 = 7) (h2 : cg_in x1 1800): cj_res 48 0 [.ref a0, .int x1] [] (cg_M L f e) = some (.inl (some (.int ((f (a0 + 25) x1.toNatClampNeg) + (f (a0 + 27) x1.toNatClampNeg)))), cg_M L f e) := by
  refine (g_3 (by decide +kernel : kd_ 48 0 = ((3, 0, 0, []), 1)) rfl).trans ?_
  refine (g_50 (v := .ref (a0 + 25)) (by decide +kernel : kd_ 48 1 = ((50, 7, 34, []), 4)) h1 rfl).trans ?_
  refine (g_2 (by decide +kernel : kd_ 48 4 = ((2, 1, 0, []), 5)) rfl).trans ?_
  refine (g_54 (v := .int (f (a0 + 25) x1.toNatClampNeg)) (by decide +kernel : kd_ 48 5 = ((54, 0, 0, []), 6)) (sc_7_34 h1) rfl (by rw [sl_7_34 h1]; exact h2) rfl).trans ?_
  refine (g_3 (by decide +kernel : kd_ 48 6 = ((3, 0, 0, []), 7)) rfl).trans ?_
  refine (g_50 (v := .ref (a0 + 27)) (by decide +kernel : kd_ 48 7 = ((50, 7, 36, []), 10)) h1 rfl).trans ?_
  refine (g_2 (by decide +kernel : kd_ 48 10 = ((2, 1, 0, []), 11)) rfl).trans ?_
  refine (g_54 (v := .int (f (a0 + 27) x1.toNatClampNeg)) (by decide +kernel : kd_ 48 11 = ((54, 0, 0, []), 12)) (sc_7_36 h1) rfl (by rw [sl_7_36 h1]; exact h2) rfl).trans ?_
  refine (g_10 (by decide +kernel : kd_ 48 12 = ((10, 0, 0, []), 13))).trans ?_
  exact g_90 (by decide +kernel : kd_ 48 13 = ((90, 0, 0, []), 14))
theorem b_M_isLetter_0 {L : Nat} {f : cg_G} {e : Nat × Nat} {x0 : Int32} : cj_res 49 0 [.int x0] [] (cg_M L f e) = if x0 < (nI 97) then cj_res 49 16 [.int x0] [] (cg_M L f e) else cj_res 49 6 [.int x0] [] (cg_M L f e) := by
  refine (g_2 (by decide +kernel : kd_ 49 0 = ((2, 0, 0, []), 1)) rfl).trans ?_
  refine (g_0 (by decide +kernel : kd_ 49 1 = ((0, 97, 0, []), 3))).trans ?_
  exact g_39 (by decide +kernel : kd_ 49 3 = ((39, 16, 0, []), 6))
theorem b_M_isLetter_6 {L : Nat} {f : cg_G} {e : Nat × Nat} {x0 : Int32} : cj_res 49 6 [.int x0] [] (cg_M L f e) = if (nI 122) < x0 then cj_res 49 16 [.int x0] [] (cg_M L f e) else cj_res 49 12 [.int x0] [] (cg_M L f e) := by
  refine (g_2 (by decide +kernel : kd_ 49 6 = ((2, 0, 0, []), 7)) rfl).trans ?_
  refine (g_0 (by decide +kernel : kd_ 49 7 = ((0, 122, 0, []), 9))).trans ?_
  exact g_41 (by decide +kernel : kd_ 49 9 = ((41, 16, 0, []), 12))
theorem b_M_isLetter_12 {L : Nat} {f : cg_G} {e : Nat × Nat} {x0 : Int32} : cj_res 49 12 [.int x0] [] (cg_M L f e) = cj_res 49 17 [.int x0] [.int (nI 1)] (cg_M L f e) := by
  refine (g_0 (by decide +kernel : kd_ 49 12 = ((0, 1, 0, []), 13))).trans ?_
  refine (g_30 (by decide +kernel : kd_ 49 13 = ((30, 17, 0, []), 16))).trans ?_
  rfl
theorem b_M_isLetter_16 {L : Nat} {f : cg_G} {e : Nat × Nat} {x0 : Int32} : cj_res 49 16 [.int x0] [] (cg_M L f e) = cj_res 49 17 [.int x0] [.int (nI 0)] (cg_M L f e) := by
  refine (g_0 (by decide +kernel : kd_ 49 16 = ((0, 0, 0, []), 17))).trans ?_
  rfl
theorem b_M_isLetter_17 {L : Nat} {f : cg_G} {e : Nat × Nat} {x0 y0 : Int32} (h1 : y0 = 0 ∨ y0 = 1): cj_res 49 17 [.int x0] [.int y0] (cg_M L f e) = some (.inl (some (.int y0)), cg_M L f e) := by
  exact g_93 (by decide +kernel : kd_ 49 17 = ((93, 0, 0, []), 18)) h1
theorem b_M_put_0 {L : Nat} {f : cg_G} {e : Nat × Nat} {x1 : Int32} {a0 : Nat} (h1 : sh_ a0 = 7) (h2 : cg_in (f a0 16) 256): cj_res 50 0 [.ref a0, .int x1] [] (cg_M L f e) = some (.inl none, cg_M L (cg_up (cg_up f (a0 + 10) (f a0 16).toNatClampNeg x1) a0 16 (((cg_up f (a0 + 10) (f a0 16).toNatClampNeg x1) a0 16) + (nI 1))) e) := by
  refine (g_3 (by decide +kernel : kd_ 50 0 = ((3, 0, 0, []), 1)) rfl).trans ?_
  refine (g_50 (v := .ref (a0 + 10)) (by decide +kernel : kd_ 50 1 = ((50, 7, 17, []), 4)) h1 rfl).trans ?_
  refine (g_3 (by decide +kernel : kd_ 50 4 = ((3, 0, 0, []), 5)) rfl).trans ?_
  refine (g_50 (v := .int (f a0 16)) (by decide +kernel : kd_ 50 5 = ((50, 7, 16, []), 8)) h1 rfl).trans ?_
  refine (g_2 (by decide +kernel : kd_ 50 8 = ((2, 1, 0, []), 9)) rfl).trans ?_
  refine (g_56 (by decide +kernel : kd_ 50 9 = ((56, 0, 0, []), 10)) (sc_7_17 h1) (fun _ => rfl) (by rw [sl_7_17 h1]; exact h2) (by omega)).trans ?_
  refine (g_3 (by decide +kernel : kd_ 50 10 = ((3, 0, 0, []), 11)) rfl).trans ?_
  refine (g_25 (by decide +kernel : kd_ 50 11 = ((25, 0, 0, []), 12)) rfl).trans ?_
  refine (g_50 (v := .int ((cg_up f (a0 + 10) (f a0 16).toNatClampNeg x1) a0 16)) (by decide +kernel : kd_ 50 12 = ((50, 7, 16, []), 15)) h1 rfl).trans ?_
  refine (g_0 (by decide +kernel : kd_ 50 15 = ((0, 1, 0, []), 16))).trans ?_
  refine (g_10 (by decide +kernel : kd_ 50 16 = ((10, 0, 0, []), 17))).trans ?_
  refine (g_51 (x := ((cg_up f (a0 + 10) (f a0 16).toNatClampNeg x1) a0 16) + (nI 1)) (v := .int (((cg_up f (a0 + 10) (f a0 16).toNatClampNeg x1) a0 16) + (nI 1))) (by decide +kernel : kd_ 50 17 = ((51, 7, 16, [0]), 20)) h1 rfl rfl rfl (sz_7 h1) rfl).trans ?_
  exact g_91 (by decide +kernel : kd_ 50 20 = ((91, 0, 0, []), 21))
theorem b_M_rank_0 {L : Nat} {f : cg_G} {e : Nat × Nat} {x1 : Int32} {a0 : Nat} {u2 u3 : Value} : cj_res 51 0 [.ref a0, .int x1, u2, u3] [] (cg_M L f e) = if x1 = (nI 32) then cj_res 51 6 [.ref a0, .int x1, u2, u3] [] (cg_M L f e) else cj_res 51 10 [.ref a0, .int x1, u2, u3] [] (cg_M L f e) := by
  refine (g_2 (by decide +kernel : kd_ 51 0 = ((2, 1, 0, []), 1)) rfl).trans ?_
  refine (g_0 (by decide +kernel : kd_ 51 1 = ((0, 32, 0, []), 3))).trans ?_
  exact g_38 (by decide +kernel : kd_ 51 3 = ((38, 10, 0, []), 6))
theorem b_M_rank_6 {L : Nat} {f : cg_G} {e : Nat × Nat} {x1 : Int32} {a0 : Nat} {u2 u3 : Value} : cj_res 51 6 [.ref a0, .int x1, u2, u3] [] (cg_M L f e) = cj_res 51 17 [.ref a0, .int x1, u2, u3] [.int (nI 0)] (cg_M L f e) := by
  refine (g_0 (by decide +kernel : kd_ 51 6 = ((0, 0, 0, []), 7))).trans ?_
  refine (g_30 (by decide +kernel : kd_ 51 7 = ((30, 17, 0, []), 10))).trans ?_
  rfl
theorem b_M_rank_10 {L : Nat} {f : cg_G} {e : Nat × Nat} {x1 : Int32} {a0 : Nat} {u2 u3 : Value} : cj_res 51 10 [.ref a0, .int x1, u2, u3] [] (cg_M L f e) = cj_res 51 17 [.ref a0, .int x1, u2, u3] [.int (((nI 27) + x1) - (nI 97))] (cg_M L f e) := by
  refine (g_0 (by decide +kernel : kd_ 51 10 = ((0, 27, 0, []), 12))).trans ?_
  refine (g_2 (by decide +kernel : kd_ 51 12 = ((2, 1, 0, []), 13)) rfl).trans ?_
  refine (g_10 (by decide +kernel : kd_ 51 13 = ((10, 0, 0, []), 14))).trans ?_
  refine (g_0 (by decide +kernel : kd_ 51 14 = ((0, 97, 0, []), 16))).trans ?_
  refine (g_11 (by decide +kernel : kd_ 51 16 = ((11, 0, 0, []), 17))).trans ?_
  rfl
theorem b_M_rank_17 {L : Nat} {f : cg_G} {e : Nat × Nat} {x1 y0 : Int32} {a0 : Nat} {u2 u3 : Value} : cj_res 51 17 [.ref a0, .int x1, u2, u3] [.int y0] (cg_M L f e) = cj_res 51 20 [.ref a0, .int x1, .int y0, .int (nI 0)] [] (cg_M L f e) := by
  refine (g_4 (ls' := [.ref a0, .int x1, .int y0, u3]) (by decide +kernel : kd_ 51 17 = ((4, 2, 0, []), 18)) rfl rfl).trans ?_
  refine (g_0 (by decide +kernel : kd_ 51 18 = ((0, 0, 0, []), 19))).trans ?_
  refine (g_4 (ls' := [.ref a0, .int x1, .int y0, .int (nI 0)]) (by decide +kernel : kd_ 51 19 = ((4, 3, 0, []), 20)) rfl rfl).trans ?_
  rfl
theorem b_M_rank_20 {L : Nat} {f : cg_G} {e : Nat × Nat} {x1 x2 x3 : Int32} {a0 : Nat} (h1 : sh_ a0 = 7): cj_res 51 20 [.ref a0, .int x1, .int x2, .int x3] [] (cg_M L f e) = if (f a0 14) ≤ x3 then cj_res 51 52 [.ref a0, .int x1, .int x2, .int x3] [] (cg_M L f e) else cj_res 51 28 [.ref a0, .int x1, .int x2, .int x3] [] (cg_M L f e) := by
  refine (g_2 (by decide +kernel : kd_ 51 20 = ((2, 3, 0, []), 21)) rfl).trans ?_
  refine (g_3 (by decide +kernel : kd_ 51 21 = ((3, 0, 0, []), 22)) rfl).trans ?_
  refine (g_50 (v := .int (f a0 14)) (by decide +kernel : kd_ 51 22 = ((50, 7, 14, []), 25)) h1 rfl).trans ?_
  exact g_40 (by decide +kernel : kd_ 51 25 = ((40, 52, 0, []), 28))
theorem b_M_rank_28 {L : Nat} {f : cg_G} {e : Nat × Nat} {x1 x2 x3 : Int32} {a0 : Nat} (h1 : sh_ a0 = 7) (h2 : cg_in x3 26): cj_res 51 28 [.ref a0, .int x1, .int x2, .int x3] [] (cg_M L f e) = if (f (a0 + 9) x3.toNatClampNeg) = x1 then cj_res 51 38 [.ref a0, .int x1, .int x2, .int x3] [] (cg_M L f e) else cj_res 51 44 [.ref a0, .int x1, .int x2, .int x3] [] (cg_M L f e) := by
  refine (g_3 (by decide +kernel : kd_ 51 28 = ((3, 0, 0, []), 29)) rfl).trans ?_
  refine (g_50 (v := .ref (a0 + 9)) (by decide +kernel : kd_ 51 29 = ((50, 7, 15, []), 32)) h1 rfl).trans ?_
  refine (g_2 (by decide +kernel : kd_ 51 32 = ((2, 3, 0, []), 33)) rfl).trans ?_
  refine (g_54 (v := .int (f (a0 + 9) x3.toNatClampNeg)) (by decide +kernel : kd_ 51 33 = ((54, 0, 0, []), 34)) (sc_7_15 h1) rfl (by rw [sl_7_15 h1]; exact h2) rfl).trans ?_
  refine (g_2 (by decide +kernel : kd_ 51 34 = ((2, 1, 0, []), 35)) rfl).trans ?_
  exact g_38 (by decide +kernel : kd_ 51 35 = ((38, 44, 0, []), 38))
theorem b_M_rank_38 {L : Nat} {f : cg_G} {e : Nat × Nat} {x1 x2 x3 : Int32} {a0 : Nat} : cj_res 51 38 [.ref a0, .int x1, .int x2, .int x3] [] (cg_M L f e) = cj_res 51 45 [.ref a0, .int x1, .int x2, .int x3] [.int ((nI 1) + x3)] (cg_M L f e) := by
  refine (g_0 (by decide +kernel : kd_ 51 38 = ((0, 1, 0, []), 39))).trans ?_
  refine (g_2 (by decide +kernel : kd_ 51 39 = ((2, 3, 0, []), 40)) rfl).trans ?_
  refine (g_10 (by decide +kernel : kd_ 51 40 = ((10, 0, 0, []), 41))).trans ?_
  refine (g_30 (by decide +kernel : kd_ 51 41 = ((30, 45, 0, []), 44))).trans ?_
  rfl
theorem b_M_rank_44 {L : Nat} {f : cg_G} {e : Nat × Nat} {x1 x2 x3 : Int32} {a0 : Nat} : cj_res 51 44 [.ref a0, .int x1, .int x2, .int x3] [] (cg_M L f e) = cj_res 51 45 [.ref a0, .int x1, .int x2, .int x3] [.int x2] (cg_M L f e) := by
  refine (g_2 (by decide +kernel : kd_ 51 44 = ((2, 2, 0, []), 45)) rfl).trans ?_
  rfl
theorem b_M_rank_45 {L : Nat} {f : cg_G} {e : Nat × Nat} {x1 x2 x3 y0 : Int32} {a0 : Nat} : cj_res 51 45 [.ref a0, .int x1, .int x2, .int x3] [.int y0] (cg_M L f e) = cj_res 51 20 [.ref a0, .int x1, .int y0, .int (x3 + nI 1)] [] (cg_M L f e) := by
  refine (g_4 (ls' := [.ref a0, .int x1, .int y0, .int x3]) (by decide +kernel : kd_ 51 45 = ((4, 2, 0, []), 46)) rfl rfl).trans ?_
  refine (g_6 (ls' := [.ref a0, .int x1, .int y0, .int (x3 + nI 1)]) (by decide +kernel : kd_ 51 46 = ((6, 3, 1, []), 49)) rfl rfl).trans ?_
  refine (g_30 (by decide +kernel : kd_ 51 49 = ((30, 20, 0, []), 52))).trans ?_
  rfl
theorem b_M_rank_52 {L : Nat} {f : cg_G} {e : Nat × Nat} {x1 x2 x3 : Int32} {a0 : Nat} : cj_res 51 52 [.ref a0, .int x1, .int x2, .int x3] [] (cg_M L f e) = some (.inl (some (.int x2)), cg_M L f e) := by
  refine (g_2 (by decide +kernel : kd_ 51 52 = ((2, 2, 0, []), 53)) rfl).trans ?_
  exact g_90 (by decide +kernel : kd_ 51 53 = ((90, 0, 0, []), 54))
theorem b_M_settles_0 {L : Nat} {f : cg_G} {e : Nat × Nat} {x1 : Int32} {a0 : Nat} {u2 u3 u4 : Value} : cj_res 52 0 [.ref a0, .int x1, u2, u3, u4] [] (cg_M L f e) = cj_res 52 4 [.ref a0, .int x1, .int (nI 1), .int (nI 0), u4] [] (cg_M L f e) := by
  refine (g_0 (by decide +kernel : kd_ 52 0 = ((0, 1, 0, []), 1))).trans ?_
  refine (g_4 (ls' := [.ref a0, .int x1, .int (nI 1), u3, u4]) (by decide +kernel : kd_ 52 1 = ((4, 2, 0, []), 2)) rfl rfl).trans ?_
  refine (g_0 (by decide +kernel : kd_ 52 2 = ((0, 0, 0, []), 3))).trans ?_
  refine (g_4 (ls' := [.ref a0, .int x1, .int (nI 1), .int (nI 0), u4]) (by decide +kernel : kd_ 52 3 = ((4, 3, 0, []), 4)) rfl rfl).trans ?_
  rfl
theorem b_M_settles_4 {L : Nat} {f : cg_G} {e : Nat × Nat} {x1 x2 x3 : Int32} {a0 : Nat} {u4 : Value} : cj_res 52 4 [.ref a0, .int x1, .int x2, .int x3, u4] [] (cg_M L f e) = if (nI 8) ≤ x3 then cj_res 52 77 [.ref a0, .int x1, .int x2, .int x3, u4] [] (cg_M L f e) else cj_res 52 10 [.ref a0, .int x1, .int x2, .int x3, u4] [] (cg_M L f e) := by
  refine (g_2 (by decide +kernel : kd_ 52 4 = ((2, 3, 0, []), 5)) rfl).trans ?_
  refine (g_0 (by decide +kernel : kd_ 52 5 = ((0, 8, 0, []), 7))).trans ?_
  exact g_40 (by decide +kernel : kd_ 52 7 = ((40, 77, 0, []), 10))
theorem b_M_settles_10 {L : Nat} {f : cg_G} {e : Nat × Nat} {x1 x2 x3 : Int32} {a0 : Nat} {u4 : Value} (h1 : sh_ a0 = 7) (h2 : cg_in (((nI 8) * x1) + x3) 16): cj_res 52 10 [.ref a0, .int x1, .int x2, .int x3, u4] [] (cg_M L f e) = if (f (a0 + 17) (((nI 8) * x1) + x3).toNatClampNeg) = (- nI 1) then cj_res 52 25 [.ref a0, .int x1, .int x2, .int x3, u4] [] (cg_M L f e) else cj_res 52 29 [.ref a0, .int x1, .int x2, .int x3, u4] [] (cg_M L f e) := by
  refine (g_3 (by decide +kernel : kd_ 52 10 = ((3, 0, 0, []), 11)) rfl).trans ?_
  refine (g_50 (v := .ref (a0 + 17)) (by decide +kernel : kd_ 52 11 = ((50, 7, 26, []), 14)) h1 rfl).trans ?_
  refine (g_0 (by decide +kernel : kd_ 52 14 = ((0, 8, 0, []), 16))).trans ?_
  refine (g_2 (by decide +kernel : kd_ 52 16 = ((2, 1, 0, []), 17)) rfl).trans ?_
  refine (g_12 (by decide +kernel : kd_ 52 17 = ((12, 0, 0, []), 18))).trans ?_
  refine (g_2 (by decide +kernel : kd_ 52 18 = ((2, 3, 0, []), 19)) rfl).trans ?_
  refine (g_10 (by decide +kernel : kd_ 52 19 = ((10, 0, 0, []), 20))).trans ?_
  refine (g_54 (v := .int (f (a0 + 17) (((nI 8) * x1) + x3).toNatClampNeg)) (by decide +kernel : kd_ 52 20 = ((54, 0, 0, []), 21)) (sc_7_26 h1) rfl (by rw [sl_7_26 h1]; exact h2) rfl).trans ?_
  refine (g_1 (by decide +kernel : kd_ 52 21 = ((1, 1, 0, []), 22))).trans ?_
  exact g_38 (by decide +kernel : kd_ 52 22 = ((38, 29, 0, []), 25))
theorem b_M_settles_25 {L : Nat} {f : cg_G} {e : Nat × Nat} {x1 x2 x3 : Int32} {a0 : Nat} {u4 : Value} : cj_res 52 25 [.ref a0, .int x1, .int x2, .int x3, u4] [] (cg_M L f e) = cj_res 52 40 [.ref a0, .int x1, .int x2, .int x3, u4] [.int (nI 0)] (cg_M L f e) := by
  refine (g_0 (by decide +kernel : kd_ 52 25 = ((0, 0, 0, []), 26))).trans ?_
  refine (g_30 (by decide +kernel : kd_ 52 26 = ((30, 40, 0, []), 29))).trans ?_
  rfl
theorem b_M_settles_29 {L : Nat} {f : cg_G} {e : Nat × Nat} {x1 x2 x3 : Int32} {a0 : Nat} {u4 : Value} (h1 : sh_ a0 = 7) (h2 : cg_in (((nI 8) * x1) + x3) 16): cj_res 52 29 [.ref a0, .int x1, .int x2, .int x3, u4] [] (cg_M L f e) = cj_res 52 40 [.ref a0, .int x1, .int x2, .int x3, u4] [.int (f (a0 + 17) (((nI 8) * x1) + x3).toNatClampNeg)] (cg_M L f e) := by
  refine (g_3 (by decide +kernel : kd_ 52 29 = ((3, 0, 0, []), 30)) rfl).trans ?_
  refine (g_50 (v := .ref (a0 + 17)) (by decide +kernel : kd_ 52 30 = ((50, 7, 26, []), 33)) h1 rfl).trans ?_
  refine (g_0 (by decide +kernel : kd_ 52 33 = ((0, 8, 0, []), 35))).trans ?_
  refine (g_2 (by decide +kernel : kd_ 52 35 = ((2, 1, 0, []), 36)) rfl).trans ?_
  refine (g_12 (by decide +kernel : kd_ 52 36 = ((12, 0, 0, []), 37))).trans ?_
  refine (g_2 (by decide +kernel : kd_ 52 37 = ((2, 3, 0, []), 38)) rfl).trans ?_
  refine (g_10 (by decide +kernel : kd_ 52 38 = ((10, 0, 0, []), 39))).trans ?_
  refine (g_54 (v := .int (f (a0 + 17) (((nI 8) * x1) + x3).toNatClampNeg)) (by decide +kernel : kd_ 52 39 = ((54, 0, 0, []), 40)) (sc_7_26 h1) rfl (by rw [sl_7_26 h1]; exact h2) rfl).trans ?_
  rfl
theorem b_M_settles_40 {L : Nat} {f : cg_G} {e : Nat × Nat} {x1 x2 x3 y0 : Int32} {a0 : Nat} {u4 : Value} : cj_res 52 40 [.ref a0, .int x1, .int x2, .int x3, u4] [.int y0] (cg_M L f e) = if x2 = 0 then cj_res 52 61 [.ref a0, .int x1, .int x2, .int x3, .int y0] [] (cg_M L f e) else cj_res 52 46 [.ref a0, .int x1, .int x2, .int x3, .int y0] [] (cg_M L f e) := by
  refine (g_4 (ls' := [.ref a0, .int x1, .int x2, .int x3, .int y0]) (by decide +kernel : kd_ 52 40 = ((4, 4, 0, []), 42)) rfl rfl).trans ?_
  refine (g_2 (by decide +kernel : kd_ 52 42 = ((2, 2, 0, []), 43)) rfl).trans ?_
  exact g_31 (by decide +kernel : kd_ 52 43 = ((31, 61, 0, []), 46))
theorem b_M_settles_46 {L : Nat} {f : cg_G} {e : Nat × Nat} {x1 x2 x3 x4 : Int32} {a0 : Nat} (h1 : sh_ a0 = 7) (h2 : cg_in x3 8): cj_res 52 46 [.ref a0, .int x1, .int x2, .int x3, .int x4] [] (cg_M L f e) = if x4 = (f (a0 + 18) x3.toNatClampNeg) then cj_res 52 57 [.ref a0, .int x1, .int x2, .int x3, .int x4] [] (cg_M L f e) else cj_res 52 61 [.ref a0, .int x1, .int x2, .int x3, .int x4] [] (cg_M L f e) := by
  refine (g_2 (by decide +kernel : kd_ 52 46 = ((2, 4, 0, []), 48)) rfl).trans ?_
  refine (g_3 (by decide +kernel : kd_ 52 48 = ((3, 0, 0, []), 49)) rfl).trans ?_
  refine (g_50 (v := .ref (a0 + 18)) (by decide +kernel : kd_ 52 49 = ((50, 7, 27, []), 52)) h1 rfl).trans ?_
  refine (g_2 (by decide +kernel : kd_ 52 52 = ((2, 3, 0, []), 53)) rfl).trans ?_
  refine (g_54 (v := .int (f (a0 + 18) x3.toNatClampNeg)) (by decide +kernel : kd_ 52 53 = ((54, 0, 0, []), 54)) (sc_7_27 h1) rfl (by rw [sl_7_27 h1]; exact h2) rfl).trans ?_
  exact g_38 (by decide +kernel : kd_ 52 54 = ((38, 61, 0, []), 57))
theorem b_M_settles_57 {L : Nat} {f : cg_G} {e : Nat × Nat} {x1 x2 x3 x4 : Int32} {a0 : Nat} : cj_res 52 57 [.ref a0, .int x1, .int x2, .int x3, .int x4] [] (cg_M L f e) = cj_res 52 62 [.ref a0, .int x1, .int x2, .int x3, .int x4] [.int (nI 1)] (cg_M L f e) := by
  refine (g_0 (by decide +kernel : kd_ 52 57 = ((0, 1, 0, []), 58))).trans ?_
  refine (g_30 (by decide +kernel : kd_ 52 58 = ((30, 62, 0, []), 61))).trans ?_
  rfl
theorem b_M_settles_61 {L : Nat} {f : cg_G} {e : Nat × Nat} {x1 x2 x3 x4 : Int32} {a0 : Nat} : cj_res 52 61 [.ref a0, .int x1, .int x2, .int x3, .int x4] [] (cg_M L f e) = cj_res 52 62 [.ref a0, .int x1, .int x2, .int x3, .int x4] [.int (nI 0)] (cg_M L f e) := by
  refine (g_0 (by decide +kernel : kd_ 52 61 = ((0, 0, 0, []), 62))).trans ?_
  rfl
theorem b_M_settles_62 {L : Nat} {f : cg_G} {e : Nat × Nat} {x1 x2 x3 x4 y0 : Int32} {a0 : Nat} (h1 : sh_ a0 = 7) (h2 : cg_in x3 8): cj_res 52 62 [.ref a0, .int x1, .int x2, .int x3, .int x4] [.int y0] (cg_M L f e) = cj_res 52 4 [.ref a0, .int x1, .int y0, .int (x3 + nI 1), .int x4] [] (cg_M L (cg_up f (a0 + 18) x3.toNatClampNeg x4) e) := by
  refine (g_4 (ls' := [.ref a0, .int x1, .int y0, .int x3, .int x4]) (by decide +kernel : kd_ 52 62 = ((4, 2, 0, []), 63)) rfl rfl).trans ?_
  refine (g_3 (by decide +kernel : kd_ 52 63 = ((3, 0, 0, []), 64)) rfl).trans ?_
  refine (g_50 (v := .ref (a0 + 18)) (by decide +kernel : kd_ 52 64 = ((50, 7, 27, []), 67)) h1 rfl).trans ?_
  refine (g_2 (by decide +kernel : kd_ 52 67 = ((2, 3, 0, []), 68)) rfl).trans ?_
  refine (g_2 (by decide +kernel : kd_ 52 68 = ((2, 4, 0, []), 70)) rfl).trans ?_
  refine (g_56 (by decide +kernel : kd_ 52 70 = ((56, 0, 0, []), 71)) (sc_7_27 h1) (fun _ => rfl) (by rw [sl_7_27 h1]; exact h2) (by omega)).trans ?_
  refine (g_6 (ls' := [.ref a0, .int x1, .int y0, .int (x3 + nI 1), .int x4]) (by decide +kernel : kd_ 52 71 = ((6, 3, 1, []), 74)) rfl rfl).trans ?_
  refine (g_30 (by decide +kernel : kd_ 52 74 = ((30, 4, 0, []), 77))).trans ?_
  rfl
theorem b_M_settles_77 {L : Nat} {f : cg_G} {e : Nat × Nat} {x1 x2 x3 : Int32} {a0 : Nat} {u4 : Value} (h1 : x2 = 0 ∨ x2 = 1): cj_res 52 77 [.ref a0, .int x1, .int x2, .int x3, u4] [] (cg_M L f e) = some (.inl (some (.int x2)), cg_M L f e) := by
  refine (g_2 (by decide +kernel : kd_ 52 77 = ((2, 2, 0, []), 78)) rfl).trans ?_
  exact g_93 (by decide +kernel : kd_ 52 78 = ((93, 0, 0, []), 79)) h1
theorem b_M_signsOf_0 {L : Nat} {f : cg_G} {e : Nat × Nat} {x0 : Int32} {u1 u2 : Value} : cj_res 53 0 [.int x0, u1, u2] [] (cg_M L f e) = cj_res 53 4 [.int x0, .int (nI 0), .int (nI 0)] [] (cg_M L f e) := by
  refine (g_0 (by decide +kernel : kd_ 53 0 = ((0, 0, 0, []), 1))).trans ?_
  refine (g_4 (ls' := [.int x0, .int (nI 0), u2]) (by decide +kernel : kd_ 53 1 = ((4, 1, 0, []), 2)) rfl rfl).trans ?_
  refine (g_0 (by decide +kernel : kd_ 53 2 = ((0, 0, 0, []), 3))).trans ?_
  refine (g_4 (ls' := [.int x0, .int (nI 0), .int (nI 0)]) (by decide +kernel : kd_ 53 3 = ((4, 2, 0, []), 4)) rfl rfl).trans ?_
  rfl
theorem b_M_signsOf_4 {L : Nat} {f : cg_G} {e : Nat × Nat} {x0 x1 x2 : Int32} : cj_res 53 4 [.int x0, .int x1, .int x2] [] (cg_M L f e) = if (nI 4) ≤ x2 then cj_res 53 36 [.int x0, .int x1, .int x2] [] (cg_M L f e) else cj_res 53 9 [.int x0, .int x1, .int x2] [] (cg_M L f e) := by
  refine (g_2 (by decide +kernel : kd_ 53 4 = ((2, 2, 0, []), 5)) rfl).trans ?_
  refine (g_0 (by decide +kernel : kd_ 53 5 = ((0, 4, 0, []), 6))).trans ?_
  exact g_40 (by decide +kernel : kd_ 53 6 = ((40, 36, 0, []), 9))
theorem b_M_signsOf_9 {L : Nat} {f : cg_G} {e : Nat × Nat} {x0 x1 x2 : Int32} : cj_res 53 9 [.int x0, .int x1, .int x2] [] (cg_M L f e) = if (((x0.toUInt32 >>> (((nI 8) * x2).toUInt32 &&& Int32.toUInt32 31)).toInt32) &&& (nI 255)) = 0 then cj_res 53 22 [.int x0, .int x1, .int x2] [] (cg_M L f e) else cj_res 53 26 [.int x0, .int x1, .int x2] [] (cg_M L f e) := by
  refine (g_2 (by decide +kernel : kd_ 53 9 = ((2, 0, 0, []), 10)) rfl).trans ?_
  refine (g_0 (by decide +kernel : kd_ 53 10 = ((0, 8, 0, []), 12))).trans ?_
  refine (g_2 (by decide +kernel : kd_ 53 12 = ((2, 2, 0, []), 13)) rfl).trans ?_
  refine (g_12 (by decide +kernel : kd_ 53 13 = ((12, 0, 0, []), 14))).trans ?_
  refine (g_18 (by decide +kernel : kd_ 53 14 = ((18, 0, 0, []), 15))).trans ?_
  refine (g_0 (by decide +kernel : kd_ 53 15 = ((0, 255, 0, []), 18))).trans ?_
  refine (g_19 (by decide +kernel : kd_ 53 18 = ((19, 0, 0, []), 19))).trans ?_
  exact g_32 (by decide +kernel : kd_ 53 19 = ((32, 26, 0, []), 22))
theorem b_M_signsOf_22 {L : Nat} {f : cg_G} {e : Nat × Nat} {x0 x1 x2 : Int32} : cj_res 53 22 [.int x0, .int x1, .int x2] [] (cg_M L f e) = cj_res 53 29 [.int x0, .int x1, .int x2] [.int x1] (cg_M L f e) := by
  refine (g_2 (by decide +kernel : kd_ 53 22 = ((2, 1, 0, []), 23)) rfl).trans ?_
  refine (g_30 (by decide +kernel : kd_ 53 23 = ((30, 29, 0, []), 26))).trans ?_
  rfl
theorem b_M_signsOf_26 {L : Nat} {f : cg_G} {e : Nat × Nat} {x0 x1 x2 : Int32} : cj_res 53 26 [.int x0, .int x1, .int x2] [] (cg_M L f e) = cj_res 53 29 [.int x0, .int x1, .int x2] [.int (x1 + (nI 1))] (cg_M L f e) := by
  refine (g_2 (by decide +kernel : kd_ 53 26 = ((2, 1, 0, []), 27)) rfl).trans ?_
  refine (g_0 (by decide +kernel : kd_ 53 27 = ((0, 1, 0, []), 28))).trans ?_
  refine (g_10 (by decide +kernel : kd_ 53 28 = ((10, 0, 0, []), 29))).trans ?_
  rfl
theorem b_M_signsOf_29 {L : Nat} {f : cg_G} {e : Nat × Nat} {x0 x1 x2 y0 : Int32} : cj_res 53 29 [.int x0, .int x1, .int x2] [.int y0] (cg_M L f e) = cj_res 53 4 [.int x0, .int y0, .int (x2 + nI 1)] [] (cg_M L f e) := by
  refine (g_4 (ls' := [.int x0, .int y0, .int x2]) (by decide +kernel : kd_ 53 29 = ((4, 1, 0, []), 30)) rfl rfl).trans ?_
  refine (g_6 (ls' := [.int x0, .int y0, .int (x2 + nI 1)]) (by decide +kernel : kd_ 53 30 = ((6, 2, 1, []), 33)) rfl rfl).trans ?_
  refine (g_30 (by decide +kernel : kd_ 53 33 = ((30, 4, 0, []), 36))).trans ?_
  rfl
theorem b_M_signsOf_36 {L : Nat} {f : cg_G} {e : Nat × Nat} {x0 x1 x2 : Int32} : cj_res 53 36 [.int x0, .int x1, .int x2] [] (cg_M L f e) = some (.inl (some (.int x1)), cg_M L f e) := by
  refine (g_2 (by decide +kernel : kd_ 53 36 = ((2, 1, 0, []), 37)) rfl).trans ?_
  exact g_90 (by decide +kernel : kd_ 53 37 = ((90, 0, 0, []), 38))
theorem b_M_solveLines_0 {L : Nat} {f : cg_G} {e : Nat × Nat} {x1 : Int32} {a0 : Nat} {u2 u3 u4 u5 : Value} (h1 : sh_ a0 = 7) (h2 : cg_in x1 901): cj_res 54 0 [.ref a0, .int x1, u2, u3, u4, u5] [] (cg_M L f e) = cj_res 54 9 [.ref a0, .int x1, .int (nI 1), u3, u4, u5] [] (cg_M L (cg_up f (a0 + 13) x1.toNatClampNeg (- nI 1)) e) := by
  refine (g_3 (by decide +kernel : kd_ 54 0 = ((3, 0, 0, []), 1)) rfl).trans ?_
  refine (g_50 (v := .ref (a0 + 13)) (by decide +kernel : kd_ 54 1 = ((50, 7, 21, []), 4)) h1 rfl).trans ?_
  refine (g_2 (by decide +kernel : kd_ 54 4 = ((2, 1, 0, []), 5)) rfl).trans ?_
  refine (g_1 (by decide +kernel : kd_ 54 5 = ((1, 1, 0, []), 6))).trans ?_
  refine (g_56 (by decide +kernel : kd_ 54 6 = ((56, 0, 0, []), 7)) (sc_7_21 h1) (fun _ => rfl) (by rw [sl_7_21 h1]; exact h2) (by omega)).trans ?_
  refine (g_0 (by decide +kernel : kd_ 54 7 = ((0, 1, 0, []), 8))).trans ?_
  refine (g_4 (ls' := [.ref a0, .int x1, .int (nI 1), u3, u4, u5]) (by decide +kernel : kd_ 54 8 = ((4, 2, 0, []), 9)) rfl rfl).trans ?_
  rfl
theorem b_M_solveLines_9 {L : Nat} {f : cg_G} {e : Nat × Nat} {x1 x2 : Int32} {a0 : Nat} {u3 u4 u5 : Value} (h1 : sh_ a0 = 7): cj_res 54 9 [.ref a0, .int x1, .int x2, u3, u4, u5] [] (cg_M L f e) = if (f a0 18) < (x1 + x2) then cj_res 54 145 [.ref a0, .int x1, .int x2, u3, u4, u5] [] (cg_M L f e) else cj_res 54 19 [.ref a0, .int x1, .int x2, u3, u4, u5] [] (cg_M L f e) := by
  refine (g_2 (by decide +kernel : kd_ 54 9 = ((2, 1, 0, []), 10)) rfl).trans ?_
  refine (g_2 (by decide +kernel : kd_ 54 10 = ((2, 2, 0, []), 11)) rfl).trans ?_
  refine (g_10 (by decide +kernel : kd_ 54 11 = ((10, 0, 0, []), 12))).trans ?_
  refine (g_3 (by decide +kernel : kd_ 54 12 = ((3, 0, 0, []), 13)) rfl).trans ?_
  refine (g_50 (v := .int (f a0 18)) (by decide +kernel : kd_ 54 13 = ((50, 7, 18, []), 16)) h1 rfl).trans ?_
  exact g_41 (by decide +kernel : kd_ 54 16 = ((41, 145, 0, []), 19))
theorem b_M_solveLines_19 {L : Nat} {f : cg_G} {e : Nat × Nat} {x1 x2 : Int32} {a0 : Nat} {u3 u4 u5 : Value} (h1 : sh_ a0 = 7) (h2 : cg_in ((x1 + x2) - (nI 1)) 130) (h3 : cg_in x1 130): cj_res 54 19 [.ref a0, .int x1, .int x2, u3, u4, u5] [] (cg_M L f e) = if (x1 + x2) = (f a0 18) then cj_res 54 52 [.ref a0, .int x1, .int x2, .int ((f a0 0) - ((f (a0 + 12) ((x1 + x2) - (nI 1)).toNatClampNeg) - (f (a0 + 11) x1.toNatClampNeg))), u4, u5] [] (cg_M L f e) else cj_res 54 56 [.ref a0, .int x1, .int x2, .int ((f a0 0) - ((f (a0 + 12) ((x1 + x2) - (nI 1)).toNatClampNeg) - (f (a0 + 11) x1.toNatClampNeg))), u4, u5] [] (cg_M L f e) := by
  refine (g_3 (by decide +kernel : kd_ 54 19 = ((3, 0, 0, []), 20)) rfl).trans ?_
  refine (g_50 (v := .int (f a0 0)) (by decide +kernel : kd_ 54 20 = ((50, 7, 0, []), 23)) h1 rfl).trans ?_
  refine (g_3 (by decide +kernel : kd_ 54 23 = ((3, 0, 0, []), 24)) rfl).trans ?_
  refine (g_50 (v := .ref (a0 + 12)) (by decide +kernel : kd_ 54 24 = ((50, 7, 20, []), 27)) h1 rfl).trans ?_
  refine (g_2 (by decide +kernel : kd_ 54 27 = ((2, 1, 0, []), 28)) rfl).trans ?_
  refine (g_2 (by decide +kernel : kd_ 54 28 = ((2, 2, 0, []), 29)) rfl).trans ?_
  refine (g_10 (by decide +kernel : kd_ 54 29 = ((10, 0, 0, []), 30))).trans ?_
  refine (g_0 (by decide +kernel : kd_ 54 30 = ((0, 1, 0, []), 31))).trans ?_
  refine (g_11 (by decide +kernel : kd_ 54 31 = ((11, 0, 0, []), 32))).trans ?_
  refine (g_54 (v := .int (f (a0 + 12) ((x1 + x2) - (nI 1)).toNatClampNeg)) (by decide +kernel : kd_ 54 32 = ((54, 0, 0, []), 33)) (sc_7_20 h1) rfl (by rw [sl_7_20 h1]; exact h2) rfl).trans ?_
  refine (g_3 (by decide +kernel : kd_ 54 33 = ((3, 0, 0, []), 34)) rfl).trans ?_
  refine (g_50 (v := .ref (a0 + 11)) (by decide +kernel : kd_ 54 34 = ((50, 7, 19, []), 37)) h1 rfl).trans ?_
  refine (g_2 (by decide +kernel : kd_ 54 37 = ((2, 1, 0, []), 38)) rfl).trans ?_
  refine (g_54 (v := .int (f (a0 + 11) x1.toNatClampNeg)) (by decide +kernel : kd_ 54 38 = ((54, 0, 0, []), 39)) (sc_7_19 h1) rfl (by rw [sl_7_19 h1]; exact h3) rfl).trans ?_
  refine (g_11 (by decide +kernel : kd_ 54 39 = ((11, 0, 0, []), 40))).trans ?_
  refine (g_11 (by decide +kernel : kd_ 54 40 = ((11, 0, 0, []), 41))).trans ?_
  refine (g_4 (ls' := [.ref a0, .int x1, .int x2, .int ((f a0 0) - ((f (a0 + 12) ((x1 + x2) - (nI 1)).toNatClampNeg) - (f (a0 + 11) x1.toNatClampNeg))), u4, u5]) (by decide +kernel : kd_ 54 41 = ((4, 3, 0, []), 42)) rfl rfl).trans ?_
  refine (g_2 (by decide +kernel : kd_ 54 42 = ((2, 1, 0, []), 43)) rfl).trans ?_
  refine (g_2 (by decide +kernel : kd_ 54 43 = ((2, 2, 0, []), 44)) rfl).trans ?_
  refine (g_10 (by decide +kernel : kd_ 54 44 = ((10, 0, 0, []), 45))).trans ?_
  refine (g_3 (by decide +kernel : kd_ 54 45 = ((3, 0, 0, []), 46)) rfl).trans ?_
  refine (g_50 (v := .int (f a0 18)) (by decide +kernel : kd_ 54 46 = ((50, 7, 18, []), 49)) h1 rfl).trans ?_
  exact g_38 (by decide +kernel : kd_ 54 49 = ((38, 56, 0, []), 52))
theorem b_M_solveLines_52 {L : Nat} {f : cg_G} {e : Nat × Nat} {x1 x2 x3 : Int32} {a0 : Nat} {u4 u5 : Value} : cj_res 54 52 [.ref a0, .int x1, .int x2, .int x3, u4, u5] [] (cg_M L f e) = cj_res 54 57 [.ref a0, .int x1, .int x2, .int x3, u4, u5] [.int (nI 1)] (cg_M L f e) := by
  refine (g_0 (by decide +kernel : kd_ 54 52 = ((0, 1, 0, []), 53))).trans ?_
  refine (g_30 (by decide +kernel : kd_ 54 53 = ((30, 57, 0, []), 56))).trans ?_
  rfl
theorem b_M_solveLines_56 {L : Nat} {f : cg_G} {e : Nat × Nat} {x1 x2 x3 : Int32} {a0 : Nat} {u4 u5 : Value} : cj_res 54 56 [.ref a0, .int x1, .int x2, .int x3, u4, u5] [] (cg_M L f e) = cj_res 54 57 [.ref a0, .int x1, .int x2, .int x3, u4, u5] [.int (nI 0)] (cg_M L f e) := by
  refine (g_0 (by decide +kernel : kd_ 54 56 = ((0, 0, 0, []), 57))).trans ?_
  rfl
theorem b_M_solveLines_57 {L : Nat} {f : cg_G} {e : Nat × Nat} {x1 x2 x3 y0 : Int32} {a0 : Nat} {u4 u5 : Value} : cj_res 54 57 [.ref a0, .int x1, .int x2, .int x3, u4, u5] [.int y0] (cg_M L f e) = if y0 = 0 then cj_res 54 68 [.ref a0, .int x1, .int x2, .int x3, .int y0, u5] [] (cg_M L f e) else cj_res 54 64 [.ref a0, .int x1, .int x2, .int x3, .int y0, u5] [] (cg_M L f e) := by
  refine (g_4 (ls' := [.ref a0, .int x1, .int x2, .int x3, .int y0, u5]) (by decide +kernel : kd_ 54 57 = ((4, 4, 0, []), 59)) rfl rfl).trans ?_
  refine (g_2 (by decide +kernel : kd_ 54 59 = ((2, 4, 0, []), 61)) rfl).trans ?_
  exact g_31 (by decide +kernel : kd_ 54 61 = ((31, 68, 0, []), 64))
theorem b_M_solveLines_64 {L : Nat} {f : cg_G} {e : Nat × Nat} {x1 x2 x3 x4 : Int32} {a0 : Nat} {u5 : Value} : cj_res 54 64 [.ref a0, .int x1, .int x2, .int x3, .int x4, u5] [] (cg_M L f e) = cj_res 54 80 [.ref a0, .int x1, .int x2, .int x3, .int x4, u5] [.int (nI 0)] (cg_M L f e) := by
  refine (g_0 (by decide +kernel : kd_ 54 64 = ((0, 0, 0, []), 65))).trans ?_
  refine (g_30 (by decide +kernel : kd_ 54 65 = ((30, 80, 0, []), 68))).trans ?_
  rfl
theorem b_M_solveLines_68 {L : Nat} {f : cg_G} {e : Nat × Nat} {x1 x2 x3 x4 : Int32} {a0 : Nat} {u5 : Value} (h1 : sh_ a0 = 7) (h2 : cg_in (x1 + x2) 901): cj_res 54 68 [.ref a0, .int x1, .int x2, .int x3, .int x4, u5] [] (cg_M L f e) = cj_res 54 80 [.ref a0, .int x1, .int x2, .int x3, .int x4, u5] [.int ((x3 * x3) + (f (a0 + 13) (x1 + x2).toNatClampNeg))] (cg_M L f e) := by
  refine (g_2 (by decide +kernel : kd_ 54 68 = ((2, 3, 0, []), 69)) rfl).trans ?_
  refine (g_2 (by decide +kernel : kd_ 54 69 = ((2, 3, 0, []), 70)) rfl).trans ?_
  refine (g_12 (by decide +kernel : kd_ 54 70 = ((12, 0, 0, []), 71))).trans ?_
  refine (g_3 (by decide +kernel : kd_ 54 71 = ((3, 0, 0, []), 72)) rfl).trans ?_
  refine (g_50 (v := .ref (a0 + 13)) (by decide +kernel : kd_ 54 72 = ((50, 7, 21, []), 75)) h1 rfl).trans ?_
  refine (g_2 (by decide +kernel : kd_ 54 75 = ((2, 1, 0, []), 76)) rfl).trans ?_
  refine (g_2 (by decide +kernel : kd_ 54 76 = ((2, 2, 0, []), 77)) rfl).trans ?_
  refine (g_10 (by decide +kernel : kd_ 54 77 = ((10, 0, 0, []), 78))).trans ?_
  refine (g_54 (v := .int (f (a0 + 13) (x1 + x2).toNatClampNeg)) (by decide +kernel : kd_ 54 78 = ((54, 0, 0, []), 79)) (sc_7_21 h1) rfl (by rw [sl_7_21 h1]; exact h2) rfl).trans ?_
  refine (g_10 (by decide +kernel : kd_ 54 79 = ((10, 0, 0, []), 80))).trans ?_
  rfl
theorem b_M_solveLines_80 {L : Nat} {f : cg_G} {e : Nat × Nat} {x1 x2 x3 x4 y0 : Int32} {a0 : Nat} {u5 : Value} : cj_res 54 80 [.ref a0, .int x1, .int x2, .int x3, .int x4, u5] [.int y0] (cg_M L f e) = if x3 < 0 then cj_res 54 139 [.ref a0, .int x1, .int x2, .int x3, .int x4, .int y0] [] (cg_M L f e) else cj_res 54 86 [.ref a0, .int x1, .int x2, .int x3, .int x4, .int y0] [] (cg_M L f e) := by
  refine (g_4 (ls' := [.ref a0, .int x1, .int x2, .int x3, .int x4, .int y0]) (by decide +kernel : kd_ 54 80 = ((4, 5, 0, []), 82)) rfl rfl).trans ?_
  refine (g_2 (by decide +kernel : kd_ 54 82 = ((2, 3, 0, []), 83)) rfl).trans ?_
  exact g_33 (by decide +kernel : kd_ 54 83 = ((33, 139, 0, []), 86))
theorem b_M_solveLines_86 {L : Nat} {f : cg_G} {e : Nat × Nat} {x1 x2 x3 x4 x5 : Int32} {a0 : Nat} : cj_res 54 86 [.ref a0, .int x1, .int x2, .int x3, .int x4, .int x5] [] (cg_M L f e) = if x4 = 0 then cj_res 54 91 [.ref a0, .int x1, .int x2, .int x3, .int x4, .int x5] [] (cg_M L f e) else cj_res 54 103 [.ref a0, .int x1, .int x2, .int x3, .int x4, .int x5] [] (cg_M L f e) := by
  refine (g_2 (by decide +kernel : kd_ 54 86 = ((2, 4, 0, []), 88)) rfl).trans ?_
  exact g_32 (by decide +kernel : kd_ 54 88 = ((32, 103, 0, []), 91))
theorem b_M_solveLines_91 {L : Nat} {f : cg_G} {e : Nat × Nat} {x1 x2 x3 x4 x5 : Int32} {a0 : Nat} (h1 : sh_ a0 = 7) (h2 : cg_in (x1 + x2) 901): cj_res 54 91 [.ref a0, .int x1, .int x2, .int x3, .int x4, .int x5] [] (cg_M L f e) = if (f (a0 + 13) (x1 + x2).toNatClampNeg) = (- nI 1) then cj_res 54 139 [.ref a0, .int x1, .int x2, .int x3, .int x4, .int x5] [] (cg_M L f e) else cj_res 54 103 [.ref a0, .int x1, .int x2, .int x3, .int x4, .int x5] [] (cg_M L f e) := by
  refine (g_3 (by decide +kernel : kd_ 54 91 = ((3, 0, 0, []), 92)) rfl).trans ?_
  refine (g_50 (v := .ref (a0 + 13)) (by decide +kernel : kd_ 54 92 = ((50, 7, 21, []), 95)) h1 rfl).trans ?_
  refine (g_2 (by decide +kernel : kd_ 54 95 = ((2, 1, 0, []), 96)) rfl).trans ?_
  refine (g_2 (by decide +kernel : kd_ 54 96 = ((2, 2, 0, []), 97)) rfl).trans ?_
  refine (g_10 (by decide +kernel : kd_ 54 97 = ((10, 0, 0, []), 98))).trans ?_
  refine (g_54 (v := .int (f (a0 + 13) (x1 + x2).toNatClampNeg)) (by decide +kernel : kd_ 54 98 = ((54, 0, 0, []), 99)) (sc_7_21 h1) rfl (by rw [sl_7_21 h1]; exact h2) rfl).trans ?_
  refine (g_1 (by decide +kernel : kd_ 54 99 = ((1, 1, 0, []), 100))).trans ?_
  exact g_37 (by decide +kernel : kd_ 54 100 = ((37, 139, 0, []), 103))
theorem b_M_solveLines_103 {L : Nat} {f : cg_G} {e : Nat × Nat} {x1 x2 x3 x4 x5 : Int32} {a0 : Nat} (h1 : sh_ a0 = 7) (h2 : cg_in x1 901): cj_res 54 103 [.ref a0, .int x1, .int x2, .int x3, .int x4, .int x5] [] (cg_M L f e) = if (f (a0 + 13) x1.toNatClampNeg) = (- nI 1) then cj_res 54 124 [.ref a0, .int x1, .int x2, .int x3, .int x4, .int x5] [] (cg_M L f e) else cj_res 54 113 [.ref a0, .int x1, .int x2, .int x3, .int x4, .int x5] [] (cg_M L f e) := by
  refine (g_3 (by decide +kernel : kd_ 54 103 = ((3, 0, 0, []), 104)) rfl).trans ?_
  refine (g_50 (v := .ref (a0 + 13)) (by decide +kernel : kd_ 54 104 = ((50, 7, 21, []), 107)) h1 rfl).trans ?_
  refine (g_2 (by decide +kernel : kd_ 54 107 = ((2, 1, 0, []), 108)) rfl).trans ?_
  refine (g_54 (v := .int (f (a0 + 13) x1.toNatClampNeg)) (by decide +kernel : kd_ 54 108 = ((54, 0, 0, []), 109)) (sc_7_21 h1) rfl (by rw [sl_7_21 h1]; exact h2) rfl).trans ?_
  refine (g_1 (by decide +kernel : kd_ 54 109 = ((1, 1, 0, []), 110))).trans ?_
  exact g_37 (by decide +kernel : kd_ 54 110 = ((37, 124, 0, []), 113))
theorem b_M_solveLines_113 {L : Nat} {f : cg_G} {e : Nat × Nat} {x1 x2 x3 x4 x5 : Int32} {a0 : Nat} (h1 : sh_ a0 = 7) (h2 : cg_in x1 901): cj_res 54 113 [.ref a0, .int x1, .int x2, .int x3, .int x4, .int x5] [] (cg_M L f e) = if (f (a0 + 13) x1.toNatClampNeg) ≤ x5 then cj_res 54 139 [.ref a0, .int x1, .int x2, .int x3, .int x4, .int x5] [] (cg_M L f e) else cj_res 54 124 [.ref a0, .int x1, .int x2, .int x3, .int x4, .int x5] [] (cg_M L f e) := by
  refine (g_2 (by decide +kernel : kd_ 54 113 = ((2, 5, 0, []), 115)) rfl).trans ?_
  refine (g_3 (by decide +kernel : kd_ 54 115 = ((3, 0, 0, []), 116)) rfl).trans ?_
  refine (g_50 (v := .ref (a0 + 13)) (by decide +kernel : kd_ 54 116 = ((50, 7, 21, []), 119)) h1 rfl).trans ?_
  refine (g_2 (by decide +kernel : kd_ 54 119 = ((2, 1, 0, []), 120)) rfl).trans ?_
  refine (g_54 (v := .int (f (a0 + 13) x1.toNatClampNeg)) (by decide +kernel : kd_ 54 120 = ((54, 0, 0, []), 121)) (sc_7_21 h1) rfl (by rw [sl_7_21 h1]; exact h2) rfl).trans ?_
  exact g_40 (by decide +kernel : kd_ 54 121 = ((40, 139, 0, []), 124))
theorem b_M_solveLines_124 {L : Nat} {f : cg_G} {e : Nat × Nat} {x1 x2 x3 x4 x5 : Int32} {a0 : Nat} (h1 : sh_ a0 = 7) (h2 : cg_in x1 901): cj_res 54 124 [.ref a0, .int x1, .int x2, .int x3, .int x4, .int x5] [] (cg_M L f e) = cj_res 54 139 [.ref a0, .int x1, .int x2, .int x3, .int x4, .int x5] [] (cg_M L (cg_up (cg_up f (a0 + 13) x1.toNatClampNeg x5) (a0 + 14) x1.toNatClampNeg x2) e) := by
  refine (g_3 (by decide +kernel : kd_ 54 124 = ((3, 0, 0, []), 125)) rfl).trans ?_
  refine (g_50 (v := .ref (a0 + 13)) (by decide +kernel : kd_ 54 125 = ((50, 7, 21, []), 128)) h1 rfl).trans ?_
  refine (g_2 (by decide +kernel : kd_ 54 128 = ((2, 1, 0, []), 129)) rfl).trans ?_
  refine (g_2 (by decide +kernel : kd_ 54 129 = ((2, 5, 0, []), 131)) rfl).trans ?_
  refine (g_56 (by decide +kernel : kd_ 54 131 = ((56, 0, 0, []), 132)) (sc_7_21 h1) (fun _ => rfl) (by rw [sl_7_21 h1]; exact h2) (by omega)).trans ?_
  refine (g_3 (by decide +kernel : kd_ 54 132 = ((3, 0, 0, []), 133)) rfl).trans ?_
  refine (g_50 (v := .ref (a0 + 14)) (by decide +kernel : kd_ 54 133 = ((50, 7, 22, []), 136)) h1 rfl).trans ?_
  refine (g_2 (by decide +kernel : kd_ 54 136 = ((2, 1, 0, []), 137)) rfl).trans ?_
  refine (g_2 (by decide +kernel : kd_ 54 137 = ((2, 2, 0, []), 138)) rfl).trans ?_
  refine (g_56 (by decide +kernel : kd_ 54 138 = ((56, 0, 0, []), 139)) (sc_7_22 h1) (fun _ => rfl) (by rw [sl_7_22 h1]; exact h2) (by omega)).trans ?_
  rfl
theorem b_M_solveLines_139 {L : Nat} {f : cg_G} {e : Nat × Nat} {x1 x2 x3 x4 x5 : Int32} {a0 : Nat} : cj_res 54 139 [.ref a0, .int x1, .int x2, .int x3, .int x4, .int x5] [] (cg_M L f e) = cj_res 54 9 [.ref a0, .int x1, .int (x2 + nI 1), .int x3, .int x4, .int x5] [] (cg_M L f e) := by
  refine (g_6 (ls' := [.ref a0, .int x1, .int (x2 + nI 1), .int x3, .int x4, .int x5]) (by decide +kernel : kd_ 54 139 = ((6, 2, 1, []), 142)) rfl rfl).trans ?_
  refine (g_30 (by decide +kernel : kd_ 54 142 = ((30, 9, 0, []), 145))).trans ?_
  rfl
theorem b_M_solveLines_145 {L : Nat} {f : cg_G} {e : Nat × Nat} {x1 x2 : Int32} {a0 : Nat} {u3 u4 u5 : Value} : cj_res 54 145 [.ref a0, .int x1, .int x2, u3, u4, u5] [] (cg_M L f e) = some (.inl none, cg_M L f e) := by
  exact g_91 (by decide +kernel : kd_ 54 145 = ((91, 0, 0, []), 146))
