theorem b_M_template_0 {L : Nat} {f : cg_G} {e : Nat × Nat} {a0 : Nat} {u1 u2 : Value} (h1 : sh_ a0 = 7): cj_res 122 0 [.ref a0, u1, u2] [] (cg_M L f e) = if (nI 6) ≤ (f a0 5) then cj_res 122 14 [.ref a0, u1, u2] [.ref a0] (cg_M L f e) else cj_res 122 10 [.ref a0, u1, u2] [.ref a0] (cg_M L f e) := by
  refine (g_3 (by decide +kernel : kd_ 122 0 = ((3, 0, 0, []), 1)) rfl).trans ?_
  refine (g_3 (by decide +kernel : kd_ 122 1 = ((3, 0, 0, []), 2)) rfl).trans ?_
  refine (g_50 (v := .int (f a0 5)) (by decide +kernel : kd_ 122 2 = ((50, 7, 5, []), 5)) h1 rfl).trans ?_
  refine (g_0 (by decide +kernel : kd_ 122 5 = ((0, 6, 0, []), 7))).trans ?_
  exact g_40 (by decide +kernel : kd_ 122 7 = ((40, 14, 0, []), 10))
theorem b_M_template_10 {L : Nat} {f : cg_G} {e : Nat × Nat} {a0 c0 : Nat} {u1 u2 : Value} : cj_res 122 10 [.ref a0, u1, u2] [.ref c0] (cg_M L f e) = cj_res 122 15 [.ref a0, u1, u2] [.int (nI 1), .ref c0] (cg_M L f e) := by
  refine (g_0 (by decide +kernel : kd_ 122 10 = ((0, 1, 0, []), 11))).trans ?_
  refine (g_30 (by decide +kernel : kd_ 122 11 = ((30, 15, 0, []), 14))).trans ?_
  rfl
theorem b_M_template_14 {L : Nat} {f : cg_G} {e : Nat × Nat} {a0 c0 : Nat} {u1 u2 : Value} : cj_res 122 14 [.ref a0, u1, u2] [.ref c0] (cg_M L f e) = cj_res 122 15 [.ref a0, u1, u2] [.int (nI 0), .ref c0] (cg_M L f e) := by
  refine (g_0 (by decide +kernel : kd_ 122 14 = ((0, 0, 0, []), 15))).trans ?_
  rfl
theorem b_M_template_15 {L : Nat} {f : cg_G} {e : Nat × Nat} {y0 : Int32} {a0 c1 : Nat} {u1 u2 : Value} (h1 : sh_ c1 = 7): cj_res 122 15 [.ref a0, u1, u2] [.int y0, .ref c1] (cg_M L f e) = cj_aft 122 16 19 [.ref a0, u1, u2] [] (cj_ev 46 [.ref c1, .int y0, .int (nI 1)] (cg_M L f e)) := by
  refine (g_0 (by decide +kernel : kd_ 122 15 = ((0, 1, 0, []), 16))).trans ?_
  exact g_80 (by decide +kernel : kd_ 122 16 = ((80, 46, 3, [7]), 19)) rfl h1 rfl rfl rfl
theorem b_M_template_19 {L : Nat} {f : cg_G} {e : Nat × Nat} {y0 : Int32} {a0 : Nat} {u1 u2 : Value} : cj_res 122 19 [.ref a0, u1, u2] [.int y0] (cg_M L f e) = if y0 = 0 then cj_res 122 22 [.ref a0, u1, u2] [] (cg_M L f e) else cj_res 122 24 [.ref a0, u1, u2] [] (cg_M L f e) := by
  exact g_32 (by decide +kernel : kd_ 122 19 = ((32, 24, 0, []), 22))
theorem b_M_template_22 {L : Nat} {f : cg_G} {e : Nat × Nat} {a0 : Nat} {u1 u2 : Value} : cj_res 122 22 [.ref a0, u1, u2] [] (cg_M L f e) = some (.inl (some (.int (nI 0))), cg_M L f e) := by
  refine (g_0 (by decide +kernel : kd_ 122 22 = ((0, 0, 0, []), 23))).trans ?_
  exact g_90 (by decide +kernel : kd_ 122 23 = ((90, 0, 0, []), 24))
theorem b_M_template_24 {L : Nat} {f : cg_G} {e : Nat × Nat} {a0 : Nat} {u1 u2 : Value} (h1 : sh_ a0 = 7): cj_res 122 24 [.ref a0, u1, u2] [] (cg_M L f e) = cj_aft 122 25 28 [.ref a0, u1, u2] [] (cj_ev 88 [.ref a0] (cg_M L f e)) := by
  refine (g_3 (by decide +kernel : kd_ 122 24 = ((3, 0, 0, []), 25)) rfl).trans ?_
  exact g_80 (by decide +kernel : kd_ 122 25 = ((80, 88, 1, [7]), 28)) rfl h1 rfl rfl rfl
theorem b_M_template_28 {L : Nat} {f : cg_G} {e : Nat × Nat} {y0 : Int32} {a0 : Nat} {u1 u2 : Value} : cj_res 122 28 [.ref a0, u1, u2] [.int y0] (cg_M L f e) = cj_res 122 31 [.ref a0, .int y0, .int (nI 0)] [] (cg_M L f e) := by
  refine (g_4 (ls' := [.ref a0, .int y0, u2]) (by decide +kernel : kd_ 122 28 = ((4, 1, 0, []), 29)) rfl rfl).trans ?_
  refine (g_0 (by decide +kernel : kd_ 122 29 = ((0, 0, 0, []), 30))).trans ?_
  refine (g_4 (ls' := [.ref a0, .int y0, .int (nI 0)]) (by decide +kernel : kd_ 122 30 = ((4, 2, 0, []), 31)) rfl rfl).trans ?_
  rfl
theorem b_M_template_31 {L : Nat} {f : cg_G} {e : Nat × Nat} {x1 x2 : Int32} {a0 : Nat} (h1 : sh_ a0 = 7): cj_res 122 31 [.ref a0, .int x1, .int x2] [] (cg_M L f e) = if (f a0 3) ≤ x2 then cj_res 122 70 [.ref a0, .int x1, .int x2] [] (cg_M L f e) else cj_res 122 39 [.ref a0, .int x1, .int x2] [] (cg_M L f e) := by
  refine (g_2 (by decide +kernel : kd_ 122 31 = ((2, 2, 0, []), 32)) rfl).trans ?_
  refine (g_3 (by decide +kernel : kd_ 122 32 = ((3, 0, 0, []), 33)) rfl).trans ?_
  refine (g_50 (v := .int (f a0 3)) (by decide +kernel : kd_ 122 33 = ((50, 7, 3, []), 36)) h1 rfl).trans ?_
  exact g_40 (by decide +kernel : kd_ 122 36 = ((40, 70, 0, []), 39))
theorem b_M_template_39 {L : Nat} {f : cg_G} {e : Nat × Nat} {x1 x2 : Int32} {a0 : Nat} : cj_res 122 39 [.ref a0, .int x1, .int x2] [] (cg_M L f e) = if x1 = (- nI 1) then cj_res 122 44 [.ref a0, .int x1, .int x2] [] (cg_M L f e) else cj_res 122 70 [.ref a0, .int x1, .int x2] [] (cg_M L f e) := by
  refine (g_2 (by decide +kernel : kd_ 122 39 = ((2, 1, 0, []), 40)) rfl).trans ?_
  refine (g_1 (by decide +kernel : kd_ 122 40 = ((1, 1, 0, []), 41))).trans ?_
  exact g_38 (by decide +kernel : kd_ 122 41 = ((38, 70, 0, []), 44))
theorem b_M_template_44 {L : Nat} {f : cg_G} {e : Nat × Nat} {x1 x2 : Int32} {a0 : Nat} (h1 : sh_ a0 = 7) (h2 : cg_in x2 32) (h3 : cg_in (((nI 32) * (f a0 5)) + x2) 192): cj_res 122 44 [.ref a0, .int x1, .int x2] [] (cg_M L f e) = cj_res 122 31 [.ref a0, .int x1, .int (x2 + nI 1)] [] (cg_M L (cg_up f (a0 + 3) (((nI 32) * (f a0 5)) + x2).toNatClampNeg (f (a0 + 1) x2.toNatClampNeg)) e) := by
  refine (g_3 (by decide +kernel : kd_ 122 44 = ((3, 0, 0, []), 45)) rfl).trans ?_
  refine (g_50 (v := .ref (a0 + 3)) (by decide +kernel : kd_ 122 45 = ((50, 7, 7, []), 48)) h1 rfl).trans ?_
  refine (g_0 (by decide +kernel : kd_ 122 48 = ((0, 32, 0, []), 50))).trans ?_
  refine (g_3 (by decide +kernel : kd_ 122 50 = ((3, 0, 0, []), 51)) rfl).trans ?_
  refine (g_50 (v := .int (f a0 5)) (by decide +kernel : kd_ 122 51 = ((50, 7, 5, []), 54)) h1 rfl).trans ?_
  refine (g_12 (by decide +kernel : kd_ 122 54 = ((12, 0, 0, []), 55))).trans ?_
  refine (g_2 (by decide +kernel : kd_ 122 55 = ((2, 2, 0, []), 56)) rfl).trans ?_
  refine (g_10 (by decide +kernel : kd_ 122 56 = ((10, 0, 0, []), 57))).trans ?_
  refine (g_3 (by decide +kernel : kd_ 122 57 = ((3, 0, 0, []), 58)) rfl).trans ?_
  refine (g_50 (v := .ref (a0 + 1)) (by decide +kernel : kd_ 122 58 = ((50, 7, 4, []), 61)) h1 rfl).trans ?_
  refine (g_2 (by decide +kernel : kd_ 122 61 = ((2, 2, 0, []), 62)) rfl).trans ?_
  refine (g_54 (v := .int (f (a0 + 1) x2.toNatClampNeg)) (by decide +kernel : kd_ 122 62 = ((54, 0, 0, []), 63)) (sc_7_4 h1) rfl (by rw [sl_7_4 h1]; exact h2) rfl).trans ?_
  refine (g_56 (by decide +kernel : kd_ 122 63 = ((56, 0, 0, []), 64)) (sc_7_7 h1) (fun _ => rfl) (by rw [sl_7_7 h1]; exact h3) (by omega)).trans ?_
  refine (g_6 (ls' := [.ref a0, .int x1, .int (x2 + nI 1)]) (by decide +kernel : kd_ 122 64 = ((6, 2, 1, []), 67)) rfl rfl).trans ?_
  refine (g_30 (by decide +kernel : kd_ 122 67 = ((30, 31, 0, []), 70))).trans ?_
  rfl
theorem b_M_template_70 {L : Nat} {f : cg_G} {e : Nat × Nat} {x1 x2 : Int32} {a0 : Nat} (h1 : sh_ a0 = 7) (h2 : cg_in (f a0 5) 6): cj_res 122 70 [.ref a0, .int x1, .int x2] [] (cg_M L f e) = if x1 = (- nI 1) then cj_res 122 89 [.ref a0, .int x1, .int x2] [.ref a0] (cg_M L (cg_up f (a0 + 2) (f a0 5).toNatClampNeg (f a0 3)) e) else cj_res 122 98 [.ref a0, .int x1, .int x2] [.ref a0] (cg_M L (cg_up f (a0 + 2) (f a0 5).toNatClampNeg (f a0 3)) e) := by
  refine (g_3 (by decide +kernel : kd_ 122 70 = ((3, 0, 0, []), 71)) rfl).trans ?_
  refine (g_50 (v := .ref (a0 + 2)) (by decide +kernel : kd_ 122 71 = ((50, 7, 6, []), 74)) h1 rfl).trans ?_
  refine (g_3 (by decide +kernel : kd_ 122 74 = ((3, 0, 0, []), 75)) rfl).trans ?_
  refine (g_50 (v := .int (f a0 5)) (by decide +kernel : kd_ 122 75 = ((50, 7, 5, []), 78)) h1 rfl).trans ?_
  refine (g_3 (by decide +kernel : kd_ 122 78 = ((3, 0, 0, []), 79)) rfl).trans ?_
  refine (g_50 (v := .int (f a0 3)) (by decide +kernel : kd_ 122 79 = ((50, 7, 3, []), 82)) h1 rfl).trans ?_
  refine (g_56 (by decide +kernel : kd_ 122 82 = ((56, 0, 0, []), 83)) (sc_7_6 h1) (fun _ => rfl) (by rw [sl_7_6 h1]; exact h2) (by omega)).trans ?_
  refine (g_3 (by decide +kernel : kd_ 122 83 = ((3, 0, 0, []), 84)) rfl).trans ?_
  refine (g_2 (by decide +kernel : kd_ 122 84 = ((2, 1, 0, []), 85)) rfl).trans ?_
  refine (g_1 (by decide +kernel : kd_ 122 85 = ((1, 1, 0, []), 86))).trans ?_
  exact g_38 (by decide +kernel : kd_ 122 86 = ((38, 98, 0, []), 89))
theorem b_M_template_89 {L : Nat} {f : cg_G} {e : Nat × Nat} {x1 x2 : Int32} {a0 c0 : Nat} (h1 : sh_ a0 = 7): cj_res 122 89 [.ref a0, .int x1, .int x2] [.ref c0] (cg_M L f e) = cj_res 122 102 [.ref a0, .int x1, .int x2] [.int ((f a0 5) + (nI 1)), .ref c0] (cg_M L f e) := by
  refine (g_3 (by decide +kernel : kd_ 122 89 = ((3, 0, 0, []), 90)) rfl).trans ?_
  refine (g_50 (v := .int (f a0 5)) (by decide +kernel : kd_ 122 90 = ((50, 7, 5, []), 93)) h1 rfl).trans ?_
  refine (g_0 (by decide +kernel : kd_ 122 93 = ((0, 1, 0, []), 94))).trans ?_
  refine (g_10 (by decide +kernel : kd_ 122 94 = ((10, 0, 0, []), 95))).trans ?_
  refine (g_30 (by decide +kernel : kd_ 122 95 = ((30, 102, 0, []), 98))).trans ?_
  rfl
theorem b_M_template_98 {L : Nat} {f : cg_G} {e : Nat × Nat} {x1 x2 : Int32} {a0 c0 : Nat} (h1 : sh_ a0 = 7): cj_res 122 98 [.ref a0, .int x1, .int x2] [.ref c0] (cg_M L f e) = cj_res 122 102 [.ref a0, .int x1, .int x2] [.int (f a0 5), .ref c0] (cg_M L f e) := by
  refine (g_3 (by decide +kernel : kd_ 122 98 = ((3, 0, 0, []), 99)) rfl).trans ?_
  refine (g_50 (v := .int (f a0 5)) (by decide +kernel : kd_ 122 99 = ((50, 7, 5, []), 102)) h1 rfl).trans ?_
  rfl
theorem b_M_template_102 {L : Nat} {f : cg_G} {e : Nat × Nat} {x1 x2 y0 : Int32} {a0 c1 : Nat} (h1 : sh_ c1 = 7) (h2 : sh_ a0 = 7): cj_res 122 102 [.ref a0, .int x1, .int x2] [.int y0, .ref c1] (cg_M L f e) = if x1 = (- nI 1) then cj_res 122 115 [.ref a0, .int x1, .int x2] [] (cg_M L (cg_up (cg_up f c1 5 y0) a0 3 (nI 0)) e) else cj_res 122 124 [.ref a0, .int x1, .int x2] [] (cg_M L (cg_up (cg_up f c1 5 y0) a0 3 (nI 0)) e) := by
  refine (g_51 (x := y0) (v := .int y0) (by decide +kernel : kd_ 122 102 = ((51, 7, 5, [0]), 105)) h1 rfl rfl rfl (sz_7 h1) rfl).trans ?_
  refine (g_3 (by decide +kernel : kd_ 122 105 = ((3, 0, 0, []), 106)) rfl).trans ?_
  refine (g_0 (by decide +kernel : kd_ 122 106 = ((0, 0, 0, []), 107))).trans ?_
  refine (g_51 (x := nI 0) (v := .int (nI 0)) (by decide +kernel : kd_ 122 107 = ((51, 7, 3, [0]), 110)) h2 rfl rfl rfl (sz_7 h2) rfl).trans ?_
  refine (g_2 (by decide +kernel : kd_ 122 110 = ((2, 1, 0, []), 111)) rfl).trans ?_
  refine (g_1 (by decide +kernel : kd_ 122 111 = ((1, 1, 0, []), 112))).trans ?_
  exact g_38 (by decide +kernel : kd_ 122 112 = ((38, 124, 0, []), 115))
theorem b_M_template_115 {L : Nat} {f : cg_G} {e : Nat × Nat} {x1 x2 : Int32} {a0 : Nat} (h1 : sh_ a0 = 7): cj_res 122 115 [.ref a0, .int x1, .int x2] [] (cg_M L f e) = cj_res 122 127 [.ref a0, .int x1, .int x2] [.int ((f a0 5) - (nI 1))] (cg_M L f e) := by
  refine (g_3 (by decide +kernel : kd_ 122 115 = ((3, 0, 0, []), 116)) rfl).trans ?_
  refine (g_50 (v := .int (f a0 5)) (by decide +kernel : kd_ 122 116 = ((50, 7, 5, []), 119)) h1 rfl).trans ?_
  refine (g_0 (by decide +kernel : kd_ 122 119 = ((0, 1, 0, []), 120))).trans ?_
  refine (g_11 (by decide +kernel : kd_ 122 120 = ((11, 0, 0, []), 121))).trans ?_
  refine (g_30 (by decide +kernel : kd_ 122 121 = ((30, 127, 0, []), 124))).trans ?_
  rfl
theorem b_M_template_124 {L : Nat} {f : cg_G} {e : Nat × Nat} {x1 x2 : Int32} {a0 : Nat} : cj_res 122 124 [.ref a0, .int x1, .int x2] [] (cg_M L f e) = cj_res 122 127 [.ref a0, .int x1, .int x2] [.int ((- nI 1) - x1)] (cg_M L f e) := by
  refine (g_1 (by decide +kernel : kd_ 122 124 = ((1, 1, 0, []), 125))).trans ?_
  refine (g_2 (by decide +kernel : kd_ 122 125 = ((2, 1, 0, []), 126)) rfl).trans ?_
  refine (g_11 (by decide +kernel : kd_ 122 126 = ((11, 0, 0, []), 127))).trans ?_
  rfl
theorem b_M_template_127 {L : Nat} {f : cg_G} {e : Nat × Nat} {x1 x2 y0 : Int32} {a0 : Nat} : cj_res 122 127 [.ref a0, .int x1, .int x2] [.int y0] (cg_M L f e) = some (.inl (some (.int y0)), cg_M L f e) := by
  exact g_90 (by decide +kernel : kd_ 122 127 = ((90, 0, 0, []), 128))
theorem b_M_turn_0 {L : Nat} {f : cg_G} {e : Nat × Nat} {x1 : Int32} {a0 : Nat} {u2 u3 u4 u5 u6 : Value} (h1 : sh_ a0 = 7) (h2 : cg_in x1 2): cj_res 123 0 [.ref a0, .int x1, u2, u3, u4, u5, u6] [] (cg_M L f e) = cj_res 123 9 [.ref a0, .int x1, .int ((f (a0 + 23) x1.toNatClampNeg) - (nI 1)), u3, u4, u5, u6] [] (cg_M L f e) := by
  refine (g_3 (by decide +kernel : kd_ 123 0 = ((3, 0, 0, []), 1)) rfl).trans ?_
  refine (g_50 (v := .ref (a0 + 23)) (by decide +kernel : kd_ 123 1 = ((50, 7, 32, []), 4)) h1 rfl).trans ?_
  refine (g_2 (by decide +kernel : kd_ 123 4 = ((2, 1, 0, []), 5)) rfl).trans ?_
  refine (g_54 (v := .int (f (a0 + 23) x1.toNatClampNeg)) (by decide +kernel : kd_ 123 5 = ((54, 0, 0, []), 6)) (sc_7_32 h1) rfl (by rw [sl_7_32 h1]; exact h2) rfl).trans ?_
  refine (g_0 (by decide +kernel : kd_ 123 6 = ((0, 1, 0, []), 7))).trans ?_
  refine (g_11 (by decide +kernel : kd_ 123 7 = ((11, 0, 0, []), 8))).trans ?_
  refine (g_4 (ls' := [.ref a0, .int x1, .int ((f (a0 + 23) x1.toNatClampNeg) - (nI 1)), u3, u4, u5, u6]) (by decide +kernel : kd_ 123 8 = ((4, 2, 0, []), 9)) rfl rfl).trans ?_
  rfl
theorem b_M_turn_9 {L : Nat} {f : cg_G} {e : Nat × Nat} {x1 x2 : Int32} {a0 : Nat} {u3 u4 u5 u6 : Value} : cj_res 123 9 [.ref a0, .int x1, .int x2, u3, u4, u5, u6] [] (cg_M L f e) = if x2 < 0 then cj_res 123 25 [.ref a0, .int x1, .int x2, u3, u4, u5, u6] [] (cg_M L f e) else cj_res 123 13 [.ref a0, .int x1, .int x2, u3, u4, u5, u6] [] (cg_M L f e) := by
  refine (g_2 (by decide +kernel : kd_ 123 9 = ((2, 2, 0, []), 10)) rfl).trans ?_
  exact g_33 (by decide +kernel : kd_ 123 10 = ((33, 25, 0, []), 13))
theorem b_M_turn_13 {L : Nat} {f : cg_G} {e : Nat × Nat} {x1 x2 : Int32} {a0 : Nat} {u3 u4 u5 u6 : Value} (h1 : sh_ a0 = 7): cj_res 123 13 [.ref a0, .int x1, .int x2, u3, u4, u5, u6] [] (cg_M L f e) = cj_aft 123 16 19 [.ref a0, .int x1, .int x2, u3, u4, u5, u6] [] (cj_ev 97 [.ref a0, .int x1, .int x2] (cg_M L f e)) := by
  refine (g_3 (by decide +kernel : kd_ 123 13 = ((3, 0, 0, []), 14)) rfl).trans ?_
  refine (g_2 (by decide +kernel : kd_ 123 14 = ((2, 1, 0, []), 15)) rfl).trans ?_
  refine (g_2 (by decide +kernel : kd_ 123 15 = ((2, 2, 0, []), 16)) rfl).trans ?_
  exact g_80 (by decide +kernel : kd_ 123 16 = ((80, 97, 3, [7]), 19)) rfl h1 rfl rfl rfl
theorem b_M_turn_19 {L : Nat} {f : cg_G} {e : Nat × Nat} {x1 x2 : Int32} {a0 : Nat} {u3 u4 u5 u6 : Value} : cj_res 123 19 [.ref a0, .int x1, .int x2, u3, u4, u5, u6] [] (cg_M L f e) = cj_res 123 9 [.ref a0, .int x1, .int (x2 + - nI 1), u3, u4, u5, u6] [] (cg_M L f e) := by
  refine (g_7 (ls' := [.ref a0, .int x1, .int (x2 + - nI 1), u3, u4, u5, u6]) (by decide +kernel : kd_ 123 19 = ((7, 2, 1, []), 22)) rfl rfl).trans ?_
  refine (g_30 (by decide +kernel : kd_ 123 22 = ((30, 9, 0, []), 25))).trans ?_
  rfl
theorem b_M_turn_25 {L : Nat} {f : cg_G} {e : Nat × Nat} {x1 x2 : Int32} {a0 : Nat} {u3 u4 u5 u6 : Value} : cj_res 123 25 [.ref a0, .int x1, .int x2, u3, u4, u5, u6] [] (cg_M L f e) = cj_res 123 27 [.ref a0, .int x1, .int (nI 0), u3, u4, u5, u6] [] (cg_M L f e) := by
  refine (g_0 (by decide +kernel : kd_ 123 25 = ((0, 0, 0, []), 26))).trans ?_
  refine (g_4 (ls' := [.ref a0, .int x1, .int (nI 0), u3, u4, u5, u6]) (by decide +kernel : kd_ 123 26 = ((4, 2, 0, []), 27)) rfl rfl).trans ?_
  rfl
theorem b_M_turn_27 {L : Nat} {f : cg_G} {e : Nat × Nat} {x1 x2 : Int32} {a0 : Nat} {u3 u4 u5 u6 : Value} : cj_res 123 27 [.ref a0, .int x1, .int x2, u3, u4, u5, u6] [] (cg_M L f e) = if (nI 8) ≤ x2 then cj_res 123 51 [.ref a0, .int x1, .int x2, u3, u4, u5, u6] [] (cg_M L f e) else cj_res 123 33 [.ref a0, .int x1, .int x2, u3, u4, u5, u6] [] (cg_M L f e) := by
  refine (g_2 (by decide +kernel : kd_ 123 27 = ((2, 2, 0, []), 28)) rfl).trans ?_
  refine (g_0 (by decide +kernel : kd_ 123 28 = ((0, 8, 0, []), 30))).trans ?_
  exact g_40 (by decide +kernel : kd_ 123 30 = ((40, 51, 0, []), 33))
theorem b_M_turn_33 {L : Nat} {f : cg_G} {e : Nat × Nat} {x1 x2 : Int32} {a0 : Nat} {u3 u4 u5 u6 : Value} (h1 : sh_ a0 = 7) (h2 : cg_in (((nI 8) * x1) + x2) 16): cj_res 123 33 [.ref a0, .int x1, .int x2, u3, u4, u5, u6] [] (cg_M L f e) = cj_res 123 27 [.ref a0, .int x1, .int (x2 + nI 1), u3, u4, u5, u6] [] (cg_M L (cg_up f (a0 + 17) (((nI 8) * x1) + x2).toNatClampNeg (- nI 1)) e) := by
  refine (g_3 (by decide +kernel : kd_ 123 33 = ((3, 0, 0, []), 34)) rfl).trans ?_
  refine (g_50 (v := .ref (a0 + 17)) (by decide +kernel : kd_ 123 34 = ((50, 7, 26, []), 37)) h1 rfl).trans ?_
  refine (g_0 (by decide +kernel : kd_ 123 37 = ((0, 8, 0, []), 39))).trans ?_
  refine (g_2 (by decide +kernel : kd_ 123 39 = ((2, 1, 0, []), 40)) rfl).trans ?_
  refine (g_12 (by decide +kernel : kd_ 123 40 = ((12, 0, 0, []), 41))).trans ?_
  refine (g_2 (by decide +kernel : kd_ 123 41 = ((2, 2, 0, []), 42)) rfl).trans ?_
  refine (g_10 (by decide +kernel : kd_ 123 42 = ((10, 0, 0, []), 43))).trans ?_
  refine (g_1 (by decide +kernel : kd_ 123 43 = ((1, 1, 0, []), 44))).trans ?_
  refine (g_56 (by decide +kernel : kd_ 123 44 = ((56, 0, 0, []), 45)) (sc_7_26 h1) (fun _ => rfl) (by rw [sl_7_26 h1]; exact h2) (by omega)).trans ?_
  refine (g_6 (ls' := [.ref a0, .int x1, .int (x2 + nI 1), u3, u4, u5, u6]) (by decide +kernel : kd_ 123 45 = ((6, 2, 1, []), 48)) rfl rfl).trans ?_
  refine (g_30 (by decide +kernel : kd_ 123 48 = ((30, 27, 0, []), 51))).trans ?_
  rfl
theorem b_M_turn_51 {L : Nat} {f : cg_G} {e : Nat × Nat} {x1 x2 : Int32} {a0 : Nat} {u3 u4 u5 u6 : Value} : cj_res 123 51 [.ref a0, .int x1, .int x2, u3, u4, u5, u6] [] (cg_M L f e) = cj_res 123 55 [.ref a0, .int x1, .int (nI 0), .int (nI 0), u4, u5, u6] [] (cg_M L f e) := by
  refine (g_0 (by decide +kernel : kd_ 123 51 = ((0, 0, 0, []), 52))).trans ?_
  refine (g_4 (ls' := [.ref a0, .int x1, .int (nI 0), u3, u4, u5, u6]) (by decide +kernel : kd_ 123 52 = ((4, 2, 0, []), 53)) rfl rfl).trans ?_
  refine (g_0 (by decide +kernel : kd_ 123 53 = ((0, 0, 0, []), 54))).trans ?_
  refine (g_4 (ls' := [.ref a0, .int x1, .int (nI 0), .int (nI 0), u4, u5, u6]) (by decide +kernel : kd_ 123 54 = ((4, 3, 0, []), 55)) rfl rfl).trans ?_
  rfl
theorem b_M_turn_55 {L : Nat} {f : cg_G} {e : Nat × Nat} {x1 x2 x3 : Int32} {a0 : Nat} {u4 u5 u6 : Value} (h1 : sh_ a0 = 7) (h2 : cg_in x1 2): cj_res 123 55 [.ref a0, .int x1, .int x2, .int x3, u4, u5, u6] [] (cg_M L f e) = if (f (a0 + 23) x1.toNatClampNeg) ≤ x3 then cj_res 123 188 [.ref a0, .int x1, .int x2, .int x3, u4, u5, u6] [] (cg_M L f e) else cj_res 123 65 [.ref a0, .int x1, .int x2, .int x3, u4, u5, u6] [] (cg_M L f e) := by
  refine (g_2 (by decide +kernel : kd_ 123 55 = ((2, 3, 0, []), 56)) rfl).trans ?_
  refine (g_3 (by decide +kernel : kd_ 123 56 = ((3, 0, 0, []), 57)) rfl).trans ?_
  refine (g_50 (v := .ref (a0 + 23)) (by decide +kernel : kd_ 123 57 = ((50, 7, 32, []), 60)) h1 rfl).trans ?_
  refine (g_2 (by decide +kernel : kd_ 123 60 = ((2, 1, 0, []), 61)) rfl).trans ?_
  refine (g_54 (v := .int (f (a0 + 23) x1.toNatClampNeg)) (by decide +kernel : kd_ 123 61 = ((54, 0, 0, []), 62)) (sc_7_32 h1) rfl (by rw [sl_7_32 h1]; exact h2) rfl).trans ?_
  exact g_40 (by decide +kernel : kd_ 123 62 = ((40, 188, 0, []), 65))
theorem b_M_turn_65 {L : Nat} {f : cg_G} {e : Nat × Nat} {x1 x2 x3 : Int32} {a0 : Nat} {u4 u5 u6 : Value} : cj_res 123 65 [.ref a0, .int x1, .int x2, .int x3, u4, u5, u6] [] (cg_M L f e) = cj_res 123 80 [.ref a0, .int x1, .int (x2 + nI 1), .int x3, .int (nI 0), .int (((nI 900) * x1) + x3), u6] [] (cg_M L f e) := by
  refine (g_6 (ls' := [.ref a0, .int x1, .int (x2 + nI 1), .int x3, u4, u5, u6]) (by decide +kernel : kd_ 123 65 = ((6, 2, 1, []), 68)) rfl rfl).trans ?_
  refine (g_0 (by decide +kernel : kd_ 123 68 = ((0, 0, 0, []), 69))).trans ?_
  refine (g_4 (ls' := [.ref a0, .int x1, .int (x2 + nI 1), .int x3, .int (nI 0), u5, u6]) (by decide +kernel : kd_ 123 69 = ((4, 4, 0, []), 71)) rfl rfl).trans ?_
  refine (g_0 (by decide +kernel : kd_ 123 71 = ((0, 900, 0, []), 74))).trans ?_
  refine (g_2 (by decide +kernel : kd_ 123 74 = ((2, 1, 0, []), 75)) rfl).trans ?_
  refine (g_12 (by decide +kernel : kd_ 123 75 = ((12, 0, 0, []), 76))).trans ?_
  refine (g_2 (by decide +kernel : kd_ 123 76 = ((2, 3, 0, []), 77)) rfl).trans ?_
  refine (g_10 (by decide +kernel : kd_ 123 77 = ((10, 0, 0, []), 78))).trans ?_
  refine (g_4 (ls' := [.ref a0, .int x1, .int (x2 + nI 1), .int x3, .int (nI 0), .int (((nI 900) * x1) + x3), u6]) (by decide +kernel : kd_ 123 78 = ((4, 5, 0, []), 80)) rfl rfl).trans ?_
  rfl
theorem b_M_turn_80 {L : Nat} {f : cg_G} {e : Nat × Nat} {x1 x2 x3 x4 x5 : Int32} {a0 : Nat} {u6 : Value} (h1 : sh_ a0 = 7) (h2 : cg_in x3 901): cj_res 123 80 [.ref a0, .int x1, .int x2, .int x3, .int x4, .int x5, u6] [] (cg_M L f e) = if ((((nI 900) * x1) + x3) + (f (a0 + 14) x3.toNatClampNeg)) ≤ x5 then cj_res 123 176 [.ref a0, .int x1, .int x2, .int x3, .int x4, .int x5, u6] [] (cg_M L f e) else cj_res 123 99 [.ref a0, .int x1, .int x2, .int x3, .int x4, .int x5, u6] [] (cg_M L f e) := by
  refine (g_2 (by decide +kernel : kd_ 123 80 = ((2, 5, 0, []), 82)) rfl).trans ?_
  refine (g_0 (by decide +kernel : kd_ 123 82 = ((0, 900, 0, []), 85))).trans ?_
  refine (g_2 (by decide +kernel : kd_ 123 85 = ((2, 1, 0, []), 86)) rfl).trans ?_
  refine (g_12 (by decide +kernel : kd_ 123 86 = ((12, 0, 0, []), 87))).trans ?_
  refine (g_2 (by decide +kernel : kd_ 123 87 = ((2, 3, 0, []), 88)) rfl).trans ?_
  refine (g_10 (by decide +kernel : kd_ 123 88 = ((10, 0, 0, []), 89))).trans ?_
  refine (g_3 (by decide +kernel : kd_ 123 89 = ((3, 0, 0, []), 90)) rfl).trans ?_
  refine (g_50 (v := .ref (a0 + 14)) (by decide +kernel : kd_ 123 90 = ((50, 7, 22, []), 93)) h1 rfl).trans ?_
  refine (g_2 (by decide +kernel : kd_ 123 93 = ((2, 3, 0, []), 94)) rfl).trans ?_
  refine (g_54 (v := .int (f (a0 + 14) x3.toNatClampNeg)) (by decide +kernel : kd_ 123 94 = ((54, 0, 0, []), 95)) (sc_7_22 h1) rfl (by rw [sl_7_22 h1]; exact h2) rfl).trans ?_
  refine (g_10 (by decide +kernel : kd_ 123 95 = ((10, 0, 0, []), 96))).trans ?_
  exact g_40 (by decide +kernel : kd_ 123 96 = ((40, 176, 0, []), 99))
theorem b_M_turn_99 {L : Nat} {f : cg_G} {e : Nat × Nat} {x1 x2 x3 x4 x5 : Int32} {a0 : Nat} {u6 : Value} (h1 : sh_ a0 = 7) (h2 : cg_in x5 1800): cj_res 123 99 [.ref a0, .int x1, .int x2, .int x3, .int x4, .int x5, u6] [] (cg_M L f e) = cj_aft 123 121 124 [.ref a0, .int x1, .int x2, .int x3, .int x4, .int x5, u6] [.int x4] (cj_ev 48 [.ref a0, .int x5] (cg_M L (cg_up (cg_up f (a0 + 28) x5.toNatClampNeg x2) (a0 + 29) x5.toNatClampNeg x4) e)) := by
  refine (g_3 (by decide +kernel : kd_ 123 99 = ((3, 0, 0, []), 100)) rfl).trans ?_
  refine (g_50 (v := .ref (a0 + 28)) (by decide +kernel : kd_ 123 100 = ((50, 7, 37, []), 103)) h1 rfl).trans ?_
  refine (g_2 (by decide +kernel : kd_ 123 103 = ((2, 5, 0, []), 105)) rfl).trans ?_
  refine (g_2 (by decide +kernel : kd_ 123 105 = ((2, 2, 0, []), 106)) rfl).trans ?_
  refine (g_56 (by decide +kernel : kd_ 123 106 = ((56, 0, 0, []), 107)) (sc_7_37 h1) (fun _ => rfl) (by rw [sl_7_37 h1]; exact h2) (by omega)).trans ?_
  refine (g_3 (by decide +kernel : kd_ 123 107 = ((3, 0, 0, []), 108)) rfl).trans ?_
  refine (g_50 (v := .ref (a0 + 29)) (by decide +kernel : kd_ 123 108 = ((50, 7, 38, []), 111)) h1 rfl).trans ?_
  refine (g_2 (by decide +kernel : kd_ 123 111 = ((2, 5, 0, []), 113)) rfl).trans ?_
  refine (g_2 (by decide +kernel : kd_ 123 113 = ((2, 4, 0, []), 115)) rfl).trans ?_
  refine (g_56 (by decide +kernel : kd_ 123 115 = ((56, 0, 0, []), 116)) (sc_7_38 h1) (fun _ => rfl) (by rw [sl_7_38 h1]; exact h2) (by omega)).trans ?_
  refine (g_2 (by decide +kernel : kd_ 123 116 = ((2, 4, 0, []), 118)) rfl).trans ?_
  refine (g_3 (by decide +kernel : kd_ 123 118 = ((3, 0, 0, []), 119)) rfl).trans ?_
  refine (g_2 (by decide +kernel : kd_ 123 119 = ((2, 5, 0, []), 121)) rfl).trans ?_
  exact g_80 (by decide +kernel : kd_ 123 121 = ((80, 48, 2, [7]), 124)) rfl h1 rfl rfl rfl
theorem b_M_turn_124 {L : Nat} {f : cg_G} {e : Nat × Nat} {x1 x2 x3 x4 x5 y0 y1 : Int32} {a0 : Nat} {u6 : Value} (h1 : sh_ a0 = 7) (h2 : cg_in x5 1800) (h3 : cg_in (((nI 8) * x1) + (f (a0 + 24) x5.toNatClampNeg)) 16): cj_res 123 124 [.ref a0, .int x1, .int x2, .int x3, .int x4, .int x5, u6] [.int y0, .int y1] (cg_M L f e) = if (f (a0 + 17) (((nI 8) * x1) + (f (a0 + 24) x5.toNatClampNeg)).toNatClampNeg) = (- nI 1) then cj_res 123 158 [.ref a0, .int x1, .int x2, .int x3, .int (y1 + y0), .int x5, .int (((nI 8) * x1) + (f (a0 + 24) x5.toNatClampNeg))] [.int (((nI 8) * x1) + (f (a0 + 24) x5.toNatClampNeg)), .ref (a0 + 17)] (cg_M L f e) else cj_res 123 162 [.ref a0, .int x1, .int x2, .int x3, .int (y1 + y0), .int x5, .int (((nI 8) * x1) + (f (a0 + 24) x5.toNatClampNeg))] [.int (((nI 8) * x1) + (f (a0 + 24) x5.toNatClampNeg)), .ref (a0 + 17)] (cg_M L f e) := by
  refine (g_10 (by decide +kernel : kd_ 123 124 = ((10, 0, 0, []), 125))).trans ?_
  refine (g_4 (ls' := [.ref a0, .int x1, .int x2, .int x3, .int (y1 + y0), .int x5, u6]) (by decide +kernel : kd_ 123 125 = ((4, 4, 0, []), 127)) rfl rfl).trans ?_
  refine (g_0 (by decide +kernel : kd_ 123 127 = ((0, 8, 0, []), 129))).trans ?_
  refine (g_2 (by decide +kernel : kd_ 123 129 = ((2, 1, 0, []), 130)) rfl).trans ?_
  refine (g_12 (by decide +kernel : kd_ 123 130 = ((12, 0, 0, []), 131))).trans ?_
  refine (g_3 (by decide +kernel : kd_ 123 131 = ((3, 0, 0, []), 132)) rfl).trans ?_
  refine (g_50 (v := .ref (a0 + 24)) (by decide +kernel : kd_ 123 132 = ((50, 7, 33, []), 135)) h1 rfl).trans ?_
  refine (g_2 (by decide +kernel : kd_ 123 135 = ((2, 5, 0, []), 137)) rfl).trans ?_
  refine (g_54 (v := .int (f (a0 + 24) x5.toNatClampNeg)) (by decide +kernel : kd_ 123 137 = ((54, 0, 0, []), 138)) (sc_7_33 h1) rfl (by rw [sl_7_33 h1]; exact h2) rfl).trans ?_
  refine (g_10 (by decide +kernel : kd_ 123 138 = ((10, 0, 0, []), 139))).trans ?_
  refine (g_4 (ls' := [.ref a0, .int x1, .int x2, .int x3, .int (y1 + y0), .int x5, .int (((nI 8) * x1) + (f (a0 + 24) x5.toNatClampNeg))]) (by decide +kernel : kd_ 123 139 = ((4, 6, 0, []), 141)) rfl rfl).trans ?_
  refine (g_3 (by decide +kernel : kd_ 123 141 = ((3, 0, 0, []), 142)) rfl).trans ?_
  refine (g_50 (v := .ref (a0 + 17)) (by decide +kernel : kd_ 123 142 = ((50, 7, 26, []), 145)) h1 rfl).trans ?_
  refine (g_2 (by decide +kernel : kd_ 123 145 = ((2, 6, 0, []), 147)) rfl).trans ?_
  refine (g_3 (by decide +kernel : kd_ 123 147 = ((3, 0, 0, []), 148)) rfl).trans ?_
  refine (g_50 (v := .ref (a0 + 17)) (by decide +kernel : kd_ 123 148 = ((50, 7, 26, []), 151)) h1 rfl).trans ?_
  refine (g_2 (by decide +kernel : kd_ 123 151 = ((2, 6, 0, []), 153)) rfl).trans ?_
  refine (g_54 (v := .int (f (a0 + 17) (((nI 8) * x1) + (f (a0 + 24) x5.toNatClampNeg)).toNatClampNeg)) (by decide +kernel : kd_ 123 153 = ((54, 0, 0, []), 154)) (sc_7_26 h1) rfl (by rw [sl_7_26 h1]; exact h3) rfl).trans ?_
  refine (g_1 (by decide +kernel : kd_ 123 154 = ((1, 1, 0, []), 155))).trans ?_
  exact g_38 (by decide +kernel : kd_ 123 155 = ((38, 162, 0, []), 158))
theorem b_M_turn_158 {L : Nat} {f : cg_G} {e : Nat × Nat} {x1 x2 x3 x4 x5 x6 y0 : Int32} {a0 c1 : Nat} : cj_res 123 158 [.ref a0, .int x1, .int x2, .int x3, .int x4, .int x5, .int x6] [.int y0, .ref c1] (cg_M L f e) = cj_res 123 169 [.ref a0, .int x1, .int x2, .int x3, .int x4, .int x5, .int x6] [.int x2, .int y0, .ref c1] (cg_M L f e) := by
  refine (g_2 (by decide +kernel : kd_ 123 158 = ((2, 2, 0, []), 159)) rfl).trans ?_
  refine (g_30 (by decide +kernel : kd_ 123 159 = ((30, 169, 0, []), 162))).trans ?_
  rfl
theorem b_M_turn_162 {L : Nat} {f : cg_G} {e : Nat × Nat} {x1 x2 x3 x4 x5 x6 y0 : Int32} {a0 c1 : Nat} (h1 : sh_ a0 = 7) (h2 : cg_in x6 16): cj_res 123 162 [.ref a0, .int x1, .int x2, .int x3, .int x4, .int x5, .int x6] [.int y0, .ref c1] (cg_M L f e) = cj_res 123 169 [.ref a0, .int x1, .int x2, .int x3, .int x4, .int x5, .int x6] [.int (f (a0 + 17) x6.toNatClampNeg), .int y0, .ref c1] (cg_M L f e) := by
  refine (g_3 (by decide +kernel : kd_ 123 162 = ((3, 0, 0, []), 163)) rfl).trans ?_
  refine (g_50 (v := .ref (a0 + 17)) (by decide +kernel : kd_ 123 163 = ((50, 7, 26, []), 166)) h1 rfl).trans ?_
  refine (g_2 (by decide +kernel : kd_ 123 166 = ((2, 6, 0, []), 168)) rfl).trans ?_
  refine (g_54 (v := .int (f (a0 + 17) x6.toNatClampNeg)) (by decide +kernel : kd_ 123 168 = ((54, 0, 0, []), 169)) (sc_7_26 h1) rfl (by rw [sl_7_26 h1]; exact h2) rfl).trans ?_
  rfl
theorem b_M_turn_169 {L : Nat} {f : cg_G} {e : Nat × Nat} {x1 x2 x3 x4 x5 x6 y0 y1 : Int32} {a0 c2 : Nat} (h1 : sh_ c2 = 100) (h2 : cg_in y1 (ln_ L c2)) (h3 : c2 ≠ 0): cj_res 123 169 [.ref a0, .int x1, .int x2, .int x3, .int x4, .int x5, .int x6] [.int y0, .int y1, .ref c2] (cg_M L f e) = cj_res 123 80 [.ref a0, .int x1, .int x2, .int x3, .int x4, .int (x5 + nI 1), .int x6] [] (cg_M L (cg_up f c2 y1.toNatClampNeg y0) e) := by
  refine (g_56 (by decide +kernel : kd_ 123 169 = ((56, 0, 0, []), 170)) h1 (fun _ => rfl) h2 h3).trans ?_
  refine (g_6 (ls' := [.ref a0, .int x1, .int x2, .int x3, .int x4, .int (x5 + nI 1), .int x6]) (by decide +kernel : kd_ 123 170 = ((6, 5, 1, []), 173)) rfl rfl).trans ?_
  refine (g_30 (by decide +kernel : kd_ 123 173 = ((30, 80, 0, []), 176))).trans ?_
  rfl
theorem b_M_turn_176 {L : Nat} {f : cg_G} {e : Nat × Nat} {x1 x2 x3 x4 x5 : Int32} {a0 : Nat} {u6 : Value} (h1 : sh_ a0 = 7) (h2 : cg_in x3 901): cj_res 123 176 [.ref a0, .int x1, .int x2, .int x3, .int x4, .int x5, u6] [] (cg_M L f e) = cj_res 123 55 [.ref a0, .int x1, .int x2, .int (x3 + (f (a0 + 14) x3.toNatClampNeg)), .int x4, .int x5, u6] [] (cg_M L f e) := by
  refine (g_2 (by decide +kernel : kd_ 123 176 = ((2, 3, 0, []), 177)) rfl).trans ?_
  refine (g_3 (by decide +kernel : kd_ 123 177 = ((3, 0, 0, []), 178)) rfl).trans ?_
  refine (g_50 (v := .ref (a0 + 14)) (by decide +kernel : kd_ 123 178 = ((50, 7, 22, []), 181)) h1 rfl).trans ?_
  refine (g_2 (by decide +kernel : kd_ 123 181 = ((2, 3, 0, []), 182)) rfl).trans ?_
  refine (g_54 (v := .int (f (a0 + 14) x3.toNatClampNeg)) (by decide +kernel : kd_ 123 182 = ((54, 0, 0, []), 183)) (sc_7_22 h1) rfl (by rw [sl_7_22 h1]; exact h2) rfl).trans ?_
  refine (g_10 (by decide +kernel : kd_ 123 183 = ((10, 0, 0, []), 184))).trans ?_
  refine (g_4 (ls' := [.ref a0, .int x1, .int x2, .int (x3 + (f (a0 + 14) x3.toNatClampNeg)), .int x4, .int x5, u6]) (by decide +kernel : kd_ 123 184 = ((4, 3, 0, []), 185)) rfl rfl).trans ?_
  refine (g_30 (by decide +kernel : kd_ 123 185 = ((30, 55, 0, []), 188))).trans ?_
  rfl
theorem b_M_turn_188 {L : Nat} {f : cg_G} {e : Nat × Nat} {x1 x2 x3 : Int32} {a0 : Nat} {u4 u5 u6 : Value} (h1 : sh_ a0 = 7) (h2 : cg_in ((nI 5) * x1) 10) (h3 : cg_in x1 2): cj_res 123 188 [.ref a0, .int x1, .int x2, .int x3, u4, u5, u6] [] (cg_M L f e) = if ((cg_up f (a0 + 16) ((nI 5) * x1).toNatClampNeg x2) (a0 + 23) x1.toNatClampNeg) = 0 then cj_res 123 215 [.ref a0, .int x1, .int x2, .int x3, u4, u5, u6] [.int (((nI 5) * x1) + (nI 4)), .ref (a0 + 16)] (cg_M L (cg_up f (a0 + 16) ((nI 5) * x1).toNatClampNeg x2) e) else cj_res 123 219 [.ref a0, .int x1, .int x2, .int x3, u4, u5, u6] [.int (((nI 5) * x1) + (nI 4)), .ref (a0 + 16)] (cg_M L (cg_up f (a0 + 16) ((nI 5) * x1).toNatClampNeg x2) e) := by
  refine (g_3 (by decide +kernel : kd_ 123 188 = ((3, 0, 0, []), 189)) rfl).trans ?_
  refine (g_50 (v := .ref (a0 + 16)) (by decide +kernel : kd_ 123 189 = ((50, 7, 25, []), 192)) h1 rfl).trans ?_
  refine (g_0 (by decide +kernel : kd_ 123 192 = ((0, 5, 0, []), 193))).trans ?_
  refine (g_2 (by decide +kernel : kd_ 123 193 = ((2, 1, 0, []), 194)) rfl).trans ?_
  refine (g_12 (by decide +kernel : kd_ 123 194 = ((12, 0, 0, []), 195))).trans ?_
  refine (g_2 (by decide +kernel : kd_ 123 195 = ((2, 2, 0, []), 196)) rfl).trans ?_
  refine (g_56 (by decide +kernel : kd_ 123 196 = ((56, 0, 0, []), 197)) (sc_7_25 h1) (fun _ => rfl) (by rw [sl_7_25 h1]; exact h2) (by omega)).trans ?_
  refine (g_3 (by decide +kernel : kd_ 123 197 = ((3, 0, 0, []), 198)) rfl).trans ?_
  refine (g_50 (v := .ref (a0 + 16)) (by decide +kernel : kd_ 123 198 = ((50, 7, 25, []), 201)) h1 rfl).trans ?_
  refine (g_0 (by decide +kernel : kd_ 123 201 = ((0, 5, 0, []), 202))).trans ?_
  refine (g_2 (by decide +kernel : kd_ 123 202 = ((2, 1, 0, []), 203)) rfl).trans ?_
  refine (g_12 (by decide +kernel : kd_ 123 203 = ((12, 0, 0, []), 204))).trans ?_
  refine (g_0 (by decide +kernel : kd_ 123 204 = ((0, 4, 0, []), 205))).trans ?_
  refine (g_10 (by decide +kernel : kd_ 123 205 = ((10, 0, 0, []), 206))).trans ?_
  refine (g_3 (by decide +kernel : kd_ 123 206 = ((3, 0, 0, []), 207)) rfl).trans ?_
  refine (g_50 (v := .ref (a0 + 23)) (by decide +kernel : kd_ 123 207 = ((50, 7, 32, []), 210)) h1 rfl).trans ?_
  refine (g_2 (by decide +kernel : kd_ 123 210 = ((2, 1, 0, []), 211)) rfl).trans ?_
  refine (g_54 (v := .int ((cg_up f (a0 + 16) ((nI 5) * x1).toNatClampNeg x2) (a0 + 23) x1.toNatClampNeg)) (by decide +kernel : kd_ 123 211 = ((54, 0, 0, []), 212)) (sc_7_32 h1) rfl (by rw [sl_7_32 h1]; exact h3) rfl).trans ?_
  exact g_32 (by decide +kernel : kd_ 123 212 = ((32, 219, 0, []), 215))
theorem b_M_turn_215 {L : Nat} {f : cg_G} {e : Nat × Nat} {x1 x2 x3 y0 : Int32} {a0 c1 : Nat} {u4 u5 u6 : Value} : cj_res 123 215 [.ref a0, .int x1, .int x2, .int x3, u4, u5, u6] [.int y0, .ref c1] (cg_M L f e) = cj_res 123 225 [.ref a0, .int x1, .int x2, .int x3, u4, u5, u6] [.int (nI 0), .int y0, .ref c1] (cg_M L f e) := by
  refine (g_0 (by decide +kernel : kd_ 123 215 = ((0, 0, 0, []), 216))).trans ?_
  refine (g_30 (by decide +kernel : kd_ 123 216 = ((30, 225, 0, []), 219))).trans ?_
  rfl
theorem b_M_turn_219 {L : Nat} {f : cg_G} {e : Nat × Nat} {x1 x2 x3 y0 : Int32} {a0 c1 : Nat} {u4 u5 u6 : Value} (h1 : sh_ a0 = 7) (h2 : cg_in (nI 0) 901): cj_res 123 219 [.ref a0, .int x1, .int x2, .int x3, u4, u5, u6] [.int y0, .ref c1] (cg_M L f e) = cj_res 123 225 [.ref a0, .int x1, .int x2, .int x3, u4, u5, u6] [.int (f (a0 + 13) (nI 0).toNatClampNeg), .int y0, .ref c1] (cg_M L f e) := by
  refine (g_3 (by decide +kernel : kd_ 123 219 = ((3, 0, 0, []), 220)) rfl).trans ?_
  refine (g_50 (v := .ref (a0 + 13)) (by decide +kernel : kd_ 123 220 = ((50, 7, 21, []), 223)) h1 rfl).trans ?_
  refine (g_0 (by decide +kernel : kd_ 123 223 = ((0, 0, 0, []), 224))).trans ?_
  refine (g_54 (v := .int (f (a0 + 13) (nI 0).toNatClampNeg)) (by decide +kernel : kd_ 123 224 = ((54, 0, 0, []), 225)) (sc_7_21 h1) rfl (by rw [sl_7_21 h1]; exact h2) rfl).trans ?_
  rfl
theorem b_M_turn_225 {L : Nat} {f : cg_G} {e : Nat × Nat} {x1 x2 x3 y0 y1 : Int32} {a0 c2 : Nat} {u4 u5 u6 : Value} (h1 : sh_ c2 = 100) (h2 : cg_in y1 (ln_ L c2)) (h3 : c2 ≠ 0): cj_res 123 225 [.ref a0, .int x1, .int x2, .int x3, u4, u5, u6] [.int y0, .int y1, .ref c2] (cg_M L f e) = some (.inl none, cg_M L (cg_up f c2 y1.toNatClampNeg y0) e) := by
  refine (g_56 (by decide +kernel : kd_ 123 225 = ((56, 0, 0, []), 226)) h1 (fun _ => rfl) h2 h3).trans ?_
  exact g_91 (by decide +kernel : kd_ 123 226 = ((91, 0, 0, []), 227))
theorem b_C_entriesAhead_0 {L : Nat} {f : cg_G} {e : Nat × Nat} {x1 x2 : Int32} {a0 : Nat} {u3 u4 u5 u6 u7 : Value} (h1 : sh_ a0 = 0) (h2 : cg_in x1 8): cj_res 125 0 [.ref a0, .int x1, .int x2, u3, u4, u5, u6, u7] [] (cg_M L f e) = cj_aft 125 7 10 [.ref a0, .int x1, .int x2, u3, u4, u5, u6, u7] [] (cj_ev 14 [.ref ((a0 + 18) + 1 + 13 * x1.toNatClampNeg), .int x2] (cg_M L f e)) := by
  refine (g_3 (by decide +kernel : kd_ 125 0 = ((3, 0, 0, []), 1)) rfl).trans ?_
  refine (g_50 (v := .ref (a0 + 18)) (by decide +kernel : kd_ 125 1 = ((50, 0, 4, []), 4)) h1 rfl).trans ?_
  refine (g_2 (by decide +kernel : kd_ 125 4 = ((2, 1, 0, []), 5)) rfl).trans ?_
  refine (g_54 (v := .ref ((a0 + 18) + 1 + 13 * x1.toNatClampNeg)) (by decide +kernel : kd_ 125 5 = ((54, 4, 0, []), 6)) (sc_0_4 h1) rfl (by rw [sl_0_4 h1]; exact h2) (el_if (cg_in_lt h2))).trans ?_
  refine (g_2 (by decide +kernel : kd_ 125 6 = ((2, 2, 0, []), 7)) rfl).trans ?_
  exact g_80 (by decide +kernel : kd_ 125 7 = ((80, 14, 2, [2]), 10)) rfl (sa_104 (sc_0_4 h1) (cg_in_lt h2)) rfl rfl rfl
theorem b_C_entriesAhead_10 {L : Nat} {f : cg_G} {e : Nat × Nat} {x1 x2 : Int32} {a0 c0 : Nat} {u3 u4 u5 u6 u7 : Value} : cj_res 125 10 [.ref a0, .int x1, .int x2, u3, u4, u5, u6, u7] [.ref c0] (cg_M L f e) = cj_res 125 17 [.ref a0, .int x1, .int x2, .ref c0, .int (nI 0), .int (nI 0), u6, u7] [] (cg_M L f e) := by
  refine (g_5 (ls' := [.ref a0, .int x1, .int x2, .ref c0, u4, u5, u6, u7]) (by decide +kernel : kd_ 125 10 = ((5, 3, 0, []), 11)) rfl rfl).trans ?_
  refine (g_0 (by decide +kernel : kd_ 125 11 = ((0, 0, 0, []), 12))).trans ?_
  refine (g_4 (ls' := [.ref a0, .int x1, .int x2, .ref c0, .int (nI 0), u5, u6, u7]) (by decide +kernel : kd_ 125 12 = ((4, 4, 0, []), 14)) rfl rfl).trans ?_
  refine (g_0 (by decide +kernel : kd_ 125 14 = ((0, 0, 0, []), 15))).trans ?_
  refine (g_4 (ls' := [.ref a0, .int x1, .int x2, .ref c0, .int (nI 0), .int (nI 0), u6, u7]) (by decide +kernel : kd_ 125 15 = ((4, 5, 0, []), 17)) rfl rfl).trans ?_
  rfl
theorem b_C_entriesAhead_17 {L : Nat} {f : cg_G} {e : Nat × Nat} {x1 x2 x4 x5 : Int32} {a0 a3 : Nat} {u6 u7 : Value} (h1 : sh_ a0 = 0): cj_res 125 17 [.ref a0, .int x1, .int x2, .ref a3, .int x4, .int x5, u6, u7] [] (cg_M L f e) = if (f a0 7) ≤ x5 then cj_res 125 87 [.ref a0, .int x1, .int x2, .ref a3, .int x4, .int x5, u6, u7] [] (cg_M L f e) else cj_res 125 26 [.ref a0, .int x1, .int x2, .ref a3, .int x4, .int x5, u6, u7] [] (cg_M L f e) := by
  refine (g_2 (by decide +kernel : kd_ 125 17 = ((2, 5, 0, []), 19)) rfl).trans ?_
  refine (g_3 (by decide +kernel : kd_ 125 19 = ((3, 0, 0, []), 20)) rfl).trans ?_
  refine (g_50 (v := .int (f a0 7)) (by decide +kernel : kd_ 125 20 = ((50, 0, 7, []), 23)) h1 rfl).trans ?_
  exact g_40 (by decide +kernel : kd_ 125 23 = ((40, 87, 0, []), 26))
theorem b_C_entriesAhead_26 {L : Nat} {f : cg_G} {e : Nat × Nat} {x1 x2 x4 x5 : Int32} {a0 a3 : Nat} {u6 u7 : Value} (h1 : sh_ a0 = 0) (h2 : cg_in x5 8): cj_res 125 26 [.ref a0, .int x1, .int x2, .ref a3, .int x4, .int x5, u6, u7] [] (cg_M L f e) = cj_aft 125 34 37 [.ref a0, .int x1, .int x2, .ref a3, .int x4, .int x5, u6, u7] [] (cj_ev 14 [.ref ((a0 + 18) + 1 + 13 * x5.toNatClampNeg), .int x2] (cg_M L f e)) := by
  refine (g_3 (by decide +kernel : kd_ 125 26 = ((3, 0, 0, []), 27)) rfl).trans ?_
  refine (g_50 (v := .ref (a0 + 18)) (by decide +kernel : kd_ 125 27 = ((50, 0, 4, []), 30)) h1 rfl).trans ?_
  refine (g_2 (by decide +kernel : kd_ 125 30 = ((2, 5, 0, []), 32)) rfl).trans ?_
  refine (g_54 (v := .ref ((a0 + 18) + 1 + 13 * x5.toNatClampNeg)) (by decide +kernel : kd_ 125 32 = ((54, 4, 0, []), 33)) (sc_0_4 h1) rfl (by rw [sl_0_4 h1]; exact h2) (el_if (cg_in_lt h2))).trans ?_
  refine (g_2 (by decide +kernel : kd_ 125 33 = ((2, 2, 0, []), 34)) rfl).trans ?_
  exact g_80 (by decide +kernel : kd_ 125 34 = ((80, 14, 2, [2]), 37)) rfl (sa_104 (sc_0_4 h1) (cg_in_lt h2)) rfl rfl rfl
theorem b_C_entriesAhead_37 {L : Nat} {f : cg_G} {e : Nat × Nat} {x1 x2 x4 x5 : Int32} {a0 a3 c0 : Nat} {u6 u7 : Value} : cj_res 125 37 [.ref a0, .int x1, .int x2, .ref a3, .int x4, .int x5, u6, u7] [.ref c0] (cg_M L f e) = if x5 = x1 then cj_res 125 81 [.ref a0, .int x1, .int x2, .ref a3, .int x4, .int x5, .ref c0, u7] [] (cg_M L f e) else cj_res 125 45 [.ref a0, .int x1, .int x2, .ref a3, .int x4, .int x5, .ref c0, u7] [] (cg_M L f e) := by
  refine (g_5 (ls' := [.ref a0, .int x1, .int x2, .ref a3, .int x4, .int x5, .ref c0, u7]) (by decide +kernel : kd_ 125 37 = ((5, 6, 0, []), 39)) rfl rfl).trans ?_
  refine (g_2 (by decide +kernel : kd_ 125 39 = ((2, 5, 0, []), 41)) rfl).trans ?_
  refine (g_2 (by decide +kernel : kd_ 125 41 = ((2, 1, 0, []), 42)) rfl).trans ?_
  exact g_37 (by decide +kernel : kd_ 125 42 = ((37, 81, 0, []), 45))
theorem b_C_entriesAhead_45 {L : Nat} {f : cg_G} {e : Nat × Nat} {x1 x2 x4 x5 : Int32} {a0 a3 a6 : Nat} {u7 : Value} (h1 : sh_ a6 = 6): cj_res 125 45 [.ref a0, .int x1, .int x2, .ref a3, .int x4, .int x5, .ref a6, u7] [] (cg_M L f e) = cj_aft 125 47 50 [.ref a0, .int x1, .int x2, .ref a3, .int x4, .int x5, .ref a6, u7] [] (cj_ev 39 [.ref a6] (cg_M L f e)) := by
  refine (g_3 (by decide +kernel : kd_ 125 45 = ((3, 6, 0, []), 47)) rfl).trans ?_
  exact g_80 (by decide +kernel : kd_ 125 47 = ((80, 39, 1, [6]), 50)) rfl h1 rfl rfl rfl
theorem b_C_entriesAhead_50 {L : Nat} {f : cg_G} {e : Nat × Nat} {x1 x2 x4 x5 y0 : Int32} {a0 a3 a6 : Nat} {u7 : Value} : cj_res 125 50 [.ref a0, .int x1, .int x2, .ref a3, .int x4, .int x5, .ref a6, u7] [.int y0] (cg_M L f e) = if y0 ≤ 0 then cj_res 125 81 [.ref a0, .int x1, .int x2, .ref a3, .int x4, .int x5, .ref a6, u7] [] (cg_M L f e) else cj_res 125 53 [.ref a0, .int x1, .int x2, .ref a3, .int x4, .int x5, .ref a6, u7] [] (cg_M L f e) := by
  exact g_36 (by decide +kernel : kd_ 125 50 = ((36, 81, 0, []), 53))
theorem b_C_entriesAhead_53 {L : Nat} {f : cg_G} {e : Nat × Nat} {x1 x2 x4 x5 : Int32} {a0 a3 a6 : Nat} {u7 : Value} (h1 : sh_ a0 = 0): cj_res 125 53 [.ref a0, .int x1, .int x2, .ref a3, .int x4, .int x5, .ref a6, u7] [] (cg_M L f e) = cj_aft 125 57 60 [.ref a0, .int x1, .int x2, .ref a3, .int x4, .int x5, .ref a6, u7] [] (cj_ev 100 [.ref a0, .ref a6, .ref a3] (cg_M L f e)) := by
  refine (g_3 (by decide +kernel : kd_ 125 53 = ((3, 0, 0, []), 54)) rfl).trans ?_
  refine (g_3 (by decide +kernel : kd_ 125 54 = ((3, 6, 0, []), 56)) rfl).trans ?_
  refine (g_3 (by decide +kernel : kd_ 125 56 = ((3, 3, 0, []), 57)) rfl).trans ?_
  exact g_80 (by decide +kernel : kd_ 125 57 = ((80, 100, 3, [0]), 60)) rfl h1 rfl rfl rfl
theorem b_C_entriesAhead_60 {L : Nat} {f : cg_G} {e : Nat × Nat} {x1 x2 x4 x5 y0 : Int32} {a0 a3 a6 : Nat} {u7 : Value} : cj_res 125 60 [.ref a0, .int x1, .int x2, .ref a3, .int x4, .int x5, .ref a6, u7] [.int y0] (cg_M L f e) = if y0 < 0 then cj_res 125 78 [.ref a0, .int x1, .int x2, .ref a3, .int x4, .int x5, .ref a6, .int y0] [] (cg_M L f e) else cj_res 125 67 [.ref a0, .int x1, .int x2, .ref a3, .int x4, .int x5, .ref a6, .int y0] [] (cg_M L f e) := by
  refine (g_4 (ls' := [.ref a0, .int x1, .int x2, .ref a3, .int x4, .int x5, .ref a6, .int y0]) (by decide +kernel : kd_ 125 60 = ((4, 7, 0, []), 62)) rfl rfl).trans ?_
  refine (g_2 (by decide +kernel : kd_ 125 62 = ((2, 7, 0, []), 64)) rfl).trans ?_
  exact g_33 (by decide +kernel : kd_ 125 64 = ((33, 78, 0, []), 67))
theorem b_C_entriesAhead_67 {L : Nat} {f : cg_G} {e : Nat × Nat} {x1 x2 x4 x5 x7 : Int32} {a0 a3 a6 : Nat} : cj_res 125 67 [.ref a0, .int x1, .int x2, .ref a3, .int x4, .int x5, .ref a6, .int x7] [] (cg_M L f e) = if x7 = 0 then cj_res 125 72 [.ref a0, .int x1, .int x2, .ref a3, .int x4, .int x5, .ref a6, .int x7] [] (cg_M L f e) else cj_res 125 81 [.ref a0, .int x1, .int x2, .ref a3, .int x4, .int x5, .ref a6, .int x7] [] (cg_M L f e) := by
  refine (g_2 (by decide +kernel : kd_ 125 67 = ((2, 7, 0, []), 69)) rfl).trans ?_
  exact g_32 (by decide +kernel : kd_ 125 69 = ((32, 81, 0, []), 72))
theorem b_C_entriesAhead_72 {L : Nat} {f : cg_G} {e : Nat × Nat} {x1 x2 x4 x5 x7 : Int32} {a0 a3 a6 : Nat} : cj_res 125 72 [.ref a0, .int x1, .int x2, .ref a3, .int x4, .int x5, .ref a6, .int x7] [] (cg_M L f e) = if x1 ≤ x5 then cj_res 125 81 [.ref a0, .int x1, .int x2, .ref a3, .int x4, .int x5, .ref a6, .int x7] [] (cg_M L f e) else cj_res 125 78 [.ref a0, .int x1, .int x2, .ref a3, .int x4, .int x5, .ref a6, .int x7] [] (cg_M L f e) := by
  refine (g_2 (by decide +kernel : kd_ 125 72 = ((2, 5, 0, []), 74)) rfl).trans ?_
  refine (g_2 (by decide +kernel : kd_ 125 74 = ((2, 1, 0, []), 75)) rfl).trans ?_
  exact g_40 (by decide +kernel : kd_ 125 75 = ((40, 81, 0, []), 78))
theorem b_C_entriesAhead_78 {L : Nat} {f : cg_G} {e : Nat × Nat} {x1 x2 x4 x5 x7 : Int32} {a0 a3 a6 : Nat} : cj_res 125 78 [.ref a0, .int x1, .int x2, .ref a3, .int x4, .int x5, .ref a6, .int x7] [] (cg_M L f e) = cj_res 125 81 [.ref a0, .int x1, .int x2, .ref a3, .int (x4 + nI 1), .int x5, .ref a6, .int x7] [] (cg_M L f e) := by
  refine (g_6 (ls' := [.ref a0, .int x1, .int x2, .ref a3, .int (x4 + nI 1), .int x5, .ref a6, .int x7]) (by decide +kernel : kd_ 125 78 = ((6, 4, 1, []), 81)) rfl rfl).trans ?_
  rfl
theorem b_C_entriesAhead_81 {L : Nat} {f : cg_G} {e : Nat × Nat} {x1 x2 x4 x5 : Int32} {a0 a3 a6 : Nat} {u7 : Value} : cj_res 125 81 [.ref a0, .int x1, .int x2, .ref a3, .int x4, .int x5, .ref a6, u7] [] (cg_M L f e) = cj_res 125 17 [.ref a0, .int x1, .int x2, .ref a3, .int x4, .int (x5 + nI 1), .ref a6, u7] [] (cg_M L f e) := by
  refine (g_6 (ls' := [.ref a0, .int x1, .int x2, .ref a3, .int x4, .int (x5 + nI 1), .ref a6, u7]) (by decide +kernel : kd_ 125 81 = ((6, 5, 1, []), 84)) rfl rfl).trans ?_
  refine (g_30 (by decide +kernel : kd_ 125 84 = ((30, 17, 0, []), 87))).trans ?_
  rfl
theorem b_C_entriesAhead_87 {L : Nat} {f : cg_G} {e : Nat × Nat} {x1 x2 x4 x5 : Int32} {a0 a3 : Nat} {u6 u7 : Value} : cj_res 125 87 [.ref a0, .int x1, .int x2, .ref a3, .int x4, .int x5, u6, u7] [] (cg_M L f e) = some (.inl (some (.int x4)), cg_M L f e) := by
  refine (g_2 (by decide +kernel : kd_ 125 87 = ((2, 4, 0, []), 89)) rfl).trans ?_
  exact g_90 (by decide +kernel : kd_ 125 89 = ((90, 0, 0, []), 90))
theorem b_C_field_0 {L : Nat} {f : cg_G} {e : Nat × Nat} {x1 x2 : Int32} {a0 : Nat} (h1 : sh_ a0 = 0): cj_res 126 0 [.ref a0, .int x1, .int x2] [] (cg_M L f e) = cj_aft 126 2 5 [.ref a0, .int x1, .int x2] [] (cj_ev 1 [.ref a0, .int x1] (cg_M L f e)) := by
  refine (g_3 (by decide +kernel : kd_ 126 0 = ((3, 0, 0, []), 1)) rfl).trans ?_
  refine (g_2 (by decide +kernel : kd_ 126 1 = ((2, 1, 0, []), 2)) rfl).trans ?_
  exact g_80 (by decide +kernel : kd_ 126 2 = ((80, 1, 2, [0]), 5)) rfl h1 rfl rfl rfl
theorem b_C_field_5 {L : Nat} {f : cg_G} {e : Nat × Nat} {x1 x2 y0 : Int32} {a0 : Nat} : cj_res 126 5 [.ref a0, .int x1, .int x2] [.int y0] (cg_M L f e) = if y0 = 0 then cj_res 126 15 [.ref a0, .int x1, .int x2] [] (cg_M L f e) else cj_res 126 8 [.ref a0, .int x1, .int x2] [] (cg_M L f e) := by
  exact g_31 (by decide +kernel : kd_ 126 5 = ((31, 15, 0, []), 8))
theorem b_C_field_8 {L : Nat} {f : cg_G} {e : Nat × Nat} {x1 x2 : Int32} {a0 : Nat} : cj_res 126 8 [.ref a0, .int x1, .int x2] [] (cg_M L f e) = cj_aft 126 9 12 [.ref a0, .int x1, .int x2] [] (cj_ev 2 [.int x2] (cg_M L f e)) := by
  refine (g_2 (by decide +kernel : kd_ 126 8 = ((2, 2, 0, []), 9)) rfl).trans ?_
  exact g_81 (by decide +kernel : kd_ 126 9 = ((81, 2, 1, []), 12)) rfl rfl rfl
theorem b_C_field_12 {L : Nat} {f : cg_G} {e : Nat × Nat} {x1 x2 y0 : Int32} {a0 : Nat} : cj_res 126 12 [.ref a0, .int x1, .int x2] [.int y0] (cg_M L f e) = if y0 = 0 then cj_res 126 15 [.ref a0, .int x1, .int x2] [] (cg_M L f e) else cj_res 126 25 [.ref a0, .int x1, .int x2] [] (cg_M L f e) := by
  exact g_32 (by decide +kernel : kd_ 126 12 = ((32, 25, 0, []), 15))
theorem b_C_field_15 {L : Nat} {f : cg_G} {e : Nat × Nat} {x1 x2 : Int32} {a0 : Nat} : cj_res 126 15 [.ref a0, .int x1, .int x2] [] (cg_M L f e) = some (.inr 2, cj_pay (cg_M L f e) 1 6) := by
  exact g_95 (by decide +kernel : kd_ 126 15 = ((95, 2, 0, []), 18))
theorem b_C_field_25 {L : Nat} {f : cg_G} {e : Nat × Nat} {x1 x2 : Int32} {a0 : Nat} (h1 : sh_ a0 = 0): cj_res 126 25 [.ref a0, .int x1, .int x2] [] (cg_M L f e) = cj_aft 126 29 32 [.ref a0, .int x1, .int x2] [] (cj_ev 65 [.ref (a0 + 1)] (cg_M L f e)) := by
  refine (g_3 (by decide +kernel : kd_ 126 25 = ((3, 0, 0, []), 26)) rfl).trans ?_
  refine (g_50 (v := .ref (a0 + 1)) (by decide +kernel : kd_ 126 26 = ((50, 0, 1, []), 29)) h1 rfl).trans ?_
  exact g_81 (by decide +kernel : kd_ 126 29 = ((81, 65, 1, []), 32)) rfl rfl rfl
theorem b_C_field_32 {L : Nat} {f : cg_G} {e : Nat × Nat} {x1 x2 y0 : Int32} {a0 : Nat} : cj_res 126 32 [.ref a0, .int x1, .int x2] [.int y0] (cg_M L f e) = if y0 = 0 then cj_res 126 35 [.ref a0, .int x1, .int x2] [] (cg_M L f e) else cj_res 126 45 [.ref a0, .int x1, .int x2] [] (cg_M L f e) := by
  exact g_32 (by decide +kernel : kd_ 126 32 = ((32, 45, 0, []), 35))
theorem b_C_field_35 {L : Nat} {f : cg_G} {e : Nat × Nat} {x1 x2 : Int32} {a0 : Nat} : cj_res 126 35 [.ref a0, .int x1, .int x2] [] (cg_M L f e) = some (.inr 1, cj_pay (cg_M L f e) 1 6) := by
  exact g_95 (by decide +kernel : kd_ 126 35 = ((95, 1, 0, []), 38))
theorem b_C_field_45 {L : Nat} {f : cg_G} {e : Nat × Nat} {x1 x2 : Int32} {a0 : Nat} (h1 : sh_ a0 = 0) (h2 : cg_in x1 8): cj_res 126 45 [.ref a0, .int x1, .int x2] [] (cg_M L f e) = cj_aft 126 53 56 [.ref a0, .int x1, .int x2] [.ref a0] (cj_ev 14 [.ref ((a0 + 18) + 1 + 13 * x1.toNatClampNeg), .int x2] (cg_M L f e)) := by
  refine (g_3 (by decide +kernel : kd_ 126 45 = ((3, 0, 0, []), 46)) rfl).trans ?_
  refine (g_3 (by decide +kernel : kd_ 126 46 = ((3, 0, 0, []), 47)) rfl).trans ?_
  refine (g_50 (v := .ref (a0 + 18)) (by decide +kernel : kd_ 126 47 = ((50, 0, 4, []), 50)) h1 rfl).trans ?_
  refine (g_2 (by decide +kernel : kd_ 126 50 = ((2, 1, 0, []), 51)) rfl).trans ?_
  refine (g_54 (v := .ref ((a0 + 18) + 1 + 13 * x1.toNatClampNeg)) (by decide +kernel : kd_ 126 51 = ((54, 4, 0, []), 52)) (sc_0_4 h1) rfl (by rw [sl_0_4 h1]; exact h2) (el_if (cg_in_lt h2))).trans ?_
  refine (g_2 (by decide +kernel : kd_ 126 52 = ((2, 2, 0, []), 53)) rfl).trans ?_
  exact g_80 (by decide +kernel : kd_ 126 53 = ((80, 14, 2, [2]), 56)) rfl (sa_104 (sc_0_4 h1) (cg_in_lt h2)) rfl rfl rfl
theorem b_C_field_56 {L : Nat} {f : cg_G} {e : Nat × Nat} {x1 x2 : Int32} {a0 c0 c1 : Nat} (h1 : sh_ c1 = 0): cj_res 126 56 [.ref a0, .int x1, .int x2] [.ref c0, .ref c1] (cg_M L f e) = cj_aft 126 56 59 [.ref a0, .int x1, .int x2] [] (cj_ev 102 [.ref c1, .ref c0] (cg_M L f e)) := by
  exact g_80 (by decide +kernel : kd_ 126 56 = ((80, 102, 2, [0]), 59)) rfl h1 rfl rfl rfl
theorem b_C_field_59 {L : Nat} {f : cg_G} {e : Nat × Nat} {x1 x2 y0 : Int32} {a0 : Nat} : cj_res 126 59 [.ref a0, .int x1, .int x2] [.int y0] (cg_M L f e) = some (.inl (some (.int y0)), cg_M L f e) := by
  exact g_90 (by decide +kernel : kd_ 126 59 = ((90, 0, 0, []), 60))
theorem b_C_order_0 {L : Nat} {f : cg_G} {e : Nat × Nat} {a0 : Nat} (h1 : sh_ a0 = 0): cj_res 127 0 [.ref a0] [] (cg_M L f e) = cj_aft 127 4 7 [.ref a0] [] (cj_ev 66 [.ref (a0 + 1)] (cg_M L f e)) := by
  refine (g_3 (by decide +kernel : kd_ 127 0 = ((3, 0, 0, []), 1)) rfl).trans ?_
  refine (g_50 (v := .ref (a0 + 1)) (by decide +kernel : kd_ 127 1 = ((50, 0, 1, []), 4)) h1 rfl).trans ?_
  exact g_81 (by decide +kernel : kd_ 127 4 = ((81, 66, 1, []), 7)) rfl rfl rfl
theorem b_C_order_7 {L : Nat} {f : cg_G} {e : Nat × Nat} {y0 : Int32} {a0 : Nat} : cj_res 127 7 [.ref a0] [.int y0] (cg_M L f e) = if y0 = 0 then cj_res 127 10 [.ref a0] [] (cg_M L f e) else cj_res 127 20 [.ref a0] [] (cg_M L f e) := by
  exact g_32 (by decide +kernel : kd_ 127 7 = ((32, 20, 0, []), 10))
theorem b_C_order_10 {L : Nat} {f : cg_G} {e : Nat × Nat} {a0 : Nat} : cj_res 127 10 [.ref a0] [] (cg_M L f e) = some (.inr 1, cj_pay (cg_M L f e) 1 6) := by
  exact g_95 (by decide +kernel : kd_ 127 10 = ((95, 1, 0, []), 13))
theorem b_C_order_20 {L : Nat} {f : cg_G} {e : Nat × Nat} {a0 : Nat} (h1 : sh_ a0 = 0): cj_res 127 20 [.ref a0] [] (cg_M L f e) = cj_aft 127 25 28 [.ref a0] [] (cj_ev 102 [.ref a0, .ref (a0 + 3)] (cg_M L f e)) := by
  refine (g_3 (by decide +kernel : kd_ 127 20 = ((3, 0, 0, []), 21)) rfl).trans ?_
  refine (g_3 (by decide +kernel : kd_ 127 21 = ((3, 0, 0, []), 22)) rfl).trans ?_
  refine (g_50 (v := .ref (a0 + 3)) (by decide +kernel : kd_ 127 22 = ((50, 0, 2, []), 25)) h1 rfl).trans ?_
  exact g_80 (by decide +kernel : kd_ 127 25 = ((80, 102, 2, [0]), 28)) rfl h1 rfl rfl rfl
theorem b_C_order_28 {L : Nat} {f : cg_G} {e : Nat × Nat} {y0 : Int32} {a0 : Nat} : cj_res 127 28 [.ref a0] [.int y0] (cg_M L f e) = some (.inl (some (.int y0)), cg_M L f e) := by
  exact g_90 (by decide +kernel : kd_ 127 28 = ((90, 0, 0, []), 29))
theorem b_C_template_0 {L : Nat} {f : cg_G} {e : Nat × Nat} {a0 : Nat} {u1 : Value} (h1 : sh_ a0 = 0): cj_res 128 0 [.ref a0, u1] [] (cg_M L f e) = if (f a0 6) < (nI 6) then cj_res 128 19 [.ref a0, u1] [] (cg_M L f e) else cj_res 128 9 [.ref a0, u1] [] (cg_M L f e) := by
  refine (g_3 (by decide +kernel : kd_ 128 0 = ((3, 0, 0, []), 1)) rfl).trans ?_
  refine (g_50 (v := .int (f a0 6)) (by decide +kernel : kd_ 128 1 = ((50, 0, 6, []), 4)) h1 rfl).trans ?_
  refine (g_0 (by decide +kernel : kd_ 128 4 = ((0, 6, 0, []), 6))).trans ?_
  exact g_39 (by decide +kernel : kd_ 128 6 = ((39, 19, 0, []), 9))
theorem b_C_template_9 {L : Nat} {f : cg_G} {e : Nat × Nat} {a0 : Nat} {u1 : Value} : cj_res 128 9 [.ref a0, u1] [] (cg_M L f e) = some (.inr 0, cj_pay (cg_M L f e) 1 6) := by
  exact g_95 (by decide +kernel : kd_ 128 9 = ((95, 0, 0, []), 12))
theorem b_C_template_19 {L : Nat} {f : cg_G} {e : Nat × Nat} {a0 : Nat} {u1 : Value} (h1 : sh_ a0 = 0): cj_res 128 19 [.ref a0, u1] [] (cg_M L f e) = cj_aft 128 23 26 [.ref a0, u1] [] (cj_ev 63 [.ref (a0 + 1)] (cg_M L f e)) := by
  refine (g_3 (by decide +kernel : kd_ 128 19 = ((3, 0, 0, []), 20)) rfl).trans ?_
  refine (g_50 (v := .ref (a0 + 1)) (by decide +kernel : kd_ 128 20 = ((50, 0, 1, []), 23)) h1 rfl).trans ?_
  exact g_81 (by decide +kernel : kd_ 128 23 = ((81, 63, 1, []), 26)) rfl rfl rfl
theorem b_C_template_26 {L : Nat} {f : cg_G} {e : Nat × Nat} {y0 : Int32} {a0 : Nat} {u1 : Value} : cj_res 128 26 [.ref a0, u1] [.int y0] (cg_M L f e) = if y0 = (- nI 1) then cj_res 128 43 [.ref a0, .int y0] [] (cg_M L f e) else cj_res 128 32 [.ref a0, .int y0] [] (cg_M L f e) := by
  refine (g_4 (ls' := [.ref a0, .int y0]) (by decide +kernel : kd_ 128 26 = ((4, 1, 0, []), 27)) rfl rfl).trans ?_
  refine (g_2 (by decide +kernel : kd_ 128 27 = ((2, 1, 0, []), 28)) rfl).trans ?_
  refine (g_1 (by decide +kernel : kd_ 128 28 = ((1, 1, 0, []), 29))).trans ?_
  exact g_37 (by decide +kernel : kd_ 128 29 = ((37, 43, 0, []), 32))
theorem b_C_template_32 {L : Nat} {f : cg_G} {e : Nat × Nat} {x1 : Int32} {a0 : Nat} (h1 : sh_ a0 = 0): cj_res 128 32 [.ref a0, .int x1] [] (cg_M L f e) = cj_aft 128 36 39 [.ref a0, .int x1] [] (cj_ev 37 [.ref (a0 + 1)] (cg_M L f e)) := by
  refine (g_3 (by decide +kernel : kd_ 128 32 = ((3, 0, 0, []), 33)) rfl).trans ?_
  refine (g_50 (v := .ref (a0 + 1)) (by decide +kernel : kd_ 128 33 = ((50, 0, 1, []), 36)) h1 rfl).trans ?_
  exact g_80 (by decide +kernel : kd_ 128 36 = ((80, 37, 1, [6]), 39)) rfl (sc_0_1 h1) rfl rfl rfl
theorem b_C_template_39 {L : Nat} {f : cg_G} {e : Nat × Nat} {x1 : Int32} {a0 : Nat} : cj_res 128 39 [.ref a0, .int x1] [] (cg_M L f e) = some (.inl (some (.int ((- nI 1) - x1))), cg_M L f e) := by
  refine (g_1 (by decide +kernel : kd_ 128 39 = ((1, 1, 0, []), 40))).trans ?_
  refine (g_2 (by decide +kernel : kd_ 128 40 = ((2, 1, 0, []), 41)) rfl).trans ?_
  refine (g_11 (by decide +kernel : kd_ 128 41 = ((11, 0, 0, []), 42))).trans ?_
  exact g_90 (by decide +kernel : kd_ 128 42 = ((90, 0, 0, []), 43))
theorem b_C_template_43 {L : Nat} {f : cg_G} {e : Nat × Nat} {x1 : Int32} {a0 : Nat} (h1 : sh_ a0 = 0) (h2 : cg_in (f a0 6) 6): cj_res 128 43 [.ref a0, .int x1] [] (cg_M L f e) = cj_aft 128 53 56 [.ref a0, .int x1] [] (cj_ev 102 [.ref a0, .ref ((a0 + 5) + 1 + 2 * (f a0 6).toNatClampNeg)] (cg_M L f e)) := by
  refine (g_3 (by decide +kernel : kd_ 128 43 = ((3, 0, 0, []), 44)) rfl).trans ?_
  refine (g_3 (by decide +kernel : kd_ 128 44 = ((3, 0, 0, []), 45)) rfl).trans ?_
  refine (g_50 (v := .ref (a0 + 5)) (by decide +kernel : kd_ 128 45 = ((50, 0, 3, []), 48)) h1 rfl).trans ?_
  refine (g_3 (by decide +kernel : kd_ 128 48 = ((3, 0, 0, []), 49)) rfl).trans ?_
  refine (g_50 (v := .int (f a0 6)) (by decide +kernel : kd_ 128 49 = ((50, 0, 6, []), 52)) h1 rfl).trans ?_
  refine (g_54 (v := .ref ((a0 + 5) + 1 + 2 * (f a0 6).toNatClampNeg)) (by decide +kernel : kd_ 128 52 = ((54, 3, 0, []), 53)) (sc_0_3 h1) rfl (by rw [sl_0_3 h1]; exact h2) (el_if (cg_in_lt h2))).trans ?_
  exact g_80 (by decide +kernel : kd_ 128 53 = ((80, 102, 2, [0]), 56)) rfl h1 rfl rfl rfl
theorem b_C_template_56 {L : Nat} {f : cg_G} {e : Nat × Nat} {x1 y0 : Int32} {a0 : Nat} (h1 : sh_ a0 = 0): cj_res 128 56 [.ref a0, .int x1] [.int y0] (cg_M L f e) = some (.inl (some (.int (((cg_up f a0 6 ((f a0 6) + (nI 1))) a0 6) - (nI 1)))), cg_M L (cg_up f a0 6 ((f a0 6) + (nI 1))) e) := by
  refine (g_26 (by decide +kernel : kd_ 128 56 = ((26, 0, 0, []), 57)) rfl).trans ?_
  refine (g_3 (by decide +kernel : kd_ 128 57 = ((3, 0, 0, []), 58)) rfl).trans ?_
  refine (g_25 (by decide +kernel : kd_ 128 58 = ((25, 0, 0, []), 59)) rfl).trans ?_
  refine (g_50 (v := .int (f a0 6)) (by decide +kernel : kd_ 128 59 = ((50, 0, 6, []), 62)) h1 rfl).trans ?_
  refine (g_0 (by decide +kernel : kd_ 128 62 = ((0, 1, 0, []), 63))).trans ?_
  refine (g_10 (by decide +kernel : kd_ 128 63 = ((10, 0, 0, []), 64))).trans ?_
  refine (g_51 (x := (f a0 6) + (nI 1)) (v := .int ((f a0 6) + (nI 1))) (by decide +kernel : kd_ 128 64 = ((51, 0, 6, [0]), 67)) h1 rfl rfl rfl (sz_0 h1) rfl).trans ?_
  refine (g_3 (by decide +kernel : kd_ 128 67 = ((3, 0, 0, []), 68)) rfl).trans ?_
  refine (g_50 (v := .int ((cg_up f a0 6 ((f a0 6) + (nI 1))) a0 6)) (by decide +kernel : kd_ 128 68 = ((50, 0, 6, []), 71)) h1 rfl).trans ?_
  refine (g_0 (by decide +kernel : kd_ 128 71 = ((0, 1, 0, []), 72))).trans ?_
  refine (g_11 (by decide +kernel : kd_ 128 72 = ((11, 0, 0, []), 73))).trans ?_
  exact g_90 (by decide +kernel : kd_ 128 73 = ((90, 0, 0, []), 74))
theorem b_Block_breakLines_0 {L : Nat} {f : cg_G} {e : Nat × Nat} {x2 : Int32} {a0 a1 a3 : Nat} (h1 : sh_ a0 = 1) (h2 : sh_ a3 = 3): cj_res 129 0 [.ref a0, .ref a1, .int x2, .ref a3] [] (cg_M L f e) = cj_aft 129 8 11 [.ref a0, .ref a1, .int x2, .ref a3] [] (cj_ev 23 [.ref a3, .int x2, .int (nI 1)] (cg_M L (cg_up f a0 2 (nI 0)) e)) := by
  refine (g_3 (by decide +kernel : kd_ 129 0 = ((3, 0, 0, []), 1)) rfl).trans ?_
  refine (g_0 (by decide +kernel : kd_ 129 1 = ((0, 0, 0, []), 2))).trans ?_
  refine (g_51 (x := nI 0) (v := .int (nI 0)) (by decide +kernel : kd_ 129 2 = ((51, 1, 2, [0]), 5)) h1 rfl rfl rfl (sz_1 h1) rfl).trans ?_
  refine (g_3 (by decide +kernel : kd_ 129 5 = ((3, 3, 0, []), 6)) rfl).trans ?_
  refine (g_2 (by decide +kernel : kd_ 129 6 = ((2, 2, 0, []), 7)) rfl).trans ?_
  refine (g_0 (by decide +kernel : kd_ 129 7 = ((0, 1, 0, []), 8))).trans ?_
  exact g_80 (by decide +kernel : kd_ 129 8 = ((80, 23, 3, [3]), 11)) rfl h2 rfl rfl rfl
theorem b_Block_breakLines_11 {L : Nat} {f : cg_G} {e : Nat × Nat} {x2 : Int32} {a0 a1 a3 : Nat} (h1 : sh_ a0 = 1): cj_res 129 11 [.ref a0, .ref a1, .int x2, .ref a3] [] (cg_M L f e) = cj_aft 129 14 17 [.ref a0, .ref a1, .int x2, .ref a3] [] (cj_ev 73 [.ref a0, .ref a1, .ref a3] (cg_M L f e)) := by
  refine (g_3 (by decide +kernel : kd_ 129 11 = ((3, 0, 0, []), 12)) rfl).trans ?_
  refine (g_3 (by decide +kernel : kd_ 129 12 = ((3, 1, 0, []), 13)) rfl).trans ?_
  refine (g_3 (by decide +kernel : kd_ 129 13 = ((3, 3, 0, []), 14)) rfl).trans ?_
  exact g_80 (by decide +kernel : kd_ 129 14 = ((80, 73, 3, [1]), 17)) rfl h1 rfl rfl rfl
theorem b_Block_breakLines_17 {L : Nat} {f : cg_G} {e : Nat × Nat} {x2 : Int32} {a0 a1 a3 : Nat} (h1 : sh_ a3 = 3): cj_res 129 17 [.ref a0, .ref a1, .int x2, .ref a3] [] (cg_M L f e) = cj_aft 129 18 21 [.ref a0, .ref a1, .int x2, .ref a3] [] (cj_ev 19 [.ref a3] (cg_M L f e)) := by
  refine (g_3 (by decide +kernel : kd_ 129 17 = ((3, 3, 0, []), 18)) rfl).trans ?_
  exact g_80 (by decide +kernel : kd_ 129 18 = ((80, 19, 1, [3]), 21)) rfl h1 rfl rfl rfl
theorem b_Block_breakLines_21 {L : Nat} {f : cg_G} {e : Nat × Nat} {x2 y0 : Int32} {a0 a1 a3 : Nat} : cj_res 129 21 [.ref a0, .ref a1, .int x2, .ref a3] [.int y0] (cg_M L f e) = if y0 = 0 then cj_res 129 24 [.ref a0, .ref a1, .int x2, .ref a3] [] (cg_M L f e) else cj_res 129 26 [.ref a0, .ref a1, .int x2, .ref a3] [] (cg_M L f e) := by
  exact g_32 (by decide +kernel : kd_ 129 21 = ((32, 26, 0, []), 24))
theorem b_Block_breakLines_24 {L : Nat} {f : cg_G} {e : Nat × Nat} {x2 : Int32} {a0 a1 a3 : Nat} : cj_res 129 24 [.ref a0, .ref a1, .int x2, .ref a3] [] (cg_M L f e) = some (.inl (some (.int (nI 0))), cg_M L f e) := by
  refine (g_0 (by decide +kernel : kd_ 129 24 = ((0, 0, 0, []), 25))).trans ?_
  exact g_93 (by decide +kernel : kd_ 129 25 = ((93, 0, 0, []), 26)) (by decide)
theorem b_Block_breakLines_26 {L : Nat} {f : cg_G} {e : Nat × Nat} {x2 : Int32} {a0 a1 a3 : Nat} (h1 : sh_ a3 = 3): cj_res 129 26 [.ref a0, .ref a1, .int x2, .ref a3] [] (cg_M L f e) = cj_aft 129 27 30 [.ref a0, .ref a1, .int x2, .ref a3] [] (cj_ev 108 [.ref a3] (cg_M L f e)) := by
  refine (g_3 (by decide +kernel : kd_ 129 26 = ((3, 3, 0, []), 27)) rfl).trans ?_
  exact g_80 (by decide +kernel : kd_ 129 27 = ((80, 108, 1, [3]), 30)) rfl h1 rfl rfl rfl
theorem b_Block_breakLines_30 {L : Nat} {f : cg_G} {e : Nat × Nat} {x2 : Int32} {a0 a1 a3 : Nat} (h1 : sh_ a0 = 1): cj_res 129 30 [.ref a0, .ref a1, .int x2, .ref a3] [] (cg_M L f e) = cj_aft 129 32 35 [.ref a0, .ref a1, .int x2, .ref a3] [] (cj_ev 71 [.ref a0, .ref a3] (cg_M L f e)) := by
  refine (g_3 (by decide +kernel : kd_ 129 30 = ((3, 0, 0, []), 31)) rfl).trans ?_
  refine (g_3 (by decide +kernel : kd_ 129 31 = ((3, 3, 0, []), 32)) rfl).trans ?_
  exact g_80 (by decide +kernel : kd_ 129 32 = ((80, 71, 2, [1]), 35)) rfl h1 rfl rfl rfl
theorem b_Block_breakLines_35 {L : Nat} {f : cg_G} {e : Nat × Nat} {x2 : Int32} {a0 a1 a3 : Nat} : cj_res 129 35 [.ref a0, .ref a1, .int x2, .ref a3] [] (cg_M L f e) = some (.inl (some (.int (nI 1))), cg_M L f e) := by
  refine (g_0 (by decide +kernel : kd_ 129 35 = ((0, 1, 0, []), 36))).trans ?_
  exact g_93 (by decide +kernel : kd_ 129 36 = ((93, 0, 0, []), 37)) (by decide)
theorem b_Entry_printTo_0 {L : Nat} {f : cg_G} {e : Nat × Nat} {a0 a1 a2 : Nat} {u3 u4 : Value} (h1 : sh_ a1 = 6): cj_res 130 0 [.ref a0, .ref a1, .ref a2, u3, u4] [] (cg_M L f e) = cj_aft 130 1 4 [.ref a0, .ref a1, .ref a2, u3, u4] [] (cj_ev 37 [.ref a1] (cg_M L f e)) := by
  refine (g_3 (by decide +kernel : kd_ 130 0 = ((3, 1, 0, []), 1)) rfl).trans ?_
  exact g_80 (by decide +kernel : kd_ 130 1 = ((80, 37, 1, [6]), 4)) rfl h1 rfl rfl rfl
theorem b_Entry_printTo_4 {L : Nat} {f : cg_G} {e : Nat × Nat} {a0 a1 a2 : Nat} {u3 u4 : Value} : cj_res 130 4 [.ref a0, .ref a1, .ref a2, u3, u4] [] (cg_M L f e) = cj_res 130 6 [.ref a0, .ref a1, .ref a2, .int (nI 0), u4] [] (cg_M L f e) := by
  refine (g_0 (by decide +kernel : kd_ 130 4 = ((0, 0, 0, []), 5))).trans ?_
  refine (g_4 (ls' := [.ref a0, .ref a1, .ref a2, .int (nI 0), u4]) (by decide +kernel : kd_ 130 5 = ((4, 3, 0, []), 6)) rfl rfl).trans ?_
  rfl
theorem b_Entry_printTo_6 {L : Nat} {f : cg_G} {e : Nat × Nat} {x3 : Int32} {a0 a1 a2 : Nat} {u4 : Value} (h1 : sh_ a0 = 2) (h2 : sh_ ((f a0 2).toNatClampNeg) = 6): cj_res 130 6 [.ref a0, .ref a1, .ref a2, .int x3, u4] [] (cg_M L f e) = cj_aft 130 11 14 [.ref a0, .ref a1, .ref a2, .int x3, u4] [.int x3] (cj_ev 39 [.ref (f a0 2).toNatClampNeg] (cg_M L f e)) := by
  refine (g_2 (by decide +kernel : kd_ 130 6 = ((2, 3, 0, []), 7)) rfl).trans ?_
  refine (g_3 (by decide +kernel : kd_ 130 7 = ((3, 0, 0, []), 8)) rfl).trans ?_
  refine (g_50 (v := .ref (f a0 2).toNatClampNeg) (by decide +kernel : kd_ 130 8 = ((50, 2, 2, []), 11)) h1 rfl).trans ?_
  exact g_80 (by decide +kernel : kd_ 130 11 = ((80, 39, 1, [6]), 14)) rfl h2 rfl rfl rfl
theorem b_Entry_printTo_14 {L : Nat} {f : cg_G} {e : Nat × Nat} {x3 y0 y1 : Int32} {a0 a1 a2 : Nat} {u4 : Value} : cj_res 130 14 [.ref a0, .ref a1, .ref a2, .int x3, u4] [.int y0, .int y1] (cg_M L f e) = if y0 ≤ y1 then cj_res 130 116 [.ref a0, .ref a1, .ref a2, .int x3, u4] [] (cg_M L f e) else cj_res 130 17 [.ref a0, .ref a1, .ref a2, .int x3, u4] [] (cg_M L f e) := by
  exact g_40 (by decide +kernel : kd_ 130 14 = ((40, 116, 0, []), 17))
theorem b_Entry_printTo_17 {L : Nat} {f : cg_G} {e : Nat × Nat} {x3 : Int32} {a0 a1 a2 : Nat} {u4 : Value} (h1 : sh_ a0 = 2) (h2 : sh_ ((f a0 2).toNatClampNeg) = 6): cj_res 130 17 [.ref a0, .ref a1, .ref a2, .int x3, u4] [] (cg_M L f e) = cj_aft 130 22 25 [.ref a0, .ref a1, .ref a2, .int x3, u4] [] (cj_ev 36 [.ref (f a0 2).toNatClampNeg, .int x3] (cg_M L f e)) := by
  refine (g_3 (by decide +kernel : kd_ 130 17 = ((3, 0, 0, []), 18)) rfl).trans ?_
  refine (g_50 (v := .ref (f a0 2).toNatClampNeg) (by decide +kernel : kd_ 130 18 = ((50, 2, 2, []), 21)) h1 rfl).trans ?_
  refine (g_2 (by decide +kernel : kd_ 130 21 = ((2, 3, 0, []), 22)) rfl).trans ?_
  exact g_80 (by decide +kernel : kd_ 130 22 = ((80, 36, 2, [6]), 25)) rfl h2 rfl rfl rfl
theorem b_Entry_printTo_25 {L : Nat} {f : cg_G} {e : Nat × Nat} {x3 y0 : Int32} {a0 a1 a2 : Nat} {u4 : Value} : cj_res 130 25 [.ref a0, .ref a1, .ref a2, .int x3, u4] [.int y0] (cg_M L f e) = if y0 = (nI 91) then cj_res 130 34 [.ref a0, .ref a1, .ref a2, .int x3, .int y0] [] (cg_M L f e) else cj_res 130 51 [.ref a0, .ref a1, .ref a2, .int x3, .int y0] [] (cg_M L f e) := by
  refine (g_4 (ls' := [.ref a0, .ref a1, .ref a2, .int x3, .int y0]) (by decide +kernel : kd_ 130 25 = ((4, 4, 0, []), 27)) rfl rfl).trans ?_
  refine (g_2 (by decide +kernel : kd_ 130 27 = ((2, 4, 0, []), 29)) rfl).trans ?_
  refine (g_0 (by decide +kernel : kd_ 130 29 = ((0, 91, 0, []), 31))).trans ?_
  exact g_38 (by decide +kernel : kd_ 130 31 = ((38, 51, 0, []), 34))
theorem b_Entry_printTo_34 {L : Nat} {f : cg_G} {e : Nat × Nat} {x3 x4 : Int32} {a0 a1 a2 : Nat} (h1 : sh_ a0 = 2): cj_res 130 34 [.ref a0, .ref a1, .ref a2, .int x3, .int x4] [] (cg_M L f e) = cj_aft 130 36 39 [.ref a0, .ref a1, .ref a2, .int x3, .int x4] [] (cj_ev 106 [.ref a0, .int x3] (cg_M L f e)) := by
  refine (g_3 (by decide +kernel : kd_ 130 34 = ((3, 0, 0, []), 35)) rfl).trans ?_
  refine (g_2 (by decide +kernel : kd_ 130 35 = ((2, 3, 0, []), 36)) rfl).trans ?_
  exact g_80 (by decide +kernel : kd_ 130 36 = ((80, 106, 2, [2]), 39)) rfl h1 rfl rfl rfl
theorem b_Entry_printTo_39 {L : Nat} {f : cg_G} {e : Nat × Nat} {x3 x4 y0 : Int32} {a0 a1 a2 : Nat} : cj_res 130 39 [.ref a0, .ref a1, .ref a2, .int x3, .int x4] [.int y0] (cg_M L f e) = if y0 = 0 then cj_res 130 42 [.ref a0, .ref a1, .ref a2, .int x3, .int x4] [] (cg_M L f e) else cj_res 130 51 [.ref a0, .ref a1, .ref a2, .int x3, .int x4] [] (cg_M L f e) := by
  exact g_32 (by decide +kernel : kd_ 130 39 = ((32, 51, 0, []), 42))
theorem b_Entry_printTo_42 {L : Nat} {f : cg_G} {e : Nat × Nat} {x3 x4 : Int32} {a0 a1 a2 : Nat} (h1 : sh_ a0 = 2): cj_res 130 42 [.ref a0, .ref a1, .ref a2, .int x3, .int x4] [] (cg_M L f e) = cj_aft 130 44 47 [.ref a0, .ref a1, .ref a2, .int x3, .int x4] [] (cj_ev 75 [.ref a0, .int x3] (cg_M L f e)) := by
  refine (g_3 (by decide +kernel : kd_ 130 42 = ((3, 0, 0, []), 43)) rfl).trans ?_
  refine (g_2 (by decide +kernel : kd_ 130 43 = ((2, 3, 0, []), 44)) rfl).trans ?_
  exact g_80 (by decide +kernel : kd_ 130 44 = ((80, 75, 2, [2]), 47)) rfl h1 rfl rfl rfl
theorem b_Entry_printTo_47 {L : Nat} {f : cg_G} {e : Nat × Nat} {x3 x4 y0 : Int32} {a0 a1 a2 : Nat} : cj_res 130 47 [.ref a0, .ref a1, .ref a2, .int x3, .int x4] [.int y0] (cg_M L f e) = cj_res 130 110 [.ref a0, .ref a1, .ref a2, .int y0, .int x4] [] (cg_M L f e) := by
  refine (g_4 (ls' := [.ref a0, .ref a1, .ref a2, .int y0, .int x4]) (by decide +kernel : kd_ 130 47 = ((4, 3, 0, []), 48)) rfl rfl).trans ?_
  refine (g_30 (by decide +kernel : kd_ 130 48 = ((30, 110, 0, []), 51))).trans ?_
  rfl
theorem b_Entry_printTo_51 {L : Nat} {f : cg_G} {e : Nat × Nat} {x3 x4 : Int32} {a0 a1 a2 : Nat} : cj_res 130 51 [.ref a0, .ref a1, .ref a2, .int x3, .int x4] [] (cg_M L f e) = if x4 = (nI 35) then cj_res 130 65 [.ref a0, .ref a1, .ref a2, .int x3, .int x4] [] (cg_M L f e) else cj_res 130 58 [.ref a0, .ref a1, .ref a2, .int x3, .int x4] [] (cg_M L f e) := by
  refine (g_2 (by decide +kernel : kd_ 130 51 = ((2, 4, 0, []), 53)) rfl).trans ?_
  refine (g_0 (by decide +kernel : kd_ 130 53 = ((0, 35, 0, []), 55))).trans ?_
  exact g_37 (by decide +kernel : kd_ 130 55 = ((37, 65, 0, []), 58))
theorem b_Entry_printTo_58 {L : Nat} {f : cg_G} {e : Nat × Nat} {x3 x4 : Int32} {a0 a1 a2 : Nat} : cj_res 130 58 [.ref a0, .ref a1, .ref a2, .int x3, .int x4] [] (cg_M L f e) = if x4 = (nI 64) then cj_res 130 65 [.ref a0, .ref a1, .ref a2, .int x3, .int x4] [] (cg_M L f e) else cj_res 130 90 [.ref a0, .ref a1, .ref a2, .int x3, .int x4] [] (cg_M L f e) := by
  refine (g_2 (by decide +kernel : kd_ 130 58 = ((2, 4, 0, []), 60)) rfl).trans ?_
  refine (g_0 (by decide +kernel : kd_ 130 60 = ((0, 64, 0, []), 62))).trans ?_
  exact g_38 (by decide +kernel : kd_ 130 62 = ((38, 90, 0, []), 65))
theorem b_Entry_printTo_65 {L : Nat} {f : cg_G} {e : Nat × Nat} {x3 x4 : Int32} {a0 a1 a2 : Nat} (h1 : sh_ a0 = 2) (h2 : sh_ ((f a0 2).toNatClampNeg) = 6): cj_res 130 65 [.ref a0, .ref a1, .ref a2, .int x3, .int x4] [] (cg_M L f e) = cj_aft 130 77 80 [.ref a0, .ref a1, .ref a2, .int (x3 + nI 1), .int x4] [.int x4, .ref a1, .ref a0] (cj_ev 36 [.ref (f a0 2).toNatClampNeg, .int (x3 + nI 1)] (cg_M L f e)) := by
  refine (g_6 (ls' := [.ref a0, .ref a1, .ref a2, .int (x3 + nI 1), .int x4]) (by decide +kernel : kd_ 130 65 = ((6, 3, 1, []), 68)) rfl rfl).trans ?_
  refine (g_3 (by decide +kernel : kd_ 130 68 = ((3, 0, 0, []), 69)) rfl).trans ?_
  refine (g_3 (by decide +kernel : kd_ 130 69 = ((3, 1, 0, []), 70)) rfl).trans ?_
  refine (g_2 (by decide +kernel : kd_ 130 70 = ((2, 4, 0, []), 72)) rfl).trans ?_
  refine (g_3 (by decide +kernel : kd_ 130 72 = ((3, 0, 0, []), 73)) rfl).trans ?_
  refine (g_50 (v := .ref (f a0 2).toNatClampNeg) (by decide +kernel : kd_ 130 73 = ((50, 2, 2, []), 76)) h1 rfl).trans ?_
  refine (g_2 (by decide +kernel : kd_ 130 76 = ((2, 3, 0, []), 77)) rfl).trans ?_
  exact g_80 (by decide +kernel : kd_ 130 77 = ((80, 36, 2, [6]), 80)) rfl h2 rfl rfl rfl
theorem b_Entry_printTo_80 {L : Nat} {f : cg_G} {e : Nat × Nat} {x3 x4 y0 y1 : Int32} {a0 a1 a2 c2 c3 : Nat} (h1 : sh_ c3 = 2): cj_res 130 80 [.ref a0, .ref a1, .ref a2, .int x3, .int x4] [.int y0, .int y1, .ref c2, .ref c3] (cg_M L f e) = cj_aft 130 84 87 [.ref a0, .ref a1, .ref a2, .int x3, .int x4] [] (cj_ev 107 [.ref c3, .ref c2, .int y1, .int (y0 - (nI 48)), .ref a2] (cg_M L f e)) := by
  refine (g_0 (by decide +kernel : kd_ 130 80 = ((0, 48, 0, []), 82))).trans ?_
  refine (g_11 (by decide +kernel : kd_ 130 82 = ((11, 0, 0, []), 83))).trans ?_
  refine (g_3 (by decide +kernel : kd_ 130 83 = ((3, 2, 0, []), 84)) rfl).trans ?_
  exact g_80 (by decide +kernel : kd_ 130 84 = ((80, 107, 5, [2]), 87)) rfl h1 rfl rfl rfl
theorem b_Entry_printTo_87 {L : Nat} {f : cg_G} {e : Nat × Nat} {x3 x4 : Int32} {a0 a1 a2 : Nat} : cj_res 130 87 [.ref a0, .ref a1, .ref a2, .int x3, .int x4] [] (cg_M L f e) = cj_res 130 110 [.ref a0, .ref a1, .ref a2, .int x3, .int x4] [] (cg_M L f e) := by
  refine (g_30 (by decide +kernel : kd_ 130 87 = ((30, 110, 0, []), 90))).trans ?_
  rfl
theorem b_Entry_printTo_90 {L : Nat} {f : cg_G} {e : Nat × Nat} {x3 x4 : Int32} {a0 a1 a2 : Nat} : cj_res 130 90 [.ref a0, .ref a1, .ref a2, .int x3, .int x4] [] (cg_M L f e) = if x4 = (nI 91) then cj_res 130 110 [.ref a0, .ref a1, .ref a2, .int x3, .int x4] [] (cg_M L f e) else cj_res 130 97 [.ref a0, .ref a1, .ref a2, .int x3, .int x4] [] (cg_M L f e) := by
  refine (g_2 (by decide +kernel : kd_ 130 90 = ((2, 4, 0, []), 92)) rfl).trans ?_
  refine (g_0 (by decide +kernel : kd_ 130 92 = ((0, 91, 0, []), 94))).trans ?_
  exact g_37 (by decide +kernel : kd_ 130 94 = ((37, 110, 0, []), 97))
theorem b_Entry_printTo_97 {L : Nat} {f : cg_G} {e : Nat × Nat} {x3 x4 : Int32} {a0 a1 a2 : Nat} : cj_res 130 97 [.ref a0, .ref a1, .ref a2, .int x3, .int x4] [] (cg_M L f e) = if x4 = (nI 93) then cj_res 130 110 [.ref a0, .ref a1, .ref a2, .int x3, .int x4] [] (cg_M L f e) else cj_res 130 104 [.ref a0, .ref a1, .ref a2, .int x3, .int x4] [] (cg_M L f e) := by
  refine (g_2 (by decide +kernel : kd_ 130 97 = ((2, 4, 0, []), 99)) rfl).trans ?_
  refine (g_0 (by decide +kernel : kd_ 130 99 = ((0, 93, 0, []), 101))).trans ?_
  exact g_37 (by decide +kernel : kd_ 130 101 = ((37, 110, 0, []), 104))
theorem b_Entry_printTo_104 {L : Nat} {f : cg_G} {e : Nat × Nat} {x3 x4 : Int32} {a0 a1 a2 : Nat} (h1 : sh_ a1 = 6): cj_res 130 104 [.ref a0, .ref a1, .ref a2, .int x3, .int x4] [] (cg_M L f e) = cj_aft 130 107 110 [.ref a0, .ref a1, .ref a2, .int x3, .int x4] [] (cj_ev 35 [.ref a1, .int x4] (cg_M L f e)) := by
  refine (g_3 (by decide +kernel : kd_ 130 104 = ((3, 1, 0, []), 105)) rfl).trans ?_
  refine (g_2 (by decide +kernel : kd_ 130 105 = ((2, 4, 0, []), 107)) rfl).trans ?_
  exact g_80 (by decide +kernel : kd_ 130 107 = ((80, 35, 2, [6]), 110)) rfl h1 rfl rfl rfl
theorem b_Entry_printTo_110 {L : Nat} {f : cg_G} {e : Nat × Nat} {x3 x4 : Int32} {a0 a1 a2 : Nat} : cj_res 130 110 [.ref a0, .ref a1, .ref a2, .int x3, .int x4] [] (cg_M L f e) = cj_res 130 6 [.ref a0, .ref a1, .ref a2, .int (x3 + nI 1), .int x4] [] (cg_M L f e) := by
  refine (g_6 (ls' := [.ref a0, .ref a1, .ref a2, .int (x3 + nI 1), .int x4]) (by decide +kernel : kd_ 130 110 = ((6, 3, 1, []), 113)) rfl rfl).trans ?_
  refine (g_30 (by decide +kernel : kd_ 130 113 = ((30, 6, 0, []), 116))).trans ?_
  rfl
theorem b_Entry_printTo_116 {L : Nat} {f : cg_G} {e : Nat × Nat} {x3 : Int32} {a0 a1 a2 : Nat} {u4 : Value} : cj_res 130 116 [.ref a0, .ref a1, .ref a2, .int x3, u4] [] (cg_M L f e) = some (.inl none, cg_M L f e) := by
  exact g_91 (by decide +kernel : kd_ 130 116 = ((91, 0, 0, []), 117))
theorem b_Setting_breakPages_0 {L : Nat} {f : cg_G} {e : Nat × Nat} {x1 : Int32} {a0 a2 : Nat} {u3 u4 : Value} (h1 : sh_ a2 = 3): cj_res 131 0 [.ref a0, .int x1, .ref a2, u3, u4] [] (cg_M L f e) = cj_aft 131 3 6 [.ref a0, .int x1, .ref a2, u3, u4] [] (cj_ev 23 [.ref a2, .int x1, .int (nI 0)] (cg_M L f e)) := by
  refine (g_3 (by decide +kernel : kd_ 131 0 = ((3, 2, 0, []), 1)) rfl).trans ?_
  refine (g_2 (by decide +kernel : kd_ 131 1 = ((2, 1, 0, []), 2)) rfl).trans ?_
  refine (g_0 (by decide +kernel : kd_ 131 2 = ((0, 0, 0, []), 3))).trans ?_
  exact g_80 (by decide +kernel : kd_ 131 3 = ((80, 23, 3, [3]), 6)) rfl h1 rfl rfl rfl
theorem b_Setting_breakPages_6 {L : Nat} {f : cg_G} {e : Nat × Nat} {x1 : Int32} {a0 a2 : Nat} {u3 u4 : Value} : cj_res 131 6 [.ref a0, .int x1, .ref a2, u3, u4] [] (cg_M L f e) = cj_res 131 8 [.ref a0, .int x1, .ref a2, .int (nI 0), u4] [] (cg_M L f e) := by
  refine (g_0 (by decide +kernel : kd_ 131 6 = ((0, 0, 0, []), 7))).trans ?_
  refine (g_4 (ls' := [.ref a0, .int x1, .ref a2, .int (nI 0), u4]) (by decide +kernel : kd_ 131 7 = ((4, 3, 0, []), 8)) rfl rfl).trans ?_
  rfl
theorem b_Setting_breakPages_8 {L : Nat} {f : cg_G} {e : Nat × Nat} {x1 x3 : Int32} {a0 a2 : Nat} {u4 : Value} (h1 : sh_ a0 = 5): cj_res 131 8 [.ref a0, .int x1, .ref a2, .int x3, u4] [] (cg_M L f e) = if (f a0 4) ≤ x3 then cj_res 131 70 [.ref a0, .int x1, .ref a2, .int x3, u4] [] (cg_M L f e) else cj_res 131 16 [.ref a0, .int x1, .ref a2, .int x3, u4] [] (cg_M L f e) := by
  refine (g_2 (by decide +kernel : kd_ 131 8 = ((2, 3, 0, []), 9)) rfl).trans ?_
  refine (g_3 (by decide +kernel : kd_ 131 9 = ((3, 0, 0, []), 10)) rfl).trans ?_
  refine (g_50 (v := .int (f a0 4)) (by decide +kernel : kd_ 131 10 = ((50, 5, 4, []), 13)) h1 rfl).trans ?_
  exact g_40 (by decide +kernel : kd_ 131 13 = ((40, 70, 0, []), 16))
theorem b_Setting_breakPages_16 {L : Nat} {f : cg_G} {e : Nat × Nat} {x1 x3 : Int32} {a0 a2 : Nat} {u4 : Value} (h1 : sh_ a0 = 5) (h2 : sh_ a2 = 3): cj_res 131 16 [.ref a0, .int x1, .ref a2, .int x3, u4] [] (cg_M L f e) = cj_aft 131 22 25 [.ref a0, .int x1, .ref a2, .int x3, u4] [.int x3, .ref (a0 + 2)] (cj_ev 20 [.ref a2] (cg_M L f e)) := by
  refine (g_3 (by decide +kernel : kd_ 131 16 = ((3, 0, 0, []), 17)) rfl).trans ?_
  refine (g_50 (v := .ref (a0 + 2)) (by decide +kernel : kd_ 131 17 = ((50, 5, 1, []), 20)) h1 rfl).trans ?_
  refine (g_2 (by decide +kernel : kd_ 131 20 = ((2, 3, 0, []), 21)) rfl).trans ?_
  refine (g_3 (by decide +kernel : kd_ 131 21 = ((3, 2, 0, []), 22)) rfl).trans ?_
  exact g_80 (by decide +kernel : kd_ 131 22 = ((80, 20, 1, [3]), 25)) rfl h2 rfl rfl rfl
theorem b_Setting_breakPages_25 {L : Nat} {f : cg_G} {e : Nat × Nat} {x1 x3 y0 y1 : Int32} {a0 a2 c2 : Nat} {u4 : Value} (h1 : sh_ c2 = 100) (h2 : cg_in y1 (ln_ L c2)) (h3 : c2 ≠ 0): cj_res 131 25 [.ref a0, .int x1, .ref a2, .int x3, u4] [.int y0, .int y1, .ref c2] (cg_M L f e) = cj_res 131 29 [.ref a0, .int x1, .ref a2, .int x3, .int (nI 0)] [] (cg_M L (cg_up f c2 y1.toNatClampNeg y0) e) := by
  refine (g_56 (by decide +kernel : kd_ 131 25 = ((56, 0, 0, []), 26)) h1 (fun _ => rfl) h2 h3).trans ?_
  refine (g_0 (by decide +kernel : kd_ 131 26 = ((0, 0, 0, []), 27))).trans ?_
  refine (g_4 (ls' := [.ref a0, .int x1, .ref a2, .int x3, .int (nI 0)]) (by decide +kernel : kd_ 131 27 = ((4, 4, 0, []), 29)) rfl rfl).trans ?_
  rfl
theorem b_Setting_breakPages_29 {L : Nat} {f : cg_G} {e : Nat × Nat} {x1 x3 x4 : Int32} {a0 a2 : Nat} (h1 : sh_ a0 = 5) (h2 : cg_in x3 8): cj_res 131 29 [.ref a0, .int x1, .ref a2, .int x3, .int x4] [] (cg_M L f e) = cj_aft 131 37 40 [.ref a0, .int x1, .ref a2, .int x3, .int x4] [.int x4] (cj_ev 9 [.ref ((a0 + 1) + 4 + 4 * x3.toNatClampNeg)] (cg_M L f e)) := by
  refine (g_2 (by decide +kernel : kd_ 131 29 = ((2, 4, 0, []), 31)) rfl).trans ?_
  refine (g_3 (by decide +kernel : kd_ 131 31 = ((3, 0, 0, []), 32)) rfl).trans ?_
  refine (g_50 (v := .ref (a0 + 1)) (by decide +kernel : kd_ 131 32 = ((50, 5, 0, []), 35)) h1 rfl).trans ?_
  refine (g_2 (by decide +kernel : kd_ 131 35 = ((2, 3, 0, []), 36)) rfl).trans ?_
  refine (g_54 (v := .ref ((a0 + 1) + 4 + 4 * x3.toNatClampNeg)) (by decide +kernel : kd_ 131 36 = ((54, 5, 0, []), 37)) (sc_5_0 h1) rfl (by rw [sl_5_0 h1]; exact h2) (el_if (cg_in_lt h2))).trans ?_
  exact g_80 (by decide +kernel : kd_ 131 37 = ((80, 9, 1, [1]), 40)) rfl (sa_105 (sc_5_0 h1) (cg_in_lt h2)) rfl rfl rfl
theorem b_Setting_breakPages_40 {L : Nat} {f : cg_G} {e : Nat × Nat} {x1 x3 x4 y0 y1 : Int32} {a0 a2 : Nat} : cj_res 131 40 [.ref a0, .int x1, .ref a2, .int x3, .int x4] [.int y0, .int y1] (cg_M L f e) = if y0 ≤ y1 then cj_res 131 64 [.ref a0, .int x1, .ref a2, .int x3, .int x4] [] (cg_M L f e) else cj_res 131 43 [.ref a0, .int x1, .ref a2, .int x3, .int x4] [] (cg_M L f e) := by
  exact g_40 (by decide +kernel : kd_ 131 40 = ((40, 64, 0, []), 43))
theorem b_Setting_breakPages_43 {L : Nat} {f : cg_G} {e : Nat × Nat} {x1 x3 x4 : Int32} {a0 a2 : Nat} (h1 : sh_ a0 = 5) (h2 : cg_in x3 8): cj_res 131 43 [.ref a0, .int x1, .ref a2, .int x3, .int x4] [] (cg_M L f e) = cj_aft 131 52 55 [.ref a0, .int x1, .ref a2, .int x3, .int x4] [.ref a2] (cj_ev 4 [.ref ((a0 + 1) + 4 + 4 * x3.toNatClampNeg), .int x4] (cg_M L f e)) := by
  refine (g_3 (by decide +kernel : kd_ 131 43 = ((3, 2, 0, []), 44)) rfl).trans ?_
  refine (g_3 (by decide +kernel : kd_ 131 44 = ((3, 0, 0, []), 45)) rfl).trans ?_
  refine (g_50 (v := .ref (a0 + 1)) (by decide +kernel : kd_ 131 45 = ((50, 5, 0, []), 48)) h1 rfl).trans ?_
  refine (g_2 (by decide +kernel : kd_ 131 48 = ((2, 3, 0, []), 49)) rfl).trans ?_
  refine (g_54 (v := .ref ((a0 + 1) + 4 + 4 * x3.toNatClampNeg)) (by decide +kernel : kd_ 131 49 = ((54, 5, 0, []), 50)) (sc_5_0 h1) rfl (by rw [sl_5_0 h1]; exact h2) (el_if (cg_in_lt h2))).trans ?_
  refine (g_2 (by decide +kernel : kd_ 131 50 = ((2, 4, 0, []), 52)) rfl).trans ?_
  exact g_80 (by decide +kernel : kd_ 131 52 = ((80, 4, 2, [1]), 55)) rfl (sa_105 (sc_5_0 h1) (cg_in_lt h2)) rfl rfl rfl
theorem b_Setting_breakPages_55 {L : Nat} {f : cg_G} {e : Nat × Nat} {x1 x3 x4 y0 : Int32} {a0 a2 c1 : Nat} (h1 : sh_ c1 = 3): cj_res 131 55 [.ref a0, .int x1, .ref a2, .int x3, .int x4] [.int y0, .ref c1] (cg_M L f e) = cj_aft 131 55 58 [.ref a0, .int x1, .ref a2, .int x3, .int x4] [] (cj_ev 17 [.ref c1, .int y0] (cg_M L f e)) := by
  exact g_80 (by decide +kernel : kd_ 131 55 = ((80, 17, 2, [3]), 58)) rfl h1 rfl rfl rfl
theorem b_Setting_breakPages_58 {L : Nat} {f : cg_G} {e : Nat × Nat} {x1 x3 x4 : Int32} {a0 a2 : Nat} : cj_res 131 58 [.ref a0, .int x1, .ref a2, .int x3, .int x4] [] (cg_M L f e) = cj_res 131 29 [.ref a0, .int x1, .ref a2, .int x3, .int (x4 + nI 1)] [] (cg_M L f e) := by
  refine (g_6 (ls' := [.ref a0, .int x1, .ref a2, .int x3, .int (x4 + nI 1)]) (by decide +kernel : kd_ 131 58 = ((6, 4, 1, []), 61)) rfl rfl).trans ?_
  refine (g_30 (by decide +kernel : kd_ 131 61 = ((30, 29, 0, []), 64))).trans ?_
  rfl
theorem b_Setting_breakPages_64 {L : Nat} {f : cg_G} {e : Nat × Nat} {x1 x3 x4 : Int32} {a0 a2 : Nat} : cj_res 131 64 [.ref a0, .int x1, .ref a2, .int x3, .int x4] [] (cg_M L f e) = cj_res 131 8 [.ref a0, .int x1, .ref a2, .int (x3 + nI 1), .int x4] [] (cg_M L f e) := by
  refine (g_6 (ls' := [.ref a0, .int x1, .ref a2, .int (x3 + nI 1), .int x4]) (by decide +kernel : kd_ 131 64 = ((6, 3, 1, []), 67)) rfl rfl).trans ?_
  refine (g_30 (by decide +kernel : kd_ 131 67 = ((30, 8, 0, []), 70))).trans ?_
  rfl
theorem b_Setting_breakPages_70 {L : Nat} {f : cg_G} {e : Nat × Nat} {x1 x3 : Int32} {a0 a2 : Nat} {u4 : Value} (h1 : sh_ a0 = 5) (h2 : sh_ a2 = 3): cj_res 131 70 [.ref a0, .int x1, .ref a2, .int x3, u4] [] (cg_M L f e) = cj_aft 131 79 82 [.ref a0, .int x1, .ref a2, .int x3, u4] [.int (f a0 4), .ref (a0 + 2)] (cj_ev 20 [.ref a2] (cg_M L f e)) := by
  refine (g_3 (by decide +kernel : kd_ 131 70 = ((3, 0, 0, []), 71)) rfl).trans ?_
  refine (g_50 (v := .ref (a0 + 2)) (by decide +kernel : kd_ 131 71 = ((50, 5, 1, []), 74)) h1 rfl).trans ?_
  refine (g_3 (by decide +kernel : kd_ 131 74 = ((3, 0, 0, []), 75)) rfl).trans ?_
  refine (g_50 (v := .int (f a0 4)) (by decide +kernel : kd_ 131 75 = ((50, 5, 4, []), 78)) h1 rfl).trans ?_
  refine (g_3 (by decide +kernel : kd_ 131 78 = ((3, 2, 0, []), 79)) rfl).trans ?_
  exact g_80 (by decide +kernel : kd_ 131 79 = ((80, 20, 1, [3]), 82)) rfl h2 rfl rfl rfl
theorem b_Setting_breakPages_82 {L : Nat} {f : cg_G} {e : Nat × Nat} {x1 x3 y0 y1 : Int32} {a0 a2 c2 : Nat} {u4 : Value} (h1 : sh_ c2 = 100) (h2 : cg_in y1 (ln_ L c2)) (h3 : c2 ≠ 0) (h4 : sh_ a2 = 3): cj_res 131 82 [.ref a0, .int x1, .ref a2, .int x3, u4] [.int y0, .int y1, .ref c2] (cg_M L f e) = cj_aft 131 84 87 [.ref a0, .int x1, .ref a2, .int x3, u4] [] (cj_ev 108 [.ref a2] (cg_M L (cg_up f c2 y1.toNatClampNeg y0) e)) := by
  refine (g_56 (by decide +kernel : kd_ 131 82 = ((56, 0, 0, []), 83)) h1 (fun _ => rfl) h2 h3).trans ?_
  refine (g_3 (by decide +kernel : kd_ 131 83 = ((3, 2, 0, []), 84)) rfl).trans ?_
  exact g_80 (by decide +kernel : kd_ 131 84 = ((80, 108, 1, [3]), 87)) rfl h4 rfl rfl rfl
theorem b_Setting_breakPages_87 {L : Nat} {f : cg_G} {e : Nat × Nat} {x1 x3 : Int32} {a0 a2 : Nat} {u4 : Value} (h1 : sh_ a2 = 3): cj_res 131 87 [.ref a0, .int x1, .ref a2, .int x3, u4] [] (cg_M L f e) = cj_aft 131 89 92 [.ref a0, .int x1, .ref a2, .int x3, u4] [.ref a0] (cj_ev 21 [.ref a2] (cg_M L f e)) := by
  refine (g_3 (by decide +kernel : kd_ 131 87 = ((3, 0, 0, []), 88)) rfl).trans ?_
  refine (g_3 (by decide +kernel : kd_ 131 88 = ((3, 2, 0, []), 89)) rfl).trans ?_
  exact g_80 (by decide +kernel : kd_ 131 89 = ((80, 21, 1, [3]), 92)) rfl h1 rfl rfl rfl
theorem b_Setting_breakPages_92 {L : Nat} {f : cg_G} {e : Nat × Nat} {x1 x3 y0 : Int32} {a0 a2 c1 : Nat} {u4 : Value} (h1 : sh_ c1 = 5) (h2 : sh_ a0 = 5): cj_res 131 92 [.ref a0, .int x1, .ref a2, .int x3, u4] [.int y0, .ref c1] (cg_M L f e) = cj_aft 131 97 100 [.ref a0, .int x1, .ref a2, .int x3, u4] [] (cj_ev 81 [.ref a0, .ref a2] (cg_M L (cg_up f c1 9 y0) e)) := by
  refine (g_51 (x := y0) (v := .int y0) (by decide +kernel : kd_ 131 92 = ((51, 5, 9, [0]), 95)) h1 rfl rfl rfl (sz_5 h1) rfl).trans ?_
  refine (g_3 (by decide +kernel : kd_ 131 95 = ((3, 0, 0, []), 96)) rfl).trans ?_
  refine (g_3 (by decide +kernel : kd_ 131 96 = ((3, 2, 0, []), 97)) rfl).trans ?_
  exact g_80 (by decide +kernel : kd_ 131 97 = ((80, 81, 2, [5]), 100)) rfl h2 rfl rfl rfl
theorem b_Setting_breakPages_100 {L : Nat} {f : cg_G} {e : Nat × Nat} {x1 x3 : Int32} {a0 a2 : Nat} {u4 : Value} (h1 : sh_ a0 = 5): cj_res 131 100 [.ref a0, .int x1, .ref a2, .int x3, u4] [] (cg_M L f e) = cj_aft 131 101 104 [.ref a0, .int x1, .ref a2, .int x3, u4] [] (cj_ev 79 [.ref a0] (cg_M L f e)) := by
  refine (g_3 (by decide +kernel : kd_ 131 100 = ((3, 0, 0, []), 101)) rfl).trans ?_
  exact g_80 (by decide +kernel : kd_ 131 101 = ((80, 79, 1, [5]), 104)) rfl h1 rfl rfl rfl
theorem b_Setting_breakPages_104 {L : Nat} {f : cg_G} {e : Nat × Nat} {x1 x3 : Int32} {a0 a2 : Nat} {u4 : Value} : cj_res 131 104 [.ref a0, .int x1, .ref a2, .int x3, u4] [] (cg_M L f e) = some (.inl none, cg_M L f e) := by
  exact g_91 (by decide +kernel : kd_ 131 104 = ((91, 0, 0, []), 105))
theorem b_W_line_0 {L : Nat} {f : cg_G} {e : Nat × Nat} {x1 x2 x3 : Int32} {a0 a4 : Nat} {u5 : Value} (h1 : sh_ a0 = 0): cj_res 132 0 [.ref a0, .int x1, .int x2, .int x3, .ref a4, u5] [] (cg_M L f e) = cj_aft 132 7 10 [.ref a0, .int x1, .int x2, .int x3, .ref a4, u5] [.int (nI 0), .ref a4] (cj_ev 101 [.ref a0, .int x1, .int x2, .int x3] (cg_M L f e)) := by
  refine (g_3 (by decide +kernel : kd_ 132 0 = ((3, 4, 0, []), 2)) rfl).trans ?_
  refine (g_0 (by decide +kernel : kd_ 132 2 = ((0, 0, 0, []), 3))).trans ?_
  refine (g_3 (by decide +kernel : kd_ 132 3 = ((3, 0, 0, []), 4)) rfl).trans ?_
  refine (g_2 (by decide +kernel : kd_ 132 4 = ((2, 1, 0, []), 5)) rfl).trans ?_
  refine (g_2 (by decide +kernel : kd_ 132 5 = ((2, 2, 0, []), 6)) rfl).trans ?_
  refine (g_2 (by decide +kernel : kd_ 132 6 = ((2, 3, 0, []), 7)) rfl).trans ?_
  exact g_80 (by decide +kernel : kd_ 132 7 = ((80, 101, 4, [0]), 10)) rfl h1 rfl rfl rfl
theorem b_W_line_10 {L : Nat} {f : cg_G} {e : Nat × Nat} {x1 x2 x3 y0 y1 : Int32} {a0 a4 c2 : Nat} {u5 : Value} (h1 : sh_ c2 = 102) (h2 : cg_in y1 (ln_ L c2)): cj_res 132 10 [.ref a0, .int x1, .int x2, .int x3, .ref a4, u5] [.int y0, .int y1, .ref c2] (cg_M L f e) = cj_res 132 23 [.ref a0, .int x1, .int x2, .int x3, .ref a4, u5] [] (cg_M L (cg_up f c2 y1.toNatClampNeg y0) e) := by
  refine (g_23 (by decide +kernel : kd_ 132 10 = ((23, 0, 0, []), 11))).trans ?_
  refine (g_59 (by decide +kernel : kd_ 132 11 = ((59, 2, 0, []), 12)) h1 (fun _ => rfl) h2 (sz_102 h1)).trans ?_
  refine (g_30 (by decide +kernel : kd_ 132 12 = ((30, 23, 0, []), 15))).trans ?_
  rfl
theorem b_W_line_17 {L : Nat} {f : cg_G} {e : Nat × Nat} {x1 x2 x3 : Int32} {a0 a4 : Nat} {u5 : Value} : cj_res 132 17 [.ref a0, .int x1, .int x2, .int x3, .ref a4, u5] [] (cg_M L f e) = some (.inl (some (.int (nI 1))), cg_M L f e) := by
  refine (g_0 (by decide +kernel : kd_ 132 17 = ((0, 1, 0, []), 18))).trans ?_
  exact g_90 (by decide +kernel : kd_ 132 18 = ((90, 0, 0, []), 19))
theorem b_W_line_21 {L : Nat} {f : cg_G} {e : Nat × Nat} {x1 x2 x3 : Int32} {a0 a4 : Nat} {u5 : Value} : cj_res 132 21 [.ref a0, .int x1, .int x2, .int x3, .ref a4, u5] [] (cg_M L f e) = some (.inl (some (.int (nI 2))), cg_M L f e) := by
  refine (g_0 (by decide +kernel : kd_ 132 21 = ((0, 2, 0, []), 22))).trans ?_
  exact g_90 (by decide +kernel : kd_ 132 22 = ((90, 0, 0, []), 23))
theorem b_W_line_23 {L : Nat} {f : cg_G} {e : Nat × Nat} {x1 x2 x3 : Int32} {a0 a4 : Nat} {u5 : Value} : cj_res 132 23 [.ref a0, .int x1, .int x2, .int x3, .ref a4, u5] [] (cg_M L f e) = some (.inl (some (.int (nI 0))), cg_M L f e) := by
  refine (g_0 (by decide +kernel : kd_ 132 23 = ((0, 0, 0, []), 24))).trans ?_
  exact g_90 (by decide +kernel : kd_ 132 24 = ((90, 0, 0, []), 25))
theorem b_W_page_0 {L : Nat} {f : cg_G} {e : Nat × Nat} {x1 : Int32} {a0 a2 : Nat} {u3 : Value} (h1 : sh_ a0 = 0): cj_res 133 0 [.ref a0, .int x1, .ref a2, u3] [] (cg_M L f e) = cj_aft 133 4 7 [.ref a0, .int x1, .ref a2, u3] [.int (nI 0), .ref a2] (cj_ev 103 [.ref a0, .int x1] (cg_M L f e)) := by
  refine (g_3 (by decide +kernel : kd_ 133 0 = ((3, 2, 0, []), 1)) rfl).trans ?_
  refine (g_0 (by decide +kernel : kd_ 133 1 = ((0, 0, 0, []), 2))).trans ?_
  refine (g_3 (by decide +kernel : kd_ 133 2 = ((3, 0, 0, []), 3)) rfl).trans ?_
  refine (g_2 (by decide +kernel : kd_ 133 3 = ((2, 1, 0, []), 4)) rfl).trans ?_
  exact g_80 (by decide +kernel : kd_ 133 4 = ((80, 103, 2, [0]), 7)) rfl h1 rfl rfl rfl
theorem b_W_page_7 {L : Nat} {f : cg_G} {e : Nat × Nat} {x1 y0 y1 : Int32} {a0 a2 c2 : Nat} {u3 : Value} (h1 : sh_ c2 = 102) (h2 : cg_in y1 (ln_ L c2)): cj_res 133 7 [.ref a0, .int x1, .ref a2, u3] [.int y0, .int y1, .ref c2] (cg_M L f e) = cj_res 133 18 [.ref a0, .int x1, .ref a2, u3] [] (cg_M L (cg_up f c2 y1.toNatClampNeg y0) e) := by
  refine (g_23 (by decide +kernel : kd_ 133 7 = ((23, 0, 0, []), 8))).trans ?_
  refine (g_59 (by decide +kernel : kd_ 133 8 = ((59, 2, 0, []), 9)) h1 (fun _ => rfl) h2 (sz_102 h1)).trans ?_
  refine (g_30 (by decide +kernel : kd_ 133 9 = ((30, 18, 0, []), 12))).trans ?_
  rfl
theorem b_W_page_13 {L : Nat} {f : cg_G} {e : Nat × Nat} {x1 : Int32} {a0 a2 : Nat} {u3 : Value} : cj_res 133 13 [.ref a0, .int x1, .ref a2, u3] [] (cg_M L f e) = some (.inl (some (.int (nI 1))), cg_M L f e) := by
  refine (g_0 (by decide +kernel : kd_ 133 13 = ((0, 1, 0, []), 14))).trans ?_
  exact g_90 (by decide +kernel : kd_ 133 14 = ((90, 0, 0, []), 15))
theorem b_W_page_16 {L : Nat} {f : cg_G} {e : Nat × Nat} {x1 : Int32} {a0 a2 : Nat} {u3 : Value} : cj_res 133 16 [.ref a0, .int x1, .ref a2, u3] [] (cg_M L f e) = some (.inl (some (.int (nI 2))), cg_M L f e) := by
  refine (g_0 (by decide +kernel : kd_ 133 16 = ((0, 2, 0, []), 17))).trans ?_
  exact g_90 (by decide +kernel : kd_ 133 17 = ((90, 0, 0, []), 18))
theorem b_W_page_18 {L : Nat} {f : cg_G} {e : Nat × Nat} {x1 : Int32} {a0 a2 : Nat} {u3 : Value} : cj_res 133 18 [.ref a0, .int x1, .ref a2, u3] [] (cg_M L f e) = some (.inl (some (.int (nI 0))), cg_M L f e) := by
  refine (g_0 (by decide +kernel : kd_ 133 18 = ((0, 0, 0, []), 19))).trans ?_
  exact g_90 (by decide +kernel : kd_ 133 19 = ((90, 0, 0, []), 20))
theorem b_W_sign_0 {L : Nat} {f : cg_G} {e : Nat × Nat} {x1 x2 x3 : Int32} {a0 a4 : Nat} {u5 : Value} (h1 : sh_ a0 = 0): cj_res 134 0 [.ref a0, .int x1, .int x2, .int x3, .ref a4, u5] [] (cg_M L f e) = cj_aft 134 7 10 [.ref a0, .int x1, .int x2, .int x3, .ref a4, u5] [.int (nI 0), .ref a4] (cj_ev 104 [.ref a0, .int x1, .int x2, .int x3] (cg_M L f e)) := by
  refine (g_3 (by decide +kernel : kd_ 134 0 = ((3, 4, 0, []), 2)) rfl).trans ?_
  refine (g_0 (by decide +kernel : kd_ 134 2 = ((0, 0, 0, []), 3))).trans ?_
  refine (g_3 (by decide +kernel : kd_ 134 3 = ((3, 0, 0, []), 4)) rfl).trans ?_
  refine (g_2 (by decide +kernel : kd_ 134 4 = ((2, 1, 0, []), 5)) rfl).trans ?_
  refine (g_2 (by decide +kernel : kd_ 134 5 = ((2, 2, 0, []), 6)) rfl).trans ?_
  refine (g_2 (by decide +kernel : kd_ 134 6 = ((2, 3, 0, []), 7)) rfl).trans ?_
  exact g_80 (by decide +kernel : kd_ 134 7 = ((80, 104, 4, [0]), 10)) rfl h1 rfl rfl rfl
theorem b_W_sign_10 {L : Nat} {f : cg_G} {e : Nat × Nat} {x1 x2 x3 y0 y1 : Int32} {a0 a4 c2 : Nat} {u5 : Value} (h1 : sh_ c2 = 102) (h2 : cg_in y1 (ln_ L c2)): cj_res 134 10 [.ref a0, .int x1, .int x2, .int x3, .ref a4, u5] [.int y0, .int y1, .ref c2] (cg_M L f e) = cj_res 134 23 [.ref a0, .int x1, .int x2, .int x3, .ref a4, u5] [] (cg_M L (cg_up f c2 y1.toNatClampNeg y0) e) := by
  refine (g_23 (by decide +kernel : kd_ 134 10 = ((23, 0, 0, []), 11))).trans ?_
  refine (g_59 (by decide +kernel : kd_ 134 11 = ((59, 2, 0, []), 12)) h1 (fun _ => rfl) h2 (sz_102 h1)).trans ?_
  refine (g_30 (by decide +kernel : kd_ 134 12 = ((30, 23, 0, []), 15))).trans ?_
  rfl
theorem b_W_sign_17 {L : Nat} {f : cg_G} {e : Nat × Nat} {x1 x2 x3 : Int32} {a0 a4 : Nat} {u5 : Value} : cj_res 134 17 [.ref a0, .int x1, .int x2, .int x3, .ref a4, u5] [] (cg_M L f e) = some (.inl (some (.int (nI 1))), cg_M L f e) := by
  refine (g_0 (by decide +kernel : kd_ 134 17 = ((0, 1, 0, []), 18))).trans ?_
  exact g_90 (by decide +kernel : kd_ 134 18 = ((90, 0, 0, []), 19))
theorem b_W_sign_21 {L : Nat} {f : cg_G} {e : Nat × Nat} {x1 x2 x3 : Int32} {a0 a4 : Nat} {u5 : Value} : cj_res 134 21 [.ref a0, .int x1, .int x2, .int x3, .ref a4, u5] [] (cg_M L f e) = some (.inl (some (.int (nI 2))), cg_M L f e) := by
  refine (g_0 (by decide +kernel : kd_ 134 21 = ((0, 2, 0, []), 22))).trans ?_
  exact g_90 (by decide +kernel : kd_ 134 22 = ((90, 0, 0, []), 23))
theorem b_W_sign_23 {L : Nat} {f : cg_G} {e : Nat × Nat} {x1 x2 x3 : Int32} {a0 a4 : Nat} {u5 : Value} : cj_res 134 23 [.ref a0, .int x1, .int x2, .int x3, .ref a4, u5] [] (cg_M L f e) = some (.inl (some (.int (nI 0))), cg_M L f e) := by
  refine (g_0 (by decide +kernel : kd_ 134 23 = ((0, 0, 0, []), 24))).trans ?_
  exact g_90 (by decide +kernel : kd_ 134 24 = ((90, 0, 0, []), 25))
theorem b_W_unit_0 {L : Nat} {f : cg_G} {e : Nat × Nat} {x1 x2 : Int32} {a0 a3 : Nat} {u4 : Value} (h1 : sh_ a0 = 0): cj_res 135 0 [.ref a0, .int x1, .int x2, .ref a3, u4] [] (cg_M L f e) = cj_aft 135 5 8 [.ref a0, .int x1, .int x2, .ref a3, u4] [.int (nI 0), .ref a3] (cj_ev 105 [.ref a0, .int x1, .int x2] (cg_M L f e)) := by
  refine (g_3 (by decide +kernel : kd_ 135 0 = ((3, 3, 0, []), 1)) rfl).trans ?_
  refine (g_0 (by decide +kernel : kd_ 135 1 = ((0, 0, 0, []), 2))).trans ?_
  refine (g_3 (by decide +kernel : kd_ 135 2 = ((3, 0, 0, []), 3)) rfl).trans ?_
  refine (g_2 (by decide +kernel : kd_ 135 3 = ((2, 1, 0, []), 4)) rfl).trans ?_
  refine (g_2 (by decide +kernel : kd_ 135 4 = ((2, 2, 0, []), 5)) rfl).trans ?_
  exact g_80 (by decide +kernel : kd_ 135 5 = ((80, 105, 3, [0]), 8)) rfl h1 rfl rfl rfl
theorem b_W_unit_8 {L : Nat} {f : cg_G} {e : Nat × Nat} {x1 x2 y0 y1 : Int32} {a0 a3 c2 : Nat} {u4 : Value} (h1 : sh_ c2 = 102) (h2 : cg_in y1 (ln_ L c2)): cj_res 135 8 [.ref a0, .int x1, .int x2, .ref a3, u4] [.int y0, .int y1, .ref c2] (cg_M L f e) = cj_res 135 21 [.ref a0, .int x1, .int x2, .ref a3, u4] [] (cg_M L (cg_up f c2 y1.toNatClampNeg y0) e) := by
  refine (g_23 (by decide +kernel : kd_ 135 8 = ((23, 0, 0, []), 9))).trans ?_
  refine (g_59 (by decide +kernel : kd_ 135 9 = ((59, 2, 0, []), 10)) h1 (fun _ => rfl) h2 (sz_102 h1)).trans ?_
  refine (g_30 (by decide +kernel : kd_ 135 10 = ((30, 21, 0, []), 13))).trans ?_
  rfl
theorem b_W_unit_15 {L : Nat} {f : cg_G} {e : Nat × Nat} {x1 x2 : Int32} {a0 a3 : Nat} {u4 : Value} : cj_res 135 15 [.ref a0, .int x1, .int x2, .ref a3, u4] [] (cg_M L f e) = some (.inl (some (.int (nI 1))), cg_M L f e) := by
  refine (g_0 (by decide +kernel : kd_ 135 15 = ((0, 1, 0, []), 16))).trans ?_
  exact g_90 (by decide +kernel : kd_ 135 16 = ((90, 0, 0, []), 17))
theorem b_W_unit_19 {L : Nat} {f : cg_G} {e : Nat × Nat} {x1 x2 : Int32} {a0 a3 : Nat} {u4 : Value} : cj_res 135 19 [.ref a0, .int x1, .int x2, .ref a3, u4] [] (cg_M L f e) = some (.inl (some (.int (nI 2))), cg_M L f e) := by
  refine (g_0 (by decide +kernel : kd_ 135 19 = ((0, 2, 0, []), 20))).trans ?_
  exact g_90 (by decide +kernel : kd_ 135 20 = ((90, 0, 0, []), 21))
theorem b_W_unit_21 {L : Nat} {f : cg_G} {e : Nat × Nat} {x1 x2 : Int32} {a0 a3 : Nat} {u4 : Value} : cj_res 135 21 [.ref a0, .int x1, .int x2, .ref a3, u4] [] (cg_M L f e) = some (.inl (some (.int (nI 0))), cg_M L f e) := by
  refine (g_0 (by decide +kernel : kd_ 135 21 = ((0, 0, 0, []), 22))).trans ?_
  exact g_90 (by decide +kernel : kd_ 135 22 = ((90, 0, 0, []), 23))
theorem b_M_pass_0 {L : Nat} {f : cg_G} {e : Nat × Nat} {x1 : Int32} {a0 : Nat} {u2 : Value} (h1 : sh_ a0 = 7) (h2 : cg_in x1 2) (h3 : cg_in (((nI 5) * x1) + (nI 3)) 10): cj_res 136 0 [.ref a0, .int x1, u2] [] (cg_M L f e) = cj_res 136 20 [.ref a0, .int x1, .int (nI 0)] [] (cg_M L (cg_up (cg_up f (a0 + 23) x1.toNatClampNeg (nI 0)) (a0 + 16) (((nI 5) * x1) + (nI 3)).toNatClampNeg (nI 0)) e) := by
  refine (g_3 (by decide +kernel : kd_ 136 0 = ((3, 0, 0, []), 1)) rfl).trans ?_
  refine (g_50 (v := .ref (a0 + 23)) (by decide +kernel : kd_ 136 1 = ((50, 7, 32, []), 4)) h1 rfl).trans ?_
  refine (g_2 (by decide +kernel : kd_ 136 4 = ((2, 1, 0, []), 5)) rfl).trans ?_
  refine (g_0 (by decide +kernel : kd_ 136 5 = ((0, 0, 0, []), 6))).trans ?_
  refine (g_56 (by decide +kernel : kd_ 136 6 = ((56, 0, 0, []), 7)) (sc_7_32 h1) (fun _ => rfl) (by rw [sl_7_32 h1]; exact h2) (by omega)).trans ?_
  refine (g_3 (by decide +kernel : kd_ 136 7 = ((3, 0, 0, []), 8)) rfl).trans ?_
  refine (g_50 (v := .ref (a0 + 16)) (by decide +kernel : kd_ 136 8 = ((50, 7, 25, []), 11)) h1 rfl).trans ?_
  refine (g_0 (by decide +kernel : kd_ 136 11 = ((0, 5, 0, []), 12))).trans ?_
  refine (g_2 (by decide +kernel : kd_ 136 12 = ((2, 1, 0, []), 13)) rfl).trans ?_
  refine (g_12 (by decide +kernel : kd_ 136 13 = ((12, 0, 0, []), 14))).trans ?_
  refine (g_0 (by decide +kernel : kd_ 136 14 = ((0, 3, 0, []), 15))).trans ?_
  refine (g_10 (by decide +kernel : kd_ 136 15 = ((10, 0, 0, []), 16))).trans ?_
  refine (g_0 (by decide +kernel : kd_ 136 16 = ((0, 0, 0, []), 17))).trans ?_
  refine (g_56 (by decide +kernel : kd_ 136 17 = ((56, 0, 0, []), 18)) (sc_7_25 h1) (fun _ => rfl) (by rw [sl_7_25 h1]; exact h3) (by omega)).trans ?_
  refine (g_0 (by decide +kernel : kd_ 136 18 = ((0, 0, 0, []), 19))).trans ?_
  refine (g_4 (ls' := [.ref a0, .int x1, .int (nI 0)]) (by decide +kernel : kd_ 136 19 = ((4, 2, 0, []), 20)) rfl rfl).trans ?_
  rfl
theorem b_M_pass_20 {L : Nat} {f : cg_G} {e : Nat × Nat} {x1 x2 : Int32} {a0 : Nat} (h1 : sh_ a0 = 7): cj_res 136 20 [.ref a0, .int x1, .int x2] [] (cg_M L f e) = if (f a0 8) ≤ x2 then cj_res 136 59 [.ref a0, .int x1, .int x2] [] (cg_M L f e) else cj_res 136 28 [.ref a0, .int x1, .int x2] [] (cg_M L f e) := by
  refine (g_2 (by decide +kernel : kd_ 136 20 = ((2, 2, 0, []), 21)) rfl).trans ?_
  refine (g_3 (by decide +kernel : kd_ 136 21 = ((3, 0, 0, []), 22)) rfl).trans ?_
  refine (g_50 (v := .int (f a0 8)) (by decide +kernel : kd_ 136 22 = ((50, 7, 8, []), 25)) h1 rfl).trans ?_
  exact g_40 (by decide +kernel : kd_ 136 25 = ((40, 59, 0, []), 28))
theorem b_M_pass_28 {L : Nat} {f : cg_G} {e : Nat × Nat} {x1 x2 : Int32} {a0 : Nat} (h1 : sh_ a0 = 7): cj_res 136 28 [.ref a0, .int x1, .int x2] [] (cg_M L f e) = cj_aft 136 30 33 [.ref a0, .int x1, .int x2] [] (cj_ev 120 [.ref a0, .int x2] (cg_M L f e)) := by
  refine (g_3 (by decide +kernel : kd_ 136 28 = ((3, 0, 0, []), 29)) rfl).trans ?_
  refine (g_2 (by decide +kernel : kd_ 136 29 = ((2, 2, 0, []), 30)) rfl).trans ?_
  exact g_80 (by decide +kernel : kd_ 136 30 = ((80, 120, 2, [7]), 33)) rfl h1 rfl rfl rfl
theorem b_M_pass_33 {L : Nat} {f : cg_G} {e : Nat × Nat} {x1 x2 : Int32} {a0 : Nat} (h1 : sh_ a0 = 7): cj_res 136 33 [.ref a0, .int x1, .int x2] [] (cg_M L f e) = cj_aft 136 36 39 [.ref a0, .int x1, .int x2] [] (cj_ev 91 [.ref a0, .int x1, .int x2] (cg_M L f e)) := by
  refine (g_3 (by decide +kernel : kd_ 136 33 = ((3, 0, 0, []), 34)) rfl).trans ?_
  refine (g_2 (by decide +kernel : kd_ 136 34 = ((2, 1, 0, []), 35)) rfl).trans ?_
  refine (g_2 (by decide +kernel : kd_ 136 35 = ((2, 2, 0, []), 36)) rfl).trans ?_
  exact g_80 (by decide +kernel : kd_ 136 36 = ((80, 91, 3, [7]), 39)) rfl h1 rfl rfl rfl
theorem b_M_pass_39 {L : Nat} {f : cg_G} {e : Nat × Nat} {x1 x2 y0 : Int32} {a0 : Nat} : cj_res 136 39 [.ref a0, .int x1, .int x2] [.int y0] (cg_M L f e) = if y0 = 0 then cj_res 136 51 [.ref a0, .int x1, .int x2] [] (cg_M L f e) else cj_res 136 42 [.ref a0, .int x1, .int x2] [] (cg_M L f e) := by
  exact g_31 (by decide +kernel : kd_ 136 39 = ((31, 51, 0, []), 42))
theorem b_M_pass_42 {L : Nat} {f : cg_G} {e : Nat × Nat} {x1 x2 : Int32} {a0 : Nat} (h1 : sh_ a0 = 7): cj_res 136 42 [.ref a0, .int x1, .int x2] [] (cg_M L f e) = cj_aft 136 45 48 [.ref a0, .int x1, .int x2] [] (cj_ev 94 [.ref a0, .int x1, .int x2] (cg_M L f e)) := by
  refine (g_3 (by decide +kernel : kd_ 136 42 = ((3, 0, 0, []), 43)) rfl).trans ?_
  refine (g_2 (by decide +kernel : kd_ 136 43 = ((2, 1, 0, []), 44)) rfl).trans ?_
  refine (g_2 (by decide +kernel : kd_ 136 44 = ((2, 2, 0, []), 45)) rfl).trans ?_
  exact g_80 (by decide +kernel : kd_ 136 45 = ((80, 94, 3, [7]), 48)) rfl h1 rfl rfl rfl
theorem b_M_pass_48 {L : Nat} {f : cg_G} {e : Nat × Nat} {x1 x2 y0 : Int32} {a0 : Nat} : cj_res 136 48 [.ref a0, .int x1, .int x2] [.int y0] (cg_M L f e) = if y0 = 0 then cj_res 136 51 [.ref a0, .int x1, .int x2] [] (cg_M L f e) else cj_res 136 53 [.ref a0, .int x1, .int x2] [] (cg_M L f e) := by
  exact g_32 (by decide +kernel : kd_ 136 48 = ((32, 53, 0, []), 51))
theorem b_M_pass_51 {L : Nat} {f : cg_G} {e : Nat × Nat} {x1 x2 : Int32} {a0 : Nat} : cj_res 136 51 [.ref a0, .int x1, .int x2] [] (cg_M L f e) = some (.inl (some (.int x2)), cg_M L f e) := by
  refine (g_2 (by decide +kernel : kd_ 136 51 = ((2, 2, 0, []), 52)) rfl).trans ?_
  exact g_90 (by decide +kernel : kd_ 136 52 = ((90, 0, 0, []), 53))
theorem b_M_pass_53 {L : Nat} {f : cg_G} {e : Nat × Nat} {x1 x2 : Int32} {a0 : Nat} : cj_res 136 53 [.ref a0, .int x1, .int x2] [] (cg_M L f e) = cj_res 136 20 [.ref a0, .int x1, .int (x2 + nI 1)] [] (cg_M L f e) := by
  refine (g_6 (ls' := [.ref a0, .int x1, .int (x2 + nI 1)]) (by decide +kernel : kd_ 136 53 = ((6, 2, 1, []), 56)) rfl rfl).trans ?_
  refine (g_30 (by decide +kernel : kd_ 136 56 = ((30, 20, 0, []), 59))).trans ?_
  rfl
theorem b_M_pass_59 {L : Nat} {f : cg_G} {e : Nat × Nat} {x1 x2 : Int32} {a0 : Nat} (h1 : sh_ a0 = 7): cj_res 136 59 [.ref a0, .int x1, .int x2] [] (cg_M L f e) = cj_aft 136 61 64 [.ref a0, .int x1, .int x2] [] (cj_ev 123 [.ref a0, .int x1] (cg_M L f e)) := by
  refine (g_3 (by decide +kernel : kd_ 136 59 = ((3, 0, 0, []), 60)) rfl).trans ?_
  refine (g_2 (by decide +kernel : kd_ 136 60 = ((2, 1, 0, []), 61)) rfl).trans ?_
  exact g_80 (by decide +kernel : kd_ 136 61 = ((80, 123, 2, [7]), 64)) rfl h1 rfl rfl rfl
theorem b_M_pass_64 {L : Nat} {f : cg_G} {e : Nat × Nat} {x1 x2 : Int32} {a0 : Nat} : cj_res 136 64 [.ref a0, .int x1, .int x2] [] (cg_M L f e) = some (.inl (some (.int (- nI 1))), cg_M L f e) := by
  refine (g_1 (by decide +kernel : kd_ 136 64 = ((1, 1, 0, []), 65))).trans ?_
  exact g_90 (by decide +kernel : kd_ 136 65 = ((90, 0, 0, []), 66))
theorem b_C_index_0 {L : Nat} {f : cg_G} {e : Nat × Nat} {x1 x2 : Int32} {a0 : Nat} {u3 : Value} : cj_res 137 0 [.ref a0, .int x1, .int x2, u3] [] (cg_M L f e) = cj_aft 137 1 4 [.ref a0, .int x1, .int x2, u3] [] (cj_ev 2 [.int x1] (cg_M L f e)) := by
  refine (g_2 (by decide +kernel : kd_ 137 0 = ((2, 1, 0, []), 1)) rfl).trans ?_
  exact g_81 (by decide +kernel : kd_ 137 1 = ((81, 2, 1, []), 4)) rfl rfl rfl
theorem b_C_index_4 {L : Nat} {f : cg_G} {e : Nat × Nat} {x1 x2 y0 : Int32} {a0 : Nat} {u3 : Value} : cj_res 137 4 [.ref a0, .int x1, .int x2, u3] [.int y0] (cg_M L f e) = if y0 = 0 then cj_res 137 11 [.ref a0, .int x1, .int x2, u3] [] (cg_M L f e) else cj_res 137 7 [.ref a0, .int x1, .int x2, u3] [] (cg_M L f e) := by
  exact g_31 (by decide +kernel : kd_ 137 4 = ((31, 11, 0, []), 7))
theorem b_C_index_7 {L : Nat} {f : cg_G} {e : Nat × Nat} {x1 x2 : Int32} {a0 : Nat} {u3 : Value} : cj_res 137 7 [.ref a0, .int x1, .int x2, u3] [] (cg_M L f e) = if 0 ≤ x2 then cj_res 137 21 [.ref a0, .int x1, .int x2, u3] [] (cg_M L f e) else cj_res 137 11 [.ref a0, .int x1, .int x2, u3] [] (cg_M L f e) := by
  refine (g_2 (by decide +kernel : kd_ 137 7 = ((2, 2, 0, []), 8)) rfl).trans ?_
  exact g_34 (by decide +kernel : kd_ 137 8 = ((34, 21, 0, []), 11))
theorem b_C_index_11 {L : Nat} {f : cg_G} {e : Nat × Nat} {x1 x2 : Int32} {a0 : Nat} {u3 : Value} : cj_res 137 11 [.ref a0, .int x1, .int x2, u3] [] (cg_M L f e) = some (.inr 2, cj_pay (cg_M L f e) 1 6) := by
  exact g_95 (by decide +kernel : kd_ 137 11 = ((95, 2, 0, []), 14))
theorem b_C_index_21 {L : Nat} {f : cg_G} {e : Nat × Nat} {x1 x2 : Int32} {a0 : Nat} {u3 : Value} : cj_res 137 21 [.ref a0, .int x1, .int x2, u3] [] (cg_M L f e) = cj_res 137 23 [.ref a0, .int x1, .int x2, .int (nI 0)] [] (cg_M L f e) := by
  refine (g_0 (by decide +kernel : kd_ 137 21 = ((0, 0, 0, []), 22))).trans ?_
  refine (g_4 (ls' := [.ref a0, .int x1, .int x2, .int (nI 0)]) (by decide +kernel : kd_ 137 22 = ((4, 3, 0, []), 23)) rfl rfl).trans ?_
  rfl
theorem b_C_index_23 {L : Nat} {f : cg_G} {e : Nat × Nat} {x1 x2 x3 : Int32} {a0 : Nat} (h1 : sh_ a0 = 0): cj_res 137 23 [.ref a0, .int x1, .int x2, .int x3] [] (cg_M L f e) = if (f a0 7) ≤ x3 then cj_res 137 65 [.ref a0, .int x1, .int x2, .int x3] [] (cg_M L f e) else cj_res 137 31 [.ref a0, .int x1, .int x2, .int x3] [] (cg_M L f e) := by
  refine (g_2 (by decide +kernel : kd_ 137 23 = ((2, 3, 0, []), 24)) rfl).trans ?_
  refine (g_3 (by decide +kernel : kd_ 137 24 = ((3, 0, 0, []), 25)) rfl).trans ?_
  refine (g_50 (v := .int (f a0 7)) (by decide +kernel : kd_ 137 25 = ((50, 0, 7, []), 28)) h1 rfl).trans ?_
  exact g_40 (by decide +kernel : kd_ 137 28 = ((40, 65, 0, []), 31))
theorem b_C_index_31 {L : Nat} {f : cg_G} {e : Nat × Nat} {x1 x2 x3 : Int32} {a0 : Nat} (h1 : sh_ a0 = 0) (h2 : cg_in x3 8): cj_res 137 31 [.ref a0, .int x1, .int x2, .int x3] [] (cg_M L f e) = cj_aft 137 38 41 [.ref a0, .int x1, .int x2, .int x3] [] (cj_ev 14 [.ref ((a0 + 18) + 1 + 13 * x3.toNatClampNeg), .int x1] (cg_M L f e)) := by
  refine (g_3 (by decide +kernel : kd_ 137 31 = ((3, 0, 0, []), 32)) rfl).trans ?_
  refine (g_50 (v := .ref (a0 + 18)) (by decide +kernel : kd_ 137 32 = ((50, 0, 4, []), 35)) h1 rfl).trans ?_
  refine (g_2 (by decide +kernel : kd_ 137 35 = ((2, 3, 0, []), 36)) rfl).trans ?_
  refine (g_54 (v := .ref ((a0 + 18) + 1 + 13 * x3.toNatClampNeg)) (by decide +kernel : kd_ 137 36 = ((54, 4, 0, []), 37)) (sc_0_4 h1) rfl (by rw [sl_0_4 h1]; exact h2) (el_if (cg_in_lt h2))).trans ?_
  refine (g_2 (by decide +kernel : kd_ 137 37 = ((2, 1, 0, []), 38)) rfl).trans ?_
  exact g_80 (by decide +kernel : kd_ 137 38 = ((80, 14, 2, [2]), 41)) rfl (sa_104 (sc_0_4 h1) (cg_in_lt h2)) rfl rfl rfl
theorem b_C_index_41 {L : Nat} {f : cg_G} {e : Nat × Nat} {x1 x2 x3 : Int32} {a0 c0 : Nat} (h1 : sh_ c0 = 6): cj_res 137 41 [.ref a0, .int x1, .int x2, .int x3] [.ref c0] (cg_M L f e) = cj_aft 137 41 44 [.ref a0, .int x1, .int x2, .int x3] [] (cj_ev 39 [.ref c0] (cg_M L f e)) := by
  exact g_80 (by decide +kernel : kd_ 137 41 = ((80, 39, 1, [6]), 44)) rfl h1 rfl rfl rfl
theorem b_C_index_44 {L : Nat} {f : cg_G} {e : Nat × Nat} {x1 x2 x3 y0 : Int32} {a0 : Nat} : cj_res 137 44 [.ref a0, .int x1, .int x2, .int x3] [.int y0] (cg_M L f e) = if y0 ≤ 0 then cj_res 137 59 [.ref a0, .int x1, .int x2, .int x3] [] (cg_M L f e) else cj_res 137 47 [.ref a0, .int x1, .int x2, .int x3] [] (cg_M L f e) := by
  exact g_36 (by decide +kernel : kd_ 137 44 = ((36, 59, 0, []), 47))
theorem b_C_index_47 {L : Nat} {f : cg_G} {e : Nat × Nat} {x1 x2 x3 : Int32} {a0 : Nat} (h1 : sh_ a0 = 0): cj_res 137 47 [.ref a0, .int x1, .int x2, .int x3] [] (cg_M L f e) = cj_aft 137 50 53 [.ref a0, .int x1, .int x2, .int x3] [] (cj_ev 125 [.ref a0, .int x3, .int x1] (cg_M L f e)) := by
  refine (g_3 (by decide +kernel : kd_ 137 47 = ((3, 0, 0, []), 48)) rfl).trans ?_
  refine (g_2 (by decide +kernel : kd_ 137 48 = ((2, 3, 0, []), 49)) rfl).trans ?_
  refine (g_2 (by decide +kernel : kd_ 137 49 = ((2, 1, 0, []), 50)) rfl).trans ?_
  exact g_80 (by decide +kernel : kd_ 137 50 = ((80, 125, 3, [0]), 53)) rfl h1 rfl rfl rfl
theorem b_C_index_53 {L : Nat} {f : cg_G} {e : Nat × Nat} {x1 x2 x3 y0 : Int32} {a0 : Nat} : cj_res 137 53 [.ref a0, .int x1, .int x2, .int x3] [.int y0] (cg_M L f e) = if y0 = x2 then cj_res 137 57 [.ref a0, .int x1, .int x2, .int x3] [] (cg_M L f e) else cj_res 137 59 [.ref a0, .int x1, .int x2, .int x3] [] (cg_M L f e) := by
  refine (g_2 (by decide +kernel : kd_ 137 53 = ((2, 2, 0, []), 54)) rfl).trans ?_
  exact g_38 (by decide +kernel : kd_ 137 54 = ((38, 59, 0, []), 57))
theorem b_C_index_57 {L : Nat} {f : cg_G} {e : Nat × Nat} {x1 x2 x3 : Int32} {a0 : Nat} : cj_res 137 57 [.ref a0, .int x1, .int x2, .int x3] [] (cg_M L f e) = some (.inl (some (.int x3)), cg_M L f e) := by
  refine (g_2 (by decide +kernel : kd_ 137 57 = ((2, 3, 0, []), 58)) rfl).trans ?_
  exact g_90 (by decide +kernel : kd_ 137 58 = ((90, 0, 0, []), 59))
theorem b_C_index_59 {L : Nat} {f : cg_G} {e : Nat × Nat} {x1 x2 x3 : Int32} {a0 : Nat} : cj_res 137 59 [.ref a0, .int x1, .int x2, .int x3] [] (cg_M L f e) = cj_res 137 23 [.ref a0, .int x1, .int x2, .int (x3 + nI 1)] [] (cg_M L f e) := by
  refine (g_6 (ls' := [.ref a0, .int x1, .int x2, .int (x3 + nI 1)]) (by decide +kernel : kd_ 137 59 = ((6, 3, 1, []), 62)) rfl rfl).trans ?_
  refine (g_30 (by decide +kernel : kd_ 137 62 = ((30, 23, 0, []), 65))).trans ?_
  rfl
theorem b_C_index_65 {L : Nat} {f : cg_G} {e : Nat × Nat} {x1 x2 x3 : Int32} {a0 : Nat} : cj_res 137 65 [.ref a0, .int x1, .int x2, .int x3] [] (cg_M L f e) = some (.inl (some (.int (- nI 1))), cg_M L f e) := by
  refine (g_1 (by decide +kernel : kd_ 137 65 = ((1, 1, 0, []), 66))).trans ?_
  exact g_90 (by decide +kernel : kd_ 137 66 = ((90, 0, 0, []), 67))
theorem b_Press_setLines_0 {L : Nat} {f : cg_G} {e : Nat × Nat} {x2 : Int32} {a0 a1 a3 : Nat} {u4 u5 : Value} : cj_res 138 0 [.ref a0, .ref a1, .int x2, .ref a3, u4, u5] [] (cg_M L f e) = cj_res 138 3 [.ref a0, .ref a1, .int x2, .ref a3, .int (nI 0), u5] [] (cg_M L f e) := by
  refine (g_0 (by decide +kernel : kd_ 138 0 = ((0, 0, 0, []), 1))).trans ?_
  refine (g_4 (ls' := [.ref a0, .ref a1, .int x2, .ref a3, .int (nI 0), u5]) (by decide +kernel : kd_ 138 1 = ((4, 4, 0, []), 3)) rfl rfl).trans ?_
  rfl
theorem b_Press_setLines_3 {L : Nat} {f : cg_G} {e : Nat × Nat} {x2 x4 : Int32} {a0 a1 a3 : Nat} {u5 : Value} : cj_res 138 3 [.ref a0, .ref a1, .int x2, .ref a3, .int x4, u5] [] (cg_M L f e) = if x2 ≤ x4 then cj_res 138 104 [.ref a0, .ref a1, .int x2, .ref a3, .int x4, u5] [] (cg_M L f e) else cj_res 138 9 [.ref a0, .ref a1, .int x2, .ref a3, .int x4, u5] [] (cg_M L f e) := by
  refine (g_2 (by decide +kernel : kd_ 138 3 = ((2, 4, 0, []), 5)) rfl).trans ?_
  refine (g_2 (by decide +kernel : kd_ 138 5 = ((2, 2, 0, []), 6)) rfl).trans ?_
  exact g_40 (by decide +kernel : kd_ 138 6 = ((40, 104, 0, []), 9))
theorem b_Press_setLines_9 {L : Nat} {f : cg_G} {e : Nat × Nat} {x2 x4 : Int32} {a0 a1 a3 : Nat} {u5 : Value} (h1 : sh_ a1 = 104): cj_res 138 9 [.ref a0, .ref a1, .int x2, .ref a3, .int x4, u5] [] (cg_M L f e) = if (nI (ln_ L a1)) ≤ x4 then cj_res 138 104 [.ref a0, .ref a1, .int x2, .ref a3, .int x4, u5] [] (cg_M L f e) else cj_res 138 16 [.ref a0, .ref a1, .int x2, .ref a3, .int x4, u5] [] (cg_M L f e) := by
  refine (g_2 (by decide +kernel : kd_ 138 9 = ((2, 4, 0, []), 11)) rfl).trans ?_
  refine (g_3 (by decide +kernel : kd_ 138 11 = ((3, 1, 0, []), 12)) rfl).trans ?_
  refine (g_53 (by decide +kernel : kd_ 138 12 = ((53, 0, 0, []), 13)) h1 rfl).trans ?_
  exact g_40 (by decide +kernel : kd_ 138 13 = ((40, 104, 0, []), 16))
theorem b_Press_setLines_16 {L : Nat} {f : cg_G} {e : Nat × Nat} {x2 x4 : Int32} {a0 a1 a3 : Nat} {u5 : Value} (h1 : sh_ a3 = 5): cj_res 138 16 [.ref a0, .ref a1, .int x2, .ref a3, .int x4, u5] [] (cg_M L f e) = cj_aft 138 19 22 [.ref a0, .ref a1, .int x2, .ref a3, .int x4, u5] [] (cj_ev 25 [.ref a3, .int x4] (cg_M L f e)) := by
  refine (g_3 (by decide +kernel : kd_ 138 16 = ((3, 3, 0, []), 17)) rfl).trans ?_
  refine (g_2 (by decide +kernel : kd_ 138 17 = ((2, 4, 0, []), 19)) rfl).trans ?_
  exact g_80 (by decide +kernel : kd_ 138 19 = ((80, 25, 2, [5]), 22)) rfl h1 rfl rfl rfl
theorem b_Press_setLines_22 {L : Nat} {f : cg_G} {e : Nat × Nat} {x2 x4 : Int32} {a0 a1 a3 c0 : Nat} {u5 : Value} (h1 : sh_ a1 = 104) (h2 : cg_in x4 8) (h3 : sh_ a0 = 4): cj_res 138 22 [.ref a0, .ref a1, .int x2, .ref a3, .int x4, u5] [.ref c0] (cg_M L f e) = cj_aft 138 36 39 [.ref a0, .ref a1, .int x2, .ref a3, .int x4, .ref c0] [] (cj_ev 130 [.ref (a1 + 1 + 13 * x4.toNatClampNeg), .ref (a0 + 1), .ref (a0 + 7)] (cg_M L f e)) := by
  refine (g_5 (ls' := [.ref a0, .ref a1, .int x2, .ref a3, .int x4, .ref c0]) (by decide +kernel : kd_ 138 22 = ((5, 5, 0, []), 24)) rfl rfl).trans ?_
  refine (g_3 (by decide +kernel : kd_ 138 24 = ((3, 1, 0, []), 25)) rfl).trans ?_
  refine (g_2 (by decide +kernel : kd_ 138 25 = ((2, 4, 0, []), 27)) rfl).trans ?_
  refine (g_54 (v := .ref (a1 + 1 + 13 * x4.toNatClampNeg)) (by decide +kernel : kd_ 138 27 = ((54, 4, 0, []), 28)) h1 rfl (by rw [sla_104 h1]; exact h2) (el_if (cg_in_lt h2))).trans ?_
  refine (g_3 (by decide +kernel : kd_ 138 28 = ((3, 0, 0, []), 29)) rfl).trans ?_
  refine (g_50 (v := .ref (a0 + 1)) (by decide +kernel : kd_ 138 29 = ((50, 4, 2, []), 32)) h3 rfl).trans ?_
  refine (g_3 (by decide +kernel : kd_ 138 32 = ((3, 0, 0, []), 33)) rfl).trans ?_
  refine (g_50 (v := .ref (a0 + 7)) (by decide +kernel : kd_ 138 33 = ((50, 4, 4, []), 36)) h3 rfl).trans ?_
  exact g_80 (by decide +kernel : kd_ 138 36 = ((80, 130, 3, [2]), 39)) rfl (sa_104 h1 (cg_in_lt h2)) rfl rfl rfl
theorem b_Press_setLines_39 {L : Nat} {f : cg_G} {e : Nat × Nat} {x2 x4 : Int32} {a0 a1 a3 a5 : Nat} (h1 : sh_ a1 = 104) (h2 : cg_in x4 8): cj_res 138 39 [.ref a0, .ref a1, .int x2, .ref a3, .int x4, .ref a5] [] (cg_M L f e) = cj_aft 138 45 48 [.ref a0, .ref a1, .int x2, .ref a3, .int x4, .ref a5] [.ref a5] (cj_ev 12 [.ref (a1 + 1 + 13 * x4.toNatClampNeg)] (cg_M L f e)) := by
  refine (g_3 (by decide +kernel : kd_ 138 39 = ((3, 5, 0, []), 41)) rfl).trans ?_
  refine (g_3 (by decide +kernel : kd_ 138 41 = ((3, 1, 0, []), 42)) rfl).trans ?_
  refine (g_2 (by decide +kernel : kd_ 138 42 = ((2, 4, 0, []), 44)) rfl).trans ?_
  refine (g_54 (v := .ref (a1 + 1 + 13 * x4.toNatClampNeg)) (by decide +kernel : kd_ 138 44 = ((54, 4, 0, []), 45)) h1 rfl (by rw [sla_104 h1]; exact h2) (el_if (cg_in_lt h2))).trans ?_
  exact g_80 (by decide +kernel : kd_ 138 45 = ((80, 12, 1, [2]), 48)) rfl (sa_104 h1 (cg_in_lt h2)) rfl rfl rfl
theorem b_Press_setLines_48 {L : Nat} {f : cg_G} {e : Nat × Nat} {x2 x4 y0 : Int32} {a0 a1 a3 a5 c1 : Nat} (h1 : sh_ c1 = 1): cj_res 138 48 [.ref a0, .ref a1, .int x2, .ref a3, .int x4, .ref a5] [.int y0, .ref c1] (cg_M L f e) = cj_aft 138 48 51 [.ref a0, .ref a1, .int x2, .ref a3, .int x4, .ref a5] [] (cj_ev 8 [.ref c1, .int y0] (cg_M L f e)) := by
  exact g_80 (by decide +kernel : kd_ 138 48 = ((80, 8, 2, [1]), 51)) rfl h1 rfl rfl rfl
theorem b_Press_setLines_51 {L : Nat} {f : cg_G} {e : Nat × Nat} {x2 x4 : Int32} {a0 a1 a3 a5 : Nat} (h1 : sh_ a0 = 4) (h2 : sh_ a5 = 1): cj_res 138 51 [.ref a0, .ref a1, .int x2, .ref a3, .int x4, .ref a5] [] (cg_M L f e) = cj_aft 138 65 68 [.ref a0, .ref a1, .int x2, .ref a3, .int x4, .ref a5] [] (cj_ev 129 [.ref a5, .ref (a0 + 1), .int (f a0 0), .ref (a0 + 3)] (cg_M L f e)) := by
  refine (g_3 (by decide +kernel : kd_ 138 51 = ((3, 5, 0, []), 53)) rfl).trans ?_
  refine (g_3 (by decide +kernel : kd_ 138 53 = ((3, 0, 0, []), 54)) rfl).trans ?_
  refine (g_50 (v := .ref (a0 + 1)) (by decide +kernel : kd_ 138 54 = ((50, 4, 2, []), 57)) h1 rfl).trans ?_
  refine (g_3 (by decide +kernel : kd_ 138 57 = ((3, 0, 0, []), 58)) rfl).trans ?_
  refine (g_50 (v := .int (f a0 0)) (by decide +kernel : kd_ 138 58 = ((50, 4, 0, []), 61)) h1 rfl).trans ?_
  refine (g_3 (by decide +kernel : kd_ 138 61 = ((3, 0, 0, []), 62)) rfl).trans ?_
  refine (g_50 (v := .ref (a0 + 3)) (by decide +kernel : kd_ 138 62 = ((50, 4, 3, []), 65)) h1 rfl).trans ?_
  exact g_80 (by decide +kernel : kd_ 138 65 = ((80, 129, 4, [1]), 68)) rfl h2 rfl rfl rfl
theorem b_Press_setLines_68 {L : Nat} {f : cg_G} {e : Nat × Nat} {x2 x4 y0 : Int32} {a0 a1 a3 a5 : Nat} : cj_res 138 68 [.ref a0, .ref a1, .int x2, .ref a3, .int x4, .ref a5] [.int y0] (cg_M L f e) = if y0 = 0 then cj_res 138 84 [.ref a0, .ref a1, .int x2, .ref a3, .int x4, .ref a5] [] (cg_M L f e) else cj_res 138 71 [.ref a0, .ref a1, .int x2, .ref a3, .int x4, .ref a5] [] (cg_M L f e) := by
  exact g_31 (by decide +kernel : kd_ 138 68 = ((31, 84, 0, []), 71))
theorem b_Press_setLines_71 {L : Nat} {f : cg_G} {e : Nat × Nat} {x2 x4 : Int32} {a0 a1 a3 a5 : Nat} (h1 : sh_ a5 = 1): cj_res 138 71 [.ref a0, .ref a1, .int x2, .ref a3, .int x4, .ref a5] [] (cg_M L f e) = cj_aft 138 74 77 [.ref a0, .ref a1, .int x2, .ref a3, .int x4, .ref a5] [] (cj_ev 4 [.ref a5, .int (nI 0)] (cg_M L f e)) := by
  refine (g_3 (by decide +kernel : kd_ 138 71 = ((3, 5, 0, []), 73)) rfl).trans ?_
  refine (g_0 (by decide +kernel : kd_ 138 73 = ((0, 0, 0, []), 74))).trans ?_
  exact g_80 (by decide +kernel : kd_ 138 74 = ((80, 4, 2, [1]), 77)) rfl h1 rfl rfl rfl
theorem b_Press_setLines_77 {L : Nat} {f : cg_G} {e : Nat × Nat} {x2 x4 y0 : Int32} {a0 a1 a3 a5 : Nat} (h1 : sh_ a0 = 4): cj_res 138 77 [.ref a0, .ref a1, .int x2, .ref a3, .int x4, .ref a5] [.int y0] (cg_M L f e) = if y0 ≤ (f a0 1) then cj_res 138 87 [.ref a0, .ref a1, .int x2, .ref a3, .int x4, .ref a5] [] (cg_M L f e) else cj_res 138 84 [.ref a0, .ref a1, .int x2, .ref a3, .int x4, .ref a5] [] (cg_M L f e) := by
  refine (g_3 (by decide +kernel : kd_ 138 77 = ((3, 0, 0, []), 78)) rfl).trans ?_
  refine (g_50 (v := .int (f a0 1)) (by decide +kernel : kd_ 138 78 = ((50, 4, 1, []), 81)) h1 rfl).trans ?_
  exact g_42 (by decide +kernel : kd_ 138 81 = ((42, 87, 0, []), 84))
theorem b_Press_setLines_84 {L : Nat} {f : cg_G} {e : Nat × Nat} {x2 x4 : Int32} {a0 a1 a3 a5 : Nat} : cj_res 138 84 [.ref a0, .ref a1, .int x2, .ref a3, .int x4, .ref a5] [] (cg_M L f e) = some (.inl (some (.int x4)), cg_M L f e) := by
  refine (g_2 (by decide +kernel : kd_ 138 84 = ((2, 4, 0, []), 86)) rfl).trans ?_
  exact g_90 (by decide +kernel : kd_ 138 86 = ((90, 0, 0, []), 87))
theorem b_Press_setLines_87 {L : Nat} {f : cg_G} {e : Nat × Nat} {x2 x4 : Int32} {a0 a1 a3 a5 : Nat} (h1 : sh_ a0 = 4): cj_res 138 87 [.ref a0, .ref a1, .int x2, .ref a3, .int x4, .ref a5] [] (cg_M L f e) = cj_aft 138 92 95 [.ref a0, .ref a1, .int x2, .ref a3, .int x4, .ref a5] [.ref a3] (cj_ev 21 [.ref (a0 + 3)] (cg_M L f e)) := by
  refine (g_3 (by decide +kernel : kd_ 138 87 = ((3, 3, 0, []), 88)) rfl).trans ?_
  refine (g_3 (by decide +kernel : kd_ 138 88 = ((3, 0, 0, []), 89)) rfl).trans ?_
  refine (g_50 (v := .ref (a0 + 3)) (by decide +kernel : kd_ 138 89 = ((50, 4, 3, []), 92)) h1 rfl).trans ?_
  exact g_80 (by decide +kernel : kd_ 138 92 = ((80, 21, 1, [3]), 95)) rfl (sc_4_3 h1) rfl rfl rfl
theorem b_Press_setLines_95 {L : Nat} {f : cg_G} {e : Nat × Nat} {x2 x4 y0 : Int32} {a0 a1 a3 a5 c1 : Nat} (h1 : sh_ c1 = 5): cj_res 138 95 [.ref a0, .ref a1, .int x2, .ref a3, .int x4, .ref a5] [.int y0, .ref c1] (cg_M L f e) = cj_aft 138 95 98 [.ref a0, .ref a1, .int x2, .ref a3, .int x4, .ref a5] [] (cj_ev 24 [.ref c1, .int y0] (cg_M L f e)) := by
  exact g_80 (by decide +kernel : kd_ 138 95 = ((80, 24, 2, [5]), 98)) rfl h1 rfl rfl rfl
theorem b_Press_setLines_98 {L : Nat} {f : cg_G} {e : Nat × Nat} {x2 x4 : Int32} {a0 a1 a3 a5 : Nat} : cj_res 138 98 [.ref a0, .ref a1, .int x2, .ref a3, .int x4, .ref a5] [] (cg_M L f e) = cj_res 138 3 [.ref a0, .ref a1, .int x2, .ref a3, .int (x4 + nI 1), .ref a5] [] (cg_M L f e) := by
  refine (g_6 (ls' := [.ref a0, .ref a1, .int x2, .ref a3, .int (x4 + nI 1), .ref a5]) (by decide +kernel : kd_ 138 98 = ((6, 4, 1, []), 101)) rfl rfl).trans ?_
  refine (g_30 (by decide +kernel : kd_ 138 101 = ((30, 3, 0, []), 104))).trans ?_
  rfl
theorem b_Press_setLines_104 {L : Nat} {f : cg_G} {e : Nat × Nat} {x2 x4 : Int32} {a0 a1 a3 : Nat} {u5 : Value} : cj_res 138 104 [.ref a0, .ref a1, .int x2, .ref a3, .int x4, u5] [] (cg_M L f e) = some (.inl (some (.int (- nI 1))), cg_M L f e) := by
  refine (g_1 (by decide +kernel : kd_ 138 104 = ((1, 1, 0, []), 105))).trans ?_
  exact g_90 (by decide +kernel : kd_ 138 105 = ((90, 0, 0, []), 106))
theorem b_W_field_0 {L : Nat} {f : cg_G} {e : Nat × Nat} {x1 x2 : Int32} {a0 a3 : Nat} {u4 : Value} (h1 : sh_ a0 = 0): cj_res 139 0 [.ref a0, .int x1, .int x2, .ref a3, u4] [] (cg_M L f e) = cj_aft 139 5 8 [.ref a0, .int x1, .int x2, .ref a3, u4] [.int (nI 0), .ref a3] (cj_ev 126 [.ref a0, .int x1, .int x2] (cg_M L f e)) := by
  refine (g_3 (by decide +kernel : kd_ 139 0 = ((3, 3, 0, []), 1)) rfl).trans ?_
  refine (g_0 (by decide +kernel : kd_ 139 1 = ((0, 0, 0, []), 2))).trans ?_
  refine (g_3 (by decide +kernel : kd_ 139 2 = ((3, 0, 0, []), 3)) rfl).trans ?_
  refine (g_2 (by decide +kernel : kd_ 139 3 = ((2, 1, 0, []), 4)) rfl).trans ?_
  refine (g_2 (by decide +kernel : kd_ 139 4 = ((2, 2, 0, []), 5)) rfl).trans ?_
  exact g_80 (by decide +kernel : kd_ 139 5 = ((80, 126, 3, [0]), 8)) rfl h1 rfl rfl rfl
theorem b_W_field_8 {L : Nat} {f : cg_G} {e : Nat × Nat} {x1 x2 y0 y1 : Int32} {a0 a3 c2 : Nat} {u4 : Value} (h1 : sh_ c2 = 102) (h2 : cg_in y1 (ln_ L c2)): cj_res 139 8 [.ref a0, .int x1, .int x2, .ref a3, u4] [.int y0, .int y1, .ref c2] (cg_M L f e) = cj_res 139 21 [.ref a0, .int x1, .int x2, .ref a3, u4] [] (cg_M L (cg_up f c2 y1.toNatClampNeg y0) e) := by
  refine (g_23 (by decide +kernel : kd_ 139 8 = ((23, 0, 0, []), 9))).trans ?_
  refine (g_59 (by decide +kernel : kd_ 139 9 = ((59, 2, 0, []), 10)) h1 (fun _ => rfl) h2 (sz_102 h1)).trans ?_
  refine (g_30 (by decide +kernel : kd_ 139 10 = ((30, 21, 0, []), 13))).trans ?_
  rfl
theorem b_W_field_15 {L : Nat} {f : cg_G} {e : Nat × Nat} {x1 x2 : Int32} {a0 a3 : Nat} {u4 : Value} : cj_res 139 15 [.ref a0, .int x1, .int x2, .ref a3, u4] [] (cg_M L f e) = some (.inl (some (.int (nI 1))), cg_M L f e) := by
  refine (g_0 (by decide +kernel : kd_ 139 15 = ((0, 1, 0, []), 16))).trans ?_
  exact g_90 (by decide +kernel : kd_ 139 16 = ((90, 0, 0, []), 17))
theorem b_W_field_19 {L : Nat} {f : cg_G} {e : Nat × Nat} {x1 x2 : Int32} {a0 a3 : Nat} {u4 : Value} : cj_res 139 19 [.ref a0, .int x1, .int x2, .ref a3, u4] [] (cg_M L f e) = some (.inl (some (.int (nI 2))), cg_M L f e) := by
  refine (g_0 (by decide +kernel : kd_ 139 19 = ((0, 2, 0, []), 20))).trans ?_
  exact g_90 (by decide +kernel : kd_ 139 20 = ((90, 0, 0, []), 21))
theorem b_W_field_21 {L : Nat} {f : cg_G} {e : Nat × Nat} {x1 x2 : Int32} {a0 a3 : Nat} {u4 : Value} : cj_res 139 21 [.ref a0, .int x1, .int x2, .ref a3, u4] [] (cg_M L f e) = some (.inl (some (.int (nI 0))), cg_M L f e) := by
  refine (g_0 (by decide +kernel : kd_ 139 21 = ((0, 0, 0, []), 22))).trans ?_
  exact g_90 (by decide +kernel : kd_ 139 22 = ((90, 0, 0, []), 23))
theorem b_W_order_0 {L : Nat} {f : cg_G} {e : Nat × Nat} {a0 a1 : Nat} {u2 : Value} (h1 : sh_ a0 = 0): cj_res 140 0 [.ref a0, .ref a1, u2] [] (cg_M L f e) = cj_aft 140 3 6 [.ref a0, .ref a1, u2] [.int (nI 0), .ref a1] (cj_ev 127 [.ref a0] (cg_M L f e)) := by
  refine (g_3 (by decide +kernel : kd_ 140 0 = ((3, 1, 0, []), 1)) rfl).trans ?_
  refine (g_0 (by decide +kernel : kd_ 140 1 = ((0, 0, 0, []), 2))).trans ?_
  refine (g_3 (by decide +kernel : kd_ 140 2 = ((3, 0, 0, []), 3)) rfl).trans ?_
  exact g_80 (by decide +kernel : kd_ 140 3 = ((80, 127, 1, [0]), 6)) rfl h1 rfl rfl rfl
theorem b_W_order_6 {L : Nat} {f : cg_G} {e : Nat × Nat} {y0 y1 : Int32} {a0 a1 c2 : Nat} {u2 : Value} (h1 : sh_ c2 = 102) (h2 : cg_in y1 (ln_ L c2)): cj_res 140 6 [.ref a0, .ref a1, u2] [.int y0, .int y1, .ref c2] (cg_M L f e) = cj_res 140 14 [.ref a0, .ref a1, u2] [] (cg_M L (cg_up f c2 y1.toNatClampNeg y0) e) := by
  refine (g_23 (by decide +kernel : kd_ 140 6 = ((23, 0, 0, []), 7))).trans ?_
  refine (g_59 (by decide +kernel : kd_ 140 7 = ((59, 2, 0, []), 8)) h1 (fun _ => rfl) h2 (sz_102 h1)).trans ?_
  refine (g_30 (by decide +kernel : kd_ 140 8 = ((30, 14, 0, []), 11))).trans ?_
  rfl
theorem b_W_order_12 {L : Nat} {f : cg_G} {e : Nat × Nat} {a0 a1 : Nat} {u2 : Value} : cj_res 140 12 [.ref a0, .ref a1, u2] [] (cg_M L f e) = some (.inl (some (.int (nI 1))), cg_M L f e) := by
  refine (g_0 (by decide +kernel : kd_ 140 12 = ((0, 1, 0, []), 13))).trans ?_
  exact g_90 (by decide +kernel : kd_ 140 13 = ((90, 0, 0, []), 14))
theorem b_W_order_14 {L : Nat} {f : cg_G} {e : Nat × Nat} {a0 a1 : Nat} {u2 : Value} : cj_res 140 14 [.ref a0, .ref a1, u2] [] (cg_M L f e) = some (.inl (some (.int (nI 0))), cg_M L f e) := by
  refine (g_0 (by decide +kernel : kd_ 140 14 = ((0, 0, 0, []), 15))).trans ?_
  exact g_90 (by decide +kernel : kd_ 140 15 = ((90, 0, 0, []), 16))
theorem b_W_template_0 {L : Nat} {f : cg_G} {e : Nat × Nat} {a0 a1 : Nat} {u2 : Value} (h1 : sh_ a0 = 0): cj_res 141 0 [.ref a0, .ref a1, u2] [] (cg_M L f e) = cj_aft 141 3 6 [.ref a0, .ref a1, u2] [.int (nI 0), .ref a1] (cj_ev 128 [.ref a0] (cg_M L f e)) := by
  refine (g_3 (by decide +kernel : kd_ 141 0 = ((3, 1, 0, []), 1)) rfl).trans ?_
  refine (g_0 (by decide +kernel : kd_ 141 1 = ((0, 0, 0, []), 2))).trans ?_
  refine (g_3 (by decide +kernel : kd_ 141 2 = ((3, 0, 0, []), 3)) rfl).trans ?_
  exact g_80 (by decide +kernel : kd_ 141 3 = ((80, 128, 1, [0]), 6)) rfl h1 rfl rfl rfl
theorem b_W_template_6 {L : Nat} {f : cg_G} {e : Nat × Nat} {y0 y1 : Int32} {a0 a1 c2 : Nat} {u2 : Value} (h1 : sh_ c2 = 102) (h2 : cg_in y1 (ln_ L c2)): cj_res 141 6 [.ref a0, .ref a1, u2] [.int y0, .int y1, .ref c2] (cg_M L f e) = cj_res 141 14 [.ref a0, .ref a1, u2] [] (cg_M L (cg_up f c2 y1.toNatClampNeg y0) e) := by
  refine (g_23 (by decide +kernel : kd_ 141 6 = ((23, 0, 0, []), 7))).trans ?_
  refine (g_59 (by decide +kernel : kd_ 141 7 = ((59, 2, 0, []), 8)) h1 (fun _ => rfl) h2 (sz_102 h1)).trans ?_
  refine (g_30 (by decide +kernel : kd_ 141 8 = ((30, 14, 0, []), 11))).trans ?_
  rfl
theorem b_W_template_12 {L : Nat} {f : cg_G} {e : Nat × Nat} {a0 a1 : Nat} {u2 : Value} : cj_res 141 12 [.ref a0, .ref a1, u2] [] (cg_M L f e) = some (.inl (some (.int (nI 1))), cg_M L f e) := by
  refine (g_0 (by decide +kernel : kd_ 141 12 = ((0, 1, 0, []), 13))).trans ?_
  exact g_90 (by decide +kernel : kd_ 141 13 = ((90, 0, 0, []), 14))
theorem b_W_template_14 {L : Nat} {f : cg_G} {e : Nat × Nat} {a0 a1 : Nat} {u2 : Value} : cj_res 141 14 [.ref a0, .ref a1, u2] [] (cg_M L f e) = some (.inl (some (.int (nI 0))), cg_M L f e) := by
  refine (g_0 (by decide +kernel : kd_ 141 14 = ((0, 0, 0, []), 15))).trans ?_
  exact g_90 (by decide +kernel : kd_ 141 15 = ((90, 0, 0, []), 16))
theorem b_M_run_0 {L : Nat} {f : cg_G} {e : Nat × Nat} {a0 : Nat} {u1 u2 u3 u4 : Value} (h1 : sh_ a0 = 7): cj_res 142 0 [.ref a0, u1, u2, u3, u4] [] (cg_M L f e) = cj_res 142 7 [.ref a0, .int (nI 0), u2, u3, u4] [] (cg_M L (cg_up f a0 2 (nI 0)) e) := by
  refine (g_3 (by decide +kernel : kd_ 142 0 = ((3, 0, 0, []), 1)) rfl).trans ?_
  refine (g_0 (by decide +kernel : kd_ 142 1 = ((0, 0, 0, []), 2))).trans ?_
  refine (g_51 (x := nI 0) (v := .int (nI 0)) (by decide +kernel : kd_ 142 2 = ((51, 7, 2, [0]), 5)) h1 rfl rfl rfl (sz_7 h1) rfl).trans ?_
  refine (g_0 (by decide +kernel : kd_ 142 5 = ((0, 0, 0, []), 6))).trans ?_
  refine (g_4 (ls' := [.ref a0, .int (nI 0), u2, u3, u4]) (by decide +kernel : kd_ 142 6 = ((4, 1, 0, []), 7)) rfl rfl).trans ?_
  rfl
theorem b_M_run_7 {L : Nat} {f : cg_G} {e : Nat × Nat} {x1 : Int32} {a0 : Nat} {u2 u3 u4 : Value} (h1 : sh_ a0 = 7): cj_res 142 7 [.ref a0, .int x1, u2, u3, u4] [] (cg_M L f e) = if ((nI 4) * (f a0 8)) ≤ x1 then cj_res 142 38 [.ref a0, .int x1, u2, u3, u4] [] (cg_M L f e) else cj_res 142 17 [.ref a0, .int x1, u2, u3, u4] [] (cg_M L f e) := by
  refine (g_2 (by decide +kernel : kd_ 142 7 = ((2, 1, 0, []), 8)) rfl).trans ?_
  refine (g_0 (by decide +kernel : kd_ 142 8 = ((0, 4, 0, []), 9))).trans ?_
  refine (g_3 (by decide +kernel : kd_ 142 9 = ((3, 0, 0, []), 10)) rfl).trans ?_
  refine (g_50 (v := .int (f a0 8)) (by decide +kernel : kd_ 142 10 = ((50, 7, 8, []), 13)) h1 rfl).trans ?_
  refine (g_12 (by decide +kernel : kd_ 142 13 = ((12, 0, 0, []), 14))).trans ?_
  exact g_40 (by decide +kernel : kd_ 142 14 = ((40, 38, 0, []), 17))
theorem b_M_run_17 {L : Nat} {f : cg_G} {e : Nat × Nat} {x1 : Int32} {a0 : Nat} {u2 u3 u4 : Value} (h1 : sh_ a0 = 7) (h2 : cg_in x1 32): cj_res 142 17 [.ref a0, .int x1, u2, u3, u4] [] (cg_M L f e) = if (f (a0 + 8) x1.toNatClampNeg) = 0 then cj_res 142 26 [.ref a0, .int x1, u2, u3, u4] [] (cg_M L f e) else cj_res 142 32 [.ref a0, .int x1, u2, u3, u4] [] (cg_M L f e) := by
  refine (g_3 (by decide +kernel : kd_ 142 17 = ((3, 0, 0, []), 18)) rfl).trans ?_
  refine (g_50 (v := .ref (a0 + 8)) (by decide +kernel : kd_ 142 18 = ((50, 7, 13, []), 21)) h1 rfl).trans ?_
  refine (g_2 (by decide +kernel : kd_ 142 21 = ((2, 1, 0, []), 22)) rfl).trans ?_
  refine (g_54 (v := .int (f (a0 + 8) x1.toNatClampNeg)) (by decide +kernel : kd_ 142 22 = ((54, 0, 0, []), 23)) (sc_7_13 h1) rfl (by rw [sl_7_13 h1]; exact h2) rfl).trans ?_
  exact g_32 (by decide +kernel : kd_ 142 23 = ((32, 32, 0, []), 26))
theorem b_M_run_26 {L : Nat} {f : cg_G} {e : Nat × Nat} {x1 : Int32} {a0 : Nat} {u2 u3 u4 : Value} : cj_res 142 26 [.ref a0, .int x1, u2, u3, u4] [] (cg_M L f e) = some (.inl (some (.int ((- nI 1) - (x1 / (nI 4))))), cg_M L f e) := by
  refine (g_1 (by decide +kernel : kd_ 142 26 = ((1, 1, 0, []), 27))).trans ?_
  refine (g_2 (by decide +kernel : kd_ 142 27 = ((2, 1, 0, []), 28)) rfl).trans ?_
  refine (g_0 (by decide +kernel : kd_ 142 28 = ((0, 4, 0, []), 29))).trans ?_
  refine (g_13 (by decide +kernel : kd_ 142 29 = ((13, 0, 0, []), 30)) (by decide)).trans ?_
  refine (g_11 (by decide +kernel : kd_ 142 30 = ((11, 0, 0, []), 31))).trans ?_
  exact g_90 (by decide +kernel : kd_ 142 31 = ((90, 0, 0, []), 32))
theorem b_M_run_32 {L : Nat} {f : cg_G} {e : Nat × Nat} {x1 : Int32} {a0 : Nat} {u2 u3 u4 : Value} : cj_res 142 32 [.ref a0, .int x1, u2, u3, u4] [] (cg_M L f e) = cj_res 142 7 [.ref a0, .int (x1 + nI 1), u2, u3, u4] [] (cg_M L f e) := by
  refine (g_6 (ls' := [.ref a0, .int (x1 + nI 1), u2, u3, u4]) (by decide +kernel : kd_ 142 32 = ((6, 1, 1, []), 35)) rfl rfl).trans ?_
  refine (g_30 (by decide +kernel : kd_ 142 35 = ((30, 7, 0, []), 38))).trans ?_
  rfl
theorem b_M_run_38 {L : Nat} {f : cg_G} {e : Nat × Nat} {x1 : Int32} {a0 : Nat} {u2 u3 u4 : Value} (h1 : sh_ a0 = 7): cj_res 142 38 [.ref a0, .int x1, u2, u3, u4] [] (cg_M L f e) = if (f a0 23) = 0 then cj_res 142 45 [.ref a0, .int x1, u2, u3, u4] [] (cg_M L f e) else cj_res 142 49 [.ref a0, .int x1, u2, u3, u4] [] (cg_M L f e) := by
  refine (g_3 (by decide +kernel : kd_ 142 38 = ((3, 0, 0, []), 39)) rfl).trans ?_
  refine (g_50 (v := .int (f a0 23)) (by decide +kernel : kd_ 142 39 = ((50, 7, 23, []), 42)) h1 rfl).trans ?_
  exact g_32 (by decide +kernel : kd_ 142 42 = ((32, 49, 0, []), 45))
theorem b_M_run_45 {L : Nat} {f : cg_G} {e : Nat × Nat} {x1 : Int32} {a0 : Nat} {u2 u3 u4 : Value} : cj_res 142 45 [.ref a0, .int x1, u2, u3, u4] [] (cg_M L f e) = cj_res 142 50 [.ref a0, .int x1, u2, u3, u4] [.int (nI 1)] (cg_M L f e) := by
  refine (g_0 (by decide +kernel : kd_ 142 45 = ((0, 1, 0, []), 46))).trans ?_
  refine (g_30 (by decide +kernel : kd_ 142 46 = ((30, 50, 0, []), 49))).trans ?_
  rfl
theorem b_M_run_49 {L : Nat} {f : cg_G} {e : Nat × Nat} {x1 : Int32} {a0 : Nat} {u2 u3 u4 : Value} : cj_res 142 49 [.ref a0, .int x1, u2, u3, u4] [] (cg_M L f e) = cj_res 142 50 [.ref a0, .int x1, u2, u3, u4] [.int (nI 0)] (cg_M L f e) := by
  refine (g_0 (by decide +kernel : kd_ 142 49 = ((0, 0, 0, []), 50))).trans ?_
  rfl
theorem b_M_run_50 {L : Nat} {f : cg_G} {e : Nat × Nat} {x1 y0 : Int32} {a0 : Nat} {u2 u3 u4 : Value} : cj_res 142 50 [.ref a0, .int x1, u2, u3, u4] [.int y0] (cg_M L f e) = cj_res 142 53 [.ref a0, .int y0, .int (nI 0), u3, u4] [] (cg_M L f e) := by
  refine (g_4 (ls' := [.ref a0, .int y0, u2, u3, u4]) (by decide +kernel : kd_ 142 50 = ((4, 1, 0, []), 51)) rfl rfl).trans ?_
  refine (g_0 (by decide +kernel : kd_ 142 51 = ((0, 0, 0, []), 52))).trans ?_
  refine (g_4 (ls' := [.ref a0, .int y0, .int (nI 0), u3, u4]) (by decide +kernel : kd_ 142 52 = ((4, 2, 0, []), 53)) rfl rfl).trans ?_
  rfl
theorem b_M_run_53 {L : Nat} {f : cg_G} {e : Nat × Nat} {x1 x2 : Int32} {a0 : Nat} {u3 u4 : Value} : cj_res 142 53 [.ref a0, .int x1, .int x2, u3, u4] [] (cg_M L f e) = if (nI 8) ≤ x2 then cj_res 142 72 [.ref a0, .int x1, .int x2, u3, u4] [] (cg_M L f e) else cj_res 142 59 [.ref a0, .int x1, .int x2, u3, u4] [] (cg_M L f e) := by
  refine (g_2 (by decide +kernel : kd_ 142 53 = ((2, 2, 0, []), 54)) rfl).trans ?_
  refine (g_0 (by decide +kernel : kd_ 142 54 = ((0, 8, 0, []), 56))).trans ?_
  exact g_40 (by decide +kernel : kd_ 142 56 = ((40, 72, 0, []), 59))
theorem b_M_run_59 {L : Nat} {f : cg_G} {e : Nat × Nat} {x1 x2 : Int32} {a0 : Nat} {u3 u4 : Value} (h1 : sh_ a0 = 7) (h2 : cg_in x2 8): cj_res 142 59 [.ref a0, .int x1, .int x2, u3, u4] [] (cg_M L f e) = cj_res 142 53 [.ref a0, .int x1, .int (x2 + nI 1), u3, u4] [] (cg_M L (cg_up f (a0 + 18) x2.toNatClampNeg (nI 0)) e) := by
  refine (g_3 (by decide +kernel : kd_ 142 59 = ((3, 0, 0, []), 60)) rfl).trans ?_
  refine (g_50 (v := .ref (a0 + 18)) (by decide +kernel : kd_ 142 60 = ((50, 7, 27, []), 63)) h1 rfl).trans ?_
  refine (g_2 (by decide +kernel : kd_ 142 63 = ((2, 2, 0, []), 64)) rfl).trans ?_
  refine (g_0 (by decide +kernel : kd_ 142 64 = ((0, 0, 0, []), 65))).trans ?_
  refine (g_56 (by decide +kernel : kd_ 142 65 = ((56, 0, 0, []), 66)) (sc_7_27 h1) (fun _ => rfl) (by rw [sl_7_27 h1]; exact h2) (by omega)).trans ?_
  refine (g_6 (ls' := [.ref a0, .int x1, .int (x2 + nI 1), u3, u4]) (by decide +kernel : kd_ 142 66 = ((6, 2, 1, []), 69)) rfl rfl).trans ?_
  refine (g_30 (by decide +kernel : kd_ 142 69 = ((30, 53, 0, []), 72))).trans ?_
  rfl
theorem b_M_run_72 {L : Nat} {f : cg_G} {e : Nat × Nat} {x1 x2 : Int32} {a0 : Nat} {u3 u4 : Value} : cj_res 142 72 [.ref a0, .int x1, .int x2, u3, u4] [] (cg_M L f e) = cj_res 142 76 [.ref a0, .int x1, .int (nI 0), .int (nI 0), u4] [] (cg_M L f e) := by
  refine (g_0 (by decide +kernel : kd_ 142 72 = ((0, 0, 0, []), 73))).trans ?_
  refine (g_4 (ls' := [.ref a0, .int x1, .int (nI 0), u3, u4]) (by decide +kernel : kd_ 142 73 = ((4, 2, 0, []), 74)) rfl rfl).trans ?_
  refine (g_0 (by decide +kernel : kd_ 142 74 = ((0, 0, 0, []), 75))).trans ?_
  refine (g_4 (ls' := [.ref a0, .int x1, .int (nI 0), .int (nI 0), u4]) (by decide +kernel : kd_ 142 75 = ((4, 3, 0, []), 76)) rfl rfl).trans ?_
  rfl
theorem b_M_run_76 {L : Nat} {f : cg_G} {e : Nat × Nat} {x1 x2 x3 : Int32} {a0 : Nat} {u4 : Value} : cj_res 142 76 [.ref a0, .int x1, .int x2, .int x3, u4] [] (cg_M L f e) = if (nI 5) ≤ x2 then cj_res 142 116 [.ref a0, .int x1, .int x2, .int x3, u4] [] (cg_M L f e) else cj_res 142 81 [.ref a0, .int x1, .int x2, .int x3, u4] [] (cg_M L f e) := by
  refine (g_2 (by decide +kernel : kd_ 142 76 = ((2, 2, 0, []), 77)) rfl).trans ?_
  refine (g_0 (by decide +kernel : kd_ 142 77 = ((0, 5, 0, []), 78))).trans ?_
  exact g_40 (by decide +kernel : kd_ 142 78 = ((40, 116, 0, []), 81))
theorem b_M_run_81 {L : Nat} {f : cg_G} {e : Nat × Nat} {x1 x2 x3 : Int32} {a0 : Nat} {u4 : Value} : cj_res 142 81 [.ref a0, .int x1, .int x2, .int x3, u4] [] (cg_M L f e) = if x3 = 0 then cj_res 142 85 [.ref a0, .int x1, .int x2, .int x3, u4] [] (cg_M L f e) else cj_res 142 116 [.ref a0, .int x1, .int x2, .int x3, u4] [] (cg_M L f e) := by
  refine (g_2 (by decide +kernel : kd_ 142 81 = ((2, 3, 0, []), 82)) rfl).trans ?_
  exact g_32 (by decide +kernel : kd_ 142 82 = ((32, 116, 0, []), 85))
theorem b_M_run_85 {L : Nat} {f : cg_G} {e : Nat × Nat} {x1 x2 x3 : Int32} {a0 : Nat} {u4 : Value} (h1 : sh_ a0 = 7): cj_res 142 85 [.ref a0, .int x1, .int x2, .int x3, u4] [] (cg_M L f e) = cj_aft 142 87 90 [.ref a0, .int x1, .int x2, .int x3, u4] [] (cj_ev 136 [.ref a0, .int x1] (cg_M L f e)) := by
  refine (g_3 (by decide +kernel : kd_ 142 85 = ((3, 0, 0, []), 86)) rfl).trans ?_
  refine (g_2 (by decide +kernel : kd_ 142 86 = ((2, 1, 0, []), 87)) rfl).trans ?_
  exact g_80 (by decide +kernel : kd_ 142 87 = ((80, 136, 2, [7]), 90)) rfl h1 rfl rfl rfl
theorem b_M_run_90 {L : Nat} {f : cg_G} {e : Nat × Nat} {x1 x2 x3 y0 : Int32} {a0 : Nat} {u4 : Value} : cj_res 142 90 [.ref a0, .int x1, .int x2, .int x3, u4] [.int y0] (cg_M L f e) = if y0 = (- nI 1) then cj_res 142 104 [.ref a0, .int x1, .int x2, .int x3, .int y0] [] (cg_M L f e) else cj_res 142 98 [.ref a0, .int x1, .int x2, .int x3, .int y0] [] (cg_M L f e) := by
  refine (g_4 (ls' := [.ref a0, .int x1, .int x2, .int x3, .int y0]) (by decide +kernel : kd_ 142 90 = ((4, 4, 0, []), 92)) rfl rfl).trans ?_
  refine (g_2 (by decide +kernel : kd_ 142 92 = ((2, 4, 0, []), 94)) rfl).trans ?_
  refine (g_1 (by decide +kernel : kd_ 142 94 = ((1, 1, 0, []), 95))).trans ?_
  exact g_37 (by decide +kernel : kd_ 142 95 = ((37, 104, 0, []), 98))
theorem b_M_run_98 {L : Nat} {f : cg_G} {e : Nat × Nat} {x1 x2 x3 x4 : Int32} {a0 : Nat} : cj_res 142 98 [.ref a0, .int x1, .int x2, .int x3, .int x4] [] (cg_M L f e) = some (.inl (some (.int ((- nI 101) - x4))), cg_M L f e) := by
  refine (g_1 (by decide +kernel : kd_ 142 98 = ((1, 101, 0, []), 100))).trans ?_
  refine (g_2 (by decide +kernel : kd_ 142 100 = ((2, 4, 0, []), 102)) rfl).trans ?_
  refine (g_11 (by decide +kernel : kd_ 142 102 = ((11, 0, 0, []), 103))).trans ?_
  exact g_90 (by decide +kernel : kd_ 142 103 = ((90, 0, 0, []), 104))
theorem b_M_run_104 {L : Nat} {f : cg_G} {e : Nat × Nat} {x1 x2 x3 x4 : Int32} {a0 : Nat} (h1 : sh_ a0 = 7): cj_res 142 104 [.ref a0, .int x1, .int x2, .int x3, .int x4] [] (cg_M L f e) = cj_aft 142 106 109 [.ref a0, .int x1, .int x2, .int x3, .int x4] [] (cj_ev 52 [.ref a0, .int x1] (cg_M L f e)) := by
  refine (g_3 (by decide +kernel : kd_ 142 104 = ((3, 0, 0, []), 105)) rfl).trans ?_
  refine (g_2 (by decide +kernel : kd_ 142 105 = ((2, 1, 0, []), 106)) rfl).trans ?_
  exact g_80 (by decide +kernel : kd_ 142 106 = ((80, 52, 2, [7]), 109)) rfl h1 rfl rfl rfl
theorem b_M_run_109 {L : Nat} {f : cg_G} {e : Nat × Nat} {x1 x2 x3 x4 y0 : Int32} {a0 : Nat} : cj_res 142 109 [.ref a0, .int x1, .int x2, .int x3, .int x4] [.int y0] (cg_M L f e) = cj_res 142 76 [.ref a0, .int x1, .int (x2 + nI 1), .int y0, .int x4] [] (cg_M L f e) := by
  refine (g_4 (ls' := [.ref a0, .int x1, .int x2, .int y0, .int x4]) (by decide +kernel : kd_ 142 109 = ((4, 3, 0, []), 110)) rfl rfl).trans ?_
  refine (g_6 (ls' := [.ref a0, .int x1, .int (x2 + nI 1), .int y0, .int x4]) (by decide +kernel : kd_ 142 110 = ((6, 2, 1, []), 113)) rfl rfl).trans ?_
  refine (g_30 (by decide +kernel : kd_ 142 113 = ((30, 76, 0, []), 116))).trans ?_
  rfl
theorem b_M_run_116 {L : Nat} {f : cg_G} {e : Nat × Nat} {x1 x2 x3 : Int32} {a0 : Nat} {u4 : Value} (h1 : sh_ a0 = 7) (h2 : cg_in (((nI 5) * x1) + (nI 1)) 10): cj_res 142 116 [.ref a0, .int x1, .int x2, .int x3, u4] [] (cg_M L f e) = if x3 = 0 then cj_res 142 144 [.ref a0, .int x1, .int x2, .int x3, u4] [.int (((nI 5) * x1) + (nI 2)), .ref (a0 + 16)] (cg_M L (cg_up f (a0 + 16) (((nI 5) * x1) + (nI 1)).toNatClampNeg x2) e) else cj_res 142 140 [.ref a0, .int x1, .int x2, .int x3, u4] [.int (((nI 5) * x1) + (nI 2)), .ref (a0 + 16)] (cg_M L (cg_up f (a0 + 16) (((nI 5) * x1) + (nI 1)).toNatClampNeg x2) e) := by
  refine (g_3 (by decide +kernel : kd_ 142 116 = ((3, 0, 0, []), 117)) rfl).trans ?_
  refine (g_50 (v := .ref (a0 + 16)) (by decide +kernel : kd_ 142 117 = ((50, 7, 25, []), 120)) h1 rfl).trans ?_
  refine (g_0 (by decide +kernel : kd_ 142 120 = ((0, 5, 0, []), 121))).trans ?_
  refine (g_2 (by decide +kernel : kd_ 142 121 = ((2, 1, 0, []), 122)) rfl).trans ?_
  refine (g_12 (by decide +kernel : kd_ 142 122 = ((12, 0, 0, []), 123))).trans ?_
  refine (g_0 (by decide +kernel : kd_ 142 123 = ((0, 1, 0, []), 124))).trans ?_
  refine (g_10 (by decide +kernel : kd_ 142 124 = ((10, 0, 0, []), 125))).trans ?_
  refine (g_2 (by decide +kernel : kd_ 142 125 = ((2, 2, 0, []), 126)) rfl).trans ?_
  refine (g_56 (by decide +kernel : kd_ 142 126 = ((56, 0, 0, []), 127)) (sc_7_25 h1) (fun _ => rfl) (by rw [sl_7_25 h1]; exact h2) (by omega)).trans ?_
  refine (g_3 (by decide +kernel : kd_ 142 127 = ((3, 0, 0, []), 128)) rfl).trans ?_
  refine (g_50 (v := .ref (a0 + 16)) (by decide +kernel : kd_ 142 128 = ((50, 7, 25, []), 131)) h1 rfl).trans ?_
  refine (g_0 (by decide +kernel : kd_ 142 131 = ((0, 5, 0, []), 132))).trans ?_
  refine (g_2 (by decide +kernel : kd_ 142 132 = ((2, 1, 0, []), 133)) rfl).trans ?_
  refine (g_12 (by decide +kernel : kd_ 142 133 = ((12, 0, 0, []), 134))).trans ?_
  refine (g_0 (by decide +kernel : kd_ 142 134 = ((0, 2, 0, []), 135))).trans ?_
  refine (g_10 (by decide +kernel : kd_ 142 135 = ((10, 0, 0, []), 136))).trans ?_
  refine (g_2 (by decide +kernel : kd_ 142 136 = ((2, 3, 0, []), 137)) rfl).trans ?_
  exact g_31 (by decide +kernel : kd_ 142 137 = ((31, 144, 0, []), 140))
theorem b_M_run_140 {L : Nat} {f : cg_G} {e : Nat × Nat} {x1 x2 x3 y0 : Int32} {a0 c1 : Nat} {u4 : Value} : cj_res 142 140 [.ref a0, .int x1, .int x2, .int x3, u4] [.int y0, .ref c1] (cg_M L f e) = cj_res 142 145 [.ref a0, .int x1, .int x2, .int x3, u4] [.int (nI 1), .int y0, .ref c1] (cg_M L f e) := by
  refine (g_0 (by decide +kernel : kd_ 142 140 = ((0, 1, 0, []), 141))).trans ?_
  refine (g_30 (by decide +kernel : kd_ 142 141 = ((30, 145, 0, []), 144))).trans ?_
  rfl
theorem b_M_run_144 {L : Nat} {f : cg_G} {e : Nat × Nat} {x1 x2 x3 y0 : Int32} {a0 c1 : Nat} {u4 : Value} : cj_res 142 144 [.ref a0, .int x1, .int x2, .int x3, u4] [.int y0, .ref c1] (cg_M L f e) = cj_res 142 145 [.ref a0, .int x1, .int x2, .int x3, u4] [.int (nI 0), .int y0, .ref c1] (cg_M L f e) := by
  refine (g_0 (by decide +kernel : kd_ 142 144 = ((0, 0, 0, []), 145))).trans ?_
  rfl
theorem b_M_run_145 {L : Nat} {f : cg_G} {e : Nat × Nat} {x1 x2 x3 y0 y1 : Int32} {a0 c2 : Nat} {u4 : Value} (h1 : sh_ c2 = 100) (h2 : cg_in y1 (ln_ L c2)) (h3 : c2 ≠ 0) (h4 : sh_ a0 = 7) (h5 : cg_in x1 2) (h6 : cg_in ((nI 5) * x1) 10): cj_res 142 145 [.ref a0, .int x1, .int x2, .int x3, u4] [.int y0, .int y1, .ref c2] (cg_M L f e) = some (.inl (some (.int ((cg_up (cg_up (cg_up f c2 y1.toNatClampNeg y0) (a0 + 15) x1.toNatClampNeg ((cg_up f c2 y1.toNatClampNeg y0) a0 8)) a0 23 x1) (a0 + 16) ((nI 5) * x1).toNatClampNeg))), cg_M L (cg_up (cg_up (cg_up f c2 y1.toNatClampNeg y0) (a0 + 15) x1.toNatClampNeg ((cg_up f c2 y1.toNatClampNeg y0) a0 8)) a0 23 x1) e) := by
  refine (g_56 (by decide +kernel : kd_ 142 145 = ((56, 0, 0, []), 146)) h1 (fun _ => rfl) h2 h3).trans ?_
  refine (g_3 (by decide +kernel : kd_ 142 146 = ((3, 0, 0, []), 147)) rfl).trans ?_
  refine (g_50 (v := .ref (a0 + 15)) (by decide +kernel : kd_ 142 147 = ((50, 7, 24, []), 150)) h4 rfl).trans ?_
  refine (g_2 (by decide +kernel : kd_ 142 150 = ((2, 1, 0, []), 151)) rfl).trans ?_
  refine (g_3 (by decide +kernel : kd_ 142 151 = ((3, 0, 0, []), 152)) rfl).trans ?_
  refine (g_50 (v := .int ((cg_up f c2 y1.toNatClampNeg y0) a0 8)) (by decide +kernel : kd_ 142 152 = ((50, 7, 8, []), 155)) h4 rfl).trans ?_
  refine (g_56 (by decide +kernel : kd_ 142 155 = ((56, 0, 0, []), 156)) (sc_7_24 h4) (fun _ => rfl) (by rw [sl_7_24 h4]; exact h5) (by omega)).trans ?_
  refine (g_3 (by decide +kernel : kd_ 142 156 = ((3, 0, 0, []), 157)) rfl).trans ?_
  refine (g_2 (by decide +kernel : kd_ 142 157 = ((2, 1, 0, []), 158)) rfl).trans ?_
  refine (g_51 (x := x1) (v := .int x1) (by decide +kernel : kd_ 142 158 = ((51, 7, 23, [0]), 161)) h4 rfl rfl rfl (sz_7 h4) rfl).trans ?_
  refine (g_3 (by decide +kernel : kd_ 142 161 = ((3, 0, 0, []), 162)) rfl).trans ?_
  refine (g_50 (v := .ref (a0 + 16)) (by decide +kernel : kd_ 142 162 = ((50, 7, 25, []), 165)) h4 rfl).trans ?_
  refine (g_0 (by decide +kernel : kd_ 142 165 = ((0, 5, 0, []), 166))).trans ?_
  refine (g_2 (by decide +kernel : kd_ 142 166 = ((2, 1, 0, []), 167)) rfl).trans ?_
  refine (g_12 (by decide +kernel : kd_ 142 167 = ((12, 0, 0, []), 168))).trans ?_
  refine (g_54 (v := .int ((cg_up (cg_up (cg_up f c2 y1.toNatClampNeg y0) (a0 + 15) x1.toNatClampNeg ((cg_up f c2 y1.toNatClampNeg y0) a0 8)) a0 23 x1) (a0 + 16) ((nI 5) * x1).toNatClampNeg)) (by decide +kernel : kd_ 142 168 = ((54, 0, 0, []), 169)) (sc_7_25 h4) rfl (by rw [sl_7_25 h4]; exact h6) rfl).trans ?_
  exact g_90 (by decide +kernel : kd_ 142 169 = ((90, 0, 0, []), 170))
theorem b_Press_setAll_0 {L : Nat} {f : cg_G} {e : Nat × Nat} {x2 : Int32} {a0 a1 a3 : Nat} {u4 u5 : Value} : cj_res 143 0 [.ref a0, .ref a1, .int x2, .ref a3, u4, u5] [] (cg_M L f e) = cj_res 143 3 [.ref a0, .ref a1, .int x2, .ref a3, .int (nI 0), u5] [] (cg_M L f e) := by
  refine (g_0 (by decide +kernel : kd_ 143 0 = ((0, 0, 0, []), 1))).trans ?_
  refine (g_4 (ls' := [.ref a0, .ref a1, .int x2, .ref a3, .int (nI 0), u5]) (by decide +kernel : kd_ 143 1 = ((4, 4, 0, []), 3)) rfl rfl).trans ?_
  rfl
theorem b_Press_setAll_3 {L : Nat} {f : cg_G} {e : Nat × Nat} {x2 x4 : Int32} {a0 a1 a3 : Nat} {u5 : Value} : cj_res 143 3 [.ref a0, .ref a1, .int x2, .ref a3, .int x4, u5] [] (cg_M L f e) = if (nI 8) ≤ x4 then cj_res 143 24 [.ref a0, .ref a1, .int x2, .ref a3, .int x4, u5] [] (cg_M L f e) else cj_res 143 10 [.ref a0, .ref a1, .int x2, .ref a3, .int x4, u5] [] (cg_M L f e) := by
  refine (g_2 (by decide +kernel : kd_ 143 3 = ((2, 4, 0, []), 5)) rfl).trans ?_
  refine (g_0 (by decide +kernel : kd_ 143 5 = ((0, 8, 0, []), 7))).trans ?_
  exact g_40 (by decide +kernel : kd_ 143 7 = ((40, 24, 0, []), 10))
theorem b_Press_setAll_10 {L : Nat} {f : cg_G} {e : Nat × Nat} {x2 x4 : Int32} {a0 a1 a3 : Nat} {u5 : Value} (h1 : sh_ a0 = 4) (h2 : cg_in x4 8): cj_res 143 10 [.ref a0, .ref a1, .int x2, .ref a3, .int x4, u5] [] (cg_M L f e) = cj_res 143 3 [.ref a0, .ref a1, .int x2, .ref a3, .int (x4 + nI 1), u5] [] (cg_M L (cg_up f (a0 + 7) x4.toNatClampNeg (nI 0)) e) := by
  refine (g_3 (by decide +kernel : kd_ 143 10 = ((3, 0, 0, []), 11)) rfl).trans ?_
  refine (g_50 (v := .ref (a0 + 7)) (by decide +kernel : kd_ 143 11 = ((50, 4, 4, []), 14)) h1 rfl).trans ?_
  refine (g_2 (by decide +kernel : kd_ 143 14 = ((2, 4, 0, []), 16)) rfl).trans ?_
  refine (g_0 (by decide +kernel : kd_ 143 16 = ((0, 0, 0, []), 17))).trans ?_
  refine (g_56 (by decide +kernel : kd_ 143 17 = ((56, 0, 0, []), 18)) (sc_4_4 h1) (fun _ => rfl) (by rw [sl_4_4 h1]; exact h2) (by omega)).trans ?_
  refine (g_6 (ls' := [.ref a0, .ref a1, .int x2, .ref a3, .int (x4 + nI 1), u5]) (by decide +kernel : kd_ 143 18 = ((6, 4, 1, []), 21)) rfl rfl).trans ?_
  refine (g_30 (by decide +kernel : kd_ 143 21 = ((30, 3, 0, []), 24))).trans ?_
  rfl
theorem b_Press_setAll_24 {L : Nat} {f : cg_G} {e : Nat × Nat} {x2 x4 : Int32} {a0 a1 a3 : Nat} {u5 : Value} : cj_res 143 24 [.ref a0, .ref a1, .int x2, .ref a3, .int x4, u5] [] (cg_M L f e) = cj_res 143 27 [.ref a0, .ref a1, .int x2, .ref a3, .int (nI 1), u5] [] (cg_M L f e) := by
  refine (g_0 (by decide +kernel : kd_ 143 24 = ((0, 1, 0, []), 25))).trans ?_
  refine (g_4 (ls' := [.ref a0, .ref a1, .int x2, .ref a3, .int (nI 1), u5]) (by decide +kernel : kd_ 143 25 = ((4, 4, 0, []), 27)) rfl rfl).trans ?_
  rfl
theorem b_Press_setAll_27 {L : Nat} {f : cg_G} {e : Nat × Nat} {x2 x4 : Int32} {a0 a1 a3 : Nat} {u5 : Value} : cj_res 143 27 [.ref a0, .ref a1, .int x2, .ref a3, .int x4, u5] [] (cg_M L f e) = if (nI 5) < x4 then cj_res 143 97 [.ref a0, .ref a1, .int x2, .ref a3, .int x4, u5] [] (cg_M L f e) else cj_res 143 33 [.ref a0, .ref a1, .int x2, .ref a3, .int x4, u5] [] (cg_M L f e) := by
  refine (g_2 (by decide +kernel : kd_ 143 27 = ((2, 4, 0, []), 29)) rfl).trans ?_
  refine (g_0 (by decide +kernel : kd_ 143 29 = ((0, 5, 0, []), 30))).trans ?_
  exact g_41 (by decide +kernel : kd_ 143 30 = ((41, 97, 0, []), 33))
theorem b_Press_setAll_33 {L : Nat} {f : cg_G} {e : Nat × Nat} {x2 x4 : Int32} {a0 a1 a3 : Nat} {u5 : Value} (h1 : sh_ a3 = 5): cj_res 143 33 [.ref a0, .ref a1, .int x2, .ref a3, .int x4, u5] [] (cg_M L f e) = cj_aft 143 37 40 [.ref a0, .ref a1, .int x2, .ref a3, .int x4, u5] [] (cj_ev 32 [.ref a3, .int x2, .int x4] (cg_M L f e)) := by
  refine (g_3 (by decide +kernel : kd_ 143 33 = ((3, 3, 0, []), 34)) rfl).trans ?_
  refine (g_2 (by decide +kernel : kd_ 143 34 = ((2, 2, 0, []), 35)) rfl).trans ?_
  refine (g_2 (by decide +kernel : kd_ 143 35 = ((2, 4, 0, []), 37)) rfl).trans ?_
  exact g_80 (by decide +kernel : kd_ 143 37 = ((80, 32, 3, [5]), 40)) rfl h1 rfl rfl rfl
theorem b_Press_setAll_40 {L : Nat} {f : cg_G} {e : Nat × Nat} {x2 x4 : Int32} {a0 a1 a3 : Nat} {u5 : Value} (h1 : sh_ a0 = 4): cj_res 143 40 [.ref a0, .ref a1, .int x2, .ref a3, .int x4, u5] [] (cg_M L f e) = cj_aft 143 44 47 [.ref a0, .ref a1, .int x2, .ref a3, .int x4, u5] [] (cj_ev 138 [.ref a0, .ref a1, .int x2, .ref a3] (cg_M L f e)) := by
  refine (g_3 (by decide +kernel : kd_ 143 40 = ((3, 0, 0, []), 41)) rfl).trans ?_
  refine (g_3 (by decide +kernel : kd_ 143 41 = ((3, 1, 0, []), 42)) rfl).trans ?_
  refine (g_2 (by decide +kernel : kd_ 143 42 = ((2, 2, 0, []), 43)) rfl).trans ?_
  refine (g_3 (by decide +kernel : kd_ 143 43 = ((3, 3, 0, []), 44)) rfl).trans ?_
  exact g_80 (by decide +kernel : kd_ 143 44 = ((80, 138, 4, [4]), 47)) rfl h1 rfl rfl rfl
theorem b_Press_setAll_47 {L : Nat} {f : cg_G} {e : Nat × Nat} {x2 x4 y0 : Int32} {a0 a1 a3 : Nat} {u5 : Value} : cj_res 143 47 [.ref a0, .ref a1, .int x2, .ref a3, .int x4, u5] [.int y0] (cg_M L f e) = if y0 = (- nI 1) then cj_res 143 58 [.ref a0, .ref a1, .int x2, .ref a3, .int x4, .int y0] [] (cg_M L f e) else cj_res 143 55 [.ref a0, .ref a1, .int x2, .ref a3, .int x4, .int y0] [] (cg_M L f e) := by
  refine (g_4 (ls' := [.ref a0, .ref a1, .int x2, .ref a3, .int x4, .int y0]) (by decide +kernel : kd_ 143 47 = ((4, 5, 0, []), 49)) rfl rfl).trans ?_
  refine (g_2 (by decide +kernel : kd_ 143 49 = ((2, 5, 0, []), 51)) rfl).trans ?_
  refine (g_1 (by decide +kernel : kd_ 143 51 = ((1, 1, 0, []), 52))).trans ?_
  exact g_37 (by decide +kernel : kd_ 143 52 = ((37, 58, 0, []), 55))
theorem b_Press_setAll_55 {L : Nat} {f : cg_G} {e : Nat × Nat} {x2 x4 x5 : Int32} {a0 a1 a3 : Nat} : cj_res 143 55 [.ref a0, .ref a1, .int x2, .ref a3, .int x4, .int x5] [] (cg_M L f e) = some (.inl (some (.int x5)), cg_M L f e) := by
  refine (g_2 (by decide +kernel : kd_ 143 55 = ((2, 5, 0, []), 57)) rfl).trans ?_
  exact g_90 (by decide +kernel : kd_ 143 57 = ((90, 0, 0, []), 58))
theorem b_Press_setAll_58 {L : Nat} {f : cg_G} {e : Nat × Nat} {x2 x4 x5 : Int32} {a0 a1 a3 : Nat} (h1 : sh_ a0 = 4) (h2 : sh_ a3 = 5): cj_res 143 58 [.ref a0, .ref a1, .int x2, .ref a3, .int x4, .int x5] [] (cg_M L f e) = cj_aft 143 67 70 [.ref a0, .ref a1, .int x2, .ref a3, .int x4, .int x5] [] (cj_ev 131 [.ref a3, .int (f a0 1), .ref (a0 + 3)] (cg_M L f e)) := by
  refine (g_3 (by decide +kernel : kd_ 143 58 = ((3, 3, 0, []), 59)) rfl).trans ?_
  refine (g_3 (by decide +kernel : kd_ 143 59 = ((3, 0, 0, []), 60)) rfl).trans ?_
  refine (g_50 (v := .int (f a0 1)) (by decide +kernel : kd_ 143 60 = ((50, 4, 1, []), 63)) h1 rfl).trans ?_
  refine (g_3 (by decide +kernel : kd_ 143 63 = ((3, 0, 0, []), 64)) rfl).trans ?_
  refine (g_50 (v := .ref (a0 + 3)) (by decide +kernel : kd_ 143 64 = ((50, 4, 3, []), 67)) h1 rfl).trans ?_
  exact g_80 (by decide +kernel : kd_ 143 67 = ((80, 131, 3, [5]), 70)) rfl h2 rfl rfl rfl
theorem b_Press_setAll_70 {L : Nat} {f : cg_G} {e : Nat × Nat} {x2 x4 x5 : Int32} {a0 a1 a3 : Nat} (h1 : sh_ a0 = 4) (h2 : sh_ a3 = 5): cj_res 143 70 [.ref a0, .ref a1, .int x2, .ref a3, .int x4, .int x5] [] (cg_M L f e) = cj_aft 143 75 78 [.ref a0, .ref a1, .int x2, .ref a3, .int x4, .int x5] [] (cj_ev 31 [.ref a3, .ref (a0 + 7)] (cg_M L f e)) := by
  refine (g_3 (by decide +kernel : kd_ 143 70 = ((3, 3, 0, []), 71)) rfl).trans ?_
  refine (g_3 (by decide +kernel : kd_ 143 71 = ((3, 0, 0, []), 72)) rfl).trans ?_
  refine (g_50 (v := .ref (a0 + 7)) (by decide +kernel : kd_ 143 72 = ((50, 4, 4, []), 75)) h1 rfl).trans ?_
  exact g_80 (by decide +kernel : kd_ 143 75 = ((80, 31, 2, [5]), 78)) rfl h2 rfl rfl rfl
theorem b_Press_setAll_78 {L : Nat} {f : cg_G} {e : Nat × Nat} {x2 x4 x5 y0 : Int32} {a0 a1 a3 : Nat} : cj_res 143 78 [.ref a0, .ref a1, .int x2, .ref a3, .int x4, .int x5] [.int y0] (cg_M L f e) = if y0 = 0 then cj_res 143 83 [.ref a0, .ref a1, .int x2, .ref a3, .int x4, .int x5] [] (cg_M L f e) else cj_res 143 81 [.ref a0, .ref a1, .int x2, .ref a3, .int x4, .int x5] [] (cg_M L f e) := by
  exact g_31 (by decide +kernel : kd_ 143 78 = ((31, 83, 0, []), 81))
theorem b_Press_setAll_81 {L : Nat} {f : cg_G} {e : Nat × Nat} {x2 x4 x5 : Int32} {a0 a1 a3 : Nat} : cj_res 143 81 [.ref a0, .ref a1, .int x2, .ref a3, .int x4, .int x5] [] (cg_M L f e) = some (.inl (some (.int (- nI 1))), cg_M L f e) := by
  refine (g_1 (by decide +kernel : kd_ 143 81 = ((1, 1, 0, []), 82))).trans ?_
  exact g_90 (by decide +kernel : kd_ 143 82 = ((90, 0, 0, []), 83))
theorem b_Press_setAll_83 {L : Nat} {f : cg_G} {e : Nat × Nat} {x2 x4 x5 : Int32} {a0 a1 a3 : Nat} (h1 : sh_ a0 = 4) (h2 : sh_ a3 = 5): cj_res 143 83 [.ref a0, .ref a1, .int x2, .ref a3, .int x4, .int x5] [] (cg_M L f e) = cj_aft 143 88 91 [.ref a0, .ref a1, .int x2, .ref a3, .int x4, .int x5] [] (cj_ev 33 [.ref a3, .ref (a0 + 7)] (cg_M L f e)) := by
  refine (g_3 (by decide +kernel : kd_ 143 83 = ((3, 3, 0, []), 84)) rfl).trans ?_
  refine (g_3 (by decide +kernel : kd_ 143 84 = ((3, 0, 0, []), 85)) rfl).trans ?_
  refine (g_50 (v := .ref (a0 + 7)) (by decide +kernel : kd_ 143 85 = ((50, 4, 4, []), 88)) h1 rfl).trans ?_
  exact g_80 (by decide +kernel : kd_ 143 88 = ((80, 33, 2, [5]), 91)) rfl h2 rfl rfl rfl
theorem b_Press_setAll_91 {L : Nat} {f : cg_G} {e : Nat × Nat} {x2 x4 x5 : Int32} {a0 a1 a3 : Nat} : cj_res 143 91 [.ref a0, .ref a1, .int x2, .ref a3, .int x4, .int x5] [] (cg_M L f e) = cj_res 143 27 [.ref a0, .ref a1, .int x2, .ref a3, .int (x4 + nI 1), .int x5] [] (cg_M L f e) := by
  refine (g_6 (ls' := [.ref a0, .ref a1, .int x2, .ref a3, .int (x4 + nI 1), .int x5]) (by decide +kernel : kd_ 143 91 = ((6, 4, 1, []), 94)) rfl rfl).trans ?_
  refine (g_30 (by decide +kernel : kd_ 143 94 = ((30, 27, 0, []), 97))).trans ?_
  rfl
theorem b_Press_setAll_97 {L : Nat} {f : cg_G} {e : Nat × Nat} {x2 x4 : Int32} {a0 a1 a3 : Nat} {u5 : Value} : cj_res 143 97 [.ref a0, .ref a1, .int x2, .ref a3, .int x4, u5] [] (cg_M L f e) = some (.inl (some (.int (- nI 1))), cg_M L f e) := by
  refine (g_1 (by decide +kernel : kd_ 143 97 = ((1, 1, 0, []), 98))).trans ?_
  exact g_90 (by decide +kernel : kd_ 143 98 = ((90, 0, 0, []), 99))
