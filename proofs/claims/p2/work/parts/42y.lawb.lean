/-! the law's loop, block by block -/
theorem b_W_law_43 {L : Nat} {f : cg_G} {e : Nat × Nat} {x4 : Int32} {a0 a1 a2 a3 : Nat} {u5 u6 : Value} (h1 : sh_ a0 = 100): cj_res 146 43 [.ref a0, .ref a1, .ref a2, .ref a3, .int x4, u5, u6] [] (cg_M L f e) = if ((nI (ln_ L a0)) - (nI 4)) < x4 then cj_res 146 635 [.ref a0, .ref a1, .ref a2, .ref a3, .int x4, u5, u6] [] (cg_M L f e) else cj_res 146 52 [.ref a0, .ref a1, .ref a2, .ref a3, .int x4, u5, u6] [] (cg_M L f e) := by
  refine (g_2 (by decide +kernel : kd_ 146 43 = ((2, 4, 0, []), 45)) rfl).trans ?_
  refine (g_3 (by decide +kernel : kd_ 146 45 = ((3, 0, 0, []), 46)) rfl).trans ?_
  refine (g_53 (by decide +kernel : kd_ 146 46 = ((53, 0, 0, []), 47)) h1 rfl).trans ?_
  refine (g_0 (by decide +kernel : kd_ 146 47 = ((0, 4, 0, []), 48))).trans ?_
  refine (g_11 (by decide +kernel : kd_ 146 48 = ((11, 0, 0, []), 49))).trans ?_
  exact g_41 (by decide +kernel : kd_ 146 49 = ((41, 635, 0, []), 52))
theorem b_W_law_52 {L : Nat} {f : cg_G} {e : Nat × Nat} {x4 : Int32} {a0 a1 a2 a3 : Nat} {u5 u6 : Value} (h1 : sh_ a0 = 100) (h2 : cg_in x4 (ln_ L a0)): cj_res 146 52 [.ref a0, .ref a1, .ref a2, .ref a3, .int x4, u5, u6] [] (cg_M L f e) = cj_res 146 (cj_sw ((f a0 x4.toNatClampNeg) &&& (nI 15)) 0 629 [128, 196, 212, 240, 280, 332, 372, 388, 401, 429, 457, 509, 561, 601]) [.ref a0, .ref a1, .ref a2, .ref a3, .int x4, u5, u6] [] (cg_M L f e) := by
  refine (g_3 (by decide +kernel : kd_ 146 52 = ((3, 0, 0, []), 53)) rfl).trans ?_
  refine (g_2 (by decide +kernel : kd_ 146 53 = ((2, 4, 0, []), 55)) rfl).trans ?_
  refine (g_54 (v := .int (f a0 x4.toNatClampNeg)) (by decide +kernel : kd_ 146 55 = ((54, 0, 0, []), 56)) h1 rfl h2 rfl).trans ?_
  refine (g_0 (by decide +kernel : kd_ 146 56 = ((0, 15, 0, []), 58))).trans ?_
  refine (g_19 (by decide +kernel : kd_ 146 58 = ((19, 0, 0, []), 59))).trans ?_
  exact g_45 (by decide +kernel : kd_ 146 59 = ((45, 0, 629, [128, 196, 212, 240, 280, 332, 372, 388, 401, 429, 457, 509, 561, 601]), 128))
theorem b_W_law_128 {L : Nat} {f : cg_G} {e : Nat × Nat} {x4 : Int32} {a0 a1 a2 a3 : Nat} {u5 u6 : Value} (h1 : sh_ a0 = 100) (h2 : cg_in (x4 + (nI 1)) (ln_ L a0)) (h3 : cg_in (x4 + (nI 2)) (ln_ L a0)): cj_res 146 128 [.ref a0, .ref a1, .ref a2, .ref a3, .int x4, u5, u6] [] (cg_M L f e) = cj_aft 146 142 145 [.ref a0, .ref a1, .ref a2, .ref a3, .int x4, u5, u6] [] (cj_ev 135 [.ref a1, .int (f a0 (x4 + (nI 1)).toNatClampNeg), .int (f a0 (x4 + (nI 2)).toNatClampNeg), .ref a3] (cg_M L f e)) := by
  refine (g_3 (by decide +kernel : kd_ 146 128 = ((3, 1, 0, []), 129)) rfl).trans ?_
  refine (g_3 (by decide +kernel : kd_ 146 129 = ((3, 0, 0, []), 130)) rfl).trans ?_
  refine (g_2 (by decide +kernel : kd_ 146 130 = ((2, 4, 0, []), 132)) rfl).trans ?_
  refine (g_0 (by decide +kernel : kd_ 146 132 = ((0, 1, 0, []), 133))).trans ?_
  refine (g_10 (by decide +kernel : kd_ 146 133 = ((10, 0, 0, []), 134))).trans ?_
  refine (g_54 (v := .int (f a0 (x4 + (nI 1)).toNatClampNeg)) (by decide +kernel : kd_ 146 134 = ((54, 0, 0, []), 135)) h1 rfl h2 rfl).trans ?_
  refine (g_3 (by decide +kernel : kd_ 146 135 = ((3, 0, 0, []), 136)) rfl).trans ?_
  refine (g_2 (by decide +kernel : kd_ 146 136 = ((2, 4, 0, []), 138)) rfl).trans ?_
  refine (g_0 (by decide +kernel : kd_ 146 138 = ((0, 2, 0, []), 139))).trans ?_
  refine (g_10 (by decide +kernel : kd_ 146 139 = ((10, 0, 0, []), 140))).trans ?_
  refine (g_54 (v := .int (f a0 (x4 + (nI 2)).toNatClampNeg)) (by decide +kernel : kd_ 146 140 = ((54, 0, 0, []), 141)) h1 rfl h3 rfl).trans ?_
  refine (g_3 (by decide +kernel : kd_ 146 141 = ((3, 3, 0, []), 142)) rfl).trans ?_
  exact g_81 (by decide +kernel : kd_ 146 142 = ((81, 135, 4, []), 145)) rfl rfl rfl
theorem b_W_law_145 {L : Nat} {f : cg_G} {e : Nat × Nat} {x4 y0 : Int32} {a0 a1 a2 a3 : Nat} {u5 u6 : Value} (h1 : sh_ a0 = 100) (h2 : cg_in (x4 + (nI 1)) (ln_ L a0)) (h3 : cg_in (x4 + (nI 2)) (ln_ L a0)) (h4 : sh_ a2 = 7): cj_res 146 145 [.ref a0, .ref a1, .ref a2, .ref a3, .int x4, u5, u6] [.int y0] (cg_M L f e) = cj_aft 146 160 163 [.ref a0, .ref a1, .ref a2, .ref a3, .int x4, .int y0, u6] [] (cj_ev 98 [.ref a2, .int (f a0 (x4 + (nI 1)).toNatClampNeg), .int (f a0 (x4 + (nI 2)).toNatClampNeg)] (cg_M L f e)) := by
  refine (g_4 (ls' := [.ref a0, .ref a1, .ref a2, .ref a3, .int x4, .int y0, u6]) (by decide +kernel : kd_ 146 145 = ((4, 5, 0, []), 147)) rfl rfl).trans ?_
  refine (g_3 (by decide +kernel : kd_ 146 147 = ((3, 2, 0, []), 148)) rfl).trans ?_
  refine (g_3 (by decide +kernel : kd_ 146 148 = ((3, 0, 0, []), 149)) rfl).trans ?_
  refine (g_2 (by decide +kernel : kd_ 146 149 = ((2, 4, 0, []), 151)) rfl).trans ?_
  refine (g_0 (by decide +kernel : kd_ 146 151 = ((0, 1, 0, []), 152))).trans ?_
  refine (g_10 (by decide +kernel : kd_ 146 152 = ((10, 0, 0, []), 153))).trans ?_
  refine (g_54 (v := .int (f a0 (x4 + (nI 1)).toNatClampNeg)) (by decide +kernel : kd_ 146 153 = ((54, 0, 0, []), 154)) h1 rfl h2 rfl).trans ?_
  refine (g_3 (by decide +kernel : kd_ 146 154 = ((3, 0, 0, []), 155)) rfl).trans ?_
  refine (g_2 (by decide +kernel : kd_ 146 155 = ((2, 4, 0, []), 157)) rfl).trans ?_
  refine (g_0 (by decide +kernel : kd_ 146 157 = ((0, 2, 0, []), 158))).trans ?_
  refine (g_10 (by decide +kernel : kd_ 146 158 = ((10, 0, 0, []), 159))).trans ?_
  refine (g_54 (v := .int (f a0 (x4 + (nI 2)).toNatClampNeg)) (by decide +kernel : kd_ 146 159 = ((54, 0, 0, []), 160)) h1 rfl h3 rfl).trans ?_
  exact g_80 (by decide +kernel : kd_ 146 160 = ((80, 98, 3, [7]), 163)) rfl h4 rfl rfl rfl
theorem b_W_law_163 {L : Nat} {f : cg_G} {e : Nat × Nat} {x4 x5 y0 : Int32} {a0 a1 a2 a3 : Nat} {u6 : Value} (h1 : sh_ a2 = 7): cj_res 146 163 [.ref a0, .ref a1, .ref a2, .ref a3, .int x4, .int x5, u6] [.int y0] (cg_M L f e) = cj_aft 146 166 169 [.ref a0, .ref a1, .ref a2, .ref a3, .int x4, .int x5, .int y0] [] (cj_ev 56 [.ref a2] (cg_M L f e)) := by
  refine (g_4 (ls' := [.ref a0, .ref a1, .ref a2, .ref a3, .int x4, .int x5, .int y0]) (by decide +kernel : kd_ 146 163 = ((4, 6, 0, []), 165)) rfl rfl).trans ?_
  refine (g_3 (by decide +kernel : kd_ 146 165 = ((3, 2, 0, []), 166)) rfl).trans ?_
  exact g_80 (by decide +kernel : kd_ 146 166 = ((80, 56, 1, [7]), 169)) rfl h1 rfl rfl rfl
theorem b_W_law_169 {L : Nat} {f : cg_G} {e : Nat × Nat} {x4 x5 x6 y0 : Int32} {a0 a1 a2 a3 : Nat} : cj_res 146 169 [.ref a0, .ref a1, .ref a2, .ref a3, .int x4, .int x5, .int x6] [.int y0] (cg_M L f e) = if y0 = x5 then cj_res 146 176 [.ref a0, .ref a1, .ref a2, .ref a3, .int x4, .int x5, .int x6] [] (cg_M L f e) else cj_res 146 174 [.ref a0, .ref a1, .ref a2, .ref a3, .int x4, .int x5, .int x6] [] (cg_M L f e) := by
  refine (g_2 (by decide +kernel : kd_ 146 169 = ((2, 5, 0, []), 171)) rfl).trans ?_
  exact g_37 (by decide +kernel : kd_ 146 171 = ((37, 176, 0, []), 174))
theorem b_W_law_174 {L : Nat} {f : cg_G} {e : Nat × Nat} {x4 x5 x6 : Int32} {a0 a1 a2 a3 : Nat} : cj_res 146 174 [.ref a0, .ref a1, .ref a2, .ref a3, .int x4, .int x5, .int x6] [] (cg_M L f e) = some (.inl (some (.int (nI 0))), cg_M L f e) := by
  refine (g_0 (by decide +kernel : kd_ 146 174 = ((0, 0, 0, []), 175))).trans ?_
  exact g_93 (by decide +kernel : kd_ 146 175 = ((93, 0, 0, []), 176)) (by decide)
theorem b_W_law_176 {L : Nat} {f : cg_G} {e : Nat × Nat} {x4 x5 x6 : Int32} {a0 a1 a2 a3 : Nat} : cj_res 146 176 [.ref a0, .ref a1, .ref a2, .ref a3, .int x4, .int x5, .int x6] [] (cg_M L f e) = if x5 = 0 then cj_res 146 181 [.ref a0, .ref a1, .ref a2, .ref a3, .int x4, .int x5, .int x6] [] (cg_M L f e) else cj_res 146 193 [.ref a0, .ref a1, .ref a2, .ref a3, .int x4, .int x5, .int x6] [] (cg_M L f e) := by
  refine (g_2 (by decide +kernel : kd_ 146 176 = ((2, 5, 0, []), 178)) rfl).trans ?_
  exact g_32 (by decide +kernel : kd_ 146 178 = ((32, 193, 0, []), 181))
theorem b_W_law_181 {L : Nat} {f : cg_G} {e : Nat × Nat} {x4 x5 x6 : Int32} {a0 a1 a2 a3 : Nat} (h1 : sh_ a3 = 102) (h2 : cg_in (nI 0) (ln_ L a3)): cj_res 146 181 [.ref a0, .ref a1, .ref a2, .ref a3, .int x4, .int x5, .int x6] [] (cg_M L f e) = if (lg_cmp ((f a3 (nI 0).toNatClampNeg).toInt64) x6.toInt64) = 0 then cj_res 146 193 [.ref a0, .ref a1, .ref a2, .ref a3, .int x4, .int x5, .int x6] [] (cg_M L f e) else cj_res 146 191 [.ref a0, .ref a1, .ref a2, .ref a3, .int x4, .int x5, .int x6] [] (cg_M L f e) := by
  refine (g_3 (by decide +kernel : kd_ 146 181 = ((3, 3, 0, []), 182)) rfl).trans ?_
  refine (g_0 (by decide +kernel : kd_ 146 182 = ((0, 0, 0, []), 183))).trans ?_
  refine (g_54 (v := .long (f a3 (nI 0).toNatClampNeg).toInt64) (by decide +kernel : kd_ 146 183 = ((54, 2, 0, []), 184)) h1 rfl h2 rfl).trans ?_
  refine (g_2 (by decide +kernel : kd_ 146 184 = ((2, 6, 0, []), 186)) rfl).trans ?_
  refine (g_23 (by decide +kernel : kd_ 146 186 = ((23, 0, 0, []), 187))).trans ?_
  refine (g_24 (by decide +kernel : kd_ 146 187 = ((24, 0, 0, []), 188))).trans ?_
  exact g_31 (by decide +kernel : kd_ 146 188 = ((31, 193, 0, []), 191))
theorem b_W_law_191 {L : Nat} {f : cg_G} {e : Nat × Nat} {x4 x5 x6 : Int32} {a0 a1 a2 a3 : Nat} : cj_res 146 191 [.ref a0, .ref a1, .ref a2, .ref a3, .int x4, .int x5, .int x6] [] (cg_M L f e) = some (.inl (some (.int (nI 0))), cg_M L f e) := by
  refine (g_0 (by decide +kernel : kd_ 146 191 = ((0, 0, 0, []), 192))).trans ?_
  exact g_93 (by decide +kernel : kd_ 146 192 = ((93, 0, 0, []), 193)) (by decide)
theorem b_W_law_193 {L : Nat} {f : cg_G} {e : Nat × Nat} {x4 x5 x6 : Int32} {a0 a1 a2 a3 : Nat} : cj_res 146 193 [.ref a0, .ref a1, .ref a2, .ref a3, .int x4, .int x5, .int x6] [] (cg_M L f e) = cj_res 146 629 [.ref a0, .ref a1, .ref a2, .ref a3, .int x4, .int x5, .int x6] [] (cg_M L f e) := by
  refine (g_30 (by decide +kernel : kd_ 146 193 = ((30, 629, 0, []), 196))).trans ?_
  rfl
theorem b_W_law_196 {L : Nat} {f : cg_G} {e : Nat × Nat} {x4 : Int32} {a0 a1 a2 a3 : Nat} {u5 u6 : Value} : cj_res 146 196 [.ref a0, .ref a1, .ref a2, .ref a3, .int x4, u5, u6] [] (cg_M L f e) = cj_aft 146 198 201 [.ref a0, .ref a1, .ref a2, .ref a3, .int x4, u5, u6] [] (cj_ev 141 [.ref a1, .ref a3] (cg_M L f e)) := by
  refine (g_3 (by decide +kernel : kd_ 146 196 = ((3, 1, 0, []), 197)) rfl).trans ?_
  refine (g_3 (by decide +kernel : kd_ 146 197 = ((3, 3, 0, []), 198)) rfl).trans ?_
  exact g_81 (by decide +kernel : kd_ 146 198 = ((81, 141, 2, []), 201)) rfl rfl rfl
theorem b_W_law_201 {L : Nat} {f : cg_G} {e : Nat × Nat} {x4 y0 : Int32} {a0 a1 a2 a3 : Nat} {u5 u6 : Value} (h1 : sh_ a2 = 7): cj_res 146 201 [.ref a0, .ref a1, .ref a2, .ref a3, .int x4, u5, u6] [.int y0] (cg_M L f e) = cj_aft 146 204 207 [.ref a0, .ref a1, .ref a2, .ref a3, .int x4, .int y0, u6] [] (cj_ev 122 [.ref a2] (cg_M L f e)) := by
  refine (g_4 (ls' := [.ref a0, .ref a1, .ref a2, .ref a3, .int x4, .int y0, u6]) (by decide +kernel : kd_ 146 201 = ((4, 5, 0, []), 203)) rfl rfl).trans ?_
  refine (g_3 (by decide +kernel : kd_ 146 203 = ((3, 2, 0, []), 204)) rfl).trans ?_
  exact g_80 (by decide +kernel : kd_ 146 204 = ((80, 122, 1, [7]), 207)) rfl h1 rfl rfl rfl
theorem b_W_law_207 {L : Nat} {f : cg_G} {e : Nat × Nat} {x4 x5 y0 : Int32} {a0 a1 a2 a3 : Nat} {u6 : Value} : cj_res 146 207 [.ref a0, .ref a1, .ref a2, .ref a3, .int x4, .int x5, u6] [.int y0] (cg_M L f e) = cj_res 146 629 [.ref a0, .ref a1, .ref a2, .ref a3, .int x4, .int x5, .int y0] [] (cg_M L f e) := by
  refine (g_4 (ls' := [.ref a0, .ref a1, .ref a2, .ref a3, .int x4, .int x5, .int y0]) (by decide +kernel : kd_ 146 207 = ((4, 6, 0, []), 209)) rfl rfl).trans ?_
  refine (g_30 (by decide +kernel : kd_ 146 209 = ((30, 629, 0, []), 212))).trans ?_
  rfl
theorem b_W_law_212 {L : Nat} {f : cg_G} {e : Nat × Nat} {x4 : Int32} {a0 a1 a2 a3 : Nat} {u5 u6 : Value} (h1 : sh_ a0 = 100) (h2 : cg_in (x4 + (nI 1)) (ln_ L a0)): cj_res 146 212 [.ref a0, .ref a1, .ref a2, .ref a3, .int x4, u5, u6] [] (cg_M L f e) = cj_aft 146 220 223 [.ref a0, .ref a1, .ref a2, .ref a3, .int x4, u5, u6] [] (cj_ev 113 [.ref a1, .int (f a0 (x4 + (nI 1)).toNatClampNeg), .ref a3] (cg_M L f e)) := by
  refine (g_3 (by decide +kernel : kd_ 146 212 = ((3, 1, 0, []), 213)) rfl).trans ?_
  refine (g_3 (by decide +kernel : kd_ 146 213 = ((3, 0, 0, []), 214)) rfl).trans ?_
  refine (g_2 (by decide +kernel : kd_ 146 214 = ((2, 4, 0, []), 216)) rfl).trans ?_
  refine (g_0 (by decide +kernel : kd_ 146 216 = ((0, 1, 0, []), 217))).trans ?_
  refine (g_10 (by decide +kernel : kd_ 146 217 = ((10, 0, 0, []), 218))).trans ?_
  refine (g_54 (v := .int (f a0 (x4 + (nI 1)).toNatClampNeg)) (by decide +kernel : kd_ 146 218 = ((54, 0, 0, []), 219)) h1 rfl h2 rfl).trans ?_
  refine (g_3 (by decide +kernel : kd_ 146 219 = ((3, 3, 0, []), 220)) rfl).trans ?_
  exact g_81 (by decide +kernel : kd_ 146 220 = ((81, 113, 3, []), 223)) rfl rfl rfl
theorem b_W_law_223 {L : Nat} {f : cg_G} {e : Nat × Nat} {x4 y0 : Int32} {a0 a1 a2 a3 : Nat} {u5 u6 : Value} (h1 : sh_ a0 = 100) (h2 : cg_in (x4 + (nI 1)) (ln_ L a0)) (h3 : sh_ a2 = 7): cj_res 146 223 [.ref a0, .ref a1, .ref a2, .ref a3, .int x4, u5, u6] [.int y0] (cg_M L f e) = cj_aft 146 232 235 [.ref a0, .ref a1, .ref a2, .ref a3, .int x4, .int y0, u6] [] (cj_ev 87 [.ref a2, .int (f a0 (x4 + (nI 1)).toNatClampNeg)] (cg_M L f e)) := by
  refine (g_4 (ls' := [.ref a0, .ref a1, .ref a2, .ref a3, .int x4, .int y0, u6]) (by decide +kernel : kd_ 146 223 = ((4, 5, 0, []), 225)) rfl rfl).trans ?_
  refine (g_3 (by decide +kernel : kd_ 146 225 = ((3, 2, 0, []), 226)) rfl).trans ?_
  refine (g_3 (by decide +kernel : kd_ 146 226 = ((3, 0, 0, []), 227)) rfl).trans ?_
  refine (g_2 (by decide +kernel : kd_ 146 227 = ((2, 4, 0, []), 229)) rfl).trans ?_
  refine (g_0 (by decide +kernel : kd_ 146 229 = ((0, 1, 0, []), 230))).trans ?_
  refine (g_10 (by decide +kernel : kd_ 146 230 = ((10, 0, 0, []), 231))).trans ?_
  refine (g_54 (v := .int (f a0 (x4 + (nI 1)).toNatClampNeg)) (by decide +kernel : kd_ 146 231 = ((54, 0, 0, []), 232)) h1 rfl h2 rfl).trans ?_
  exact g_80 (by decide +kernel : kd_ 146 232 = ((80, 87, 2, [7]), 235)) rfl h3 rfl rfl rfl
theorem b_W_law_235 {L : Nat} {f : cg_G} {e : Nat × Nat} {x4 x5 y0 : Int32} {a0 a1 a2 a3 : Nat} {u6 : Value} : cj_res 146 235 [.ref a0, .ref a1, .ref a2, .ref a3, .int x4, .int x5, u6] [.int y0] (cg_M L f e) = cj_res 146 629 [.ref a0, .ref a1, .ref a2, .ref a3, .int x4, .int x5, .int y0] [] (cg_M L f e) := by
  refine (g_4 (ls' := [.ref a0, .ref a1, .ref a2, .ref a3, .int x4, .int x5, .int y0]) (by decide +kernel : kd_ 146 235 = ((4, 6, 0, []), 237)) rfl rfl).trans ?_
  refine (g_30 (by decide +kernel : kd_ 146 237 = ((30, 629, 0, []), 240))).trans ?_
  rfl
theorem b_W_law_240 {L : Nat} {f : cg_G} {e : Nat × Nat} {x4 : Int32} {a0 a1 a2 a3 : Nat} {u5 u6 : Value} (h1 : sh_ a0 = 100) (h2 : cg_in (x4 + (nI 1)) (ln_ L a0)) (h3 : cg_in (x4 + (nI 2)) (ln_ L a0)): cj_res 146 240 [.ref a0, .ref a1, .ref a2, .ref a3, .int x4, u5, u6] [] (cg_M L f e) = cj_aft 146 254 257 [.ref a0, .ref a1, .ref a2, .ref a3, .int x4, u5, u6] [] (cj_ev 139 [.ref a1, .int (f a0 (x4 + (nI 1)).toNatClampNeg), .int (f a0 (x4 + (nI 2)).toNatClampNeg), .ref a3] (cg_M L f e)) := by
  refine (g_3 (by decide +kernel : kd_ 146 240 = ((3, 1, 0, []), 241)) rfl).trans ?_
  refine (g_3 (by decide +kernel : kd_ 146 241 = ((3, 0, 0, []), 242)) rfl).trans ?_
  refine (g_2 (by decide +kernel : kd_ 146 242 = ((2, 4, 0, []), 244)) rfl).trans ?_
  refine (g_0 (by decide +kernel : kd_ 146 244 = ((0, 1, 0, []), 245))).trans ?_
  refine (g_10 (by decide +kernel : kd_ 146 245 = ((10, 0, 0, []), 246))).trans ?_
  refine (g_54 (v := .int (f a0 (x4 + (nI 1)).toNatClampNeg)) (by decide +kernel : kd_ 146 246 = ((54, 0, 0, []), 247)) h1 rfl h2 rfl).trans ?_
  refine (g_3 (by decide +kernel : kd_ 146 247 = ((3, 0, 0, []), 248)) rfl).trans ?_
  refine (g_2 (by decide +kernel : kd_ 146 248 = ((2, 4, 0, []), 250)) rfl).trans ?_
  refine (g_0 (by decide +kernel : kd_ 146 250 = ((0, 2, 0, []), 251))).trans ?_
  refine (g_10 (by decide +kernel : kd_ 146 251 = ((10, 0, 0, []), 252))).trans ?_
  refine (g_54 (v := .int (f a0 (x4 + (nI 2)).toNatClampNeg)) (by decide +kernel : kd_ 146 252 = ((54, 0, 0, []), 253)) h1 rfl h3 rfl).trans ?_
  refine (g_3 (by decide +kernel : kd_ 146 253 = ((3, 3, 0, []), 254)) rfl).trans ?_
  exact g_81 (by decide +kernel : kd_ 146 254 = ((81, 139, 4, []), 257)) rfl rfl rfl
theorem b_W_law_257 {L : Nat} {f : cg_G} {e : Nat × Nat} {x4 y0 : Int32} {a0 a1 a2 a3 : Nat} {u5 u6 : Value} (h1 : sh_ a0 = 100) (h2 : cg_in (x4 + (nI 1)) (ln_ L a0)) (h3 : cg_in (x4 + (nI 2)) (ln_ L a0)) (h4 : sh_ a2 = 7): cj_res 146 257 [.ref a0, .ref a1, .ref a2, .ref a3, .int x4, u5, u6] [.int y0] (cg_M L f e) = cj_aft 146 272 275 [.ref a0, .ref a1, .ref a2, .ref a3, .int x4, .int y0, u6] [] (cj_ev 116 [.ref a2, .int (f a0 (x4 + (nI 1)).toNatClampNeg), .int (f a0 (x4 + (nI 2)).toNatClampNeg)] (cg_M L f e)) := by
  refine (g_4 (ls' := [.ref a0, .ref a1, .ref a2, .ref a3, .int x4, .int y0, u6]) (by decide +kernel : kd_ 146 257 = ((4, 5, 0, []), 259)) rfl rfl).trans ?_
  refine (g_3 (by decide +kernel : kd_ 146 259 = ((3, 2, 0, []), 260)) rfl).trans ?_
  refine (g_3 (by decide +kernel : kd_ 146 260 = ((3, 0, 0, []), 261)) rfl).trans ?_
  refine (g_2 (by decide +kernel : kd_ 146 261 = ((2, 4, 0, []), 263)) rfl).trans ?_
  refine (g_0 (by decide +kernel : kd_ 146 263 = ((0, 1, 0, []), 264))).trans ?_
  refine (g_10 (by decide +kernel : kd_ 146 264 = ((10, 0, 0, []), 265))).trans ?_
  refine (g_54 (v := .int (f a0 (x4 + (nI 1)).toNatClampNeg)) (by decide +kernel : kd_ 146 265 = ((54, 0, 0, []), 266)) h1 rfl h2 rfl).trans ?_
  refine (g_3 (by decide +kernel : kd_ 146 266 = ((3, 0, 0, []), 267)) rfl).trans ?_
  refine (g_2 (by decide +kernel : kd_ 146 267 = ((2, 4, 0, []), 269)) rfl).trans ?_
  refine (g_0 (by decide +kernel : kd_ 146 269 = ((0, 2, 0, []), 270))).trans ?_
  refine (g_10 (by decide +kernel : kd_ 146 270 = ((10, 0, 0, []), 271))).trans ?_
  refine (g_54 (v := .int (f a0 (x4 + (nI 2)).toNatClampNeg)) (by decide +kernel : kd_ 146 271 = ((54, 0, 0, []), 272)) h1 rfl h3 rfl).trans ?_
  exact g_80 (by decide +kernel : kd_ 146 272 = ((80, 116, 3, [7]), 275)) rfl h4 rfl rfl rfl
theorem b_W_law_275 {L : Nat} {f : cg_G} {e : Nat × Nat} {x4 x5 y0 : Int32} {a0 a1 a2 a3 : Nat} {u6 : Value} : cj_res 146 275 [.ref a0, .ref a1, .ref a2, .ref a3, .int x4, .int x5, u6] [.int y0] (cg_M L f e) = cj_res 146 629 [.ref a0, .ref a1, .ref a2, .ref a3, .int x4, .int x5, .int y0] [] (cg_M L f e) := by
  refine (g_4 (ls' := [.ref a0, .ref a1, .ref a2, .ref a3, .int x4, .int x5, .int y0]) (by decide +kernel : kd_ 146 275 = ((4, 6, 0, []), 277)) rfl rfl).trans ?_
  refine (g_30 (by decide +kernel : kd_ 146 277 = ((30, 629, 0, []), 280))).trans ?_
  rfl
theorem b_W_law_280 {L : Nat} {f : cg_G} {e : Nat × Nat} {x4 : Int32} {a0 a1 a2 a3 : Nat} {u5 u6 : Value} (h1 : sh_ a0 = 100) (h2 : cg_in (x4 + (nI 1)) (ln_ L a0)) (h3 : cg_in (x4 + (nI 2)) (ln_ L a0)) (h4 : cg_in (x4 + (nI 3)) (ln_ L a0)): cj_res 146 280 [.ref a0, .ref a1, .ref a2, .ref a3, .int x4, u5, u6] [] (cg_M L f e) = cj_aft 146 300 303 [.ref a0, .ref a1, .ref a2, .ref a3, .int x4, u5, u6] [] (cj_ev 111 [.ref a1, .int (f a0 (x4 + (nI 1)).toNatClampNeg), .int (f a0 (x4 + (nI 2)).toNatClampNeg), .int (f a0 (x4 + (nI 3)).toNatClampNeg), .ref a3] (cg_M L f e)) := by
  refine (g_3 (by decide +kernel : kd_ 146 280 = ((3, 1, 0, []), 281)) rfl).trans ?_
  refine (g_3 (by decide +kernel : kd_ 146 281 = ((3, 0, 0, []), 282)) rfl).trans ?_
  refine (g_2 (by decide +kernel : kd_ 146 282 = ((2, 4, 0, []), 284)) rfl).trans ?_
  refine (g_0 (by decide +kernel : kd_ 146 284 = ((0, 1, 0, []), 285))).trans ?_
  refine (g_10 (by decide +kernel : kd_ 146 285 = ((10, 0, 0, []), 286))).trans ?_
  refine (g_54 (v := .int (f a0 (x4 + (nI 1)).toNatClampNeg)) (by decide +kernel : kd_ 146 286 = ((54, 0, 0, []), 287)) h1 rfl h2 rfl).trans ?_
  refine (g_3 (by decide +kernel : kd_ 146 287 = ((3, 0, 0, []), 288)) rfl).trans ?_
  refine (g_2 (by decide +kernel : kd_ 146 288 = ((2, 4, 0, []), 290)) rfl).trans ?_
  refine (g_0 (by decide +kernel : kd_ 146 290 = ((0, 2, 0, []), 291))).trans ?_
  refine (g_10 (by decide +kernel : kd_ 146 291 = ((10, 0, 0, []), 292))).trans ?_
  refine (g_54 (v := .int (f a0 (x4 + (nI 2)).toNatClampNeg)) (by decide +kernel : kd_ 146 292 = ((54, 0, 0, []), 293)) h1 rfl h3 rfl).trans ?_
  refine (g_3 (by decide +kernel : kd_ 146 293 = ((3, 0, 0, []), 294)) rfl).trans ?_
  refine (g_2 (by decide +kernel : kd_ 146 294 = ((2, 4, 0, []), 296)) rfl).trans ?_
  refine (g_0 (by decide +kernel : kd_ 146 296 = ((0, 3, 0, []), 297))).trans ?_
  refine (g_10 (by decide +kernel : kd_ 146 297 = ((10, 0, 0, []), 298))).trans ?_
  refine (g_54 (v := .int (f a0 (x4 + (nI 3)).toNatClampNeg)) (by decide +kernel : kd_ 146 298 = ((54, 0, 0, []), 299)) h1 rfl h4 rfl).trans ?_
  refine (g_3 (by decide +kernel : kd_ 146 299 = ((3, 3, 0, []), 300)) rfl).trans ?_
  exact g_81 (by decide +kernel : kd_ 146 300 = ((81, 111, 5, []), 303)) rfl rfl rfl
theorem b_W_law_303 {L : Nat} {f : cg_G} {e : Nat × Nat} {x4 y0 : Int32} {a0 a1 a2 a3 : Nat} {u5 u6 : Value} (h1 : sh_ a0 = 100) (h2 : cg_in (x4 + (nI 1)) (ln_ L a0)) (h3 : cg_in (x4 + (nI 2)) (ln_ L a0)) (h4 : cg_in (x4 + (nI 3)) (ln_ L a0)) (h5 : sh_ a2 = 7): cj_res 146 303 [.ref a0, .ref a1, .ref a2, .ref a3, .int x4, u5, u6] [.int y0] (cg_M L f e) = cj_aft 146 324 327 [.ref a0, .ref a1, .ref a2, .ref a3, .int x4, .int y0, u6] [] (cj_ev 115 [.ref a2, .int (f a0 (x4 + (nI 1)).toNatClampNeg), .int (f a0 (x4 + (nI 2)).toNatClampNeg), .int (f a0 (x4 + (nI 3)).toNatClampNeg)] (cg_M L f e)) := by
  refine (g_4 (ls' := [.ref a0, .ref a1, .ref a2, .ref a3, .int x4, .int y0, u6]) (by decide +kernel : kd_ 146 303 = ((4, 5, 0, []), 305)) rfl rfl).trans ?_
  refine (g_3 (by decide +kernel : kd_ 146 305 = ((3, 2, 0, []), 306)) rfl).trans ?_
  refine (g_3 (by decide +kernel : kd_ 146 306 = ((3, 0, 0, []), 307)) rfl).trans ?_
  refine (g_2 (by decide +kernel : kd_ 146 307 = ((2, 4, 0, []), 309)) rfl).trans ?_
  refine (g_0 (by decide +kernel : kd_ 146 309 = ((0, 1, 0, []), 310))).trans ?_
  refine (g_10 (by decide +kernel : kd_ 146 310 = ((10, 0, 0, []), 311))).trans ?_
  refine (g_54 (v := .int (f a0 (x4 + (nI 1)).toNatClampNeg)) (by decide +kernel : kd_ 146 311 = ((54, 0, 0, []), 312)) h1 rfl h2 rfl).trans ?_
  refine (g_3 (by decide +kernel : kd_ 146 312 = ((3, 0, 0, []), 313)) rfl).trans ?_
  refine (g_2 (by decide +kernel : kd_ 146 313 = ((2, 4, 0, []), 315)) rfl).trans ?_
  refine (g_0 (by decide +kernel : kd_ 146 315 = ((0, 2, 0, []), 316))).trans ?_
  refine (g_10 (by decide +kernel : kd_ 146 316 = ((10, 0, 0, []), 317))).trans ?_
  refine (g_54 (v := .int (f a0 (x4 + (nI 2)).toNatClampNeg)) (by decide +kernel : kd_ 146 317 = ((54, 0, 0, []), 318)) h1 rfl h3 rfl).trans ?_
  refine (g_3 (by decide +kernel : kd_ 146 318 = ((3, 0, 0, []), 319)) rfl).trans ?_
  refine (g_2 (by decide +kernel : kd_ 146 319 = ((2, 4, 0, []), 321)) rfl).trans ?_
  refine (g_0 (by decide +kernel : kd_ 146 321 = ((0, 3, 0, []), 322))).trans ?_
  refine (g_10 (by decide +kernel : kd_ 146 322 = ((10, 0, 0, []), 323))).trans ?_
  refine (g_54 (v := .int (f a0 (x4 + (nI 3)).toNatClampNeg)) (by decide +kernel : kd_ 146 323 = ((54, 0, 0, []), 324)) h1 rfl h4 rfl).trans ?_
  exact g_80 (by decide +kernel : kd_ 146 324 = ((80, 115, 4, [7]), 327)) rfl h5 rfl rfl rfl
theorem b_W_law_327 {L : Nat} {f : cg_G} {e : Nat × Nat} {x4 x5 y0 : Int32} {a0 a1 a2 a3 : Nat} {u6 : Value} : cj_res 146 327 [.ref a0, .ref a1, .ref a2, .ref a3, .int x4, .int x5, u6] [.int y0] (cg_M L f e) = cj_res 146 629 [.ref a0, .ref a1, .ref a2, .ref a3, .int x4, .int x5, .int y0] [] (cg_M L f e) := by
  refine (g_4 (ls' := [.ref a0, .ref a1, .ref a2, .ref a3, .int x4, .int x5, .int y0]) (by decide +kernel : kd_ 146 327 = ((4, 6, 0, []), 329)) rfl rfl).trans ?_
  refine (g_30 (by decide +kernel : kd_ 146 329 = ((30, 629, 0, []), 332))).trans ?_
  rfl
theorem b_W_law_332 {L : Nat} {f : cg_G} {e : Nat × Nat} {x4 : Int32} {a0 a1 a2 a3 : Nat} {u5 u6 : Value} (h1 : sh_ a0 = 100) (h2 : cg_in (x4 + (nI 1)) (ln_ L a0)) (h3 : cg_in (x4 + (nI 2)) (ln_ L a0)): cj_res 146 332 [.ref a0, .ref a1, .ref a2, .ref a3, .int x4, u5, u6] [] (cg_M L f e) = cj_aft 146 346 349 [.ref a0, .ref a1, .ref a2, .ref a3, .int x4, u5, u6] [] (cj_ev 114 [.ref a1, .int (f a0 (x4 + (nI 1)).toNatClampNeg), .int (f a0 (x4 + (nI 2)).toNatClampNeg), .ref a3] (cg_M L f e)) := by
  refine (g_3 (by decide +kernel : kd_ 146 332 = ((3, 1, 0, []), 333)) rfl).trans ?_
  refine (g_3 (by decide +kernel : kd_ 146 333 = ((3, 0, 0, []), 334)) rfl).trans ?_
  refine (g_2 (by decide +kernel : kd_ 146 334 = ((2, 4, 0, []), 336)) rfl).trans ?_
  refine (g_0 (by decide +kernel : kd_ 146 336 = ((0, 1, 0, []), 337))).trans ?_
  refine (g_10 (by decide +kernel : kd_ 146 337 = ((10, 0, 0, []), 338))).trans ?_
  refine (g_54 (v := .int (f a0 (x4 + (nI 1)).toNatClampNeg)) (by decide +kernel : kd_ 146 338 = ((54, 0, 0, []), 339)) h1 rfl h2 rfl).trans ?_
  refine (g_3 (by decide +kernel : kd_ 146 339 = ((3, 0, 0, []), 340)) rfl).trans ?_
  refine (g_2 (by decide +kernel : kd_ 146 340 = ((2, 4, 0, []), 342)) rfl).trans ?_
  refine (g_0 (by decide +kernel : kd_ 146 342 = ((0, 2, 0, []), 343))).trans ?_
  refine (g_10 (by decide +kernel : kd_ 146 343 = ((10, 0, 0, []), 344))).trans ?_
  refine (g_54 (v := .int (f a0 (x4 + (nI 2)).toNatClampNeg)) (by decide +kernel : kd_ 146 344 = ((54, 0, 0, []), 345)) h1 rfl h3 rfl).trans ?_
  refine (g_3 (by decide +kernel : kd_ 146 345 = ((3, 3, 0, []), 346)) rfl).trans ?_
  exact g_81 (by decide +kernel : kd_ 146 346 = ((81, 114, 4, []), 349)) rfl rfl rfl
theorem b_W_law_349 {L : Nat} {f : cg_G} {e : Nat × Nat} {x4 y0 : Int32} {a0 a1 a2 a3 : Nat} {u5 u6 : Value} (h1 : sh_ a0 = 100) (h2 : cg_in (x4 + (nI 1)) (ln_ L a0)) (h3 : cg_in (x4 + (nI 2)) (ln_ L a0)) (h4 : sh_ a2 = 7): cj_res 146 349 [.ref a0, .ref a1, .ref a2, .ref a3, .int x4, u5, u6] [.int y0] (cg_M L f e) = cj_aft 146 364 367 [.ref a0, .ref a1, .ref a2, .ref a3, .int x4, .int y0, u6] [] (cj_ev 119 [.ref a2, .int (f a0 (x4 + (nI 1)).toNatClampNeg), .int (f a0 (x4 + (nI 2)).toNatClampNeg)] (cg_M L f e)) := by
  refine (g_4 (ls' := [.ref a0, .ref a1, .ref a2, .ref a3, .int x4, .int y0, u6]) (by decide +kernel : kd_ 146 349 = ((4, 5, 0, []), 351)) rfl rfl).trans ?_
  refine (g_3 (by decide +kernel : kd_ 146 351 = ((3, 2, 0, []), 352)) rfl).trans ?_
  refine (g_3 (by decide +kernel : kd_ 146 352 = ((3, 0, 0, []), 353)) rfl).trans ?_
  refine (g_2 (by decide +kernel : kd_ 146 353 = ((2, 4, 0, []), 355)) rfl).trans ?_
  refine (g_0 (by decide +kernel : kd_ 146 355 = ((0, 1, 0, []), 356))).trans ?_
  refine (g_10 (by decide +kernel : kd_ 146 356 = ((10, 0, 0, []), 357))).trans ?_
  refine (g_54 (v := .int (f a0 (x4 + (nI 1)).toNatClampNeg)) (by decide +kernel : kd_ 146 357 = ((54, 0, 0, []), 358)) h1 rfl h2 rfl).trans ?_
  refine (g_3 (by decide +kernel : kd_ 146 358 = ((3, 0, 0, []), 359)) rfl).trans ?_
  refine (g_2 (by decide +kernel : kd_ 146 359 = ((2, 4, 0, []), 361)) rfl).trans ?_
  refine (g_0 (by decide +kernel : kd_ 146 361 = ((0, 2, 0, []), 362))).trans ?_
  refine (g_10 (by decide +kernel : kd_ 146 362 = ((10, 0, 0, []), 363))).trans ?_
  refine (g_54 (v := .int (f a0 (x4 + (nI 2)).toNatClampNeg)) (by decide +kernel : kd_ 146 363 = ((54, 0, 0, []), 364)) h1 rfl h3 rfl).trans ?_
  exact g_80 (by decide +kernel : kd_ 146 364 = ((80, 119, 3, [7]), 367)) rfl h4 rfl rfl rfl
theorem b_W_law_367 {L : Nat} {f : cg_G} {e : Nat × Nat} {x4 x5 y0 : Int32} {a0 a1 a2 a3 : Nat} {u6 : Value} : cj_res 146 367 [.ref a0, .ref a1, .ref a2, .ref a3, .int x4, .int x5, u6] [.int y0] (cg_M L f e) = cj_res 146 629 [.ref a0, .ref a1, .ref a2, .ref a3, .int x4, .int x5, .int y0] [] (cg_M L f e) := by
  refine (g_4 (ls' := [.ref a0, .ref a1, .ref a2, .ref a3, .int x4, .int x5, .int y0]) (by decide +kernel : kd_ 146 367 = ((4, 6, 0, []), 369)) rfl rfl).trans ?_
  refine (g_30 (by decide +kernel : kd_ 146 369 = ((30, 629, 0, []), 372))).trans ?_
  rfl
theorem b_W_law_372 {L : Nat} {f : cg_G} {e : Nat × Nat} {x4 : Int32} {a0 a1 a2 a3 : Nat} {u5 u6 : Value} : cj_res 146 372 [.ref a0, .ref a1, .ref a2, .ref a3, .int x4, u5, u6] [] (cg_M L f e) = cj_aft 146 374 377 [.ref a0, .ref a1, .ref a2, .ref a3, .int x4, u5, u6] [] (cj_ev 140 [.ref a1, .ref a3] (cg_M L f e)) := by
  refine (g_3 (by decide +kernel : kd_ 146 372 = ((3, 1, 0, []), 373)) rfl).trans ?_
  refine (g_3 (by decide +kernel : kd_ 146 373 = ((3, 3, 0, []), 374)) rfl).trans ?_
  exact g_81 (by decide +kernel : kd_ 146 374 = ((81, 140, 2, []), 377)) rfl rfl rfl
theorem b_W_law_377 {L : Nat} {f : cg_G} {e : Nat × Nat} {x4 y0 : Int32} {a0 a1 a2 a3 : Nat} {u5 u6 : Value} (h1 : sh_ a2 = 7): cj_res 146 377 [.ref a0, .ref a1, .ref a2, .ref a3, .int x4, u5, u6] [.int y0] (cg_M L f e) = cj_aft 146 380 383 [.ref a0, .ref a1, .ref a2, .ref a3, .int x4, .int y0, u6] [] (cj_ev 93 [.ref a2] (cg_M L f e)) := by
  refine (g_4 (ls' := [.ref a0, .ref a1, .ref a2, .ref a3, .int x4, .int y0, u6]) (by decide +kernel : kd_ 146 377 = ((4, 5, 0, []), 379)) rfl rfl).trans ?_
  refine (g_3 (by decide +kernel : kd_ 146 379 = ((3, 2, 0, []), 380)) rfl).trans ?_
  exact g_80 (by decide +kernel : kd_ 146 380 = ((80, 93, 1, [7]), 383)) rfl h1 rfl rfl rfl
theorem b_W_law_383 {L : Nat} {f : cg_G} {e : Nat × Nat} {x4 x5 y0 : Int32} {a0 a1 a2 a3 : Nat} {u6 : Value} : cj_res 146 383 [.ref a0, .ref a1, .ref a2, .ref a3, .int x4, .int x5, u6] [.int y0] (cg_M L f e) = cj_res 146 629 [.ref a0, .ref a1, .ref a2, .ref a3, .int x4, .int x5, .int y0] [] (cg_M L f e) := by
  refine (g_4 (ls' := [.ref a0, .ref a1, .ref a2, .ref a3, .int x4, .int x5, .int y0]) (by decide +kernel : kd_ 146 383 = ((4, 6, 0, []), 385)) rfl rfl).trans ?_
  refine (g_30 (by decide +kernel : kd_ 146 385 = ((30, 629, 0, []), 388))).trans ?_
  rfl
theorem b_W_law_388 {L : Nat} {f : cg_G} {e : Nat × Nat} {x4 : Int32} {a0 a1 a2 a3 : Nat} {u5 u6 : Value} (h1 : sh_ a1 = 0): cj_res 146 388 [.ref a0, .ref a1, .ref a2, .ref a3, .int x4, u5, u6] [] (cg_M L f e) = cj_aft 146 389 392 [.ref a0, .ref a1, .ref a2, .ref a3, .int x4, u5, u6] [] (cj_ev 145 [.ref a1] (cg_M L f e)) := by
  refine (g_3 (by decide +kernel : kd_ 146 388 = ((3, 1, 0, []), 389)) rfl).trans ?_
  exact g_80 (by decide +kernel : kd_ 146 389 = ((80, 145, 1, [0]), 392)) rfl h1 rfl rfl rfl
theorem b_W_law_392 {L : Nat} {f : cg_G} {e : Nat × Nat} {x4 y0 : Int32} {a0 a1 a2 a3 : Nat} {u5 u6 : Value} (h1 : sh_ a2 = 7): cj_res 146 392 [.ref a0, .ref a1, .ref a2, .ref a3, .int x4, u5, u6] [.int y0] (cg_M L f e) = cj_aft 146 394 397 [.ref a0, .ref a1, .ref a2, .ref a3, .int x4, u5, u6] [] (cj_ev 142 [.ref a2] (cg_M L f e)) := by
  refine (g_26 (by decide +kernel : kd_ 146 392 = ((26, 0, 0, []), 393)) rfl).trans ?_
  refine (g_3 (by decide +kernel : kd_ 146 393 = ((3, 2, 0, []), 394)) rfl).trans ?_
  exact g_80 (by decide +kernel : kd_ 146 394 = ((80, 142, 1, [7]), 397)) rfl h1 rfl rfl rfl
theorem b_W_law_397 {L : Nat} {f : cg_G} {e : Nat × Nat} {x4 y0 : Int32} {a0 a1 a2 a3 : Nat} {u5 u6 : Value} : cj_res 146 397 [.ref a0, .ref a1, .ref a2, .ref a3, .int x4, u5, u6] [.int y0] (cg_M L f e) = cj_res 146 629 [.ref a0, .ref a1, .ref a2, .ref a3, .int x4, u5, u6] [] (cg_M L f e) := by
  refine (g_26 (by decide +kernel : kd_ 146 397 = ((26, 0, 0, []), 398)) rfl).trans ?_
  refine (g_30 (by decide +kernel : kd_ 146 398 = ((30, 629, 0, []), 401))).trans ?_
  rfl
theorem b_W_law_401 {L : Nat} {f : cg_G} {e : Nat × Nat} {x4 : Int32} {a0 a1 a2 a3 : Nat} {u5 u6 : Value} (h1 : sh_ a0 = 100) (h2 : cg_in (x4 + (nI 1)) (ln_ L a0)): cj_res 146 401 [.ref a0, .ref a1, .ref a2, .ref a3, .int x4, u5, u6] [] (cg_M L f e) = cj_aft 146 409 412 [.ref a0, .ref a1, .ref a2, .ref a3, .int x4, u5, u6] [] (cj_ev 110 [.ref a1, .int (f a0 (x4 + (nI 1)).toNatClampNeg), .ref a3] (cg_M L f e)) := by
  refine (g_3 (by decide +kernel : kd_ 146 401 = ((3, 1, 0, []), 402)) rfl).trans ?_
  refine (g_3 (by decide +kernel : kd_ 146 402 = ((3, 0, 0, []), 403)) rfl).trans ?_
  refine (g_2 (by decide +kernel : kd_ 146 403 = ((2, 4, 0, []), 405)) rfl).trans ?_
  refine (g_0 (by decide +kernel : kd_ 146 405 = ((0, 1, 0, []), 406))).trans ?_
  refine (g_10 (by decide +kernel : kd_ 146 406 = ((10, 0, 0, []), 407))).trans ?_
  refine (g_54 (v := .int (f a0 (x4 + (nI 1)).toNatClampNeg)) (by decide +kernel : kd_ 146 407 = ((54, 0, 0, []), 408)) h1 rfl h2 rfl).trans ?_
  refine (g_3 (by decide +kernel : kd_ 146 408 = ((3, 3, 0, []), 409)) rfl).trans ?_
  exact g_81 (by decide +kernel : kd_ 146 409 = ((81, 110, 3, []), 412)) rfl rfl rfl
theorem b_W_law_412 {L : Nat} {f : cg_G} {e : Nat × Nat} {x4 y0 : Int32} {a0 a1 a2 a3 : Nat} {u5 u6 : Value} (h1 : sh_ a0 = 100) (h2 : cg_in (x4 + (nI 1)) (ln_ L a0)) (h3 : sh_ a2 = 7): cj_res 146 412 [.ref a0, .ref a1, .ref a2, .ref a3, .int x4, u5, u6] [.int y0] (cg_M L f e) = cj_aft 146 421 424 [.ref a0, .ref a1, .ref a2, .ref a3, .int x4, .int y0, u6] [] (cj_ev 85 [.ref a2, .int (f a0 (x4 + (nI 1)).toNatClampNeg)] (cg_M L f e)) := by
  refine (g_4 (ls' := [.ref a0, .ref a1, .ref a2, .ref a3, .int x4, .int y0, u6]) (by decide +kernel : kd_ 146 412 = ((4, 5, 0, []), 414)) rfl rfl).trans ?_
  refine (g_3 (by decide +kernel : kd_ 146 414 = ((3, 2, 0, []), 415)) rfl).trans ?_
  refine (g_3 (by decide +kernel : kd_ 146 415 = ((3, 0, 0, []), 416)) rfl).trans ?_
  refine (g_2 (by decide +kernel : kd_ 146 416 = ((2, 4, 0, []), 418)) rfl).trans ?_
  refine (g_0 (by decide +kernel : kd_ 146 418 = ((0, 1, 0, []), 419))).trans ?_
  refine (g_10 (by decide +kernel : kd_ 146 419 = ((10, 0, 0, []), 420))).trans ?_
  refine (g_54 (v := .int (f a0 (x4 + (nI 1)).toNatClampNeg)) (by decide +kernel : kd_ 146 420 = ((54, 0, 0, []), 421)) h1 rfl h2 rfl).trans ?_
  exact g_80 (by decide +kernel : kd_ 146 421 = ((80, 85, 2, [7]), 424)) rfl h3 rfl rfl rfl
theorem b_W_law_424 {L : Nat} {f : cg_G} {e : Nat × Nat} {x4 x5 y0 : Int32} {a0 a1 a2 a3 : Nat} {u6 : Value} : cj_res 146 424 [.ref a0, .ref a1, .ref a2, .ref a3, .int x4, .int x5, u6] [.int y0] (cg_M L f e) = cj_res 146 629 [.ref a0, .ref a1, .ref a2, .ref a3, .int x4, .int x5, .int y0] [] (cg_M L f e) := by
  refine (g_4 (ls' := [.ref a0, .ref a1, .ref a2, .ref a3, .int x4, .int x5, .int y0]) (by decide +kernel : kd_ 146 424 = ((4, 6, 0, []), 426)) rfl rfl).trans ?_
  refine (g_30 (by decide +kernel : kd_ 146 426 = ((30, 629, 0, []), 429))).trans ?_
  rfl
theorem b_W_law_429 {L : Nat} {f : cg_G} {e : Nat × Nat} {x4 : Int32} {a0 a1 a2 a3 : Nat} {u5 u6 : Value} (h1 : sh_ a0 = 100) (h2 : cg_in (x4 + (nI 1)) (ln_ L a0)): cj_res 146 429 [.ref a0, .ref a1, .ref a2, .ref a3, .int x4, u5, u6] [] (cg_M L f e) = cj_aft 146 437 440 [.ref a0, .ref a1, .ref a2, .ref a3, .int x4, u5, u6] [] (cj_ev 133 [.ref a1, .int (f a0 (x4 + (nI 1)).toNatClampNeg), .ref a3] (cg_M L f e)) := by
  refine (g_3 (by decide +kernel : kd_ 146 429 = ((3, 1, 0, []), 430)) rfl).trans ?_
  refine (g_3 (by decide +kernel : kd_ 146 430 = ((3, 0, 0, []), 431)) rfl).trans ?_
  refine (g_2 (by decide +kernel : kd_ 146 431 = ((2, 4, 0, []), 433)) rfl).trans ?_
  refine (g_0 (by decide +kernel : kd_ 146 433 = ((0, 1, 0, []), 434))).trans ?_
  refine (g_10 (by decide +kernel : kd_ 146 434 = ((10, 0, 0, []), 435))).trans ?_
  refine (g_54 (v := .int (f a0 (x4 + (nI 1)).toNatClampNeg)) (by decide +kernel : kd_ 146 435 = ((54, 0, 0, []), 436)) h1 rfl h2 rfl).trans ?_
  refine (g_3 (by decide +kernel : kd_ 146 436 = ((3, 3, 0, []), 437)) rfl).trans ?_
  exact g_81 (by decide +kernel : kd_ 146 437 = ((81, 133, 3, []), 440)) rfl rfl rfl
theorem b_W_law_440 {L : Nat} {f : cg_G} {e : Nat × Nat} {x4 y0 : Int32} {a0 a1 a2 a3 : Nat} {u5 u6 : Value} (h1 : sh_ a0 = 100) (h2 : cg_in (x4 + (nI 1)) (ln_ L a0)) (h3 : sh_ a2 = 7): cj_res 146 440 [.ref a0, .ref a1, .ref a2, .ref a3, .int x4, u5, u6] [.int y0] (cg_M L f e) = cj_aft 146 449 452 [.ref a0, .ref a1, .ref a2, .ref a3, .int x4, .int y0, u6] [] (cj_ev 118 [.ref a2, .int (f a0 (x4 + (nI 1)).toNatClampNeg)] (cg_M L f e)) := by
  refine (g_4 (ls' := [.ref a0, .ref a1, .ref a2, .ref a3, .int x4, .int y0, u6]) (by decide +kernel : kd_ 146 440 = ((4, 5, 0, []), 442)) rfl rfl).trans ?_
  refine (g_3 (by decide +kernel : kd_ 146 442 = ((3, 2, 0, []), 443)) rfl).trans ?_
  refine (g_3 (by decide +kernel : kd_ 146 443 = ((3, 0, 0, []), 444)) rfl).trans ?_
  refine (g_2 (by decide +kernel : kd_ 146 444 = ((2, 4, 0, []), 446)) rfl).trans ?_
  refine (g_0 (by decide +kernel : kd_ 146 446 = ((0, 1, 0, []), 447))).trans ?_
  refine (g_10 (by decide +kernel : kd_ 146 447 = ((10, 0, 0, []), 448))).trans ?_
  refine (g_54 (v := .int (f a0 (x4 + (nI 1)).toNatClampNeg)) (by decide +kernel : kd_ 146 448 = ((54, 0, 0, []), 449)) h1 rfl h2 rfl).trans ?_
  exact g_80 (by decide +kernel : kd_ 146 449 = ((80, 118, 2, [7]), 452)) rfl h3 rfl rfl rfl
theorem b_W_law_452 {L : Nat} {f : cg_G} {e : Nat × Nat} {x4 x5 y0 : Int32} {a0 a1 a2 a3 : Nat} {u6 : Value} : cj_res 146 452 [.ref a0, .ref a1, .ref a2, .ref a3, .int x4, .int x5, u6] [.int y0] (cg_M L f e) = cj_res 146 629 [.ref a0, .ref a1, .ref a2, .ref a3, .int x4, .int x5, .int y0] [] (cg_M L f e) := by
  refine (g_4 (ls' := [.ref a0, .ref a1, .ref a2, .ref a3, .int x4, .int x5, .int y0]) (by decide +kernel : kd_ 146 452 = ((4, 6, 0, []), 454)) rfl rfl).trans ?_
  refine (g_30 (by decide +kernel : kd_ 146 454 = ((30, 629, 0, []), 457))).trans ?_
  rfl
theorem b_W_law_457 {L : Nat} {f : cg_G} {e : Nat × Nat} {x4 : Int32} {a0 a1 a2 a3 : Nat} {u5 u6 : Value} (h1 : sh_ a0 = 100) (h2 : cg_in (x4 + (nI 1)) (ln_ L a0)) (h3 : cg_in (x4 + (nI 2)) (ln_ L a0)) (h4 : cg_in (x4 + (nI 3)) (ln_ L a0)): cj_res 146 457 [.ref a0, .ref a1, .ref a2, .ref a3, .int x4, u5, u6] [] (cg_M L f e) = cj_aft 146 477 480 [.ref a0, .ref a1, .ref a2, .ref a3, .int x4, u5, u6] [] (cj_ev 132 [.ref a1, .int (f a0 (x4 + (nI 1)).toNatClampNeg), .int (f a0 (x4 + (nI 2)).toNatClampNeg), .int (f a0 (x4 + (nI 3)).toNatClampNeg), .ref a3] (cg_M L f e)) := by
  refine (g_3 (by decide +kernel : kd_ 146 457 = ((3, 1, 0, []), 458)) rfl).trans ?_
  refine (g_3 (by decide +kernel : kd_ 146 458 = ((3, 0, 0, []), 459)) rfl).trans ?_
  refine (g_2 (by decide +kernel : kd_ 146 459 = ((2, 4, 0, []), 461)) rfl).trans ?_
  refine (g_0 (by decide +kernel : kd_ 146 461 = ((0, 1, 0, []), 462))).trans ?_
  refine (g_10 (by decide +kernel : kd_ 146 462 = ((10, 0, 0, []), 463))).trans ?_
  refine (g_54 (v := .int (f a0 (x4 + (nI 1)).toNatClampNeg)) (by decide +kernel : kd_ 146 463 = ((54, 0, 0, []), 464)) h1 rfl h2 rfl).trans ?_
  refine (g_3 (by decide +kernel : kd_ 146 464 = ((3, 0, 0, []), 465)) rfl).trans ?_
  refine (g_2 (by decide +kernel : kd_ 146 465 = ((2, 4, 0, []), 467)) rfl).trans ?_
  refine (g_0 (by decide +kernel : kd_ 146 467 = ((0, 2, 0, []), 468))).trans ?_
  refine (g_10 (by decide +kernel : kd_ 146 468 = ((10, 0, 0, []), 469))).trans ?_
  refine (g_54 (v := .int (f a0 (x4 + (nI 2)).toNatClampNeg)) (by decide +kernel : kd_ 146 469 = ((54, 0, 0, []), 470)) h1 rfl h3 rfl).trans ?_
  refine (g_3 (by decide +kernel : kd_ 146 470 = ((3, 0, 0, []), 471)) rfl).trans ?_
  refine (g_2 (by decide +kernel : kd_ 146 471 = ((2, 4, 0, []), 473)) rfl).trans ?_
  refine (g_0 (by decide +kernel : kd_ 146 473 = ((0, 3, 0, []), 474))).trans ?_
  refine (g_10 (by decide +kernel : kd_ 146 474 = ((10, 0, 0, []), 475))).trans ?_
  refine (g_54 (v := .int (f a0 (x4 + (nI 3)).toNatClampNeg)) (by decide +kernel : kd_ 146 475 = ((54, 0, 0, []), 476)) h1 rfl h4 rfl).trans ?_
  refine (g_3 (by decide +kernel : kd_ 146 476 = ((3, 3, 0, []), 477)) rfl).trans ?_
  exact g_81 (by decide +kernel : kd_ 146 477 = ((81, 132, 5, []), 480)) rfl rfl rfl
theorem b_W_law_480 {L : Nat} {f : cg_G} {e : Nat × Nat} {x4 y0 : Int32} {a0 a1 a2 a3 : Nat} {u5 u6 : Value} (h1 : sh_ a0 = 100) (h2 : cg_in (x4 + (nI 1)) (ln_ L a0)) (h3 : cg_in (x4 + (nI 2)) (ln_ L a0)) (h4 : cg_in (x4 + (nI 3)) (ln_ L a0)) (h5 : sh_ a2 = 7): cj_res 146 480 [.ref a0, .ref a1, .ref a2, .ref a3, .int x4, u5, u6] [.int y0] (cg_M L f e) = cj_aft 146 501 504 [.ref a0, .ref a1, .ref a2, .ref a3, .int x4, .int y0, u6] [] (cj_ev 92 [.ref a2, .int (f a0 (x4 + (nI 1)).toNatClampNeg), .int (f a0 (x4 + (nI 2)).toNatClampNeg), .int (f a0 (x4 + (nI 3)).toNatClampNeg)] (cg_M L f e)) := by
  refine (g_4 (ls' := [.ref a0, .ref a1, .ref a2, .ref a3, .int x4, .int y0, u6]) (by decide +kernel : kd_ 146 480 = ((4, 5, 0, []), 482)) rfl rfl).trans ?_
  refine (g_3 (by decide +kernel : kd_ 146 482 = ((3, 2, 0, []), 483)) rfl).trans ?_
  refine (g_3 (by decide +kernel : kd_ 146 483 = ((3, 0, 0, []), 484)) rfl).trans ?_
  refine (g_2 (by decide +kernel : kd_ 146 484 = ((2, 4, 0, []), 486)) rfl).trans ?_
  refine (g_0 (by decide +kernel : kd_ 146 486 = ((0, 1, 0, []), 487))).trans ?_
  refine (g_10 (by decide +kernel : kd_ 146 487 = ((10, 0, 0, []), 488))).trans ?_
  refine (g_54 (v := .int (f a0 (x4 + (nI 1)).toNatClampNeg)) (by decide +kernel : kd_ 146 488 = ((54, 0, 0, []), 489)) h1 rfl h2 rfl).trans ?_
  refine (g_3 (by decide +kernel : kd_ 146 489 = ((3, 0, 0, []), 490)) rfl).trans ?_
  refine (g_2 (by decide +kernel : kd_ 146 490 = ((2, 4, 0, []), 492)) rfl).trans ?_
  refine (g_0 (by decide +kernel : kd_ 146 492 = ((0, 2, 0, []), 493))).trans ?_
  refine (g_10 (by decide +kernel : kd_ 146 493 = ((10, 0, 0, []), 494))).trans ?_
  refine (g_54 (v := .int (f a0 (x4 + (nI 2)).toNatClampNeg)) (by decide +kernel : kd_ 146 494 = ((54, 0, 0, []), 495)) h1 rfl h3 rfl).trans ?_
  refine (g_3 (by decide +kernel : kd_ 146 495 = ((3, 0, 0, []), 496)) rfl).trans ?_
  refine (g_2 (by decide +kernel : kd_ 146 496 = ((2, 4, 0, []), 498)) rfl).trans ?_
  refine (g_0 (by decide +kernel : kd_ 146 498 = ((0, 3, 0, []), 499))).trans ?_
  refine (g_10 (by decide +kernel : kd_ 146 499 = ((10, 0, 0, []), 500))).trans ?_
  refine (g_54 (v := .int (f a0 (x4 + (nI 3)).toNatClampNeg)) (by decide +kernel : kd_ 146 500 = ((54, 0, 0, []), 501)) h1 rfl h4 rfl).trans ?_
  exact g_80 (by decide +kernel : kd_ 146 501 = ((80, 92, 4, [7]), 504)) rfl h5 rfl rfl rfl
theorem b_W_law_504 {L : Nat} {f : cg_G} {e : Nat × Nat} {x4 x5 y0 : Int32} {a0 a1 a2 a3 : Nat} {u6 : Value} : cj_res 146 504 [.ref a0, .ref a1, .ref a2, .ref a3, .int x4, .int x5, u6] [.int y0] (cg_M L f e) = cj_res 146 629 [.ref a0, .ref a1, .ref a2, .ref a3, .int x4, .int x5, .int y0] [] (cg_M L f e) := by
  refine (g_4 (ls' := [.ref a0, .ref a1, .ref a2, .ref a3, .int x4, .int x5, .int y0]) (by decide +kernel : kd_ 146 504 = ((4, 6, 0, []), 506)) rfl rfl).trans ?_
  refine (g_30 (by decide +kernel : kd_ 146 506 = ((30, 629, 0, []), 509))).trans ?_
  rfl
theorem b_W_law_509 {L : Nat} {f : cg_G} {e : Nat × Nat} {x4 : Int32} {a0 a1 a2 a3 : Nat} {u5 u6 : Value} (h1 : sh_ a0 = 100) (h2 : cg_in (x4 + (nI 1)) (ln_ L a0)) (h3 : cg_in (x4 + (nI 2)) (ln_ L a0)) (h4 : cg_in (x4 + (nI 3)) (ln_ L a0)): cj_res 146 509 [.ref a0, .ref a1, .ref a2, .ref a3, .int x4, u5, u6] [] (cg_M L f e) = cj_aft 146 529 532 [.ref a0, .ref a1, .ref a2, .ref a3, .int x4, u5, u6] [] (cj_ev 134 [.ref a1, .int (f a0 (x4 + (nI 1)).toNatClampNeg), .int (f a0 (x4 + (nI 2)).toNatClampNeg), .int (f a0 (x4 + (nI 3)).toNatClampNeg), .ref a3] (cg_M L f e)) := by
  refine (g_3 (by decide +kernel : kd_ 146 509 = ((3, 1, 0, []), 510)) rfl).trans ?_
  refine (g_3 (by decide +kernel : kd_ 146 510 = ((3, 0, 0, []), 511)) rfl).trans ?_
  refine (g_2 (by decide +kernel : kd_ 146 511 = ((2, 4, 0, []), 513)) rfl).trans ?_
  refine (g_0 (by decide +kernel : kd_ 146 513 = ((0, 1, 0, []), 514))).trans ?_
  refine (g_10 (by decide +kernel : kd_ 146 514 = ((10, 0, 0, []), 515))).trans ?_
  refine (g_54 (v := .int (f a0 (x4 + (nI 1)).toNatClampNeg)) (by decide +kernel : kd_ 146 515 = ((54, 0, 0, []), 516)) h1 rfl h2 rfl).trans ?_
  refine (g_3 (by decide +kernel : kd_ 146 516 = ((3, 0, 0, []), 517)) rfl).trans ?_
  refine (g_2 (by decide +kernel : kd_ 146 517 = ((2, 4, 0, []), 519)) rfl).trans ?_
  refine (g_0 (by decide +kernel : kd_ 146 519 = ((0, 2, 0, []), 520))).trans ?_
  refine (g_10 (by decide +kernel : kd_ 146 520 = ((10, 0, 0, []), 521))).trans ?_
  refine (g_54 (v := .int (f a0 (x4 + (nI 2)).toNatClampNeg)) (by decide +kernel : kd_ 146 521 = ((54, 0, 0, []), 522)) h1 rfl h3 rfl).trans ?_
  refine (g_3 (by decide +kernel : kd_ 146 522 = ((3, 0, 0, []), 523)) rfl).trans ?_
  refine (g_2 (by decide +kernel : kd_ 146 523 = ((2, 4, 0, []), 525)) rfl).trans ?_
  refine (g_0 (by decide +kernel : kd_ 146 525 = ((0, 3, 0, []), 526))).trans ?_
  refine (g_10 (by decide +kernel : kd_ 146 526 = ((10, 0, 0, []), 527))).trans ?_
  refine (g_54 (v := .int (f a0 (x4 + (nI 3)).toNatClampNeg)) (by decide +kernel : kd_ 146 527 = ((54, 0, 0, []), 528)) h1 rfl h4 rfl).trans ?_
  refine (g_3 (by decide +kernel : kd_ 146 528 = ((3, 3, 0, []), 529)) rfl).trans ?_
  exact g_81 (by decide +kernel : kd_ 146 529 = ((81, 134, 5, []), 532)) rfl rfl rfl
theorem b_W_law_532 {L : Nat} {f : cg_G} {e : Nat × Nat} {x4 y0 : Int32} {a0 a1 a2 a3 : Nat} {u5 u6 : Value} (h1 : sh_ a0 = 100) (h2 : cg_in (x4 + (nI 1)) (ln_ L a0)) (h3 : cg_in (x4 + (nI 2)) (ln_ L a0)) (h4 : cg_in (x4 + (nI 3)) (ln_ L a0)) (h5 : sh_ a2 = 7): cj_res 146 532 [.ref a0, .ref a1, .ref a2, .ref a3, .int x4, u5, u6] [.int y0] (cg_M L f e) = cj_aft 146 553 556 [.ref a0, .ref a1, .ref a2, .ref a3, .int x4, .int y0, u6] [] (cj_ev 121 [.ref a2, .int (f a0 (x4 + (nI 1)).toNatClampNeg), .int (f a0 (x4 + (nI 2)).toNatClampNeg), .int (f a0 (x4 + (nI 3)).toNatClampNeg)] (cg_M L f e)) := by
  refine (g_4 (ls' := [.ref a0, .ref a1, .ref a2, .ref a3, .int x4, .int y0, u6]) (by decide +kernel : kd_ 146 532 = ((4, 5, 0, []), 534)) rfl rfl).trans ?_
  refine (g_3 (by decide +kernel : kd_ 146 534 = ((3, 2, 0, []), 535)) rfl).trans ?_
  refine (g_3 (by decide +kernel : kd_ 146 535 = ((3, 0, 0, []), 536)) rfl).trans ?_
  refine (g_2 (by decide +kernel : kd_ 146 536 = ((2, 4, 0, []), 538)) rfl).trans ?_
  refine (g_0 (by decide +kernel : kd_ 146 538 = ((0, 1, 0, []), 539))).trans ?_
  refine (g_10 (by decide +kernel : kd_ 146 539 = ((10, 0, 0, []), 540))).trans ?_
  refine (g_54 (v := .int (f a0 (x4 + (nI 1)).toNatClampNeg)) (by decide +kernel : kd_ 146 540 = ((54, 0, 0, []), 541)) h1 rfl h2 rfl).trans ?_
  refine (g_3 (by decide +kernel : kd_ 146 541 = ((3, 0, 0, []), 542)) rfl).trans ?_
  refine (g_2 (by decide +kernel : kd_ 146 542 = ((2, 4, 0, []), 544)) rfl).trans ?_
  refine (g_0 (by decide +kernel : kd_ 146 544 = ((0, 2, 0, []), 545))).trans ?_
  refine (g_10 (by decide +kernel : kd_ 146 545 = ((10, 0, 0, []), 546))).trans ?_
  refine (g_54 (v := .int (f a0 (x4 + (nI 2)).toNatClampNeg)) (by decide +kernel : kd_ 146 546 = ((54, 0, 0, []), 547)) h1 rfl h3 rfl).trans ?_
  refine (g_3 (by decide +kernel : kd_ 146 547 = ((3, 0, 0, []), 548)) rfl).trans ?_
  refine (g_2 (by decide +kernel : kd_ 146 548 = ((2, 4, 0, []), 550)) rfl).trans ?_
  refine (g_0 (by decide +kernel : kd_ 146 550 = ((0, 3, 0, []), 551))).trans ?_
  refine (g_10 (by decide +kernel : kd_ 146 551 = ((10, 0, 0, []), 552))).trans ?_
  refine (g_54 (v := .int (f a0 (x4 + (nI 3)).toNatClampNeg)) (by decide +kernel : kd_ 146 552 = ((54, 0, 0, []), 553)) h1 rfl h4 rfl).trans ?_
  exact g_80 (by decide +kernel : kd_ 146 553 = ((80, 121, 4, [7]), 556)) rfl h5 rfl rfl rfl
theorem b_W_law_556 {L : Nat} {f : cg_G} {e : Nat × Nat} {x4 x5 y0 : Int32} {a0 a1 a2 a3 : Nat} {u6 : Value} : cj_res 146 556 [.ref a0, .ref a1, .ref a2, .ref a3, .int x4, .int x5, u6] [.int y0] (cg_M L f e) = cj_res 146 629 [.ref a0, .ref a1, .ref a2, .ref a3, .int x4, .int x5, .int y0] [] (cg_M L f e) := by
  refine (g_4 (ls' := [.ref a0, .ref a1, .ref a2, .ref a3, .int x4, .int x5, .int y0]) (by decide +kernel : kd_ 146 556 = ((4, 6, 0, []), 558)) rfl rfl).trans ?_
  refine (g_30 (by decide +kernel : kd_ 146 558 = ((30, 629, 0, []), 561))).trans ?_
  rfl
theorem b_W_law_561 {L : Nat} {f : cg_G} {e : Nat × Nat} {x4 : Int32} {a0 a1 a2 a3 : Nat} {u5 u6 : Value} (h1 : sh_ a0 = 100) (h2 : cg_in (x4 + (nI 1)) (ln_ L a0)) (h3 : cg_in (x4 + (nI 2)) (ln_ L a0)): cj_res 146 561 [.ref a0, .ref a1, .ref a2, .ref a3, .int x4, u5, u6] [] (cg_M L f e) = cj_aft 146 575 578 [.ref a0, .ref a1, .ref a2, .ref a3, .int x4, u5, u6] [] (cj_ev 144 [.ref a1, .int (f a0 (x4 + (nI 1)).toNatClampNeg), .int (f a0 (x4 + (nI 2)).toNatClampNeg), .ref a3] (cg_M L f e)) := by
  refine (g_3 (by decide +kernel : kd_ 146 561 = ((3, 1, 0, []), 562)) rfl).trans ?_
  refine (g_3 (by decide +kernel : kd_ 146 562 = ((3, 0, 0, []), 563)) rfl).trans ?_
  refine (g_2 (by decide +kernel : kd_ 146 563 = ((2, 4, 0, []), 565)) rfl).trans ?_
  refine (g_0 (by decide +kernel : kd_ 146 565 = ((0, 1, 0, []), 566))).trans ?_
  refine (g_10 (by decide +kernel : kd_ 146 566 = ((10, 0, 0, []), 567))).trans ?_
  refine (g_54 (v := .int (f a0 (x4 + (nI 1)).toNatClampNeg)) (by decide +kernel : kd_ 146 567 = ((54, 0, 0, []), 568)) h1 rfl h2 rfl).trans ?_
  refine (g_3 (by decide +kernel : kd_ 146 568 = ((3, 0, 0, []), 569)) rfl).trans ?_
  refine (g_2 (by decide +kernel : kd_ 146 569 = ((2, 4, 0, []), 571)) rfl).trans ?_
  refine (g_0 (by decide +kernel : kd_ 146 571 = ((0, 2, 0, []), 572))).trans ?_
  refine (g_10 (by decide +kernel : kd_ 146 572 = ((10, 0, 0, []), 573))).trans ?_
  refine (g_54 (v := .int (f a0 (x4 + (nI 2)).toNatClampNeg)) (by decide +kernel : kd_ 146 573 = ((54, 0, 0, []), 574)) h1 rfl h3 rfl).trans ?_
  refine (g_3 (by decide +kernel : kd_ 146 574 = ((3, 3, 0, []), 575)) rfl).trans ?_
  exact g_81 (by decide +kernel : kd_ 146 575 = ((81, 144, 4, []), 578)) rfl rfl rfl
theorem b_W_law_578 {L : Nat} {f : cg_G} {e : Nat × Nat} {x4 y0 : Int32} {a0 a1 a2 a3 : Nat} {u5 u6 : Value} (h1 : sh_ a0 = 100) (h2 : cg_in (x4 + (nI 1)) (ln_ L a0)) (h3 : cg_in (x4 + (nI 2)) (ln_ L a0)) (h4 : sh_ a2 = 7): cj_res 146 578 [.ref a0, .ref a1, .ref a2, .ref a3, .int x4, u5, u6] [.int y0] (cg_M L f e) = cj_aft 146 593 596 [.ref a0, .ref a1, .ref a2, .ref a3, .int x4, .int y0, u6] [] (cj_ev 117 [.ref a2, .int (f a0 (x4 + (nI 1)).toNatClampNeg), .int (f a0 (x4 + (nI 2)).toNatClampNeg)] (cg_M L f e)) := by
  refine (g_4 (ls' := [.ref a0, .ref a1, .ref a2, .ref a3, .int x4, .int y0, u6]) (by decide +kernel : kd_ 146 578 = ((4, 5, 0, []), 580)) rfl rfl).trans ?_
  refine (g_3 (by decide +kernel : kd_ 146 580 = ((3, 2, 0, []), 581)) rfl).trans ?_
  refine (g_3 (by decide +kernel : kd_ 146 581 = ((3, 0, 0, []), 582)) rfl).trans ?_
  refine (g_2 (by decide +kernel : kd_ 146 582 = ((2, 4, 0, []), 584)) rfl).trans ?_
  refine (g_0 (by decide +kernel : kd_ 146 584 = ((0, 1, 0, []), 585))).trans ?_
  refine (g_10 (by decide +kernel : kd_ 146 585 = ((10, 0, 0, []), 586))).trans ?_
  refine (g_54 (v := .int (f a0 (x4 + (nI 1)).toNatClampNeg)) (by decide +kernel : kd_ 146 586 = ((54, 0, 0, []), 587)) h1 rfl h2 rfl).trans ?_
  refine (g_3 (by decide +kernel : kd_ 146 587 = ((3, 0, 0, []), 588)) rfl).trans ?_
  refine (g_2 (by decide +kernel : kd_ 146 588 = ((2, 4, 0, []), 590)) rfl).trans ?_
  refine (g_0 (by decide +kernel : kd_ 146 590 = ((0, 2, 0, []), 591))).trans ?_
  refine (g_10 (by decide +kernel : kd_ 146 591 = ((10, 0, 0, []), 592))).trans ?_
  refine (g_54 (v := .int (f a0 (x4 + (nI 2)).toNatClampNeg)) (by decide +kernel : kd_ 146 592 = ((54, 0, 0, []), 593)) h1 rfl h3 rfl).trans ?_
  exact g_80 (by decide +kernel : kd_ 146 593 = ((80, 117, 3, [7]), 596)) rfl h4 rfl rfl rfl
theorem b_W_law_596 {L : Nat} {f : cg_G} {e : Nat × Nat} {x4 x5 y0 : Int32} {a0 a1 a2 a3 : Nat} {u6 : Value} : cj_res 146 596 [.ref a0, .ref a1, .ref a2, .ref a3, .int x4, .int x5, u6] [.int y0] (cg_M L f e) = cj_res 146 629 [.ref a0, .ref a1, .ref a2, .ref a3, .int x4, .int x5, .int y0] [] (cg_M L f e) := by
  refine (g_4 (ls' := [.ref a0, .ref a1, .ref a2, .ref a3, .int x4, .int x5, .int y0]) (by decide +kernel : kd_ 146 596 = ((4, 6, 0, []), 598)) rfl rfl).trans ?_
  refine (g_30 (by decide +kernel : kd_ 146 598 = ((30, 629, 0, []), 601))).trans ?_
  rfl
theorem b_W_law_601 {L : Nat} {f : cg_G} {e : Nat × Nat} {x4 : Int32} {a0 a1 a2 a3 : Nat} {u5 u6 : Value} (h1 : sh_ a0 = 100) (h2 : cg_in (x4 + (nI 1)) (ln_ L a0)): cj_res 146 601 [.ref a0, .ref a1, .ref a2, .ref a3, .int x4, u5, u6] [] (cg_M L f e) = cj_aft 146 609 612 [.ref a0, .ref a1, .ref a2, .ref a3, .int x4, u5, u6] [] (cj_ev 112 [.ref a1, .int (f a0 (x4 + (nI 1)).toNatClampNeg), .ref a3] (cg_M L f e)) := by
  refine (g_3 (by decide +kernel : kd_ 146 601 = ((3, 1, 0, []), 602)) rfl).trans ?_
  refine (g_3 (by decide +kernel : kd_ 146 602 = ((3, 0, 0, []), 603)) rfl).trans ?_
  refine (g_2 (by decide +kernel : kd_ 146 603 = ((2, 4, 0, []), 605)) rfl).trans ?_
  refine (g_0 (by decide +kernel : kd_ 146 605 = ((0, 1, 0, []), 606))).trans ?_
  refine (g_10 (by decide +kernel : kd_ 146 606 = ((10, 0, 0, []), 607))).trans ?_
  refine (g_54 (v := .int (f a0 (x4 + (nI 1)).toNatClampNeg)) (by decide +kernel : kd_ 146 607 = ((54, 0, 0, []), 608)) h1 rfl h2 rfl).trans ?_
  refine (g_3 (by decide +kernel : kd_ 146 608 = ((3, 3, 0, []), 609)) rfl).trans ?_
  exact g_81 (by decide +kernel : kd_ 146 609 = ((81, 112, 3, []), 612)) rfl rfl rfl
theorem b_W_law_612 {L : Nat} {f : cg_G} {e : Nat × Nat} {x4 y0 : Int32} {a0 a1 a2 a3 : Nat} {u5 u6 : Value} (h1 : sh_ a0 = 100) (h2 : cg_in (x4 + (nI 1)) (ln_ L a0)) (h3 : sh_ a2 = 7): cj_res 146 612 [.ref a0, .ref a1, .ref a2, .ref a3, .int x4, u5, u6] [.int y0] (cg_M L f e) = cj_aft 146 621 624 [.ref a0, .ref a1, .ref a2, .ref a3, .int x4, .int y0, u6] [] (cj_ev 86 [.ref a2, .int (f a0 (x4 + (nI 1)).toNatClampNeg)] (cg_M L f e)) := by
  refine (g_4 (ls' := [.ref a0, .ref a1, .ref a2, .ref a3, .int x4, .int y0, u6]) (by decide +kernel : kd_ 146 612 = ((4, 5, 0, []), 614)) rfl rfl).trans ?_
  refine (g_3 (by decide +kernel : kd_ 146 614 = ((3, 2, 0, []), 615)) rfl).trans ?_
  refine (g_3 (by decide +kernel : kd_ 146 615 = ((3, 0, 0, []), 616)) rfl).trans ?_
  refine (g_2 (by decide +kernel : kd_ 146 616 = ((2, 4, 0, []), 618)) rfl).trans ?_
  refine (g_0 (by decide +kernel : kd_ 146 618 = ((0, 1, 0, []), 619))).trans ?_
  refine (g_10 (by decide +kernel : kd_ 146 619 = ((10, 0, 0, []), 620))).trans ?_
  refine (g_54 (v := .int (f a0 (x4 + (nI 1)).toNatClampNeg)) (by decide +kernel : kd_ 146 620 = ((54, 0, 0, []), 621)) h1 rfl h2 rfl).trans ?_
  exact g_80 (by decide +kernel : kd_ 146 621 = ((80, 86, 2, [7]), 624)) rfl h3 rfl rfl rfl
theorem b_W_law_624 {L : Nat} {f : cg_G} {e : Nat × Nat} {x4 x5 y0 : Int32} {a0 a1 a2 a3 : Nat} {u6 : Value} : cj_res 146 624 [.ref a0, .ref a1, .ref a2, .ref a3, .int x4, .int x5, u6] [.int y0] (cg_M L f e) = cj_res 146 629 [.ref a0, .ref a1, .ref a2, .ref a3, .int x4, .int x5, .int y0] [] (cg_M L f e) := by
  refine (g_4 (ls' := [.ref a0, .ref a1, .ref a2, .ref a3, .int x4, .int x5, .int y0]) (by decide +kernel : kd_ 146 624 = ((4, 6, 0, []), 626)) rfl rfl).trans ?_
  refine (g_30 (by decide +kernel : kd_ 146 626 = ((30, 629, 0, []), 629))).trans ?_
  rfl
theorem b_W_law_629 {L : Nat} {f : cg_G} {e : Nat × Nat} {x4 : Int32} {a0 a1 a2 a3 : Nat} {u5 u6 : Value} : cj_res 146 629 [.ref a0, .ref a1, .ref a2, .ref a3, .int x4, u5, u6] [] (cg_M L f e) = cj_res 146 43 [.ref a0, .ref a1, .ref a2, .ref a3, .int (x4 + nI 4), u5, u6] [] (cg_M L f e) := by
  refine (g_6 (ls' := [.ref a0, .ref a1, .ref a2, .ref a3, .int (x4 + nI 4), u5, u6]) (by decide +kernel : kd_ 146 629 = ((6, 4, 4, []), 632)) rfl rfl).trans ?_
  refine (g_30 (by decide +kernel : kd_ 146 632 = ((30, 43, 0, []), 635))).trans ?_
  rfl
theorem b_W_law_635 {L : Nat} {f : cg_G} {e : Nat × Nat} {x4 : Int32} {a0 a1 a2 a3 : Nat} {u5 u6 : Value} : cj_res 146 635 [.ref a0, .ref a1, .ref a2, .ref a3, .int x4, u5, u6] [] (cg_M L f e) = some (.inl (some (.int (nI 1))), cg_M L f e) := by
  refine (g_0 (by decide +kernel : kd_ 146 635 = ((0, 1, 0, []), 636))).trans ?_
  exact g_93 (by decide +kernel : kd_ 146 636 = ((93, 0, 0, []), 637)) (by decide)
