/-! the law's loop -/
theorem s_0 : sh_ 0 = 100 := by decide +kernel
theorem s_220 : sh_ 236 = 102 := by decide +kernel
theorem i_220 {L : Nat} : cg_in (nI 0) (ln_ L 236) := by rw [show ln_ L 236 = 1 from rfl, t_in, nI_toInt (by decide)]; decide
theorem i_x {L j : Nat} {x4 : Int32} (h0 : 0 ≤ x4.toInt) (h4 : x4.toInt + 4 ≤ (L : Int) ∧ L ≤ 2050) (hj : j < 4) : cg_in (x4 + nI j) (ln_ L 0) := by
  have e : ln_ L 0 = L := rfl
  have e2 : (nI j).toInt = (j : Int) := nI_toInt (by omega)
  rw [e, t_in, t_addn (by omega)]
  omega
theorem i_x0 {L : Nat} {x4 : Int32} (h0 : 0 ≤ x4.toInt) (h4 : x4.toInt + 4 ≤ (L : Int) ∧ L ≤ 2050) : cg_in x4 (ln_ L 0) := by
  have e : ln_ L 0 = L := rfl
  rw [e, t_in]
  omega
def LC (L : Nat) (f : cg_G) (e : Nat × Nat) (x4 : Int32) (u5 u6 : Value) (p : Nat) : Prop := ∃ (f' : cg_G) (e' : Nat × Nat) (u5' u6' : Value), cj_res 146 p [.ref 0, .ref 1, .ref 206, .ref 236, .int x4, u5, u6] [] (cg_M L f e) = cj_res 146 629 [.ref 0, .ref 1, .ref 206, .ref 236, .int x4, u5', u6'] [] (cg_M L f' e') ∧ cI L f' ∧ REL f' ∧ e'.1 ≤ e.1 + 1 ∧ e'.2 ≤ e.2 + 6
theorem lg_same (x : Int64) : lg_cmp x x = 0 := by unfold lg_cmp; rw [if_neg (by intro h; exact absurd h Int64.lt_irrefl), if_pos rfl]
theorem lc_unit {L : Nat} {f : cg_G} {e : Nat × Nat} {x4 : Int32} {u5 u6 : Value} (hI : cI L f) (h : REL f) (h0 : 0 ≤ x4.toInt) (h4 : x4.toInt + 4 ≤ (L : Int) ∧ L ≤ 2050) : LC L f e x4 u5 u6 128 := by
  obtain ⟨k, f1, e1, b, f2, w1, w2, w3, w4, w5, w6, w7, w8, w9⟩ := cs_unit (L := L) (f := f) (e := e) (x1 := f 0 (x4 + nI 1).toNatClampNeg) (x2 := f 0 (x4 + nI 2).toNatClampNeg) hI h
  obtain ⟨v, f3, t1, t2, t3, t4⟩ := c_M_thrown (e := e1) w5 s_190
  obtain rfl := cF_no t3
  obtain ⟨y, rfl, t4⟩ := t4
  have hk : y = k := t_eq.mpr (by rw [t4]; exact w9.1)
  refine ⟨f2, e1, .int k, .int b, ?_, w5, w7, w8.1, w8.2⟩
  rw [b_W_law_128 s_0 (i_x h0 h4 (show 1 < 4 by decide)) (i_x h0 h4 (show 2 < 4 by decide)), w1]
  show cj_res 146 145 [.ref 0, .ref 1, .ref 206, .ref 236, .int x4, u5, u6] [.int k] (cg_M L f1 e1) = _
  rw [b_W_law_145 s_0 (i_x h0 h4 (show 1 < 4 by decide)) (i_x h0 h4 (show 2 < 4 by decide)) s_190]
  rw [w3]
  rw [w4]
  show cj_res 146 163 [.ref 0, .ref 1, .ref 206, .ref 236, .int x4, .int k, u6] [.int b] (cg_M L f2 e1) = _
  rw [b_W_law_163 s_190, t1]
  show cj_res 146 169 [.ref 0, .ref 1, .ref 206, .ref 236, .int x4, .int k, .int b] [.int y] (cg_M L f2 e1) = _
  rw [b_W_law_169, if_pos hk, b_W_law_176]
  by_cases hz : k = 0
  · rw [if_pos hz, b_W_law_181 s_220 i_220]
    have hb : f2 236 (nI 0).toNatClampNeg = b := by rw [nI_clamp (by decide)]; exact w9.2 (by rw [hz]; exact t_0)
    rw [hb, if_pos (lg_same b.toInt64), b_W_law_193]
  · rw [if_neg hz, b_W_law_193]
theorem lc_template {L : Nat} {f : cg_G} {e : Nat × Nat} {x4 : Int32} {u5 u6 : Value} (hI : cI L f) (h : REL f) (h0 : 0 ≤ x4.toInt) (h4 : x4.toInt + 4 ≤ (L : Int) ∧ L ≤ 2050) : LC L f e x4 u5 u6 196 := by
  obtain ⟨k, f1, e1, b, f2, w1, w2, w3, w4, w5, w6, w7, w8, w9⟩ := cs_template (L := L) (f := f) (e := e)  hI h
  refine ⟨f2, e1, .int k, .int b, ?_, w5, w7, w8.1, w8.2⟩
  rw [b_W_law_196, w1]
  show cj_res 146 201 [.ref 0, .ref 1, .ref 206, .ref 236, .int x4, u5, u6] [.int k] (cg_M L f1 e1) = _
  rw [b_W_law_201 s_190]
  rw [w4]
  show cj_res 146 207 [.ref 0, .ref 1, .ref 206, .ref 236, .int x4, .int k, u6] [.int b] (cg_M L f2 e1) = _
  rw [b_W_law_207]
theorem lc_entry {L : Nat} {f : cg_G} {e : Nat × Nat} {x4 : Int32} {u5 u6 : Value} (hI : cI L f) (h : REL f) (h0 : 0 ≤ x4.toInt) (h4 : x4.toInt + 4 ≤ (L : Int) ∧ L ≤ 2050) : LC L f e x4 u5 u6 212 := by
  obtain ⟨k, f1, e1, b, f2, w1, w2, w3, w4, w5, w6, w7, w8, w9⟩ := cs_entry (L := L) (f := f) (e := e) (x1 := f 0 (x4 + nI 1).toNatClampNeg) hI h
  refine ⟨f2, e1, .int k, .int b, ?_, w5, w7, w8.1, w8.2⟩
  rw [b_W_law_212 s_0 (i_x h0 h4 (show 1 < 4 by decide)), w1]
  show cj_res 146 223 [.ref 0, .ref 1, .ref 206, .ref 236, .int x4, u5, u6] [.int k] (cg_M L f1 e1) = _
  rw [b_W_law_223 s_0 (i_x h0 h4 (show 1 < 4 by decide)) s_190]
  rw [w3]
  rw [w4]
  show cj_res 146 235 [.ref 0, .ref 1, .ref 206, .ref 236, .int x4, .int k, u6] [.int b] (cg_M L f2 e1) = _
  rw [b_W_law_235]
theorem lc_field {L : Nat} {f : cg_G} {e : Nat × Nat} {x4 : Int32} {u5 u6 : Value} (hI : cI L f) (h : REL f) (h0 : 0 ≤ x4.toInt) (h4 : x4.toInt + 4 ≤ (L : Int) ∧ L ≤ 2050) : LC L f e x4 u5 u6 240 := by
  obtain ⟨k, f1, e1, b, f2, w1, w2, w3, w4, w5, w6, w7, w8, w9⟩ := cs_field (L := L) (f := f) (e := e) (x1 := f 0 (x4 + nI 1).toNatClampNeg) (x2 := f 0 (x4 + nI 2).toNatClampNeg) hI h
  refine ⟨f2, e1, .int k, .int b, ?_, w5, w7, w8.1, w8.2⟩
  rw [b_W_law_240 s_0 (i_x h0 h4 (show 1 < 4 by decide)) (i_x h0 h4 (show 2 < 4 by decide)), w1]
  show cj_res 146 257 [.ref 0, .ref 1, .ref 206, .ref 236, .int x4, u5, u6] [.int k] (cg_M L f1 e1) = _
  rw [b_W_law_257 s_0 (i_x h0 h4 (show 1 < 4 by decide)) (i_x h0 h4 (show 2 < 4 by decide)) s_190]
  rw [w3]
  rw [w4]
  show cj_res 146 275 [.ref 0, .ref 1, .ref 206, .ref 236, .int x4, .int k, u6] [.int b] (cg_M L f2 e1) = _
  rw [b_W_law_275]
theorem lc_claim {L : Nat} {f : cg_G} {e : Nat × Nat} {x4 : Int32} {u5 u6 : Value} (hI : cI L f) (h : REL f) (h0 : 0 ≤ x4.toInt) (h4 : x4.toInt + 4 ≤ (L : Int) ∧ L ≤ 2050) : LC L f e x4 u5 u6 280 := by
  obtain ⟨k, f1, e1, b, f2, w1, w2, w3, w4, w5, w6, w7, w8, w9⟩ := cs_claim (L := L) (f := f) (e := e) (x1 := f 0 (x4 + nI 1).toNatClampNeg) (x2 := f 0 (x4 + nI 2).toNatClampNeg) (x3 := f 0 (x4 + nI 3).toNatClampNeg) hI h
  refine ⟨f2, e1, .int k, .int b, ?_, w5, w7, w8.1, w8.2⟩
  rw [b_W_law_280 s_0 (i_x h0 h4 (show 1 < 4 by decide)) (i_x h0 h4 (show 2 < 4 by decide)) (i_x h0 h4 (show 3 < 4 by decide)), w1]
  show cj_res 146 303 [.ref 0, .ref 1, .ref 206, .ref 236, .int x4, u5, u6] [.int k] (cg_M L f1 e1) = _
  rw [b_W_law_303 s_0 (i_x h0 h4 (show 1 < 4 by decide)) (i_x h0 h4 (show 2 < 4 by decide)) (i_x h0 h4 (show 3 < 4 by decide)) s_190]
  rw [w3]
  rw [w4]
  show cj_res 146 327 [.ref 0, .ref 1, .ref 206, .ref 236, .int x4, .int k, u6] [.int b] (cg_M L f2 e1) = _
  rw [b_W_law_327]
theorem lc_picture {L : Nat} {f : cg_G} {e : Nat × Nat} {x4 : Int32} {u5 u6 : Value} (hI : cI L f) (h : REL f) (h0 : 0 ≤ x4.toInt) (h4 : x4.toInt + 4 ≤ (L : Int) ∧ L ≤ 2050) : LC L f e x4 u5 u6 332 := by
  obtain ⟨k, f1, e1, b, f2, w1, w2, w3, w4, w5, w6, w7, w8, w9⟩ := cs_picture (L := L) (f := f) (e := e) (x1 := f 0 (x4 + nI 1).toNatClampNeg) (x2 := f 0 (x4 + nI 2).toNatClampNeg) hI h
  refine ⟨f2, e1, .int k, .int b, ?_, w5, w7, w8.1, w8.2⟩
  rw [b_W_law_332 s_0 (i_x h0 h4 (show 1 < 4 by decide)) (i_x h0 h4 (show 2 < 4 by decide)), w1]
  show cj_res 146 349 [.ref 0, .ref 1, .ref 206, .ref 236, .int x4, u5, u6] [.int k] (cg_M L f1 e1) = _
  rw [b_W_law_349 s_0 (i_x h0 h4 (show 1 < 4 by decide)) (i_x h0 h4 (show 2 < 4 by decide)) s_190]
  rw [w3]
  rw [w4]
  show cj_res 146 367 [.ref 0, .ref 1, .ref 206, .ref 236, .int x4, .int k, u6] [.int b] (cg_M L f2 e1) = _
  rw [b_W_law_367]
theorem lc_order {L : Nat} {f : cg_G} {e : Nat × Nat} {x4 : Int32} {u5 u6 : Value} (hI : cI L f) (h : REL f) (h0 : 0 ≤ x4.toInt) (h4 : x4.toInt + 4 ≤ (L : Int) ∧ L ≤ 2050) : LC L f e x4 u5 u6 372 := by
  obtain ⟨k, f1, e1, b, f2, w1, w2, w3, w4, w5, w6, w7, w8, w9⟩ := cs_order (L := L) (f := f) (e := e)  hI h
  refine ⟨f2, e1, .int k, .int b, ?_, w5, w7, w8.1, w8.2⟩
  rw [b_W_law_372, w1]
  show cj_res 146 377 [.ref 0, .ref 1, .ref 206, .ref 236, .int x4, u5, u6] [.int k] (cg_M L f1 e1) = _
  rw [b_W_law_377 s_190]
  rw [w4]
  show cj_res 146 383 [.ref 0, .ref 1, .ref 206, .ref 236, .int x4, .int k, u6] [.int b] (cg_M L f2 e1) = _
  rw [b_W_law_383]
theorem lc_run {L : Nat} {f : cg_G} {e : Nat × Nat} {x4 : Int32} {u5 u6 : Value} (hI : cI L f) (h : REL f) (h0 : 0 ≤ x4.toInt) (h4 : x4.toInt + 4 ≤ (L : Int) ∧ L ≤ 2050) : LC L f e x4 u5 u6 388 := by
  obtain ⟨k, f1, e1, b, f2, w1, w2, w3, w4, w5, w6, w7, w8, w9⟩ := cs_run (L := L) (f := f) (e := e)  hI h
  refine ⟨f2, e1, u5, u6, ?_, w5, w7, w8.1, w8.2⟩
  rw [b_W_law_388 s_1, w1]
  show cj_res 146 392 [.ref 0, .ref 1, .ref 206, .ref 236, .int x4, u5, u6] [.int k] (cg_M L f1 e1) = _
  rw [b_W_law_392 s_190]
  rw [w4]
  show cj_res 146 397 [.ref 0, .ref 1, .ref 206, .ref 236, .int x4, u5, u6] [.int b] (cg_M L f2 e1) = _
  rw [b_W_law_397]
theorem lc_about {L : Nat} {f : cg_G} {e : Nat × Nat} {x4 : Int32} {u5 u6 : Value} (hI : cI L f) (h : REL f) (h0 : 0 ≤ x4.toInt) (h4 : x4.toInt + 4 ≤ (L : Int) ∧ L ≤ 2050) : LC L f e x4 u5 u6 401 := by
  obtain ⟨k, f1, e1, b, f2, w1, w2, w3, w4, w5, w6, w7, w8, w9⟩ := cs_about (L := L) (f := f) (e := e) (x1 := f 0 (x4 + nI 1).toNatClampNeg) hI h
  refine ⟨f2, e1, .int k, .int b, ?_, w5, w7, w8.1, w8.2⟩
  rw [b_W_law_401 s_0 (i_x h0 h4 (show 1 < 4 by decide)), w1]
  show cj_res 146 412 [.ref 0, .ref 1, .ref 206, .ref 236, .int x4, u5, u6] [.int k] (cg_M L f1 e1) = _
  rw [b_W_law_412 s_0 (i_x h0 h4 (show 1 < 4 by decide)) s_190]
  rw [w3]
  rw [w4]
  show cj_res 146 424 [.ref 0, .ref 1, .ref 206, .ref 236, .int x4, .int k, u6] [.int b] (cg_M L f2 e1) = _
  rw [b_W_law_424]
theorem lc_page {L : Nat} {f : cg_G} {e : Nat × Nat} {x4 : Int32} {u5 u6 : Value} (hI : cI L f) (h : REL f) (h0 : 0 ≤ x4.toInt) (h4 : x4.toInt + 4 ≤ (L : Int) ∧ L ≤ 2050) : LC L f e x4 u5 u6 429 := by
  obtain ⟨k, f1, e1, b, f2, w1, w2, w3, w4, w5, w6, w7, w8, w9⟩ := cs_page (L := L) (f := f) (e := e) (x1 := f 0 (x4 + nI 1).toNatClampNeg) hI h
  refine ⟨f2, e1, .int k, .int b, ?_, w5, w7, w8.1, w8.2⟩
  rw [b_W_law_429 s_0 (i_x h0 h4 (show 1 < 4 by decide)), w1]
  show cj_res 146 440 [.ref 0, .ref 1, .ref 206, .ref 236, .int x4, u5, u6] [.int k] (cg_M L f1 e1) = _
  rw [b_W_law_440 s_0 (i_x h0 h4 (show 1 < 4 by decide)) s_190]
  rw [w3]
  rw [w4]
  show cj_res 146 452 [.ref 0, .ref 1, .ref 206, .ref 236, .int x4, .int k, u6] [.int b] (cg_M L f2 e1) = _
  rw [b_W_law_452]
theorem lc_line {L : Nat} {f : cg_G} {e : Nat × Nat} {x4 : Int32} {u5 u6 : Value} (hI : cI L f) (h : REL f) (h0 : 0 ≤ x4.toInt) (h4 : x4.toInt + 4 ≤ (L : Int) ∧ L ≤ 2050) : LC L f e x4 u5 u6 457 := by
  obtain ⟨k, f1, e1, b, f2, w1, w2, w3, w4, w5, w6, w7, w8, w9⟩ := cs_line (L := L) (f := f) (e := e) (x1 := f 0 (x4 + nI 1).toNatClampNeg) (x2 := f 0 (x4 + nI 2).toNatClampNeg) (x3 := f 0 (x4 + nI 3).toNatClampNeg) hI h
  refine ⟨f2, e1, .int k, .int b, ?_, w5, w7, w8.1, w8.2⟩
  rw [b_W_law_457 s_0 (i_x h0 h4 (show 1 < 4 by decide)) (i_x h0 h4 (show 2 < 4 by decide)) (i_x h0 h4 (show 3 < 4 by decide)), w1]
  show cj_res 146 480 [.ref 0, .ref 1, .ref 206, .ref 236, .int x4, u5, u6] [.int k] (cg_M L f1 e1) = _
  rw [b_W_law_480 s_0 (i_x h0 h4 (show 1 < 4 by decide)) (i_x h0 h4 (show 2 < 4 by decide)) (i_x h0 h4 (show 3 < 4 by decide)) s_190]
  rw [w3]
  rw [w4]
  show cj_res 146 504 [.ref 0, .ref 1, .ref 206, .ref 236, .int x4, .int k, u6] [.int b] (cg_M L f2 e1) = _
  rw [b_W_law_504]
theorem lc_sign {L : Nat} {f : cg_G} {e : Nat × Nat} {x4 : Int32} {u5 u6 : Value} (hI : cI L f) (h : REL f) (h0 : 0 ≤ x4.toInt) (h4 : x4.toInt + 4 ≤ (L : Int) ∧ L ≤ 2050) : LC L f e x4 u5 u6 509 := by
  obtain ⟨k, f1, e1, b, f2, w1, w2, w3, w4, w5, w6, w7, w8, w9⟩ := cs_sign (L := L) (f := f) (e := e) (x1 := f 0 (x4 + nI 1).toNatClampNeg) (x2 := f 0 (x4 + nI 2).toNatClampNeg) (x3 := f 0 (x4 + nI 3).toNatClampNeg) hI h
  refine ⟨f2, e1, .int k, .int b, ?_, w5, w7, w8.1, w8.2⟩
  rw [b_W_law_509 s_0 (i_x h0 h4 (show 1 < 4 by decide)) (i_x h0 h4 (show 2 < 4 by decide)) (i_x h0 h4 (show 3 < 4 by decide)), w1]
  show cj_res 146 532 [.ref 0, .ref 1, .ref 206, .ref 236, .int x4, u5, u6] [.int k] (cg_M L f1 e1) = _
  rw [b_W_law_532 s_0 (i_x h0 h4 (show 1 < 4 by decide)) (i_x h0 h4 (show 2 < 4 by decide)) (i_x h0 h4 (show 3 < 4 by decide)) s_190]
  rw [w3]
  rw [w4]
  show cj_res 146 556 [.ref 0, .ref 1, .ref 206, .ref 236, .int x4, .int k, u6] [.int b] (cg_M L f2 e1) = _
  rw [b_W_law_556]
theorem lc_index {L : Nat} {f : cg_G} {e : Nat × Nat} {x4 : Int32} {u5 u6 : Value} (hI : cI L f) (h : REL f) (h0 : 0 ≤ x4.toInt) (h4 : x4.toInt + 4 ≤ (L : Int) ∧ L ≤ 2050) : LC L f e x4 u5 u6 561 := by
  obtain ⟨k, f1, e1, b, f2, w1, w2, w3, w4, w5, w6, w7, w8, w9⟩ := cs_index (L := L) (f := f) (e := e) (x1 := f 0 (x4 + nI 1).toNatClampNeg) (x2 := f 0 (x4 + nI 2).toNatClampNeg) hI h
  refine ⟨f2, e1, .int k, .int b, ?_, w5, w7, w8.1, w8.2⟩
  rw [b_W_law_561 s_0 (i_x h0 h4 (show 1 < 4 by decide)) (i_x h0 h4 (show 2 < 4 by decide)), w1]
  show cj_res 146 578 [.ref 0, .ref 1, .ref 206, .ref 236, .int x4, u5, u6] [.int k] (cg_M L f1 e1) = _
  rw [b_W_law_578 s_0 (i_x h0 h4 (show 1 < 4 by decide)) (i_x h0 h4 (show 2 < 4 by decide)) s_190]
  rw [w3]
  rw [w4]
  show cj_res 146 596 [.ref 0, .ref 1, .ref 206, .ref 236, .int x4, .int k, u6] [.int b] (cg_M L f2 e1) = _
  rw [b_W_law_596]
theorem lc_count {L : Nat} {f : cg_G} {e : Nat × Nat} {x4 : Int32} {u5 u6 : Value} (hI : cI L f) (h : REL f) (h0 : 0 ≤ x4.toInt) (h4 : x4.toInt + 4 ≤ (L : Int) ∧ L ≤ 2050) : LC L f e x4 u5 u6 601 := by
  obtain ⟨k, f1, e1, b, f2, w1, w2, w3, w4, w5, w6, w7, w8, w9⟩ := cs_count (L := L) (f := f) (e := e) (x1 := f 0 (x4 + nI 1).toNatClampNeg) hI h
  refine ⟨f2, e1, .int k, .int b, ?_, w5, w7, w8.1, w8.2⟩
  rw [b_W_law_601 s_0 (i_x h0 h4 (show 1 < 4 by decide)), w1]
  show cj_res 146 612 [.ref 0, .ref 1, .ref 206, .ref 236, .int x4, u5, u6] [.int k] (cg_M L f1 e1) = _
  rw [b_W_law_612 s_0 (i_x h0 h4 (show 1 < 4 by decide)) s_190]
  rw [w3]
  rw [w4]
  show cj_res 146 624 [.ref 0, .ref 1, .ref 206, .ref 236, .int x4, .int k, u6] [.int b] (cg_M L f2 e1) = _
  rw [b_W_law_624]
theorem lw_body {L : Nat} {f : cg_G} {e : Nat × Nat} {x4 : Int32} {u5 u6 : Value} (hI : cI L f) (h : REL f) (h0 : 0 ≤ x4.toInt) (h4 : x4.toInt + 4 ≤ (L : Int) ∧ L ≤ 2050) : LC L f e x4 u5 u6 52 := by
  have hs : LC L f e x4 u5 u6 (cj_sw (f 0 x4.toNatClampNeg &&& nI 15) 0 629 [128, 196, 212, 240, 280, 332, 372, 388, 401, 429, 457, 509, 561, 601]) := by
    refine sw_cases (A := fun p => LC L f e x4 u5 u6 p) (fun _ => ⟨f, e, u5, u6, rfl, hI, h, Nat.le_succ _, Nat.le_add_right _ _⟩) (fun i hi hx => ?_)
    match i, hi with
    | 0, _ => exact lc_unit hI h h0 h4
    | 1, _ => exact lc_template hI h h0 h4
    | 2, _ => exact lc_entry hI h h0 h4
    | 3, _ => exact lc_field hI h h0 h4
    | 4, _ => exact lc_claim hI h h0 h4
    | 5, _ => exact lc_picture hI h h0 h4
    | 6, _ => exact lc_order hI h h0 h4
    | 7, _ => exact lc_run hI h h0 h4
    | 8, _ => exact lc_about hI h h0 h4
    | 9, _ => exact lc_page hI h h0 h4
    | 10, _ => exact lc_line hI h h0 h4
    | 11, _ => exact lc_sign hI h h0 h4
    | 12, _ => exact lc_index hI h h0 h4
    | 13, _ => exact lc_count hI h h0 h4
    | i + 14, hi => exact absurd hi (by simp)
  obtain ⟨f', e', a, b, q1, q2, q3, q4, q5⟩ := hs
  exact ⟨f', e', a, b, by rw [b_W_law_52 s_0 (i_x0 h0 h4)]; exact q1, q2, q3, q4, q5⟩
theorem lw_loop {L : Nat} (hL : L ≤ 2050) : ∀ (n : Nat) {f : cg_G} {e : Nat × Nat} {x4 : Int32} {u5 u6 : Value}, ((L : Int) - x4.toInt).toNat < n → cI L f → REL f → 0 ≤ x4.toInt → x4.toInt ≤ 3000 → e.1 + n ≤ 601024 → e.2 + 6 * n ≤ 7292999 → ∃ M' : cj_M, cj_res 146 43 [.ref 0, .ref 1, .ref 206, .ref 236, .int x4, u5, u6] [] (cg_M L f e) = some (.inl (some (.int 1)), M') ∧ M'.2.2.1 ≤ 601024 ∧ M'.2.2.2 ≤ 7292999 := by
  intro n
  induction n with
  | zero => intro f e x4 u5 u6 hm; omega
  | succ n ih =>
    intro f e x4 u5 u6 hm hI h h0 h3 e1 e2
    have z4 : (nI 4).toInt = 4 := nI_toInt (by decide)
    have zl : (nI (ln_ L 0)).toInt = (L : Int) := nI_toInt (show ln_ L 0 < 2 ^ 31 from Nat.lt_of_le_of_lt hL (by decide))
    have zs : (nI (ln_ L 0) - nI 4).toInt = (L : Int) - 4 := by rw [t_subn (by rw [zl, z4]; omega), zl, z4]
    rw [b_W_law_43 s_0]
    by_cases c : nI (ln_ L 0) - nI 4 < x4
    · rw [if_pos c, b_W_law_635]
      exact ⟨cg_M L f e, rfl, by show e.1 ≤ _; omega, by show e.2 ≤ _; omega⟩
    · rw [if_neg c]
      rw [t_lt, zs] at c
      have h4 : x4.toInt + 4 ≤ (L : Int) ∧ L ≤ 2050 := ⟨by omega, hL⟩
      obtain ⟨f', e', a, b, q1, q2, q3, q4, q5⟩ := lw_body (e := e) (u5 := u5) (u6 := u6) hI h h0 h4
      rw [q1, b_W_law_629]
      have hx : (x4 + nI 4).toInt = x4.toInt + 4 := by rw [t_addn (by rw [z4]; omega), z4]
      exact ih (by rw [hx]; omega) q2 q3 (by rw [hx]; omega) (by rw [hx]; omega) (by omega) (by omega)
