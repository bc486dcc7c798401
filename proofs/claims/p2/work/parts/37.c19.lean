set_option maxHeartbeats 8000000 in
theorem l_M_turn_80 {L : Nat} {e : Nat × Nat} {f0 : cg_G} {Q : Option Value → cg_G → Prop} {a0 : Nat} {x1 : Int32} {x2 : Int32} {x3 : Int32} (s0 : sh_ a0 = 7) (d1 : 0 ≤ x1.toInt ∧ x1.toInt ≤ 1) (d3 : 0 ≤ x3.toInt ∧ x3.toInt < (f0 (a0 + 23) x1.toNatClampNeg).toInt) (du : 0 ≤ (f0 (a0 + 23) x1.toNatClampNeg).toInt ∧ (f0 (a0 + 23) x1.toNatClampNeg).toInt ≤ 900) : ∀ (k : Nat) {f : cg_G} {x4 : Int32} {x5 : Int32} {u6 : Value}, (1800 - x5.toInt).toNat < k → cI L f → cF (fun o => o = a0 + 13 ∨ o = a0 + 14 ∨ o = a0 + 16 ∨ o = a0 + 17 ∨ o = a0 + 28 ∨ o = a0 + 29) f0 f → (0 ≤ x5.toInt ∧ 900 * x1.toInt + x3.toInt ≤ x5.toInt) → (solved (f (a0 + 13)) (f (a0 + 14)) (-1) (f0 (a0 + 23) x1.toNatClampNeg).toInt) → (∀ (f' : cg_G) (x4' : Int32) (x5' : Int32) (u6' : Value), cI L f' → cF (fun o => o = a0 + 13 ∨ o = a0 + 14 ∨ o = a0 + 16 ∨ o = a0 + 17 ∨ o = a0 + 28 ∨ o = a0 + 29) f0 f' → (solved (f' (a0 + 13)) (f' (a0 + 14)) (-1) (f0 (a0 + 23) x1.toNatClampNeg).toInt) → cT 123 176 [.ref a0, .int x1, .int x2, .int x3, .int x4', .int x5', u6'] [] L e (fun o => o = a0 + 13 ∨ o = a0 + 14 ∨ o = a0 + 16 ∨ o = a0 + 17 ∨ o = a0 + 28 ∨ o = a0 + 29) f0 f' Q) → cT 123 80 [.ref a0, .int x1, .int x2, .int x3, .int x4, .int x5, u6] [] L e (fun o => o = a0 + 13 ∨ o = a0 + 14 ∨ o = a0 + 16 ∨ o = a0 + 17 ∨ o = a0 + 28 ∨ o = a0 + 29) f0 f Q := by
  intro k
  induction k with
  | zero => intro f x4 x5 u6 hm; omega
  | succ k ih =>
    intro f x4 x5 u6 hm hI hF d5 so hx
    have hm := one_7 s0
    have eu : (f (a0 + 23) x1.toNatClampNeg).toInt = (f0 (a0 + 23) x1.toNatClampNeg).toInt := by rw [hF (a0 + 23) (by omega)]
    have t_1 := t_rng (x1)
    have t_2 := t_rng (x2)
    have t_3 := t_rng (x3)
    have t_4 := t_rng (x4)
    have t_5 := t_rng (x5)
    have q := so x3.toNatClampNeg (by rw [t_cl]; omega) (by rw [t_cl]; omega)
    have q2 := t_cl x3
    have t_10 : (nI 900).toInt = 900 := nI_toInt (by decide)
    first | have t_9 : (((nI 900)) * x1).toInt = 900 * (x1).toInt := t_mulc (by decide) (by omega) | (obtain ⟨kt_9, t_9⟩ := t_mul ((nI 900)) x1; rw [nI_toInt (show 900 < 2 ^ 31 by decide)] at t_9)
    first | have t_8 : ((((nI 900) * x1)) + x3).toInt = ((((nI 900) * x1))).toInt + (x3).toInt := t_addn (by omega) | obtain ⟨kt_8, t_8⟩ := t_add (((nI 900) * x1)) x3
    have t_11 := t_rng (f (a0 + 14) x3.toNatClampNeg)
    first | have t_7 : (((((nI 900) * x1) + x3)) + ((f (a0 + 14) x3.toNatClampNeg))).toInt = (((((nI 900) * x1) + x3))).toInt + (((f (a0 + 14) x3.toNatClampNeg))).toInt := t_addn (by omega) | obtain ⟨kt_7, t_7⟩ := t_add ((((nI 900) * x1) + x3)) ((f (a0 + 14) x3.toNatClampNeg))
    refine cT_if (b_M_turn_80 s0 (by rw [t_in]; omega)) (fun c_6 => ?_) (fun c_6 => ?_)
    · rw [t_le] at c_6; try rw [t_0] at c_6
      exact hx _ _ _ _ hI hF so
    · rw [t_le] at c_6; try rw [t_0] at c_6
      have hI_12 := cI_up (k := x5.toNatClampNeg) (x := x2) hI (sc_7_37 s0) ⟨(fun _ => by omega), (fun _ => by omega), (fun _ => by omega), (fun _ => by omega), (fun _ => by omega), (fun _ => by omega), (fun _ => by omega), (fun _ => by omega), (fun _ => by omega), (fun _ => by omega), (fun _ => by omega), (fun _ => by omega), (fun _ => by omega)⟩
      have hF_13 := cF_up (a := a0 + 28) (k := x5.toNatClampNeg) (x := x2) hF (by omega)
      have hI_14 := cI_up (k := x5.toNatClampNeg) (x := x4) hI_12 (sc_7_38 s0) ⟨(fun _ => by omega), (fun _ => by omega), (fun _ => by omega), (fun _ => by omega), (fun _ => by omega), (fun _ => by omega), (fun _ => by omega), (fun _ => by omega), (fun _ => by omega), (fun _ => by omega), (fun _ => by omega), (fun _ => by omega), (fun _ => by omega)⟩
      have hF_15 := cF_up (a := a0 + 29) (k := x5.toNatClampNeg) (x := x4) hF_13 (by omega)
      refine cT_call (b_M_turn_99 s0 (by rw [t_in]; omega)) (c_M_high hI_14 s0 (by first | omega | assumption | exact sl_4_4 (by assumption))) hF_15 (fun o ho => ho.elim) (fun v_16 f_17 hI_18 hG_19 hF_20 hQ_21 => ?_)
      obtain rfl := cF_no hG_19
      obtain ⟨y_22, rfl, hQ_21⟩ := hQ_21
      have hQ_21r := t_rng y_22
      show cT 123 124 [.ref a0, .int x1, .int x2, .int x3, .int x4, .int x5, u6] [.int y_22, .int x4] _ _ _ _ _ _
      have t_25 : (nI 8).toInt = 8 := nI_toInt (by decide)
      first | have t_24 : (((nI 8)) * x1).toInt = 8 * (x1).toInt := t_mulc (by decide) (by omega) | (obtain ⟨kt_24, t_24⟩ := t_mul ((nI 8)) x1; rw [nI_toInt (show 8 < 2 ^ 31 by decide)] at t_24)
      have t_26 : ((cg_up (cg_up f (a0 + 28) x5.toNatClampNeg x2) (a0 + 29) x5.toNatClampNeg x4) (a0 + 24) x5.toNatClampNeg).toInt = ((cg_up f (a0 + 28) x5.toNatClampNeg x2) (a0 + 24) x5.toNatClampNeg).toInt := by rw [cg_up_o (by omega)]
      have t_27 : ((cg_up f (a0 + 28) x5.toNatClampNeg x2) (a0 + 24) x5.toNatClampNeg).toInt = (f (a0 + 24) x5.toNatClampNeg).toInt := by rw [cg_up_o (by omega)]
      have t_28 : 0 ≤ (f (a0 + 24) x5.toNatClampNeg).toInt ∧ (f (a0 + 24) x5.toNatClampNeg).toInt ≤ 7 := (cI_at hI x5.toNatClampNeg (sc_7_33 s0)).2.2.2.2.2.2.2.1 (by omega)
      first | have t_23 : ((((nI 8) * x1)) + (((cg_up (cg_up f (a0 + 28) x5.toNatClampNeg x2) (a0 + 29) x5.toNatClampNeg x4) (a0 + 24) x5.toNatClampNeg))).toInt = ((((nI 8) * x1))).toInt + ((((cg_up (cg_up f (a0 + 28) x5.toNatClampNeg x2) (a0 + 29) x5.toNatClampNeg x4) (a0 + 24) x5.toNatClampNeg))).toInt := t_addn (by omega) | obtain ⟨kt_23, t_23⟩ := t_add (((nI 8) * x1)) (((cg_up (cg_up f (a0 + 28) x5.toNatClampNeg x2) (a0 + 29) x5.toNatClampNeg x4) (a0 + 24) x5.toNatClampNeg))
      have t_30 : ((cg_up (cg_up f (a0 + 28) x5.toNatClampNeg x2) (a0 + 29) x5.toNatClampNeg x4) (a0 + 17) (((nI 8) * x1) + ((cg_up (cg_up f (a0 + 28) x5.toNatClampNeg x2) (a0 + 29) x5.toNatClampNeg x4) (a0 + 24) x5.toNatClampNeg)).toNatClampNeg).toInt = ((cg_up f (a0 + 28) x5.toNatClampNeg x2) (a0 + 17) (((nI 8) * x1) + ((cg_up (cg_up f (a0 + 28) x5.toNatClampNeg x2) (a0 + 29) x5.toNatClampNeg x4) (a0 + 24) x5.toNatClampNeg)).toNatClampNeg).toInt := by rw [cg_up_o (by omega)]
      have t_31 : ((cg_up f (a0 + 28) x5.toNatClampNeg x2) (a0 + 17) (((nI 8) * x1) + ((cg_up (cg_up f (a0 + 28) x5.toNatClampNeg x2) (a0 + 29) x5.toNatClampNeg x4) (a0 + 24) x5.toNatClampNeg)).toNatClampNeg).toInt = (f (a0 + 17) (((nI 8) * x1) + ((cg_up (cg_up f (a0 + 28) x5.toNatClampNeg x2) (a0 + 29) x5.toNatClampNeg x4) (a0 + 24) x5.toNatClampNeg)).toNatClampNeg).toInt := by rw [cg_up_o (by omega)]
      have t_32 := t_rng (f (a0 + 17) (((nI 8) * x1) + ((cg_up (cg_up f (a0 + 28) x5.toNatClampNeg x2) (a0 + 29) x5.toNatClampNeg x4) (a0 + 24) x5.toNatClampNeg)).toNatClampNeg)
      have t_33 := t_neg1
      refine cT_if (b_M_turn_124 s0 (by rw [t_in]; omega) (by rw [t_in]; omega)) (fun c_29 => ?_) (fun c_29 => ?_)
      · rw [t_eq] at c_29; try rw [t_0] at c_29
        refine cT_go b_M_turn_158 ?_
        have hI_34 := cI_up (k := (((nI 8) * x1) + ((cg_up (cg_up f (a0 + 28) x5.toNatClampNeg x2) (a0 + 29) x5.toNatClampNeg x4) (a0 + 24) x5.toNatClampNeg)).toNatClampNeg) (x := x2) hI_14 (sc_7_26 s0) ⟨(fun _ => by omega), (fun _ => by omega), (fun _ => by omega), (fun _ => by omega), (fun _ => by omega), (fun _ => by omega), (fun _ => by omega), (fun _ => by omega), (fun _ => by omega), (fun _ => by omega), (fun _ => by omega), (fun _ => by omega), (fun _ => by omega)⟩
        have hF_35 := cF_up (a := a0 + 17) (k := (((nI 8) * x1) + ((cg_up (cg_up f (a0 + 28) x5.toNatClampNeg x2) (a0 + 29) x5.toNatClampNeg x4) (a0 + 24) x5.toNatClampNeg)).toNatClampNeg) (x := x2) hF_15 (by omega)
        refine cT_go (b_M_turn_169 (sc_7_26 s0) (by rw [sl_7_26 s0, t_in]; omega) (by omega)) ?_
        first | have t_36 : (x4 + y_22).toInt = (x4).toInt + (y_22).toInt := t_addn (by omega) | obtain ⟨kt_36, t_36⟩ := t_add x4 y_22
        have t_38 : (nI 1).toInt = 1 := nI_toInt (by decide)
        first | have t_37 : (x5 + (nI 1)).toInt = (x5).toInt + ((nI 1)).toInt := t_addn (by omega) | obtain ⟨kt_37, t_37⟩ := t_add x5 (nI 1)
        exact ih (by omega) hI_34 hF_35 (by omega) (by first | exact so | exact solved_rw so (by simp (disch := omega) only [cg_up_row, cg_up_o]) (by simp (disch := omega) only [cg_up_row, cg_up_o]) rfl) hx
      · rw [t_eq] at c_29; try rw [t_0] at c_29
        refine cT_go (b_M_turn_162 s0 (by rw [t_in]; omega)) ?_
        have hI_39 := cI_up (k := (((nI 8) * x1) + ((cg_up (cg_up f (a0 + 28) x5.toNatClampNeg x2) (a0 + 29) x5.toNatClampNeg x4) (a0 + 24) x5.toNatClampNeg)).toNatClampNeg) (x := (cg_up (cg_up f (a0 + 28) x5.toNatClampNeg x2) (a0 + 29) x5.toNatClampNeg x4) (a0 + 17) (((nI 8) * x1) + ((cg_up (cg_up f (a0 + 28) x5.toNatClampNeg x2) (a0 + 29) x5.toNatClampNeg x4) (a0 + 24) x5.toNatClampNeg)).toNatClampNeg) hI_14 (sc_7_26 s0) ⟨(fun _ => by omega), (fun _ => by omega), (fun _ => by omega), (fun _ => by omega), (fun _ => by omega), (fun _ => by omega), (fun _ => by omega), (fun _ => by omega), (fun _ => by omega), (fun _ => by omega), (fun _ => by omega), (fun _ => by omega), (fun _ => by omega)⟩
        have hF_40 := cF_up (a := a0 + 17) (k := (((nI 8) * x1) + ((cg_up (cg_up f (a0 + 28) x5.toNatClampNeg x2) (a0 + 29) x5.toNatClampNeg x4) (a0 + 24) x5.toNatClampNeg)).toNatClampNeg) (x := (cg_up (cg_up f (a0 + 28) x5.toNatClampNeg x2) (a0 + 29) x5.toNatClampNeg x4) (a0 + 17) (((nI 8) * x1) + ((cg_up (cg_up f (a0 + 28) x5.toNatClampNeg x2) (a0 + 29) x5.toNatClampNeg x4) (a0 + 24) x5.toNatClampNeg)).toNatClampNeg) hF_15 (by omega)
        refine cT_go (b_M_turn_169 (sc_7_26 s0) (by rw [sl_7_26 s0, t_in]; omega) (by omega)) ?_
        first | have t_41 : (x4 + y_22).toInt = (x4).toInt + (y_22).toInt := t_addn (by omega) | obtain ⟨kt_41, t_41⟩ := t_add x4 y_22
        have t_43 : (nI 1).toInt = 1 := nI_toInt (by decide)
        first | have t_42 : (x5 + (nI 1)).toInt = (x5).toInt + ((nI 1)).toInt := t_addn (by omega) | obtain ⟨kt_42, t_42⟩ := t_add x5 (nI 1)
        exact ih (by omega) hI_39 hF_40 (by omega) (by first | exact so | exact solved_rw so (by simp (disch := omega) only [cg_up_row, cg_up_o]) (by simp (disch := omega) only [cg_up_row, cg_up_o]) rfl) hx
set_option maxHeartbeats 8000000 in
theorem l_M_turn_55 {L : Nat} {e : Nat × Nat} {f0 : cg_G} : ∀ (k : Nat) {f : cg_G} {a0 : Nat} {x1 : Int32} {x2 : Int32} {x3 : Int32} {u4 : Value} {u5 : Value} {u6 : Value}, (900 - x3.toInt).toNat < k → cI L f → cF (fun o => o = a0 + 13 ∨ o = a0 + 14 ∨ o = a0 + 16 ∨ o = a0 + 17 ∨ o = a0 + 28 ∨ o = a0 + 29) f0 f → sh_ a0 = 7 → (0 ≤ x1.toInt ∧ x1.toInt ≤ 1) → (0 ≤ (f0 (a0 + 23) x1.toNatClampNeg).toInt ∧ (f0 (a0 + 23) x1.toNatClampNeg).toInt ≤ 900) → (0 ≤ x3.toInt ∧ x3.toInt ≤ (f0 (a0 + 23) x1.toNatClampNeg).toInt) → (solved (f (a0 + 13)) (f (a0 + 14)) (-1) (f0 (a0 + 23) x1.toNatClampNeg).toInt) → cT 123 55 [.ref a0, .int x1, .int x2, .int x3, u4, u5, u6] [] L e (fun o => o = a0 + 13 ∨ o = a0 + 14 ∨ o = a0 + 16 ∨ o = a0 + 17 ∨ o = a0 + 28 ∨ o = a0 + 29) f0 f (fun v f' => v = none ∧ (True)) := by
  intro k
  induction k with
  | zero => intro f a0 x1 x2 x3 u4 u5 u6 hm; omega
  | succ k ih =>
    intro f a0 x1 x2 x3 u4 u5 u6 hme hI hF s0 c1 iu i3 so
    have hm := one_7 s0
    have eu : (f (a0 + 23) x1.toNatClampNeg).toInt = (f0 (a0 + 23) x1.toNatClampNeg).toInt := by rw [hF (a0 + 23) (by omega)]
    have t_44 := t_rng (x1)
    have t_45 := t_rng (x2)
    have t_46 := t_rng (x3)
    have t_48 : 0 ≤ (f (a0 + 23) x1.toNatClampNeg).toInt ∧ (f (a0 + 23) x1.toNatClampNeg).toInt ≤ 900 := (cI_at hI x1.toNatClampNeg (sc_7_32 s0)).2.2.2.2.2.2.1 (by omega)
    refine cT_if (b_M_turn_55 s0 (by rw [t_in]; omega)) (fun c_47 => ?_) (fun c_47 => ?_)
    · rw [t_le] at c_47; try rw [t_0] at c_47
      have hI_49 := cI_up (k := ((nI 5) * x1).toNatClampNeg) (x := x2) hI (sc_7_25 s0) ⟨(fun _ => by omega), (fun _ => by omega), (fun _ => by omega), (fun _ => by omega), (fun _ => by omega), (fun _ => by omega), (fun _ => by omega), (fun _ => by omega), (fun _ => by omega), (fun _ => by omega), (fun _ => by omega), (fun _ => by omega), (fun _ => by omega)⟩
      have hF_50 := cF_up (a := a0 + 16) (k := ((nI 5) * x1).toNatClampNeg) (x := x2) hF (by omega)
      have t_52 : (nI 5).toInt = 5 := nI_toInt (by decide)
      first | have t_51 : (((nI 5)) * x1).toInt = 5 * (x1).toInt := t_mulc (by decide) (by omega) | (obtain ⟨kt_51, t_51⟩ := t_mul ((nI 5)) x1; rw [nI_toInt (show 5 < 2 ^ 31 by decide)] at t_51)
      have t_54 : ((cg_up f (a0 + 16) ((nI 5) * x1).toNatClampNeg x2) (a0 + 23) x1.toNatClampNeg).toInt = (f (a0 + 23) x1.toNatClampNeg).toInt := by rw [cg_up_o (by omega)]
      refine cT_if (b_M_turn_188 s0 (by rw [t_in]; omega) (by rw [t_in]; omega)) (fun c_53 => ?_) (fun c_53 => ?_)
      · rw [t_eq] at c_53; try rw [t_0] at c_53
        refine cT_go b_M_turn_215 ?_
        have hI_56 := cI_up (k := (((nI 5) * x1) + (nI 4)).toNatClampNeg) (x := nI 0) hI_49 (sc_7_25 s0) ⟨(fun _ => by omega), (fun _ => by omega), (fun _ => by omega), (fun _ => by omega), (fun _ => by omega), (fun _ => by omega), (fun _ => by omega), (fun _ => by omega), (fun _ => by omega), (fun _ => by omega), (fun _ => by omega), (fun _ => by omega), (fun _ => by omega)⟩
        have hF_57 := cF_up (a := a0 + 16) (k := (((nI 5) * x1) + (nI 4)).toNatClampNeg) (x := nI 0) hF_50 (by omega)
        have t_59 : (nI 4).toInt = 4 := nI_toInt (by decide)
        first | have t_58 : ((((nI 5) * x1)) + ((nI 4))).toInt = ((((nI 5) * x1))).toInt + (((nI 4))).toInt := t_addn (by omega) | obtain ⟨kt_58, t_58⟩ := t_add (((nI 5) * x1)) ((nI 4))
        exact cT_ret (b_M_turn_225 (sc_7_25 s0) (by rw [sl_7_25 s0, t_in]; omega) (by omega)) hI_56 hF_57 ⟨rfl, trivial⟩
      · rw [t_eq] at c_53; try rw [t_0] at c_53
        have t_60 : (nI 0).toInt = 0 := nI_toInt (by decide)
        refine cT_go (b_M_turn_219 s0 (by rw [t_in]; omega)) ?_
        have hI_61 := cI_up (k := (((nI 5) * x1) + (nI 4)).toNatClampNeg) (x := (cg_up f (a0 + 16) ((nI 5) * x1).toNatClampNeg x2) (a0 + 13) (nI 0).toNatClampNeg) hI_49 (sc_7_25 s0) ⟨(fun _ => by omega), (fun _ => by omega), (fun _ => by omega), (fun _ => by omega), (fun _ => by omega), (fun _ => by omega), (fun _ => by omega), (fun _ => by omega), (fun _ => by omega), (fun _ => by omega), (fun _ => by omega), (fun _ => by omega), (fun _ => by omega)⟩
        have hF_62 := cF_up (a := a0 + 16) (k := (((nI 5) * x1) + (nI 4)).toNatClampNeg) (x := (cg_up f (a0 + 16) ((nI 5) * x1).toNatClampNeg x2) (a0 + 13) (nI 0).toNatClampNeg) hF_50 (by omega)
        have t_64 : (nI 4).toInt = 4 := nI_toInt (by decide)
        first | have t_63 : ((((nI 5) * x1)) + ((nI 4))).toInt = ((((nI 5) * x1))).toInt + (((nI 4))).toInt := t_addn (by omega) | obtain ⟨kt_63, t_63⟩ := t_add (((nI 5) * x1)) ((nI 4))
        exact cT_ret (b_M_turn_225 (sc_7_25 s0) (by rw [sl_7_25 s0, t_in]; omega) (by omega)) hI_61 hF_62 ⟨rfl, trivial⟩
    · rw [t_le] at c_47; try rw [t_0] at c_47
      have q := so x3.toNatClampNeg (by rw [t_cl]; omega) (by rw [t_cl]; omega)
      have q2 := t_cl x3
      refine cT_go b_M_turn_65 ?_
      have t_66 : (nI 1).toInt = 1 := nI_toInt (by decide)
      first | have t_65 : (x2 + (nI 1)).toInt = (x2).toInt + ((nI 1)).toInt := t_addn (by omega) | obtain ⟨kt_65, t_65⟩ := t_add x2 (nI 1)
      have t_67 : (nI 0).toInt = 0 := nI_toInt (by decide)
      have t_70 : (nI 900).toInt = 900 := nI_toInt (by decide)
      first | have t_69 : (((nI 900)) * x1).toInt = 900 * (x1).toInt := t_mulc (by decide) (by omega) | (obtain ⟨kt_69, t_69⟩ := t_mul ((nI 900)) x1; rw [nI_toInt (show 900 < 2 ^ 31 by decide)] at t_69)
      first | have t_68 : ((((nI 900) * x1)) + x3).toInt = ((((nI 900) * x1))).toInt + (x3).toInt := t_addn (by omega) | obtain ⟨kt_68, t_68⟩ := t_add (((nI 900) * x1)) x3
      refine l_M_turn_80 s0 (by omega) (by omega) (by omega) ((1800 - (((nI 900) * x1) + x3).toInt).toNat + 1) (by omega) hI hF (by omega) (by first | exact so | exact solved_rw so (by simp (disch := omega) only [cg_up_row, cg_up_o]) (by simp (disch := omega) only [cg_up_row, cg_up_o]) rfl) (fun f_74 x4vw71 x5vw72 u6vw73 hI_75 hF_76 j_77 => ?_)
      have t_78 := t_rng (x4vw71)
      have t_79 := t_rng (x5vw72)
      have sox : solved (f_74 (a0 + 13)) (f_74 (a0 + 14)) (-1) (f0 (a0 + 23) x1.toNatClampNeg).toInt := by assumption
      have q := sox x3.toNatClampNeg (by rw [t_cl]; omega) (by rw [t_cl]; omega)
      have q2 := t_cl x3
      refine cT_go (b_M_turn_176 s0 (by rw [t_in]; omega)) ?_
      have t_81 := t_rng (f_74 (a0 + 14) x3.toNatClampNeg)
      first | have t_80 : (x3 + ((f_74 (a0 + 14) x3.toNatClampNeg))).toInt = (x3).toInt + (((f_74 (a0 + 14) x3.toNatClampNeg))).toInt := t_addn (by omega) | obtain ⟨kt_80, t_80⟩ := t_add x3 ((f_74 (a0 + 14) x3.toNatClampNeg))
      exact ih (by omega) hI_75 hF_76 s0 (by omega) (by omega) (by omega) (by first | exact sox | exact so | first | exact so | exact solved_rw so (by simp (disch := omega) only [cg_up_row, cg_up_o]) (by simp (disch := omega) only [cg_up_row, cg_up_o]) rfl)
set_option maxHeartbeats 8000000 in
theorem l_M_turn_27 {L : Nat} {e : Nat × Nat} {f0 : cg_G} : ∀ (k : Nat) {f : cg_G} {a0 : Nat} {x1 : Int32} {x2 : Int32} {u3 : Value} {u4 : Value} {u5 : Value} {u6 : Value}, (8 - x2.toInt).toNat < k → cI L f → cF (fun o => o = a0 + 13 ∨ o = a0 + 14 ∨ o = a0 + 16 ∨ o = a0 + 17 ∨ o = a0 + 28 ∨ o = a0 + 29) f0 f → sh_ a0 = 7 → (0 ≤ x1.toInt ∧ x1.toInt ≤ 1) → (0 ≤ (f0 (a0 + 23) x1.toNatClampNeg).toInt ∧ (f0 (a0 + 23) x1.toNatClampNeg).toInt ≤ 900) → (0 ≤ x2.toInt) → (solved (f (a0 + 13)) (f (a0 + 14)) (-1) (f0 (a0 + 23) x1.toNatClampNeg).toInt) → cT 123 27 [.ref a0, .int x1, .int x2, u3, u4, u5, u6] [] L e (fun o => o = a0 + 13 ∨ o = a0 + 14 ∨ o = a0 + 16 ∨ o = a0 + 17 ∨ o = a0 + 28 ∨ o = a0 + 29) f0 f (fun v f' => v = none ∧ (True)) := by
  intro k
  induction k with
  | zero => intro f a0 x1 x2 u3 u4 u5 u6 hm; omega
  | succ k ih =>
    intro f a0 x1 x2 u3 u4 u5 u6 hme hI hF s0 c1 iu i2 so
    have hm := one_7 s0
    have eu : (f (a0 + 23) x1.toNatClampNeg).toInt = (f0 (a0 + 23) x1.toNatClampNeg).toInt := by rw [hF (a0 + 23) (by omega)]
    have t_82 := t_rng (x1)
    have t_83 := t_rng (x2)
    have t_85 : (nI 8).toInt = 8 := nI_toInt (by decide)
    refine cT_if b_M_turn_27 (fun c_84 => ?_) (fun c_84 => ?_)
    · rw [t_le] at c_84; try rw [t_0] at c_84
      refine cT_go b_M_turn_51 ?_
      have t_86 : (nI 0).toInt = 0 := nI_toInt (by decide)
      exact l_M_turn_55 ((900 - (nI 0).toInt).toNat + 1) (by omega) hI hF s0 (by omega) (by omega) (by omega) (by first | exact sox | exact so | first | exact so | exact solved_rw so (by simp (disch := omega) only [cg_up_row, cg_up_o]) (by simp (disch := omega) only [cg_up_row, cg_up_o]) rfl)
    · rw [t_le] at c_84; try rw [t_0] at c_84
      have hI_87 := cI_up (k := (((nI 8) * x1) + x2).toNatClampNeg) (x := - nI 1) hI (sc_7_26 s0) ⟨(fun _ => by omega), (fun _ => by omega), (fun _ => by omega), (fun _ => by omega), (fun _ => by omega), (fun _ => by omega), (fun _ => by omega), (fun _ => by omega), (fun _ => by omega), (fun _ => by omega), (fun _ => by omega), (fun _ => by omega), (fun _ => by omega)⟩
      have hF_88 := cF_up (a := a0 + 17) (k := (((nI 8) * x1) + x2).toNatClampNeg) (x := - nI 1) hF (by omega)
      first | have t_90 : (((nI 8)) * x1).toInt = 8 * (x1).toInt := t_mulc (by decide) (by omega) | (obtain ⟨kt_90, t_90⟩ := t_mul ((nI 8)) x1; rw [nI_toInt (show 8 < 2 ^ 31 by decide)] at t_90)
      first | have t_89 : ((((nI 8) * x1)) + x2).toInt = ((((nI 8) * x1))).toInt + (x2).toInt := t_addn (by omega) | obtain ⟨kt_89, t_89⟩ := t_add (((nI 8) * x1)) x2
      refine cT_go (b_M_turn_33 s0 (by rw [t_in]; omega)) ?_
      have t_92 : (nI 1).toInt = 1 := nI_toInt (by decide)
      first | have t_91 : (x2 + (nI 1)).toInt = (x2).toInt + ((nI 1)).toInt := t_addn (by omega) | obtain ⟨kt_91, t_91⟩ := t_add x2 (nI 1)
      exact ih (by omega) hI_87 hF_88 s0 (by omega) (by omega) (by omega) (by first | (have h6 : x2.toInt = -1 := (by omega); rw [h6] at so; exact so) | first | exact so | exact solved_rw so (by simp (disch := omega) only [cg_up_row, cg_up_o]) (by simp (disch := omega) only [cg_up_row, cg_up_o]) rfl)
set_option maxHeartbeats 8000000 in
theorem l_M_turn_9 {L : Nat} {e : Nat × Nat} {f0 : cg_G} : ∀ (k : Nat) {f : cg_G} {a0 : Nat} {x1 : Int32} {x2 : Int32} {u3 : Value} {u4 : Value} {u5 : Value} {u6 : Value}, (x2.toInt + 1).toNat < k → cI L f → cF (fun o => o = a0 + 13 ∨ o = a0 + 14 ∨ o = a0 + 16 ∨ o = a0 + 17 ∨ o = a0 + 28 ∨ o = a0 + 29) f0 f → sh_ a0 = 7 → (0 ≤ x1.toInt ∧ x1.toInt ≤ 1) → (0 ≤ (f0 (a0 + 23) x1.toNatClampNeg).toInt ∧ (f0 (a0 + 23) x1.toNatClampNeg).toInt ≤ 900) → (-1 ≤ x2.toInt ∧ x2.toInt < (f0 (a0 + 23) x1.toNatClampNeg).toInt) → (solved (f (a0 + 13)) (f (a0 + 14)) x2.toInt (f0 (a0 + 23) x1.toNatClampNeg).toInt) → (hok (f (a0 + 25)) (f (a0 + 27)) (900 * x1.toInt) (f (a0 + 23) x1.toNatClampNeg).toInt (f a0 1).toInt) → cT 123 9 [.ref a0, .int x1, .int x2, u3, u4, u5, u6] [] L e (fun o => o = a0 + 13 ∨ o = a0 + 14 ∨ o = a0 + 16 ∨ o = a0 + 17 ∨ o = a0 + 28 ∨ o = a0 + 29) f0 f (fun v f' => v = none ∧ (True)) := by
  intro k
  induction k with
  | zero => intro f a0 x1 x2 u3 u4 u5 u6 hm; omega
  | succ k ih =>
    intro f a0 x1 x2 u3 u4 u5 u6 hme hI hF s0 c1 iu i2 so hk
    have hm := one_7 s0
    have eu : (f (a0 + 23) x1.toNatClampNeg).toInt = (f0 (a0 + 23) x1.toNatClampNeg).toInt := by rw [hF (a0 + 23) (by omega)]
    have t_93 := t_rng (x1)
    have t_94 := t_rng (x2)
    refine cT_if b_M_turn_9 (fun c_95 => ?_) (fun c_95 => ?_)
    · rw [t_lt] at c_95; try rw [t_0] at c_95
      refine cT_go b_M_turn_25 ?_
      have t_97 : (nI 0).toInt = 0 := nI_toInt (by decide)
      exact l_M_turn_27 ((8 - (nI 0).toInt).toNat + 1) (by omega) hI hF s0 (by omega) (by omega) (by omega) (by first | (have h6 : x2.toInt = -1 := (by omega); rw [h6] at so; exact so) | first | exact so | exact solved_rw so (by simp (disch := omega) only [cg_up_row, cg_up_o]) (by simp (disch := omega) only [cg_up_row, cg_up_o]) rfl)
    · rw [t_lt] at c_95; try rw [t_0] at c_95
      refine cT_call (b_M_turn_13 s0) (c_M_solvePages hI s0 (by first | omega | assumption | exact sl_4_4 (by assumption)) (by first | omega | assumption | exact sl_4_4 (by assumption)) (solved_rw so rfl rfl eu) hk) hF (fun o ho => by omega) (fun v_98 f_99 hI_100 hG_101 hF_102 hQ_103 => ?_)
      obtain ⟨rfl, hQ_103⟩ := hQ_103
      have so2 : solved (f_99 (a0 + 13)) (f_99 (a0 + 14)) (x2.toInt - 1) (f0 (a0 + 23) x1.toNatClampNeg).toInt := solved_rw hQ_103 rfl rfl eu.symm
      have hk2 : hok (f_99 (a0 + 25)) (f_99 (a0 + 27)) (900 * x1.toInt) (f_99 (a0 + 23) x1.toNatClampNeg).toInt (f_99 a0 1).toInt := by rw [hG_101 a0 (by omega)]; exact hok_fr hk (hG_101 (a0 + 25) (by omega)) (hG_101 (a0 + 27) (by omega)) (by rw [hG_101 (a0 + 23) (by omega)])
      show cT 123 19 [.ref a0, .int x1, .int x2, u3, u4, u5, u6] [] _ _ _ _ _ _
      refine cT_go b_M_turn_19 ?_
      have t_106 := t_neg1
      first | have t_105 : (x2 + (- nI 1)).toInt = (x2).toInt + ((- nI 1)).toInt := t_addn (by omega) | obtain ⟨kt_105, t_105⟩ := t_add x2 (- nI 1)
      exact ih (dec_me (by assumption) hme) hI_100 hF_102 s0 (by omega) (by omega) (dec_lt (by assumption) i2.2) (by rw [dec_eq (by assumption)]; exact so2) hk2
set_option maxHeartbeats 8000000 in
theorem c_M_turn {L : Nat} {f : cg_G} {e : Nat × Nat} {a0 : Nat} {x1 : Int32} (hI : cI L f) (s0 : sh_ a0 = 7) (c1 : 0 ≤ x1.toInt ∧ x1.toInt ≤ 1) (p4 : hok (f (a0 + 25)) (f (a0 + 27)) (900 * x1.toInt) (f (a0 + 23) x1.toNatClampNeg).toInt (f a0 1).toInt) : cE 123 [.ref a0, .int x1] L e (fun o => o = a0 + 13 ∨ o = a0 + 14 ∨ o = a0 + 16 ∨ o = a0 + 17 ∨ o = a0 + 28 ∨ o = a0 + 29) f (fun v f' => v = none ∧ (True)) := by
  refine cE_of (ls := [.ref a0, .int x1, (.retAddr 0), (.retAddr 0), (.retAddr 0), (.retAddr 0), (.retAddr 0)]) rfl ?_
  have hF : cF (fun o => o = a0 + 13 ∨ o = a0 + 14 ∨ o = a0 + 16 ∨ o = a0 + 17 ∨ o = a0 + 28 ∨ o = a0 + 29) f f := cF_rf
  have hm := one_7 s0
  have t_107 := t_rng (x1)
  have t_108 : 0 ≤ (f (a0 + 23) x1.toNatClampNeg).toInt ∧ (f (a0 + 23) x1.toNatClampNeg).toInt ≤ 900 := (cI_at hI x1.toNatClampNeg (sc_7_32 s0)).2.2.2.2.2.2.1 (by omega)
  refine cT_go (b_M_turn_0 s0 (by rw [t_in]; omega)) ?_
  have t_110 : (nI 1).toInt = 1 := nI_toInt (by decide)
  first | have t_109 : (((f (a0 + 23) x1.toNatClampNeg)) - ((nI 1))).toInt = (((f (a0 + 23) x1.toNatClampNeg))).toInt - (((nI 1))).toInt := t_subn (by omega) | obtain ⟨kt_109, t_109⟩ := t_sub ((f (a0 + 23) x1.toNatClampNeg)) ((nI 1))
  exact l_M_turn_9 ((((f (a0 + 23) x1.toNatClampNeg) - (nI 1)).toInt + 1).toNat + 1) (by omega) hI hF s0 (by omega) (by omega) (by omega) (solved_0 (by omega)) (by first | exact p4 | exact hk)
