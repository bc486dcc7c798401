set_option maxHeartbeats 8000000 in
theorem c_C_movePadTo {L : Nat} {f : cg_G} {e : Nat × Nat} {a0 : Nat} {a1 : Nat} (hI : cI L f) (s0 : sh_ a0 = 0) (s1 : sh_ a1 = 6) (pn : 4 ≤ a1) : cE 102 [.ref a0, .ref a1] L e (fun o => o = a1 ∨ o = a1 + 1 ∨ o = a0 + 1) f (fun v f' => ∃ x : Int32, v = some (.int x) ∧ (((f (a0 + 1) 1).toInt ≤ (ln_ L (a1 + 1) : Nat) → x.toInt = (f (a0 + 1) 1).toInt) ∧ (f' (a0 + 1) 1).toInt = 0)) := by
  refine cE_of (ls := [.ref a0, .ref a1]) rfl ?_
  have hF : cF (fun o => o = a1 ∨ o = a1 + 1 ∨ o = a0 + 1) f f := cF_rf
  have hx1 := one_0 s0
  have z0 : (nI 0).toInt = 0 := nI_toInt (by decide)
  refine cT_call (b_C_movePadTo_0 s1) (c_Signs_clear hI s1) hF (fun o ho => by omega) (fun v_1 f_2 hI_3 hG_4 hF_5 hQ_6 => ?_)
  obtain ⟨rfl, hQ_6⟩ := hQ_6
  show cT 102 4 [.ref a0, .ref a1] [] _ _ _ _ _ _
  have hq1 : f_2 = cg_up f a1 1 (nI 0) := by assumption
  have k1 : (f_2 a1 1).toInt = 0 := by rw [hq1, cg_up_s]; exact z0
  have k2 : (f_2 (a0 + 1) 1).toInt = (f (a0 + 1) 1).toInt := by rw [hq1, cg_up_o (by omega)]
  refine cT_call (b_C_movePadTo_4 s0 s1) (c_Signs_addAll hI_3 s1 (sc_0_1 s0)) hF_5 (fun o ho => by omega) (fun v_8 f_9 hI_10 hG_11 hF_12 hQ_13 => ?_)
  obtain ⟨rfl, hQ_13⟩ := hQ_13
  have hA : _ := hQ_13
  have g_15 : (f_9 (a0 + 1) 1).toInt = (f_2 (a0 + 1) 1).toInt := by rw [hG_11 (a0 + 1) (by omega)]
  show cT 102 12 [.ref a0, .ref a1] [] _ _ _ _ _ _
  obtain ⟨g2, hg2⟩ : ∃ g : cg_G, g = f_9 := ⟨_, rfl⟩
  refine cT_call (b_C_movePadTo_12 s0) (c_Signs_clear hI_10 (sc_0_1 s0)) hF_12 (fun o ho => by omega) (fun v_16 f_17 hI_18 hG_19 hF_20 hQ_21 => ?_)
  obtain ⟨rfl, hQ_21⟩ := hQ_21
  show cT 102 19 [.ref a0, .ref a1] [] _ _ _ _ _ _
  have hq2 : f_17 = cg_up g2 (a0 + 1) 1 (nI 0) := by rw [hg2]; assumption
  have k4 : (f_17 a1 1).toInt = (g2 a1 1).toInt := by rw [hq2, cg_up_o (by omega)]
  have k5 : (f_17 (a0 + 1) 1).toInt = 0 := by rw [hq2, cg_up_s]; exact z0
  rw [hg2] at k4
  refine cT_call (b_C_movePadTo_19 s1) (c_Signs_size hI_18 s1) hF_20 (fun o ho => ho.elim) (fun v_23 f_24 hI_25 hG_26 hF_27 hQ_28 => ?_)
  obtain rfl := cF_no hG_26
  obtain ⟨y_29, rfl, hQ_28⟩ := hQ_28
  have hQ_28r := t_rng y_29
  show cT 102 23 [.ref a0, .ref a1] [.int y_29] _ _ _ _ _ _
  exact cT_ret b_C_movePadTo_23 hI_18 hF_20 ⟨_, rfl, ⟨fun h => by omega, by omega⟩⟩
set_option maxHeartbeats 8000000 in
theorem c_C_template {L : Nat} {f : cg_G} {e : Nat × Nat} {a0 : Nat} (hI : cI L f) (s0 : sh_ a0 = 0)  : cEx 128 [.ref a0] L e (fun o => o = a0 ∨ o = a0 + 1 ∨ (7 ≤ o ∧ o < 19)) f (fun o f' => (∃ x : Int32, o = .inl (some (.int x)) ∧ ((f a0 6).toInt < 6 ∧ ((fwv (f (a0 + 1 + 1)) (f (a0 + 1) 1) ≠ -1 ∧ x.toInt = -1 - fwv (f (a0 + 1 + 1)) (f (a0 + 1) 1) ∧ (f' a0 6).toInt = (f a0 6).toInt) ∨ (fwv (f (a0 + 1 + 1)) (f (a0 + 1) 1) = -1 ∧ x.toInt = (f a0 6).toInt ∧ (f' a0 6).toInt = (f a0 6).toInt + 1)) ∧ (f' (a0 + 1) 1).toInt = 0 ∧ ∀ k, k ≠ 6 → f' a0 k = f a0 k)) ∨ ∃ k : Nat, o = .inr k ∧ k < 3 ∧ (k = 0 ∧ 6 ≤ (f a0 6).toInt ∧ f' = f)) := by
  refine cEx_of (ls := [.ref a0, (.retAddr 0)]) rfl ?_
  have hF : cF (fun o => o = a0 ∨ o = a0 + 1 ∨ (7 ≤ o ∧ o < 19)) f f := cF_rf
  have hx1 := one_0 s0
  have t_2 : 0 ≤ (f a0 6).toInt ∧ (f a0 6).toInt ≤ 6 := (cI_at hI 6 s0).2.1 rfl
  have t_3 : (nI 6).toInt = 6 := nI_toInt (by decide)
  refine cX_if (b_C_template_0 s0) (fun c_1 => ?_) (fun c_1 => ?_)
  · rw [t_lt] at c_1; try rw [t_0] at c_1
    refine cX_call (b_C_template_19 s0) (c_C_firstWrongPlace hI (sc_0_1 s0)) hF (fun o ho => ho.elim) (fun v_4 f_5 hI_6 hG_7 hF_8 hQ_9 => ?_)
    obtain rfl := cF_no hG_7
    obtain ⟨y_10, rfl, hQ_9⟩ := hQ_9
    have hQ_9r := t_rng y_10
    show cX 128 26 [.ref a0, (((.retAddr 0)))] [.int y_10] _ _ _ _ _ _
    refine cX_if b_C_template_26 (fun c_11 => ?_) (fun c_11 => ?_)
    · replace c_11 := eq_n1 c_11
      have tc_12 := t_cl (f a0 6)
      refine cX_call (b_C_template_43 s0 (by rw [t_in]; omega)) (c_C_movePadTo hI s0 (sa_103 (sc_0_3 s0) (cg_in_lt (by rw [t_in]; omega))) (by first | omega | assumption | exact sl_4_4 (by assumption))) hF (fun o ho => by omega) (fun v_13 f_14 hI_15 hG_16 hF_17 hQ_18 => ?_)
      obtain ⟨y_19, rfl, hQ_18⟩ := hQ_18
      have hQ_18r := t_rng y_19
      have hA0 : f_14 a0 = f a0 := hG_16 a0 (by omega)
      have g_20 : (f_14 a0 6).toInt = (f a0 6).toInt := by rw [hA0]
      have hz : (f_14 (a0 + 1) 1).toInt = 0 := hQ_18.2
      show cX 128 56 [.ref a0, .int y_10] [.int y_19] _ _ _ _ _ _
      have t_24 : 0 ≤ (f_14 a0 6).toInt ∧ (f_14 a0 6).toInt ≤ 6 := (cI_at hI_15 6 s0).2.1 rfl
      have t_25 : (nI 1).toInt = 1 := nI_toInt (by decide)
      first | have t_23 : (((f_14 a0 6)) + ((nI 1))).toInt = (((f_14 a0 6))).toInt + (((nI 1))).toInt := t_addn (by omega) | obtain ⟨kt_23, t_23⟩ := t_add ((f_14 a0 6)) ((nI 1))
      have hI_21 := cI_up (k := 6) (x := (f_14 a0 6) + (nI 1)) hI_15 s0 ⟨(fun h => absurd h (by decide)), (fun _ => by omega), (fun h => absurd h (by decide)), (fun h => absurd h (by decide)), (fun h => absurd h (by decide)), (fun h => absurd h (by decide))⟩
      have hF_22 := cF_up (a := a0) (k := 6) (x := (f_14 a0 6) + (nI 1)) hF_17 (by omega)
      have t_26 : ((cg_up f_14 a0 6 ((f_14 a0 6) + (nI 1))) a0 6).toInt = ((f_14 a0 6) + (nI 1)).toInt := by rw [cg_up_s]
      first | have t_27 : ((((cg_up f_14 a0 6 ((f_14 a0 6) + (nI 1))) a0 6)) - ((nI 1))).toInt = ((((cg_up f_14 a0 6 ((f_14 a0 6) + (nI 1))) a0 6))).toInt - (((nI 1))).toInt := t_subn (by omega) | obtain ⟨kt_27, t_27⟩ := t_sub (((cg_up f_14 a0 6 ((f_14 a0 6) + (nI 1))) a0 6)) ((nI 1))
      exact cX_ret (b_C_template_56 s0) hI_21 hF_22 (Or.inl ⟨_, rfl, ⟨by omega, by first | exact Or.inr ⟨by omega, by omega, by omega⟩ | exact Or.inl ⟨by omega, (t_sn1 (by omega)).trans (by omega), by omega⟩, by first | exact hz | (rw [cg_up_o (by omega)]; exact hz), fun k hk => by first | exact congrFun hA0 k | exact (cg_up_k hk).trans (congrFun hA0 k)⟩⟩)
    · replace c_11 := ne_n1 c_11
      refine cX_call (b_C_template_32 s0) (c_Signs_clear hI (sc_0_1 s0)) hF (fun o ho => by omega) (fun v_28 f_29 hI_30 hG_31 hF_32 hQ_33 => ?_)
      obtain ⟨rfl, hQ_33⟩ := hQ_33
      have hz : (f_29 (a0 + 1) 1).toInt = 0 := by rw [hQ_33, cg_up_s]; exact nI_toInt (by decide)
      have hA0 : f_29 a0 = f a0 := hG_31 a0 (by omega)
      have g_35 : (f_29 a0 6).toInt = (f a0 6).toInt := by rw [hA0]
      show cX 128 39 [.ref a0, .int y_10] [] _ _ _ _ _ _
      have t_36 : 0 ≤ (f_29 a0 6).toInt ∧ (f_29 a0 6).toInt ≤ 6 := (cI_at hI_30 6 s0).2.1 rfl
      exact cX_ret b_C_template_39 hI_30 hF_32 (Or.inl ⟨_, rfl, ⟨by omega, by first | exact Or.inr ⟨by omega, by omega, by omega⟩ | exact Or.inl ⟨by omega, (t_sn1 (by omega)).trans (by omega), by omega⟩, by first | exact hz | (rw [cg_up_o (by omega)]; exact hz), fun k hk => by first | exact congrFun hA0 k | exact (cg_up_k hk).trans (congrFun hA0 k)⟩⟩)
  · rw [t_lt] at c_1; try rw [t_0] at c_1
    exact cX_throw b_C_template_9 hI hF (Or.inr ⟨_, rfl, by decide, ⟨rfl, by omega, rfl⟩⟩)
set_option maxHeartbeats 8000000 in
theorem c_C_field {L : Nat} {f : cg_G} {e : Nat × Nat} {a0 : Nat} {x1 : Int32} {x2 : Int32} (hI : cI L f) (s0 : sh_ a0 = 0)  : cEx 126 [.ref a0, .int x1, .int x2] L e (fun o => o = a0 + 1 ∨ o = ((a0 + 18) + 1 + 13 * x1.toNatClampNeg + 1 + 4 + 2 * x2.toNatClampNeg) ∨ o = ((a0 + 18) + 1 + 13 * x1.toNatClampNeg + 1 + 4 + 2 * x2.toNatClampNeg) + 1) f (fun o f' => (∃ x : Int32, o = .inl (some (.int x)) ∧ ((0 ≤ x1.toInt ∧ x1.toInt < (f a0 7).toInt ∧ 0 ≤ x2.toInt ∧ x2.toInt < 4) ∧ plnG (f (a0 + 1 + 1)) (f (a0 + 1) 1).toInt ∧ x.toInt = (f (a0 + 1) 1).toInt ∧ (f' (a0 + 1) 1).toInt = 0)) ∨ ∃ k : Nat, o = .inr k ∧ k < 3 ∧ (((k = 2 ∧ ¬ (0 ≤ x1.toInt ∧ x1.toInt < (f a0 7).toInt ∧ 0 ≤ x2.toInt ∧ x2.toInt < 4)) ∨ (k = 1 ∧ (0 ≤ x1.toInt ∧ x1.toInt < (f a0 7).toInt ∧ 0 ≤ x2.toInt ∧ x2.toInt < 4) ∧ ¬ plnG (f (a0 + 1 + 1)) (f (a0 + 1) 1).toInt)) ∧ f' = f)) := by
  refine cEx_of (ls := [.ref a0, .int x1, .int x2]) rfl ?_
  have hF : cF (fun o => o = a0 + 1 ∨ o = ((a0 + 18) + 1 + 13 * x1.toNatClampNeg + 1 + 4 + 2 * x2.toNatClampNeg) ∨ o = ((a0 + 18) + 1 + 13 * x1.toNatClampNeg + 1 + 4 + 2 * x2.toNatClampNeg) + 1) f f := cF_rf
  have hx1 := one_0 s0
  have hb0 := (cI_at hI 1 (sc_0_1 s0)) rfl
  have hp := pad_ln (L := L) s0
  have t_1 := t_rng (x1)
  have t_2 := t_rng (x2)
  refine cX_call (b_C_field_0 s0) (c_C_isEntry hI s0) hF (fun o ho => ho.elim) (fun v_3 f_4 hI_5 hG_6 hF_7 hQ_8 => ?_)
  obtain rfl := cF_no hG_6
  obtain ⟨y_9, rfl, hb_10, hQ_8⟩ := hQ_8
  have hb_10r := t_b01 hb_10
  have t_11 : 0 ≤ (f a0 7).toInt ∧ (f a0 7).toInt ≤ 8 := (cI_at hI 7 s0).2.2.1 rfl
  show cX 126 5 [.ref a0, .int x1, .int x2] [.int y_9] _ _ _ _ _ _
  refine cX_if b_C_field_5 (fun c_12 => ?_) (fun c_12 => ?_)
  · rw [t_eq] at c_12; try rw [t_0] at c_12
    exact cX_throw b_C_field_15 hI hF (Or.inr ⟨_, rfl, by decide, by first | exact ⟨Or.inl ⟨rfl, by omega⟩, rfl⟩ | exact ⟨Or.inr ⟨rfl, by omega, fun h => absurd (hpl.mpr h) (by omega)⟩, rfl⟩⟩)
  · rw [t_eq] at c_12; try rw [t_0] at c_12
    refine cX_call b_C_field_8 (c_C_isField hI) hF (fun o ho => ho.elim) (fun v_14 f_15 hI_16 hG_17 hF_18 hQ_19 => ?_)
    obtain rfl := cF_no hG_17
    obtain ⟨y_20, rfl, hb_21, hQ_19⟩ := hQ_19
    have hb_21r := t_b01 hb_21
    show cX 126 12 [.ref a0, .int x1, .int x2] [.int y_20] _ _ _ _ _ _
    refine cX_if b_C_field_12 (fun c_22 => ?_) (fun c_22 => ?_)
    · rw [t_eq] at c_22; try rw [t_0] at c_22
      exact cX_throw b_C_field_15 hI hF (Or.inr ⟨_, rfl, by decide, by first | exact ⟨Or.inl ⟨rfl, by omega⟩, rfl⟩ | exact ⟨Or.inr ⟨rfl, by omega, fun h => absurd (hpl.mpr h) (by omega)⟩, rfl⟩⟩)
    · rw [t_eq] at c_22; try rw [t_0] at c_22
      refine cX_call (b_C_field_25 s0) (c_C_isFieldText hI (sc_0_1 s0)) hF (fun o ho => ho.elim) (fun v_23 f_24 hI_25 hG_26 hF_27 hQ_28 => ?_)
      obtain rfl := cF_no hG_26
      obtain ⟨y_29, rfl, hb_30, hQ_28⟩ := hQ_28
      have hb_30r := t_b01 hb_30
      have hpl : _ := hQ_28
      show cX 126 32 [.ref a0, .int x1, .int x2] [.int y_29] _ _ _ _ _ _
      refine cX_if b_C_field_32 (fun c_31 => ?_) (fun c_31 => ?_)
      · rw [t_eq] at c_31; try rw [t_0] at c_31
        exact cX_throw b_C_field_35 hI hF (Or.inr ⟨_, rfl, by decide, by first | exact ⟨Or.inl ⟨rfl, by omega⟩, rfl⟩ | exact ⟨Or.inr ⟨rfl, by omega, fun h => absurd (hpl.mpr h) (by omega)⟩, rfl⟩⟩)
      · rw [t_eq] at c_31; try rw [t_0] at c_31
        have tc_32 := t_cl x1
        refine cX_call (b_C_field_45 s0 (by rw [t_in]; omega)) (c_Entry_textOf hI (sa_104 (sc_0_4 s0) (cg_in_lt (by rw [t_in]; omega)))) hF (fun o ho => ho.elim) (fun v_33 f_34 hI_35 hG_36 hF_37 hQ_38 => ?_)
        obtain rfl := cF_no hG_36
        obtain ⟨y_39, rfl, hs_40, hQ_38⟩ := hQ_38
        have hT : y_39 = ((a0 + 18) + 1 + 13 * x1.toNatClampNeg + 1 + 4 + 2 * x2.toNatClampNeg) := hQ_38 (by omega)
        show cX 126 56 [.ref a0, .int x1, .int x2] [.ref y_39, .ref a0] _ _ _ _ _ _
        refine cX_call (b_C_field_56 s0) (c_C_movePadTo hI s0 hs_40 (by first | omega | assumption | exact sl_4_4 (by assumption))) hF (fun o ho => by omega) (fun v_41 f_42 hI_43 hG_44 hF_45 hQ_46 => ?_)
        obtain ⟨y_47, rfl, hQ_46⟩ := hQ_46
        have hQ_46r := t_rng y_47
        have hm1 : _ := hQ_46
        show cX 126 59 [.ref a0, .int x1, .int x2] [.int y_47] _ _ _ _ _ _
        exact cX_ret b_C_field_59 hI_43 hF_45 (Or.inl ⟨_, rfl, ⟨by omega, hpl.mp (by omega), by have hln := tx_ln (L := L) (e := x1.toNatClampNeg) (f := x2.toNatClampNeg) (a := ((a0 + 18) + 1 + 13 * x1.toNatClampNeg + 1 + 4 + 2 * x2.toNatClampNeg) + 1) (by rw [t_cl]; omega) (by rw [t_cl]; omega) (by omega); have := hm1.1 (by rw [hT, hln]; omega); omega, hm1.2⟩⟩)
set_option maxHeartbeats 8000000 in
theorem c_C_order {L : Nat} {f : cg_G} {e : Nat × Nat} {a0 : Nat} (hI : cI L f) (s0 : sh_ a0 = 0)  : cEx 127 [.ref a0] L e (fun o => o = a0 + 1 ∨ o = a0 + 3 ∨ o = a0 + 4) f (fun o f' => (∃ x : Int32, o = .inl (some (.int x)) ∧ (ordG (f (a0 + 1 + 1)) (f (a0 + 1) 1).toInt ∧ x.toInt = (f (a0 + 1) 1).toInt ∧ (f' (a0 + 1) 1).toInt = 0)) ∨ ∃ k : Nat, o = .inr k ∧ k < 3 ∧ (k = 1 ∧ ¬ ordG (f (a0 + 1 + 1)) (f (a0 + 1) 1).toInt ∧ f' = f)) := by
  refine cEx_of (ls := [.ref a0]) rfl ?_
  have hF : cF (fun o => o = a0 + 1 ∨ o = a0 + 3 ∨ o = a0 + 4) f f := cF_rf
  have hx1 := one_0 s0
  have hb0 := (cI_at hI 1 (sc_0_1 s0)) rfl
  have hp := pad_ln (L := L) s0
  refine cX_call (b_C_order_0 s0) (c_C_isOrder hI (sc_0_1 s0)) hF (fun o ho => ho.elim) (fun v_1 f_2 hI_3 hG_4 hF_5 hQ_6 => ?_)
  obtain rfl := cF_no hG_4
  obtain ⟨y_7, rfl, hb_8, hQ_6⟩ := hQ_6
  have hb_8r := t_b01 hb_8
  have hpl : _ := hQ_6
  show cX 127 7 [.ref a0] [.int y_7] _ _ _ _ _ _
  refine cX_if b_C_order_7 (fun c_9 => ?_) (fun c_9 => ?_)
  · rw [t_eq] at c_9; try rw [t_0] at c_9
    exact cX_throw b_C_order_10 hI hF (Or.inr ⟨_, rfl, by decide, ⟨rfl, fun h => absurd (hpl.mpr h) (by omega), rfl⟩⟩)
  · rw [t_eq] at c_9; try rw [t_0] at c_9
    refine cX_call (b_C_order_20 s0) (c_C_movePadTo hI s0 (sc_0_2 s0) (by first | omega | assumption | exact sl_4_4 (by assumption))) hF (fun o ho => by omega) (fun v_11 f_12 hI_13 hG_14 hF_15 hQ_16 => ?_)
    obtain ⟨y_17, rfl, hQ_16⟩ := hQ_16
    have hQ_16r := t_rng y_17
    have hm1 : _ := hQ_16
    show cX 127 28 [.ref a0] [.int y_17] _ _ _ _ _ _
    exact cX_ret b_C_order_28 hI_13 hF_15 (Or.inl ⟨_, rfl, ⟨hpl.mp (by omega), by have h26 := ord_26 (hpl.mp (by omega)); have := hm1.1 (by rw [lo_ln s0]; omega); omega, hm1.2⟩⟩)
