theorem c_C_unit {L : Nat} {f : cg_G} {e : Nat × Nat} {a0 : Nat} {x1 : Int32} {x2 : Int32} (hI : cI L f) (s0 : sh_ a0 = 0)  : cEx 105 [.ref a0, .int x1, .int x2] L e (fun o => o = a0 + 1 ∨ o = a0 + 1 + 1) f (fun o f' => (∃ x : Int32, o = .inl (some (.int x)) ∧ (((f (a0 + 1) 1).toInt + (cnz x1 4 : Nat) + (cnz x2 4 : Nat) ≤ 32 ∧ cbd x1 4 = 0 ∧ cbd x2 4 = 0) ∧ x.toInt = (f (a0 + 1) 1).toInt + (cnz x1 4 : Nat) + (cnz x2 4 : Nat) ∧ (∃ g1 n1, padI (f (a0 + 1 + 1)) g1 (f (a0 + 1) 1).toNatClampNeg x1 4 ∧ padI g1 (f' (a0 + 1 + 1)) n1 x2 4 ∧ n1 = (f (a0 + 1) 1).toNatClampNeg + cnz x1 4) ∧ (f' (a0 + 1) 1).toInt = (f (a0 + 1) 1).toInt + (cnz x1 4 : Nat) + (cnz x2 4 : Nat))) ∨ ∃ k : Nat, o = .inr k ∧ k < 3 ∧ (((k = 0 ∧ 32 < (f (a0 + 1) 1).toInt + (cnz x1 4 : Nat) + (cnz x2 4 : Nat)) ∨ (k = 1 ∧ (f (a0 + 1) 1).toInt + (cnz x1 4 : Nat) + (cnz x2 4 : Nat) ≤ 32 ∧ ¬ (cbd x1 4 = 0 ∧ cbd x2 4 = 0))) ∧ f' = f)) := by
  refine cEx_of (ls := [.ref a0, .int x1, .int x2]) rfl ?_
  have t0 := t_0
  have hF : cF (fun o => o = a0 + 1 ∨ o = a0 + 1 + 1) f f := cF_rf
  have hx1 := one_0 s0
  have hb0 := (cI_at hI 1 (sc_0_1 s0)) rfl
  have hp := pad_ln (L := L) s0
  have t_1 := t_rng (x1)
  have t_2 := t_rng (x2)
  refine cX_call (b_C_unit_0 s0) (c_Signs_size hI (sc_0_1 s0)) hF (fun o ho => ho.elim) (fun v_3 f_4 hI_5 hG_6 hF_7 hQ_8 => ?_)
  obtain rfl := cF_no hG_6
  obtain ⟨y_9, rfl, hQ_8⟩ := hQ_8
  have hQ_8r := t_rng y_9
  show cX 105 7 [.ref a0, .int x1, .int x2] [.int y_9] _ _ _ _ _ _
  refine cX_call b_C_unit_7 (c_C_signsIn hI) hF (fun o ho => ho.elim) (fun v_10 f_11 hI_12 hG_13 hF_14 hQ_15 => ?_)
  obtain rfl := cF_no hG_13
  obtain ⟨y_16, rfl, hQ_15⟩ := hQ_15
  have hQ_15r := t_rng y_16
  show cX 105 11 [.ref a0, .int x1, .int x2] [.int y_16, .int y_9] _ _ _ _ _ _
  refine cX_call b_C_unit_11 (c_C_signsIn hI) hF (fun o ho => ho.elim) (fun v_17 f_18 hI_19 hG_20 hF_21 hQ_22 => ?_)
  obtain rfl := cF_no hG_20
  obtain ⟨y_23, rfl, hQ_22⟩ := hQ_22
  have hQ_22r := t_rng y_23
  show cX 105 16 [.ref a0, .int x1, .int x2] [.int y_23, .int (y_9 + y_16)] _ _ _ _ _ _
  first | have t_26 : (y_9 + y_16).toInt = (y_9).toInt + (y_16).toInt := t_addn (by omega) | obtain ⟨kt_26, t_26⟩ := t_add y_9 y_16
  first | have t_25 : (((y_9 + y_16)) + y_23).toInt = (((y_9 + y_16))).toInt + (y_23).toInt := t_addn (by omega) | obtain ⟨kt_25, t_25⟩ := t_add ((y_9 + y_16)) y_23
  have t_27 : (nI 32).toInt = 32 := nI_toInt (by decide)
  refine cX_if b_C_unit_16 (fun c_24 => ?_) (fun c_24 => ?_)
  · rw [t_le] at c_24
    refine cX_call b_C_unit_32 (c_C_hasGoodSigns hI) hF (fun o ho => ho.elim) (fun v_28 f_29 hI_30 hG_31 hF_32 hQ_33 => ?_)
    obtain rfl := cF_no hG_31
    obtain ⟨y_34, rfl, hb_35, hQ_33⟩ := hQ_33
    have hb_35r := t_rng y_34
    show cX 105 36 [.ref a0, .int x1, .int x2] [.int y_34] _ _ _ _ _ _
    refine cX_if b_C_unit_36 (fun c_36 => ?_) (fun c_36 => ?_)
    · rw [t_eq] at c_36
      exact cX_throw b_C_unit_46 hI hF (Or.inr ⟨_, rfl, by decide, ⟨by omega, rfl⟩⟩)
    · rw [t_eq] at c_36
      refine cX_call b_C_unit_39 (c_C_hasGoodSigns hI) hF (fun o ho => ho.elim) (fun v_38 f_39 hI_40 hG_41 hF_42 hQ_43 => ?_)
      obtain rfl := cF_no hG_41
      obtain ⟨y_44, rfl, hb_45, hQ_43⟩ := hQ_43
      have hb_45r := t_rng y_44
      show cX 105 43 [.ref a0, .int x1, .int x2] [.int y_44] _ _ _ _ _ _
      refine cX_if b_C_unit_43 (fun c_46 => ?_) (fun c_46 => ?_)
      · rw [t_eq] at c_46
        exact cX_throw b_C_unit_46 hI hF (Or.inr ⟨_, rfl, by decide, ⟨by omega, rfl⟩⟩)
      · rw [t_eq] at c_46
        refine cX_call (b_C_unit_56 s0) (c_C_addSignsOf hI s0 (by first | omega | assumption | exact sl_4_4 (by assumption))) hF (fun o ho => by omega) (fun v_47 f_48 hI_49 hG_50 hF_51 hQ_52 => ?_)
        obtain ⟨rfl, hQ_52⟩ := hQ_52
        have g_54 : padI (f (a0 + 1 + 1)) (f_48 (a0 + 1 + 1)) (f (a0 + 1) 1).toNatClampNeg x1 4 := hQ_52.1
        have g_55 : (f_48 (a0 + 1) 1).toInt = (f (a0 + 1) 1).toInt + (cnz x1 4 : Nat) := hQ_52.2
        show cX 105 61 [.ref a0, .int x1, .int x2] [] _ _ _ _ _ _
        refine cX_call (b_C_unit_61 s0) (c_C_addSignsOf hI_49 s0 (by first | omega | assumption | exact sl_4_4 (by assumption))) hF_51 (fun o ho => by omega) (fun v_56 f_57 hI_58 hG_59 hF_60 hQ_61 => ?_)
        obtain ⟨rfl, hQ_61⟩ := hQ_61
        have g_63 : padI (f_48 (a0 + 1 + 1)) (f_57 (a0 + 1 + 1)) (f_48 (a0 + 1) 1).toNatClampNeg x2 4 := hQ_61.1
        have g_64 : (f_57 (a0 + 1) 1).toInt = (f_48 (a0 + 1) 1).toInt + (cnz x2 4 : Nat) := hQ_61.2
        show cX 105 66 [.ref a0, .int x1, .int x2] [] _ _ _ _ _ _
        refine cX_call (b_C_unit_66 s0) (c_Signs_size hI_58 (sc_0_1 s0)) hF_60 (fun o ho => ho.elim) (fun v_65 f_66 hI_67 hG_68 hF_69 hQ_70 => ?_)
        obtain rfl := cF_no hG_68
        obtain ⟨y_71, rfl, hQ_70⟩ := hQ_70
        have hQ_70r := t_rng y_71
        show cX 105 73 [.ref a0, .int x1, .int x2] [.int y_71] _ _ _ _ _ _
        exact cX_ret b_C_unit_73 hI_58 hF_60 (Or.inl ⟨_, rfl, ⟨by omega, by omega, ⟨by refine ⟨?g, ?n, ?h1, ?h2, ?h3⟩; (case h1 => assumption); (case h2 => assumption); (case h3 => rw [t_cl, t_cl]; omega), by omega⟩⟩⟩)
  · rw [t_le] at c_24
    exact cX_throw b_C_unit_22 hI hF (Or.inr ⟨_, rfl, by decide, ⟨by omega, rfl⟩⟩)
