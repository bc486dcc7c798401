theorem c_Entry_useTemplate {L : Nat} {f : cg_G} {e : Nat × Nat} {a0 : Nat} {a1 : Nat} (hI : cI L f) (s0 : sh_ a0 = 2) (s1 : sh_ a1 = 6) (p1 : ∃ t : Nat, t < 6 ∧ a1 = 7 + 2 * t) : cE 15 [.ref a0, .ref a1] L e (fun o => o = a0) f (fun v f' => v = none ∧ (f' = cg_up f a0 2 (nI a1))) := by
  refine cE_of (ls := [.ref a0, .ref a1]) rfl ?_
  have t0 := t_0
  have hF : cF (fun o => o = a0) f f := cF_rf
  have hr := rg_2 s0
  have hI_1 := cI_up (k := 2) (x := nI a1) hI s0 ⟨(fun _ => by obtain ⟨t, h1, h2⟩ := p1; exact Or.inl ⟨t, h1, by rw [h2]⟩), (fun h => absurd h (by decide))⟩
  have hF_2 := cF_up (a := a0) (k := 2) (x := nI a1) hF (by omega)
  exact cT_ret (b_Entry_useTemplate_0 s0 (by obtain ⟨t, h1, h2⟩ := p1; omega)) hI_1 hF_2 ⟨rfl, rfl⟩
theorem c_Entry_tellClaim {L : Nat} {f : cg_G} {e : Nat × Nat} {a0 : Nat} {x1 : Int32} {x2 : Int32} (hI : cI L f) (s0 : sh_ a0 = 2) (p1 : 0 ≤ x1.toInt ∧ x1.toInt < 4) : cE 13 [.ref a0, .int x1, .int x2] L e (fun o => o = a0 + 2) f (fun v f' => ∃ x : Int32, v = some (.int x) ∧ (x = f (a0 + 2) x1.toNatClampNeg ∧ f' = cg_up f (a0 + 2) x1.toNatClampNeg x2)) := by
  refine cE_of (ls := [.ref a0, .int x1, .int x2, (.retAddr 0)]) rfl ?_
  have t0 := t_0
  have hF : cF (fun o => o = a0 + 2) f f := cF_rf
  have hr := rg_2 s0
  have t_1 := t_rng (x1)
  have t_2 := t_rng (x2)
  refine cT_if b_Entry_tellClaim_0 (fun c_3 => ?_) (fun c_3 => ?_)
  · rw [t_lt] at c_3
    have t_5 := t_neg1
    exact cT_ret b_Entry_tellClaim_9 hI hF ⟨_, rfl, by first | exact ⟨rfl, rfl⟩ | (exfalso; omega)⟩
  · rw [t_lt] at c_3
    have t_7 : (nI 4).toInt = 4 := nI_toInt (by decide)
    refine cT_if b_Entry_tellClaim_4 (fun c_6 => ?_) (fun c_6 => ?_)
    · rw [t_lt] at c_6
      have hI_8 := cI_up (k := x1.toNatClampNeg) (x := x2) hI (sc_2_1 s0) (ok100 (by omega))
      have hF_9 := cF_up (a := a0 + 2) (k := x1.toNatClampNeg) (x := x2) hF (by omega)
      have t_10 := t_rng (f (a0 + 2) x1.toNatClampNeg)
      exact cT_ret (b_Entry_tellClaim_11 s0 (by rw [t_in]; omega)) hI_8 hF_9 ⟨_, rfl, by first | exact ⟨rfl, rfl⟩ | (exfalso; omega)⟩
    · rw [t_lt] at c_6
      have t_11 := t_neg1
      exact cT_ret b_Entry_tellClaim_9 hI hF ⟨_, rfl, by first | exact ⟨rfl, rfl⟩ | (exfalso; omega)⟩
theorem c_Entry_changePicture {L : Nat} {f : cg_G} {e : Nat × Nat} {a0 : Nat} {x1 : Int32} (hI : cI L f) (s0 : sh_ a0 = 2) (p1 : 0 ≤ x1.toInt ∧ x1.toInt ≤ 30) : cE 10 [.ref a0, .int x1] L e (fun o => o = a0) f (fun v f' => ∃ x : Int32, v = some (.int x) ∧ (x = f a0 3 ∧ f' = cg_up f a0 3 x1)) := by
  refine cE_of (ls := [.ref a0, .int x1, (.retAddr 0)]) rfl ?_
  have t0 := t_0
  have hF : cF (fun o => o = a0) f f := cF_rf
  have hr := rg_2 s0
  have t_1 := t_rng (x1)
  have hI_2 := cI_up (k := 3) (x := x1) hI s0 ⟨(fun h => absurd h (by decide)), (fun _ => by omega)⟩
  have hF_3 := cF_up (a := a0) (k := 3) (x := x1) hF (by omega)
  have t_4 : 0 ≤ (f a0 3).toInt ∧ (f a0 3).toInt ≤ 30 := (cI_at hI 3 s0).2 rfl
  exact cT_ret (b_Entry_changePicture_0 s0) hI_2 hF_3 ⟨_, rfl, ⟨rfl, rfl⟩⟩
theorem c_C_claim {L : Nat} {f : cg_G} {e : Nat × Nat} {a0 : Nat} {x1 : Int32} {x2 : Int32} {x3 : Int32} (hI : cI L f) (s0 : sh_ a0 = 0)  : cEx 59 [.ref a0, .int x1, .int x2, .int x3] L e (fun o => 1 ≤ o ∧ o < 124) f (fun o f' => (∃ x : Int32, o = .inl (some (.int x)) ∧ ((0 ≤ x1.toInt ∧ x1.toInt < (f a0 7).toInt ∧ 0 ≤ x2.toInt ∧ x2.toInt < 4 ∧ -1 ≤ x3.toInt ∧ x3.toInt ≤ 1) ∧ x = f (((a0 + 18) + 1 + 13 * x1.toNatClampNeg) + 2) x2.toNatClampNeg ∧ f' = cg_up f (((a0 + 18) + 1 + 13 * x1.toNatClampNeg) + 2) x2.toNatClampNeg x3)) ∨ ∃ k : Nat, o = .inr k ∧ k < 3 ∧ (((k = 2 ∧ ¬ (0 ≤ x1.toInt ∧ x1.toInt < (f a0 7).toInt ∧ 0 ≤ x2.toInt ∧ x2.toInt < 4)) ∨ (k = 1 ∧ (0 ≤ x1.toInt ∧ x1.toInt < (f a0 7).toInt ∧ 0 ≤ x2.toInt ∧ x2.toInt < 4) ∧ ¬ (-1 ≤ x3.toInt ∧ x3.toInt ≤ 1))) ∧ f' = f)) := by
  refine cEx_of (ls := [.ref a0, .int x1, .int x2, .int x3]) rfl ?_
  have t0 := t_0
  have hF : cF (fun o => 1 ≤ o ∧ o < 124) f f := cF_rf
  have hx1 := one_0 s0
  have t_1 := t_rng (x1)
  have t_2 := t_rng (x2)
  have t_3 := t_rng (x3)
  refine cX_call (b_C_claim_0 s0) (c_C_isEntry hI s0) hF (fun o ho => ho.elim) (fun v_4 f_5 hI_6 hG_7 hF_8 hQ_9 => ?_)
  obtain rfl := cF_no hG_7
  obtain ⟨y_10, rfl, hb_11, hQ_9⟩ := hQ_9
  have hb_11r := t_rng y_10
  have t_12 : 0 ≤ (f a0 7).toInt ∧ (f a0 7).toInt ≤ 8 := (cI_at hI 7 s0).2.2.1 rfl
  show cX 59 5 [.ref a0, .int x1, .int x2, .int x3] [.int y_10] _ _ _ _ _ _
  refine cX_if b_C_claim_5 (fun c_13 => ?_) (fun c_13 => ?_)
  · rw [t_eq] at c_13
    exact cX_throw b_C_claim_17 hI hF (Or.inr ⟨_, rfl, by decide, ⟨by omega, rfl⟩⟩)
  · rw [t_eq] at c_13
    refine cX_if b_C_claim_8 (fun c_15 => ?_) (fun c_15 => ?_)
    · rw [t_lt] at c_15
      exact cX_throw b_C_claim_17 hI hF (Or.inr ⟨_, rfl, by decide, ⟨by omega, rfl⟩⟩)
    · rw [t_lt] at c_15
      have t_17 : (nI 4).toInt = 4 := nI_toInt (by decide)
      refine cX_if b_C_claim_12 (fun c_16 => ?_) (fun c_16 => ?_)
      · rw [t_lt] at c_16
        have t_19 := t_neg1
        refine cX_if b_C_claim_27 (fun c_18 => ?_) (fun c_18 => ?_)
        · rw [t_eq] at c_18
          have tc_20 := t_cl x1
          refine cX_call (b_C_claim_51 s0 (by rw [t_in]; omega)) (c_Entry_tellClaim hI (sa_104 (sc_0_4 s0) (cg_in_lt (by rw [t_in]; omega))) (by first | omega | assumption | exact sl_4_4 (by assumption))) hF (fun o ho => by omega) (fun v_21 f_22 hI_23 hG_24 hF_25 hQ_26 => ?_)
          obtain ⟨y_27, rfl, hQ_26⟩ := hQ_26
          have hQ_26r := t_rng y_27
          show cX 59 62 [.ref a0, .int x1, .int x2, .int x3] [.int y_27] _ _ _ _ _ _
          exact cX_ret b_C_claim_62 hI_23 hF_25 (Or.inl ⟨_, rfl, ⟨by omega, hQ_26.1, hQ_26.2⟩⟩)
        · rw [t_eq] at c_18
          refine cX_if b_C_claim_32 (fun c_28 => ?_) (fun c_28 => ?_)
          · rw [t_eq] at c_28
            have tc_29 := t_cl x1
            refine cX_call (b_C_claim_51 s0 (by rw [t_in]; omega)) (c_Entry_tellClaim hI (sa_104 (sc_0_4 s0) (cg_in_lt (by rw [t_in]; omega))) (by first | omega | assumption | exact sl_4_4 (by assumption))) hF (fun o ho => by omega) (fun v_30 f_31 hI_32 hG_33 hF_34 hQ_35 => ?_)
            obtain ⟨y_36, rfl, hQ_35⟩ := hQ_35
            have hQ_35r := t_rng y_36
            show cX 59 62 [.ref a0, .int x1, .int x2, .int x3] [.int y_36] _ _ _ _ _ _
            exact cX_ret b_C_claim_62 hI_32 hF_34 (Or.inl ⟨_, rfl, ⟨by omega, hQ_35.1, hQ_35.2⟩⟩)
          · rw [t_eq] at c_28
            have t_38 : (nI 1).toInt = 1 := nI_toInt (by decide)
            refine cX_if b_C_claim_36 (fun c_37 => ?_) (fun c_37 => ?_)
            · rw [t_eq] at c_37
              have tc_39 := t_cl x1
              refine cX_call (b_C_claim_51 s0 (by rw [t_in]; omega)) (c_Entry_tellClaim hI (sa_104 (sc_0_4 s0) (cg_in_lt (by rw [t_in]; omega))) (by first | omega | assumption | exact sl_4_4 (by assumption))) hF (fun o ho => by omega) (fun v_40 f_41 hI_42 hG_43 hF_44 hQ_45 => ?_)
              obtain ⟨y_46, rfl, hQ_45⟩ := hQ_45
              have hQ_45r := t_rng y_46
              show cX 59 62 [.ref a0, .int x1, .int x2, .int x3] [.int y_46] _ _ _ _ _ _
              exact cX_ret b_C_claim_62 hI_42 hF_44 (Or.inl ⟨_, rfl, ⟨by omega, hQ_45.1, hQ_45.2⟩⟩)
            · rw [t_eq] at c_37
              exact cX_throw b_C_claim_41 hI hF (Or.inr ⟨_, rfl, by decide, ⟨by omega, rfl⟩⟩)
      · rw [t_lt] at c_16
        exact cX_throw b_C_claim_17 hI hF (Or.inr ⟨_, rfl, by decide, ⟨by omega, rfl⟩⟩)
theorem c_C_picture {L : Nat} {f : cg_G} {e : Nat × Nat} {a0 : Nat} {x1 : Int32} {x2 : Int32} (hI : cI L f) (s0 : sh_ a0 = 0)  : cEx 67 [.ref a0, .int x1, .int x2] L e (fun o => 1 ≤ o ∧ o < 124) f (fun o f' => (∃ x : Int32, o = .inl (some (.int x)) ∧ ((0 ≤ x1.toInt ∧ x1.toInt < (f a0 7).toInt ∧ 0 ≤ x2.toInt ∧ x2.toInt ≤ 30) ∧ x = f ((a0 + 18) + 1 + 13 * x1.toNatClampNeg) 3 ∧ f' = cg_up f ((a0 + 18) + 1 + 13 * x1.toNatClampNeg) 3 x2)) ∨ ∃ k : Nat, o = .inr k ∧ k < 3 ∧ (((k = 2 ∧ ¬ (0 ≤ x1.toInt ∧ x1.toInt < (f a0 7).toInt)) ∨ (k = 1 ∧ (0 ≤ x1.toInt ∧ x1.toInt < (f a0 7).toInt) ∧ ¬ (0 ≤ x2.toInt ∧ x2.toInt ≤ 30))) ∧ f' = f)) := by
  refine cEx_of (ls := [.ref a0, .int x1, .int x2]) rfl ?_
  have t0 := t_0
  have hF : cF (fun o => 1 ≤ o ∧ o < 124) f f := cF_rf
  have hx1 := one_0 s0
  have t_1 := t_rng (x1)
  have t_2 := t_rng (x2)
  refine cX_call (b_C_picture_0 s0) (c_C_isEntry hI s0) hF (fun o ho => ho.elim) (fun v_3 f_4 hI_5 hG_6 hF_7 hQ_8 => ?_)
  obtain rfl := cF_no hG_6
  obtain ⟨y_9, rfl, hb_10, hQ_8⟩ := hQ_8
  have hb_10r := t_rng y_9
  have t_11 : 0 ≤ (f a0 7).toInt ∧ (f a0 7).toInt ≤ 8 := (cI_at hI 7 s0).2.2.1 rfl
  show cX 67 5 [.ref a0, .int x1, .int x2] [.int y_9] _ _ _ _ _ _
  refine cX_if b_C_picture_5 (fun c_12 => ?_) (fun c_12 => ?_)
  · rw [t_eq] at c_12
    exact cX_throw b_C_picture_8 hI hF (Or.inr ⟨_, rfl, by decide, ⟨by omega, rfl⟩⟩)
  · rw [t_eq] at c_12
    refine cX_if b_C_picture_18 (fun c_14 => ?_) (fun c_14 => ?_)
    · rw [t_lt] at c_14
      exact cX_throw b_C_picture_28 hI hF (Or.inr ⟨_, rfl, by decide, ⟨by omega, rfl⟩⟩)
    · rw [t_lt] at c_14
      have t_16 : (nI 30).toInt = 30 := nI_toInt (by decide)
      refine cX_if b_C_picture_22 (fun c_15 => ?_) (fun c_15 => ?_)
      · rw [t_le] at c_15
        have tc_17 := t_cl x1
        refine cX_call (b_C_picture_38 s0 (by rw [t_in]; omega)) (c_Entry_changePicture hI (sa_104 (sc_0_4 s0) (cg_in_lt (by rw [t_in]; omega))) (by first | omega | assumption | exact sl_4_4 (by assumption))) hF (fun o ho => by omega) (fun v_18 f_19 hI_20 hG_21 hF_22 hQ_23 => ?_)
        obtain ⟨y_24, rfl, hQ_23⟩ := hQ_23
        have hQ_23r := t_rng y_24
        show cX 67 48 [.ref a0, .int x1, .int x2] [.int y_24] _ _ _ _ _ _
        exact cX_ret b_C_picture_48 hI_20 hF_22 (Or.inl ⟨_, rfl, ⟨by omega, hQ_23.1, hQ_23.2⟩⟩)
      · rw [t_le] at c_15
        exact cX_throw b_C_picture_28 hI hF (Or.inr ⟨_, rfl, by decide, ⟨by omega, rfl⟩⟩)
theorem c_C_entry {L : Nat} {f : cg_G} {e : Nat × Nat} {a0 : Nat} {x1 : Int32} (hI : cI L f) (s0 : sh_ a0 = 0)  : cEx 61 [.ref a0, .int x1] L e (fun o => 1 ≤ o ∧ o < 124) f (fun o f' => (∃ x : Int32, o = .inl (some (.int x)) ∧ (0 ≤ x1.toInt ∧ x1.toInt < (f a0 6).toInt ∧ (f a0 7).toInt < 8 ∧ x.toInt = (f a0 7).toInt ∧ f' = cg_up (cg_up f ((a0 + 18) + 1 + 13 * (f a0 7).toNatClampNeg) 2 (nI ((a0 + 5) + 1 + 2 * x1.toNatClampNeg))) a0 7 (f a0 7 + nI 1))) ∨ ∃ k : Nat, o = .inr k ∧ k < 3 ∧ (((k = 2 ∧ ¬ (0 ≤ x1.toInt ∧ x1.toInt < (f a0 6).toInt)) ∨ (k = 0 ∧ 0 ≤ x1.toInt ∧ x1.toInt < (f a0 6).toInt ∧ 8 ≤ (f a0 7).toInt)) ∧ f' = f)) := by
  refine cEx_of (ls := [.ref a0, .int x1]) rfl ?_
  have t0 := t_0
  have hF : cF (fun o => 1 ≤ o ∧ o < 124) f f := cF_rf
  have hx1 := one_0 s0
  have t_1 := t_rng (x1)
  refine cX_if b_C_entry_0 (fun c_2 => ?_) (fun c_2 => ?_)
  · rw [t_lt] at c_2
    exact cX_throw b_C_entry_12 hI hF (Or.inr ⟨_, rfl, by decide, ⟨by omega, rfl⟩⟩)
  · rw [t_lt] at c_2
    have t_5 : 0 ≤ (f a0 6).toInt ∧ (f a0 6).toInt ≤ 6 := (cI_at hI 6 s0).2.1 rfl
    refine cX_if (b_C_entry_4 s0) (fun c_4 => ?_) (fun c_4 => ?_)
    · rw [t_lt] at c_4
      have t_7 : 0 ≤ (f a0 7).toInt ∧ (f a0 7).toInt ≤ 8 := (cI_at hI 7 s0).2.2.1 rfl
      have t_8 : (nI 8).toInt = 8 := nI_toInt (by decide)
      refine cX_if (b_C_entry_22 s0) (fun c_6 => ?_) (fun c_6 => ?_)
      · rw [t_lt] at c_6
        have tc_9 := t_cl (f a0 7)
        have tc_10 := t_cl x1
        refine cX_call (b_C_entry_41 s0 (by rw [t_in]; omega) (by rw [t_in]; omega)) (c_Entry_useTemplate hI (sa_104 (sc_0_4 s0) (cg_in_lt (by rw [t_in]; omega))) (sa_103 (sc_0_3 s0) (cg_in_lt (by rw [t_in]; omega))) ⟨x1.toNatClampNeg, by omega, by omega⟩) hF (fun o ho => by omega) (fun v_11 f_12 hI_13 hG_14 hF_15 hQ_16 => ?_)
        obtain ⟨rfl, hQ_16⟩ := hQ_16
        have g_18 : (f_12 a0 7).toInt = (f a0 7).toInt := by rw [hG_14 a0 (by omega)]
        show cX 61 59 [.ref a0, .int x1] [] _ _ _ _ _ _
        have t_22 : 0 ≤ (f_12 a0 7).toInt ∧ (f_12 a0 7).toInt ≤ 8 := (cI_at hI_13 7 s0).2.2.1 rfl
        have t_23 : (nI 1).toInt = 1 := nI_toInt (by decide)
        first | have t_21 : (((f_12 a0 7)) + ((nI 1))).toInt = (((f_12 a0 7))).toInt + (((nI 1))).toInt := t_addn (by omega) | obtain ⟨kt_21, t_21⟩ := t_add ((f_12 a0 7)) ((nI 1))
        have hI_19 := cI_up (k := 7) (x := (f_12 a0 7) + (nI 1)) hI_13 s0 ⟨(fun h => absurd h (by decide)), (fun h => absurd h (by decide)), (fun _ => by omega), (fun h => absurd h (by decide)), (fun h => absurd h (by decide)), (fun h => absurd h (by decide))⟩
        have hF_20 := cF_up (a := a0) (k := 7) (x := (f_12 a0 7) + (nI 1)) hF_15 (by omega)
        have t_25 : ((cg_up f_12 a0 7 ((f_12 a0 7) + (nI 1))) a0 7).toInt = ((f_12 a0 7) + (nI 1)).toInt := by rw [cg_up_s]
        first | have t_24 : ((((cg_up f_12 a0 7 ((f_12 a0 7) + (nI 1))) a0 7)) - ((nI 1))).toInt = ((((cg_up f_12 a0 7 ((f_12 a0 7) + (nI 1))) a0 7))).toInt - (((nI 1))).toInt := t_subn (by omega) | obtain ⟨kt_24, t_24⟩ := t_sub (((cg_up f_12 a0 7 ((f_12 a0 7) + (nI 1))) a0 7)) ((nI 1))
        exact cX_ret (b_C_entry_59 s0) hI_19 hF_20 (Or.inl ⟨_, rfl, ⟨by omega, by omega, by omega, by omega, by rw [congrFun (hG_14 a0 (by omega)) 7, hQ_16]⟩⟩)
      · rw [t_lt] at c_6
        exact cX_throw b_C_entry_31 hI hF (Or.inr ⟨_, rfl, by decide, ⟨by omega, rfl⟩⟩)
    · rw [t_lt] at c_4
      exact cX_throw b_C_entry_12 hI hF (Or.inr ⟨_, rfl, by decide, ⟨by omega, rfl⟩⟩)
