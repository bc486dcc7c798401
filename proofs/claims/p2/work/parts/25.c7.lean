theorem c_M_about {L : Nat} {f : cg_G} {e : Nat × Nat} {a0 : Nat} {x1 : Int32} (hI : cI L f) (s0 : sh_ a0 = 7)  : cE 85 [.ref a0, .int x1] L e (fun o => o = a0) f (fun v f' => ∃ x : Int32, v = some (.int x) ∧ (∀ k, k ≠ 2 → f' a0 k = f a0 k)) := by
  refine cE_of (ls := [.ref a0, .int x1]) rfl ?_
  have t0 := t_0
  have hF : cF (fun o => o = a0) f f := cF_rf
  have hm := one_7 s0
  have t_1 := t_rng (x1)
  have t_2 : (nI 5).toInt = 5 := nI_toInt (by decide)
  refine cT_call b_M_about_0 (c_M_below hI) hF (fun o ho => ho.elim) (fun v_3 f_4 hI_5 hG_6 hF_7 hQ_8 => ?_)
  obtain rfl := cF_no hG_6
  obtain ⟨y_9, rfl, hb_10, hQ_8⟩ := hQ_8
  have hb_10r := t_rng y_9
  show cT 85 6 [.ref a0, .int x1] [.int y_9, .ref a0] _ _ _ _ _ _
  have t_12 : -1 ≤ (f a0 23).toInt ∧ (f a0 23).toInt ≤ 1 := (cI_at hI 23 s0).2.2.2.2.2.2.2.2.2 rfl
  have t_13 := t_neg1
  refine cT_if (b_M_about_6 s0) (fun c_11 => ?_) (fun c_11 => ?_)
  · rw [t_eq] at c_11
    refine cT_go b_M_about_18 ?_
    have t_14 : (nI 0).toInt = 0 := nI_toInt (by decide)
    refine cT_call (b_M_about_19 s0) (c_M_goes hI s0) hF (fun o ho => by omega) (fun v_15 f_16 hI_17 hG_18 hF_19 hQ_20 => ?_)
    obtain ⟨y_21, rfl, hb_22, hQ_20⟩ := hQ_20
    have hb_22r := t_rng y_21
    have t_23 : 3 ≤ (f a0 1).toInt ∧ (f a0 1).toInt ≤ 30 := (cI_at hI 1 s0).2.1 rfl
    have t_24 : 0 ≤ (f a0 3).toInt ∧ (f a0 3).toInt ≤ 32 := (cI_at hI 3 s0).2.2.2.1 rfl
    have t_25 : 0 ≤ (f a0 5).toInt ∧ (f a0 5).toInt ≤ 6 := (cI_at hI 5 s0).2.2.2.2.1 rfl
    have t_26 : 0 ≤ (f a0 8).toInt ∧ (f a0 8).toInt ≤ 8 := (cI_at hI 8 s0).2.2.2.2.2.1 rfl
    have t_27 : 0 ≤ (f a0 14).toInt ∧ (f a0 14).toInt ≤ 26 := (cI_at hI 14 s0).2.2.2.2.2.2.1 rfl
    have g_28 : (f_16 a0 1).toInt = (f a0 1).toInt := congrArg Int32.toInt (hQ_20.2.2.2.2 1 (by decide))
    have g_29 : (f_16 a0 3).toInt = (f a0 3).toInt := congrArg Int32.toInt (hQ_20.2.2.2.2 3 (by decide))
    have g_30 : (f_16 a0 5).toInt = (f a0 5).toInt := congrArg Int32.toInt (hQ_20.2.2.2.2 5 (by decide))
    have g_31 : (f_16 a0 8).toInt = (f a0 8).toInt := congrArg Int32.toInt (hQ_20.2.2.2.2 8 (by decide))
    have g_32 : (f_16 a0 14).toInt = (f a0 14).toInt := congrArg Int32.toInt (hQ_20.2.2.2.2 14 (by decide))
    have g_33 : (f_16 a0 23).toInt = (f a0 23).toInt := congrArg Int32.toInt (hQ_20.2.2.2.2 23 (by decide))
    have hk : ∀ k, k ≠ 2 → f_16 a0 k = f a0 k := hQ_20.2.2.2.2
    show cT 85 22 [.ref a0, .int x1] [.int y_21] _ _ _ _ _ _
    refine cT_if b_M_about_22 (fun c_34 => ?_) (fun c_34 => ?_)
    · rw [t_eq] at c_34
      refine cT_go b_M_about_41 ?_
      exact cT_ret b_M_about_42 hI_17 hF_19 ⟨_, rfl, hk⟩
    · rw [t_eq] at c_34
      have t_38 : -1 ≤ (f_16 a0 23).toInt ∧ (f_16 a0 23).toInt ≤ 1 := (cI_at hI_17 23 s0).2.2.2.2.2.2.2.2.2 rfl
      first | have t_37 : (((nI 5)) * ((f_16 a0 23))).toInt = 5 * (((f_16 a0 23))).toInt := t_mulc (by decide) (by omega) | (obtain ⟨kt_37, t_37⟩ := t_mul ((nI 5)) ((f_16 a0 23)); rw [nI_toInt (show 5 < 2 ^ 31 by decide)] at t_37)
      first | have t_36 : ((((nI 5) * (f_16 a0 23))) + x1).toInt = ((((nI 5) * (f_16 a0 23)))).toInt + (x1).toInt := t_addn (by omega) | obtain ⟨kt_36, t_36⟩ := t_add (((nI 5) * (f_16 a0 23))) x1
      refine cT_go (b_M_about_25 s0 (by rw [t_in]; omega)) ?_
      have t_39 := t_rng (f_16 (a0 + 16) (((nI 5) * (f_16 a0 23)) + x1).toNatClampNeg)
      exact cT_ret b_M_about_42 hI_17 hF_19 ⟨_, rfl, hk⟩
  · rw [t_eq] at c_11
    refine cT_go b_M_about_14 ?_
    have t_40 : (nI 1).toInt = 1 := nI_toInt (by decide)
    refine cT_call (b_M_about_19 s0) (c_M_goes hI s0) hF (fun o ho => by omega) (fun v_41 f_42 hI_43 hG_44 hF_45 hQ_46 => ?_)
    obtain ⟨y_47, rfl, hb_48, hQ_46⟩ := hQ_46
    have hb_48r := t_rng y_47
    have t_49 : 3 ≤ (f a0 1).toInt ∧ (f a0 1).toInt ≤ 30 := (cI_at hI 1 s0).2.1 rfl
    have t_50 : 0 ≤ (f a0 3).toInt ∧ (f a0 3).toInt ≤ 32 := (cI_at hI 3 s0).2.2.2.1 rfl
    have t_51 : 0 ≤ (f a0 5).toInt ∧ (f a0 5).toInt ≤ 6 := (cI_at hI 5 s0).2.2.2.2.1 rfl
    have t_52 : 0 ≤ (f a0 8).toInt ∧ (f a0 8).toInt ≤ 8 := (cI_at hI 8 s0).2.2.2.2.2.1 rfl
    have t_53 : 0 ≤ (f a0 14).toInt ∧ (f a0 14).toInt ≤ 26 := (cI_at hI 14 s0).2.2.2.2.2.2.1 rfl
    have g_54 : (f_42 a0 1).toInt = (f a0 1).toInt := congrArg Int32.toInt (hQ_46.2.2.2.2 1 (by decide))
    have g_55 : (f_42 a0 3).toInt = (f a0 3).toInt := congrArg Int32.toInt (hQ_46.2.2.2.2 3 (by decide))
    have g_56 : (f_42 a0 5).toInt = (f a0 5).toInt := congrArg Int32.toInt (hQ_46.2.2.2.2 5 (by decide))
    have g_57 : (f_42 a0 8).toInt = (f a0 8).toInt := congrArg Int32.toInt (hQ_46.2.2.2.2 8 (by decide))
    have g_58 : (f_42 a0 14).toInt = (f a0 14).toInt := congrArg Int32.toInt (hQ_46.2.2.2.2 14 (by decide))
    have g_59 : (f_42 a0 23).toInt = (f a0 23).toInt := congrArg Int32.toInt (hQ_46.2.2.2.2 23 (by decide))
    have hk : ∀ k, k ≠ 2 → f_42 a0 k = f a0 k := hQ_46.2.2.2.2
    show cT 85 22 [.ref a0, .int x1] [.int y_47] _ _ _ _ _ _
    refine cT_if b_M_about_22 (fun c_60 => ?_) (fun c_60 => ?_)
    · rw [t_eq] at c_60
      refine cT_go b_M_about_41 ?_
      have t_62 : (nI 0).toInt = 0 := nI_toInt (by decide)
      exact cT_ret b_M_about_42 hI_43 hF_45 ⟨_, rfl, hk⟩
    · rw [t_eq] at c_60
      have t_65 : -1 ≤ (f_42 a0 23).toInt ∧ (f_42 a0 23).toInt ≤ 1 := (cI_at hI_43 23 s0).2.2.2.2.2.2.2.2.2 rfl
      first | have t_64 : (((nI 5)) * ((f_42 a0 23))).toInt = 5 * (((f_42 a0 23))).toInt := t_mulc (by decide) (by omega) | (obtain ⟨kt_64, t_64⟩ := t_mul ((nI 5)) ((f_42 a0 23)); rw [nI_toInt (show 5 < 2 ^ 31 by decide)] at t_64)
      first | have t_63 : ((((nI 5) * (f_42 a0 23))) + x1).toInt = ((((nI 5) * (f_42 a0 23)))).toInt + (x1).toInt := t_addn (by omega) | obtain ⟨kt_63, t_63⟩ := t_add (((nI 5) * (f_42 a0 23))) x1
      refine cT_go (b_M_about_25 s0 (by rw [t_in]; omega)) ?_
      have t_66 := t_rng (f_42 (a0 + 16) (((nI 5) * (f_42 a0 23)) + x1).toNatClampNeg)
      exact cT_ret b_M_about_42 hI_43 hF_45 ⟨_, rfl, hk⟩
theorem c_M_wasThere {L : Nat} {f : cg_G} {e : Nat × Nat} {a0 : Nat} {x1 : Int32} (hI : cI L f) (s0 : sh_ a0 = 7)  : cE 99 [.ref a0, .int x1] L e (fun o => False) f (fun v f' => ∃ x : Int32, v = some (.int x) ∧ (x = 0 ∨ x = 1) ∧ (x.toInt ≠ 0 → 0 ≤ x1.toInt ∧ x1.toInt < 8)) := by
  refine cE_of (ls := [.ref a0, .int x1]) rfl ?_
  have t0 := t_0
  have hF : cF (fun o => False) f f := cF_rf
  have hm := one_7 s0
  have t_1 := t_rng (x1)
  have t_3 : -1 ≤ (f a0 23).toInt ∧ (f a0 23).toInt ≤ 1 := (cI_at hI 23 s0).2.2.2.2.2.2.2.2.2 rfl
  have t_4 := t_neg1
  refine cT_if (b_M_wasThere_0 s0) (fun c_2 => ?_) (fun c_2 => ?_)
  · rw [t_eq] at c_2
    refine cT_go (b_M_wasThere_9 s0) ?_
    have t_5 : 0 ≤ (f a0 8).toInt ∧ (f a0 8).toInt ≤ 8 := (cI_at hI 8 s0).2.2.2.2.2.1 rfl
    refine cT_call b_M_wasThere_25 (c_M_below hI) hF (fun o ho => ho.elim) (fun v_6 f_7 hI_8 hG_9 hF_10 hQ_11 => ?_)
    obtain rfl := cF_no hG_9
    obtain ⟨y_12, rfl, hb_13, hQ_11⟩ := hQ_11
    have hb_13r := t_rng y_12
    show cT 99 28 [.ref a0, .int x1] [.int y_12] _ _ _ _ _ _
    exact cT_ret (b_M_wasThere_28 hb_13) hI hF ⟨_, rfl, hb_13, by omega⟩
  · rw [t_eq] at c_2
    refine cT_go (b_M_wasThere_16 s0 (by rw [t_in]; omega)) ?_
    have t_14 : 0 ≤ (f (a0 + 15) (f a0 23).toNatClampNeg).toInt ∧ (f (a0 + 15) (f a0 23).toNatClampNeg).toInt ≤ 8 := (cI_at hI (f a0 23).toNatClampNeg (sc_7_24 s0)).2.2.2.2.1 (by omega)
    refine cT_call b_M_wasThere_25 (c_M_below hI) hF (fun o ho => ho.elim) (fun v_15 f_16 hI_17 hG_18 hF_19 hQ_20 => ?_)
    obtain rfl := cF_no hG_18
    obtain ⟨y_21, rfl, hb_22, hQ_20⟩ := hQ_20
    have hb_22r := t_rng y_21
    show cT 99 28 [.ref a0, .int x1] [.int y_21] _ _ _ _ _ _
    exact cT_ret (b_M_wasThere_28 hb_22) hI hF ⟨_, rfl, hb_22, by omega⟩
theorem c_M_page {L : Nat} {f : cg_G} {e : Nat × Nat} {a0 : Nat} {x1 : Int32} (hI : cI L f) (s0 : sh_ a0 = 7)  : cE 118 [.ref a0, .int x1] L e (fun o => o = a0) f (fun v f' => ∃ x : Int32, v = some (.int x) ∧ (∀ k, k ≠ 2 → f' a0 k = f a0 k)) := by
  refine cE_of (ls := [.ref a0, .int x1]) rfl ?_
  have t0 := t_0
  have hF : cF (fun o => o = a0) f f := cF_rf
  have hm := one_7 s0
  have t_1 := t_rng (x1)
  refine cT_call (b_M_page_0 s0) (c_M_wasThere hI s0) hF (fun o ho => ho.elim) (fun v_2 f_3 hI_4 hG_5 hF_6 hQ_7 => ?_)
  obtain rfl := cF_no hG_5
  obtain ⟨y_8, rfl, hb_9, hQ_7⟩ := hQ_7
  have hb_9r := t_rng y_8
  show cT 118 6 [.ref a0, .int x1] [.int y_8, .ref a0] _ _ _ _ _ _
  have t_11 : -1 ≤ (f a0 23).toInt ∧ (f a0 23).toInt ≤ 1 := (cI_at hI 23 s0).2.2.2.2.2.2.2.2.2 rfl
  have t_12 := t_neg1
  refine cT_if (b_M_page_6 s0) (fun c_10 => ?_) (fun c_10 => ?_)
  · rw [t_eq] at c_10
    refine cT_go b_M_page_18 ?_
    have t_13 : (nI 0).toInt = 0 := nI_toInt (by decide)
    refine cT_call (b_M_page_19 s0) (c_M_goes hI s0) hF (fun o ho => by omega) (fun v_14 f_15 hI_16 hG_17 hF_18 hQ_19 => ?_)
    obtain ⟨y_20, rfl, hb_21, hQ_19⟩ := hQ_19
    have hb_21r := t_rng y_20
    have t_22 : 3 ≤ (f a0 1).toInt ∧ (f a0 1).toInt ≤ 30 := (cI_at hI 1 s0).2.1 rfl
    have t_23 : 0 ≤ (f a0 3).toInt ∧ (f a0 3).toInt ≤ 32 := (cI_at hI 3 s0).2.2.2.1 rfl
    have t_24 : 0 ≤ (f a0 5).toInt ∧ (f a0 5).toInt ≤ 6 := (cI_at hI 5 s0).2.2.2.2.1 rfl
    have t_25 : 0 ≤ (f a0 8).toInt ∧ (f a0 8).toInt ≤ 8 := (cI_at hI 8 s0).2.2.2.2.2.1 rfl
    have t_26 : 0 ≤ (f a0 14).toInt ∧ (f a0 14).toInt ≤ 26 := (cI_at hI 14 s0).2.2.2.2.2.2.1 rfl
    have g_27 : (f_15 a0 1).toInt = (f a0 1).toInt := congrArg Int32.toInt (hQ_19.2.2.2.2 1 (by decide))
    have g_28 : (f_15 a0 3).toInt = (f a0 3).toInt := congrArg Int32.toInt (hQ_19.2.2.2.2 3 (by decide))
    have g_29 : (f_15 a0 5).toInt = (f a0 5).toInt := congrArg Int32.toInt (hQ_19.2.2.2.2 5 (by decide))
    have g_30 : (f_15 a0 8).toInt = (f a0 8).toInt := congrArg Int32.toInt (hQ_19.2.2.2.2 8 (by decide))
    have g_31 : (f_15 a0 14).toInt = (f a0 14).toInt := congrArg Int32.toInt (hQ_19.2.2.2.2 14 (by decide))
    have g_32 : (f_15 a0 23).toInt = (f a0 23).toInt := congrArg Int32.toInt (hQ_19.2.2.2.2 23 (by decide))
    have hk : ∀ k, k ≠ 2 → f_15 a0 k = f a0 k := hQ_19.2.2.2.2
    show cT 118 22 [.ref a0, .int x1] [.int y_20] _ _ _ _ _ _
    refine cT_if b_M_page_22 (fun c_33 => ?_) (fun c_33 => ?_)
    · rw [t_eq] at c_33
      refine cT_go b_M_page_42 ?_
      exact cT_ret b_M_page_43 hI_16 hF_18 ⟨_, rfl, hk⟩
    · rw [t_eq] at c_33
      have t_37 : (nI 8).toInt = 8 := nI_toInt (by decide)
      have t_38 : -1 ≤ (f_15 a0 23).toInt ∧ (f_15 a0 23).toInt ≤ 1 := (cI_at hI_16 23 s0).2.2.2.2.2.2.2.2.2 rfl
      first | have t_36 : (((nI 8)) * ((f_15 a0 23))).toInt = 8 * (((f_15 a0 23))).toInt := t_mulc (by decide) (by omega) | (obtain ⟨kt_36, t_36⟩ := t_mul ((nI 8)) ((f_15 a0 23)); rw [nI_toInt (show 8 < 2 ^ 31 by decide)] at t_36)
      first | have t_35 : ((((nI 8) * (f_15 a0 23))) + x1).toInt = ((((nI 8) * (f_15 a0 23)))).toInt + (x1).toInt := t_addn (by omega) | obtain ⟨kt_35, t_35⟩ := t_add (((nI 8) * (f_15 a0 23))) x1
      refine cT_go (b_M_page_25 s0 (by rw [t_in]; omega)) ?_
      have t_39 := t_rng (f_15 (a0 + 17) (((nI 8) * (f_15 a0 23)) + x1).toNatClampNeg)
      exact cT_ret b_M_page_43 hI_16 hF_18 ⟨_, rfl, hk⟩
  · rw [t_eq] at c_10
    refine cT_go b_M_page_14 ?_
    have t_40 : (nI 1).toInt = 1 := nI_toInt (by decide)
    refine cT_call (b_M_page_19 s0) (c_M_goes hI s0) hF (fun o ho => by omega) (fun v_41 f_42 hI_43 hG_44 hF_45 hQ_46 => ?_)
    obtain ⟨y_47, rfl, hb_48, hQ_46⟩ := hQ_46
    have hb_48r := t_rng y_47
    have t_49 : 3 ≤ (f a0 1).toInt ∧ (f a0 1).toInt ≤ 30 := (cI_at hI 1 s0).2.1 rfl
    have t_50 : 0 ≤ (f a0 3).toInt ∧ (f a0 3).toInt ≤ 32 := (cI_at hI 3 s0).2.2.2.1 rfl
    have t_51 : 0 ≤ (f a0 5).toInt ∧ (f a0 5).toInt ≤ 6 := (cI_at hI 5 s0).2.2.2.2.1 rfl
    have t_52 : 0 ≤ (f a0 8).toInt ∧ (f a0 8).toInt ≤ 8 := (cI_at hI 8 s0).2.2.2.2.2.1 rfl
    have t_53 : 0 ≤ (f a0 14).toInt ∧ (f a0 14).toInt ≤ 26 := (cI_at hI 14 s0).2.2.2.2.2.2.1 rfl
    have g_54 : (f_42 a0 1).toInt = (f a0 1).toInt := congrArg Int32.toInt (hQ_46.2.2.2.2 1 (by decide))
    have g_55 : (f_42 a0 3).toInt = (f a0 3).toInt := congrArg Int32.toInt (hQ_46.2.2.2.2 3 (by decide))
    have g_56 : (f_42 a0 5).toInt = (f a0 5).toInt := congrArg Int32.toInt (hQ_46.2.2.2.2 5 (by decide))
    have g_57 : (f_42 a0 8).toInt = (f a0 8).toInt := congrArg Int32.toInt (hQ_46.2.2.2.2 8 (by decide))
    have g_58 : (f_42 a0 14).toInt = (f a0 14).toInt := congrArg Int32.toInt (hQ_46.2.2.2.2 14 (by decide))
    have g_59 : (f_42 a0 23).toInt = (f a0 23).toInt := congrArg Int32.toInt (hQ_46.2.2.2.2 23 (by decide))
    have hk : ∀ k, k ≠ 2 → f_42 a0 k = f a0 k := hQ_46.2.2.2.2
    show cT 118 22 [.ref a0, .int x1] [.int y_47] _ _ _ _ _ _
    refine cT_if b_M_page_22 (fun c_60 => ?_) (fun c_60 => ?_)
    · rw [t_eq] at c_60
      refine cT_go b_M_page_42 ?_
      have t_62 : (nI 0).toInt = 0 := nI_toInt (by decide)
      exact cT_ret b_M_page_43 hI_43 hF_45 ⟨_, rfl, hk⟩
    · rw [t_eq] at c_60
      have t_65 : (nI 8).toInt = 8 := nI_toInt (by decide)
      have t_66 : -1 ≤ (f_42 a0 23).toInt ∧ (f_42 a0 23).toInt ≤ 1 := (cI_at hI_43 23 s0).2.2.2.2.2.2.2.2.2 rfl
      first | have t_64 : (((nI 8)) * ((f_42 a0 23))).toInt = 8 * (((f_42 a0 23))).toInt := t_mulc (by decide) (by omega) | (obtain ⟨kt_64, t_64⟩ := t_mul ((nI 8)) ((f_42 a0 23)); rw [nI_toInt (show 8 < 2 ^ 31 by decide)] at t_64)
      first | have t_63 : ((((nI 8) * (f_42 a0 23))) + x1).toInt = ((((nI 8) * (f_42 a0 23)))).toInt + (x1).toInt := t_addn (by omega) | obtain ⟨kt_63, t_63⟩ := t_add (((nI 8) * (f_42 a0 23))) x1
      refine cT_go (b_M_page_25 s0 (by rw [t_in]; omega)) ?_
      have t_67 := t_rng (f_42 (a0 + 17) (((nI 8) * (f_42 a0 23)) + x1).toNatClampNeg)
      exact cT_ret b_M_page_43 hI_43 hF_45 ⟨_, rfl, hk⟩
theorem l_M_rank_20 {L : Nat} {e : Nat × Nat} {f0 : cg_G} : ∀ (k : Nat) {f : cg_G} {a0 : Nat} {x1 : Int32} {x2 : Int32} {x3 : Int32}, (26 - x3.toInt).toNat < k → cI L f → cF (fun o => False) f0 f → sh_ a0 = 7 → (0 ≤ x3.toInt) → cT 51 20 [.ref a0, .int x1, .int x2, .int x3] [] L e (fun o => False) f0 f (fun v f' => ∃ x : Int32, v = some (.int x) ∧ (True)) := by
  intro k
  induction k with
  | zero => intro f a0 x1 x2 x3 hm; omega
  | succ k ih =>
    intro f a0 x1 x2 x3 hme hI hF s0 i3
    have t0 := t_0
    have hm := one_7 s0
    have t_1 := t_rng (x1)
    have t_2 := t_rng (x2)
    have t_3 := t_rng (x3)
    have t_5 : 0 ≤ (f a0 14).toInt ∧ (f a0 14).toInt ≤ 26 := (cI_at hI 14 s0).2.2.2.2.2.2.1 rfl
    refine cT_if (b_M_rank_20 s0) (fun c_4 => ?_) (fun c_4 => ?_)
    · rw [t_le] at c_4
      exact cT_ret b_M_rank_52 hI hF ⟨_, rfl, trivial⟩
    · rw [t_le] at c_4
      have t_7 := t_rng (f (a0 + 9) x3.toNatClampNeg)
      refine cT_if (b_M_rank_28 s0 (by rw [t_in]; omega)) (fun c_6 => ?_) (fun c_6 => ?_)
      · rw [t_eq] at c_6
        refine cT_go b_M_rank_38 ?_
        refine cT_go b_M_rank_45 ?_
        have t_9 : (nI 1).toInt = 1 := nI_toInt (by decide)
        first | have t_8 : (((nI 1)) + x3).toInt = (((nI 1))).toInt + (x3).toInt := t_addn (by omega) | obtain ⟨kt_8, t_8⟩ := t_add ((nI 1)) x3
        first | have t_10 : (x3 + (nI 1)).toInt = (x3).toInt + ((nI 1)).toInt := t_addn (by omega) | obtain ⟨kt_10, t_10⟩ := t_add x3 (nI 1)
        exact ih (by omega) hI hF s0 (by omega)
      · rw [t_eq] at c_6
        refine cT_go b_M_rank_44 ?_
        refine cT_go b_M_rank_45 ?_
        have t_12 : (nI 1).toInt = 1 := nI_toInt (by decide)
        first | have t_11 : (x3 + (nI 1)).toInt = (x3).toInt + ((nI 1)).toInt := t_addn (by omega) | obtain ⟨kt_11, t_11⟩ := t_add x3 (nI 1)
        exact ih (by omega) hI hF s0 (by omega)
theorem c_M_rank {L : Nat} {f : cg_G} {e : Nat × Nat} {a0 : Nat} {x1 : Int32} (hI : cI L f) (s0 : sh_ a0 = 7)  : cE 51 [.ref a0, .int x1] L e (fun o => False) f (fun v f' => ∃ x : Int32, v = some (.int x) ∧ (True)) := by
  refine cE_of (ls := [.ref a0, .int x1, (.retAddr 0), (.retAddr 0)]) rfl ?_
  have t0 := t_0
  have hF : cF (fun o => False) f f := cF_rf
  have hm := one_7 s0
  have t_13 := t_rng (x1)
  have t_15 : (nI 32).toInt = 32 := nI_toInt (by decide)
  refine cT_if b_M_rank_0 (fun c_14 => ?_) (fun c_14 => ?_)
  · rw [t_eq] at c_14
    refine cT_go b_M_rank_6 ?_
    refine cT_go b_M_rank_17 ?_
    have t_16 : (nI 0).toInt = 0 := nI_toInt (by decide)
    exact l_M_rank_20 ((26 - (nI 0).toInt).toNat + 1) (by omega) hI hF s0 (by omega)
  · rw [t_eq] at c_14
    refine cT_go b_M_rank_10 ?_
    refine cT_go b_M_rank_17 ?_
    have t_19 : (nI 27).toInt = 27 := nI_toInt (by decide)
    first | have t_18 : (((nI 27)) + x1).toInt = (((nI 27))).toInt + (x1).toInt := t_addn (by omega) | obtain ⟨kt_18, t_18⟩ := t_add ((nI 27)) x1
    have t_20 : (nI 97).toInt = 97 := nI_toInt (by decide)
    first | have t_17 : ((((nI 27) + x1)) - ((nI 97))).toInt = ((((nI 27) + x1))).toInt - (((nI 97))).toInt := t_subn (by omega) | obtain ⟨kt_17, t_17⟩ := t_sub (((nI 27) + x1)) ((nI 97))
    have t_21 : (nI 0).toInt = 0 := nI_toInt (by decide)
    exact l_M_rank_20 ((26 - (nI 0).toInt).toNat + 1) (by omega) hI hF s0 (by omega)
theorem l_M_isAhead_17 {L : Nat} {e : Nat × Nat} {f0 : cg_G} : ∀ (k : Nat) {f : cg_G} {a0 : Nat} {x1 : Int32} {x2 : Int32} {x3 : Int32} {x4 : Int32} {x5 : Int32} {x6 : Int32} {u7 : Value} {u8 : Value}, (32 - x6.toInt).toNat < k → cI L f → cF (fun o => False) f0 f → sh_ a0 = 7 → (0 ≤ x4.toInt ∧ x4.toInt < 32) → (0 ≤ x5.toInt ∧ x5.toInt < 32) → (0 ≤ x6.toInt) → cT 89 17 [.ref a0, .int x1, .int x2, .int x3, .int x4, .int x5, .int x6, u7, u8] [] L e (fun o => False) f0 f (fun v f' => ∃ x : Int32, v = some (.int x) ∧ (x = 0 ∨ x = 1) ∧ (True)) := by
  intro k
  induction k with
  | zero => intro f a0 x1 x2 x3 x4 x5 x6 u7 u8 hm; omega
  | succ k ih =>
    intro f a0 x1 x2 x3 x4 x5 x6 u7 u8 hme hI hF s0 i4 i5 i6
    have t0 := t_0
    have hm := one_7 s0
    have t_1 := t_rng (x1)
    have t_2 := t_rng (x2)
    have t_3 := t_rng (x3)
    have t_4 := t_rng (x4)
    have t_5 := t_rng (x5)
    have t_6 := t_rng (x6)
    have t_8 : 0 ≤ (f (a0 + 5) x4.toNatClampNeg).toInt ∧ (f (a0 + 5) x4.toNatClampNeg).toInt ≤ 32 := (cI_at hI x4.toNatClampNeg (sc_7_10 s0)).2.2.1 (by omega)
    refine cT_if (b_M_isAhead_17 s0 (by rw [t_in]; omega)) (fun c_7 => ?_) (fun c_7 => ?_)
    · rw [t_le] at c_7
      have t_10 : 0 ≤ (f (a0 + 5) x5.toNatClampNeg).toInt ∧ (f (a0 + 5) x5.toNatClampNeg).toInt ≤ 32 := (cI_at hI x5.toNatClampNeg (sc_7_10 s0)).2.2.1 (by omega)
      refine cT_if (b_M_isAhead_105 s0 (by rw [t_in]; omega) (by rw [t_in]; omega)) (fun c_9 => ?_) (fun c_9 => ?_)
      · rw [t_lt] at c_9
        refine cT_go b_M_isAhead_144 ?_
        have t_11 : (nI 1).toInt = 1 := nI_toInt (by decide)
        exact cT_ret (b_M_isAhead_149 (by decide)) hI hF ⟨_, rfl, (by decide), trivial⟩
      · rw [t_lt] at c_9
        refine cT_if (b_M_isAhead_122 s0 (by rw [t_in]; omega) (by rw [t_in]; omega)) (fun c_12 => ?_) (fun c_12 => ?_)
        · rw [t_eq] at c_12
          refine cT_if b_M_isAhead_139 (fun c_13 => ?_) (fun c_13 => ?_)
          · rw [t_le] at c_13
            refine cT_go b_M_isAhead_148 ?_
            have t_14 : (nI 0).toInt = 0 := nI_toInt (by decide)
            exact cT_ret (b_M_isAhead_149 (by decide)) hI hF ⟨_, rfl, (by decide), trivial⟩
          · rw [t_le] at c_13
            refine cT_go b_M_isAhead_144 ?_
            have t_15 : (nI 1).toInt = 1 := nI_toInt (by decide)
            exact cT_ret (b_M_isAhead_149 (by decide)) hI hF ⟨_, rfl, (by decide), trivial⟩
        · rw [t_eq] at c_12
          refine cT_go b_M_isAhead_148 ?_
          have t_16 : (nI 0).toInt = 0 := nI_toInt (by decide)
          exact cT_ret (b_M_isAhead_149 (by decide)) hI hF ⟨_, rfl, (by decide), trivial⟩
    · rw [t_le] at c_7
      have t_18 : 0 ≤ (f (a0 + 5) x5.toNatClampNeg).toInt ∧ (f (a0 + 5) x5.toNatClampNeg).toInt ≤ 32 := (cI_at hI x5.toNatClampNeg (sc_7_10 s0)).2.2.1 (by omega)
      refine cT_if (b_M_isAhead_29 s0 (by rw [t_in]; omega)) (fun c_17 => ?_) (fun c_17 => ?_)
      · rw [t_le] at c_17
        refine cT_if (b_M_isAhead_105 s0 (by rw [t_in]; omega) (by rw [t_in]; omega)) (fun c_19 => ?_) (fun c_19 => ?_)
        · rw [t_lt] at c_19
          refine cT_go b_M_isAhead_144 ?_
          have t_20 : (nI 1).toInt = 1 := nI_toInt (by decide)
          exact cT_ret (b_M_isAhead_149 (by decide)) hI hF ⟨_, rfl, (by decide), trivial⟩
        · rw [t_lt] at c_19
          refine cT_if (b_M_isAhead_122 s0 (by rw [t_in]; omega) (by rw [t_in]; omega)) (fun c_21 => ?_) (fun c_21 => ?_)
          · rw [t_eq] at c_21
            refine cT_if b_M_isAhead_139 (fun c_22 => ?_) (fun c_22 => ?_)
            · rw [t_le] at c_22
              refine cT_go b_M_isAhead_148 ?_
              have t_23 : (nI 0).toInt = 0 := nI_toInt (by decide)
              exact cT_ret (b_M_isAhead_149 (by decide)) hI hF ⟨_, rfl, (by decide), trivial⟩
            · rw [t_le] at c_22
              refine cT_go b_M_isAhead_144 ?_
              have t_24 : (nI 1).toInt = 1 := nI_toInt (by decide)
              exact cT_ret (b_M_isAhead_149 (by decide)) hI hF ⟨_, rfl, (by decide), trivial⟩
          · rw [t_eq] at c_21
            refine cT_go b_M_isAhead_148 ?_
            have t_25 : (nI 0).toInt = 0 := nI_toInt (by decide)
            exact cT_ret (b_M_isAhead_149 (by decide)) hI hF ⟨_, rfl, (by decide), trivial⟩
      · rw [t_le] at c_17
        have t_28 : (nI 32).toInt = 32 := nI_toInt (by decide)
        first | have t_27 : (((nI 32)) * x4).toInt = 32 * (x4).toInt := t_mulc (by decide) (by omega) | (obtain ⟨kt_27, t_27⟩ := t_mul ((nI 32)) x4; rw [nI_toInt (show 32 < 2 ^ 31 by decide)] at t_27)
        first | have t_26 : ((((nI 32) * x4)) + x6).toInt = ((((nI 32) * x4))).toInt + (x6).toInt := t_addn (by omega) | obtain ⟨kt_26, t_26⟩ := t_add (((nI 32) * x4)) x6
        have t_29 := t_rng (f (a0 + 6) (((nI 32) * x4) + x6).toNatClampNeg)
        refine cT_call (b_M_isAhead_41 s0 (by rw [t_in]; omega)) (c_M_rank hI s0) hF (fun o ho => ho.elim) (fun v_30 f_31 hI_32 hG_33 hF_34 hQ_35 => ?_)
        obtain rfl := cF_no hG_33
        obtain ⟨y_36, rfl, hQ_35⟩ := hQ_35
        have hQ_35r := t_rng y_36
        show cT 89 58 [.ref a0, .int x1, .int x2, .int x3, .int x4, .int x5, .int x6, u7, u8] [.int y_36] _ _ _ _ _ _
        first | have t_38 : (((nI 32)) * x5).toInt = 32 * (x5).toInt := t_mulc (by decide) (by omega) | (obtain ⟨kt_38, t_38⟩ := t_mul ((nI 32)) x5; rw [nI_toInt (show 32 < 2 ^ 31 by decide)] at t_38)
        first | have t_37 : ((((nI 32) * x5)) + x6).toInt = ((((nI 32) * x5))).toInt + (x6).toInt := t_addn (by omega) | obtain ⟨kt_37, t_37⟩ := t_add (((nI 32) * x5)) x6
        have t_39 := t_rng (f (a0 + 6) (((nI 32) * x5) + x6).toNatClampNeg)
        refine cT_call (b_M_isAhead_58 s0 (by rw [t_in]; omega)) (c_M_rank hI s0) hF (fun o ho => ho.elim) (fun v_40 f_41 hI_42 hG_43 hF_44 hQ_45 => ?_)
        obtain rfl := cF_no hG_43
        obtain ⟨y_46, rfl, hQ_45⟩ := hQ_45
        have hQ_45r := t_rng y_46
        show cT 89 77 [.ref a0, .int x1, .int x2, .int x3, .int x4, .int x5, .int x6, .int y_36, u8] [.int y_46] _ _ _ _ _ _
        refine cT_if b_M_isAhead_77 (fun c_47 => ?_) (fun c_47 => ?_)
        · rw [t_eq] at c_47
          refine cT_go b_M_isAhead_99 ?_
          have t_49 : (nI 1).toInt = 1 := nI_toInt (by decide)
          first | have t_48 : (x6 + (nI 1)).toInt = (x6).toInt + ((nI 1)).toInt := t_addn (by omega) | obtain ⟨kt_48, t_48⟩ := t_add x6 (nI 1)
          exact ih (by omega) hI hF s0 (by omega) (by omega) (by omega)
        · rw [t_eq] at c_47
          refine cT_if b_M_isAhead_86 (fun c_50 => ?_) (fun c_50 => ?_)
          · rw [t_le] at c_50
            refine cT_go b_M_isAhead_97 ?_
            have t_51 : (nI 0).toInt = 0 := nI_toInt (by decide)
            exact cT_ret (b_M_isAhead_98 (by decide)) hI hF ⟨_, rfl, (by decide), trivial⟩
          · rw [t_le] at c_50
            refine cT_go b_M_isAhead_93 ?_
            have t_52 : (nI 1).toInt = 1 := nI_toInt (by decide)
            exact cT_ret (b_M_isAhead_98 (by decide)) hI hF ⟨_, rfl, (by decide), trivial⟩
theorem c_M_isAhead {L : Nat} {f : cg_G} {e : Nat × Nat} {a0 : Nat} {x1 : Int32} {x2 : Int32} {x3 : Int32} (hI : cI L f) (s0 : sh_ a0 = 7) (p1 : 0 ≤ x1.toInt ∧ x1.toInt < 8) (p2 : 0 ≤ x2.toInt ∧ x2.toInt < 8) (p3 : 0 ≤ x3.toInt ∧ x3.toInt < 4) : cE 89 [.ref a0, .int x1, .int x2, .int x3] L e (fun o => False) f (fun v f' => ∃ x : Int32, v = some (.int x) ∧ (x = 0 ∨ x = 1) ∧ (True)) := by
  refine cE_of (ls := [.ref a0, .int x1, .int x2, .int x3, (.retAddr 0), (.retAddr 0), (.retAddr 0), (.retAddr 0), (.retAddr 0)]) rfl ?_
  have t0 := t_0
  have hF : cF (fun o => False) f f := cF_rf
  have hm := one_7 s0
  have t_53 := t_rng (x1)
  have t_54 := t_rng (x2)
  have t_55 := t_rng (x3)
  refine cT_go b_M_isAhead_0 ?_
  have t_58 : (nI 4).toInt = 4 := nI_toInt (by decide)
  first | have t_57 : (((nI 4)) * x1).toInt = 4 * (x1).toInt := t_mulc (by decide) (by omega) | (obtain ⟨kt_57, t_57⟩ := t_mul ((nI 4)) x1; rw [nI_toInt (show 4 < 2 ^ 31 by decide)] at t_57)
  first | have t_56 : ((((nI 4) * x1)) + x3).toInt = ((((nI 4) * x1))).toInt + (x3).toInt := t_addn (by omega) | obtain ⟨kt_56, t_56⟩ := t_add (((nI 4) * x1)) x3
  first | have t_60 : (((nI 4)) * x2).toInt = 4 * (x2).toInt := t_mulc (by decide) (by omega) | (obtain ⟨kt_60, t_60⟩ := t_mul ((nI 4)) x2; rw [nI_toInt (show 4 < 2 ^ 31 by decide)] at t_60)
  first | have t_59 : ((((nI 4) * x2)) + x3).toInt = ((((nI 4) * x2))).toInt + (x3).toInt := t_addn (by omega) | obtain ⟨kt_59, t_59⟩ := t_add (((nI 4) * x2)) x3
  have t_61 : (nI 0).toInt = 0 := nI_toInt (by decide)
  exact l_M_isAhead_17 ((32 - (nI 0).toInt).toNat + 1) (by omega) hI hF s0 (by omega) (by omega) (by omega)
theorem l_M_index_47 {L : Nat} {e : Nat × Nat} {f0 : cg_G} {Q : Option Value → cg_G → Prop} {f : cg_G} {a0 : Nat} {x1 : Int32} {x2 : Int32} {x3 : Int32} {x4 : Int32} (hI : cI L f) (hF : cF (fun o => o = a0) f0 f) (s0 : sh_ a0 = 7) (j1 : 0 ≤ x1.toInt ∧ x1.toInt < 4) (j4 : 0 ≤ x4.toInt ∧ x4.toInt < 8) : ∀ (k : Nat) {x5 : Int32} {x6 : Int32}, (8 - x6.toInt).toNat < k → (0 ≤ x6.toInt) → (∀ (x5' : Int32) (x6' : Int32), cT 117 106 [.ref a0, .int x1, .int x2, .int x3, .int x4, .int x5', .int x6'] [] L e (fun o => o = a0) f0 f Q) → cT 117 47 [.ref a0, .int x1, .int x2, .int x3, .int x4, .int x5, .int x6] [] L e (fun o => o = a0) f0 f Q := by
  intro k
  induction k with
  | zero => intro x5 x6 hm; omega
  | succ k ih =>
    intro x5 x6 hm i6 hx
    have t0 := t_0
    have hm := one_7 s0
    have t_1 := t_rng (x1)
    have t_2 := t_rng (x2)
    have t_3 := t_rng (x3)
    have t_4 := t_rng (x4)
    have t_5 := t_rng (x5)
    have t_6 := t_rng (x6)
    have t_8 : 0 ≤ (f a0 8).toInt ∧ (f a0 8).toInt ≤ 8 := (cI_at hI 8 s0).2.2.2.2.2.1 rfl
    refine cT_if (b_M_index_47 s0) (fun c_7 => ?_) (fun c_7 => ?_)
    · rw [t_le] at c_7
      exact hx _ _ 
    · rw [t_le] at c_7
      refine cT_if b_M_index_56 (fun c_9 => ?_) (fun c_9 => ?_)
      · rw [t_eq] at c_9
        refine cT_go b_M_index_96 ?_
        refine cT_go b_M_index_98 ?_
        have t_11 : (nI 1).toInt = 1 := nI_toInt (by decide)
        first | have t_10 : (x6 + (nI 1)).toInt = (x6).toInt + ((nI 1)).toInt := t_addn (by omega) | obtain ⟨kt_10, t_10⟩ := t_add x6 (nI 1)
        exact ih (by omega) (by omega) hx
      · rw [t_eq] at c_9
        have t_14 : (nI 4).toInt = 4 := nI_toInt (by decide)
        first | have t_13 : (((nI 4)) * x6).toInt = 4 * (x6).toInt := t_mulc (by decide) (by omega) | (obtain ⟨kt_13, t_13⟩ := t_mul ((nI 4)) x6; rw [nI_toInt (show 4 < 2 ^ 31 by decide)] at t_13)
        first | have t_12 : ((((nI 4) * x6)) + x1).toInt = ((((nI 4) * x6))).toInt + (x1).toInt := t_addn (by omega) | obtain ⟨kt_12, t_12⟩ := t_add (((nI 4) * x6)) x1
        have t_16 : 0 ≤ (f (a0 + 5) (((nI 4) * x6) + x1).toNatClampNeg).toInt ∧ (f (a0 + 5) (((nI 4) * x6) + x1).toNatClampNeg).toInt ≤ 32 := (cI_at hI (((nI 4) * x6) + x1).toNatClampNeg (sc_7_10 s0)).2.2.1 (by omega)
        refine cT_if (b_M_index_63 s0 (by rw [t_in]; omega)) (fun c_15 => ?_) (fun c_15 => ?_)
        · rw [t_le] at c_15
          refine cT_go b_M_index_96 ?_
          refine cT_go b_M_index_98 ?_
          have t_19 : (nI 1).toInt = 1 := nI_toInt (by decide)
          first | have t_18 : (x6 + (nI 1)).toInt = (x6).toInt + ((nI 1)).toInt := t_addn (by omega) | obtain ⟨kt_18, t_18⟩ := t_add x6 (nI 1)
          exact ih (by omega) (by omega) hx
        · rw [t_le] at c_15
          refine cT_call (b_M_index_77 s0) (c_M_isAhead hI s0 (by first | omega | assumption | exact sl_4_4 (by assumption)) (by first | omega | assumption | exact sl_4_4 (by assumption)) (by first | omega | assumption | exact sl_4_4 (by assumption))) hF (fun o ho => ho.elim) (fun v_20 f_21 hI_22 hG_23 hF_24 hQ_25 => ?_)
          obtain rfl := cF_no hG_23
          obtain ⟨y_26, rfl, hb_27, hQ_25⟩ := hQ_25
          have hb_27r := t_rng y_26
          show cT 117 86 [.ref a0, .int x1, .int x2, .int x3, .int x4, .int x5, .int x6] [.int y_26] _ _ _ _ _ _
          refine cT_if b_M_index_86 (fun c_28 => ?_) (fun c_28 => ?_)
          · rw [t_eq] at c_28
            refine cT_go b_M_index_96 ?_
            refine cT_go b_M_index_98 ?_
            have t_30 : (nI 1).toInt = 1 := nI_toInt (by decide)
            first | have t_29 : (x6 + (nI 1)).toInt = (x6).toInt + ((nI 1)).toInt := t_addn (by omega) | obtain ⟨kt_29, t_29⟩ := t_add x6 (nI 1)
            exact ih (by omega) (by omega) hx
          · rw [t_eq] at c_28
            refine cT_go b_M_index_89 ?_
            refine cT_go b_M_index_98 ?_
            have t_32 : (nI 1).toInt = 1 := nI_toInt (by decide)
            first | have t_31 : (x5 + ((nI 1))).toInt = (x5).toInt + (((nI 1))).toInt := t_addn (by omega) | obtain ⟨kt_31, t_31⟩ := t_add x5 ((nI 1))
            first | have t_33 : (x6 + (nI 1)).toInt = (x6).toInt + ((nI 1)).toInt := t_addn (by omega) | obtain ⟨kt_33, t_33⟩ := t_add x6 (nI 1)
            exact ih (by omega) (by omega) hx
theorem l_M_index_32 {L : Nat} {e : Nat × Nat} {f0 : cg_G} : ∀ (k : Nat) {f : cg_G} {a0 : Nat} {x1 : Int32} {x2 : Int32} {x3 : Int32} {x4 : Int32} {u5 : Value} {u6 : Value}, (8 - x4.toInt).toNat < k → cI L f → cF (fun o => o = a0) f0 f → sh_ a0 = 7 → (∀ k, k ≠ 2 → f a0 k = f0 a0 k) → (0 ≤ x1.toInt ∧ x1.toInt < 4) → (0 ≤ x4.toInt) → cT 117 32 [.ref a0, .int x1, .int x2, .int x3, .int x4, u5, u6] [] L e (fun o => o = a0) f0 f (fun v f' => ∃ x : Int32, v = some (.int x) ∧ (∀ k, k ≠ 2 → f' a0 k = f0 a0 k)) := by
  intro k
  induction k with
  | zero => intro f a0 x1 x2 x3 x4 u5 u6 hm; omega
  | succ k ih =>
    intro f a0 x1 x2 x3 x4 u5 u6 hme hI hF s0 hk j1 i4
    have t0 := t_0
    have hm := one_7 s0
    have t_34 := t_rng (x1)
    have t_35 := t_rng (x2)
    have t_36 := t_rng (x3)
    have t_37 := t_rng (x4)
    have t_39 : 0 ≤ (f a0 8).toInt ∧ (f a0 8).toInt ≤ 8 := (cI_at hI 8 s0).2.2.2.2.2.1 rfl
    refine cT_if (b_M_index_32 s0) (fun c_38 => ?_) (fun c_38 => ?_)
    · rw [t_le] at c_38
      exact cT_ret b_M_index_139 hI hF ⟨_, rfl, hk⟩
    · rw [t_le] at c_38
      refine cT_go b_M_index_41 ?_
      have t_40 : (nI 0).toInt = 0 := nI_toInt (by decide)
      refine l_M_index_47 hI hF s0 (by omega) (by omega) ((8 - (nI 0).toInt).toNat + 1) (by omega) (by omega) (fun x5vw41 x6vw42 => ?_)
      have t_46 := t_rng (x5vw41)
      have t_47 := t_rng (x6vw42)
      have t_50 : (nI 4).toInt = 4 := nI_toInt (by decide)
      first | have t_49 : (((nI 4)) * x4).toInt = 4 * (x4).toInt := t_mulc (by decide) (by omega) | (obtain ⟨kt_49, t_49⟩ := t_mul ((nI 4)) x4; rw [nI_toInt (show 4 < 2 ^ 31 by decide)] at t_49)
      first | have t_48 : ((((nI 4) * x4)) + x1).toInt = ((((nI 4) * x4))).toInt + (x1).toInt := t_addn (by omega) | obtain ⟨kt_48, t_48⟩ := t_add (((nI 4) * x4)) x1
      have t_52 : 0 ≤ (f (a0 + 5) (((nI 4) * x4) + x1).toNatClampNeg).toInt ∧ (f (a0 + 5) (((nI 4) * x4) + x1).toNatClampNeg).toInt ≤ 32 := (cI_at hI (((nI 4) * x4) + x1).toNatClampNeg (sc_7_10 s0)).2.2.1 (by omega)
      refine cT_if (b_M_index_106 s0 (by rw [t_in]; omega)) (fun c_51 => ?_) (fun c_51 => ?_)
      · rw [t_le] at c_51
        refine cT_go b_M_index_131 ?_
        refine cT_go b_M_index_132 ?_
        have t_55 : (nI 1).toInt = 1 := nI_toInt (by decide)
        first | have t_54 : (x4 + (nI 1)).toInt = (x4).toInt + ((nI 1)).toInt := t_addn (by omega) | obtain ⟨kt_54, t_54⟩ := t_add x4 (nI 1)
        exact ih (by omega) hI hF s0 hk (by omega) (by omega)
      · rw [t_le] at c_51
        refine cT_if b_M_index_120 (fun c_56 => ?_) (fun c_56 => ?_)
        · rw [t_eq] at c_56
          refine cT_go b_M_index_126 ?_
          refine cT_go b_M_index_132 ?_
          have t_58 : (nI 1).toInt = 1 := nI_toInt (by decide)
          first | have t_57 : (x4 + (nI 1)).toInt = (x4).toInt + ((nI 1)).toInt := t_addn (by omega) | obtain ⟨kt_57, t_57⟩ := t_add x4 (nI 1)
          exact ih (by omega) hI hF s0 hk (by omega) (by omega)
        · rw [t_eq] at c_56
          refine cT_go b_M_index_131 ?_
          refine cT_go b_M_index_132 ?_
          have t_60 : (nI 1).toInt = 1 := nI_toInt (by decide)
          first | have t_59 : (x4 + (nI 1)).toInt = (x4).toInt + ((nI 1)).toInt := t_addn (by omega) | obtain ⟨kt_59, t_59⟩ := t_add x4 (nI 1)
          exact ih (by omega) hI hF s0 hk (by omega) (by omega)
theorem c_M_index {L : Nat} {f : cg_G} {e : Nat × Nat} {a0 : Nat} {x1 : Int32} {x2 : Int32} (hI : cI L f) (s0 : sh_ a0 = 7)  : cE 117 [.ref a0, .int x1, .int x2] L e (fun o => o = a0) f (fun v f' => ∃ x : Int32, v = some (.int x) ∧ (∀ k, k ≠ 2 → f' a0 k = f a0 k)) := by
  refine cE_of (ls := [.ref a0, .int x1, .int x2, (.retAddr 0), (.retAddr 0), (.retAddr 0), (.retAddr 0)]) rfl ?_
  have t0 := t_0
  have hF : cF (fun o => o = a0) f f := cF_rf
  have hm := one_7 s0
  have t_61 := t_rng (x1)
  have t_62 := t_rng (x2)
  have t_63 : (nI 4).toInt = 4 := nI_toInt (by decide)
  refine cT_call b_M_index_0 (c_M_below hI) hF (fun o ho => ho.elim) (fun v_64 f_65 hI_66 hG_67 hF_68 hQ_69 => ?_)
  obtain rfl := cF_no hG_67
  obtain ⟨y_70, rfl, hb_71, hQ_69⟩ := hQ_69
  have hb_71r := t_rng y_70
  show cT 117 6 [.ref a0, .int x1, .int x2, ((.retAddr 0)), ((.retAddr 0)), ((.retAddr 0)), ((.retAddr 0))] [.int y_70, .ref a0] _ _ _ _ _ _
  refine cT_if b_M_index_6 (fun c_72 => ?_) (fun c_72 => ?_)
  · rw [t_eq] at c_72
    refine cT_go b_M_index_17 ?_
    have t_74 : (nI 0).toInt = 0 := nI_toInt (by decide)
    have t_75 : (nI 1).toInt = 1 := nI_toInt (by decide)
    refine cT_call (b_M_index_18 s0) (c_M_goes hI s0) hF (fun o ho => by omega) (fun v_76 f_77 hI_78 hG_79 hF_80 hQ_81 => ?_)
    obtain ⟨y_82, rfl, hb_83, hQ_81⟩ := hQ_81
    have hb_83r := t_rng y_82
    have t_84 : 3 ≤ (f a0 1).toInt ∧ (f a0 1).toInt ≤ 30 := (cI_at hI 1 s0).2.1 rfl
    have t_85 : 0 ≤ (f a0 3).toInt ∧ (f a0 3).toInt ≤ 32 := (cI_at hI 3 s0).2.2.2.1 rfl
    have t_86 : 0 ≤ (f a0 5).toInt ∧ (f a0 5).toInt ≤ 6 := (cI_at hI 5 s0).2.2.2.2.1 rfl
    have t_87 : 0 ≤ (f a0 8).toInt ∧ (f a0 8).toInt ≤ 8 := (cI_at hI 8 s0).2.2.2.2.2.1 rfl
    have t_88 : 0 ≤ (f a0 14).toInt ∧ (f a0 14).toInt ≤ 26 := (cI_at hI 14 s0).2.2.2.2.2.2.1 rfl
    have t_89 : -1 ≤ (f a0 23).toInt ∧ (f a0 23).toInt ≤ 1 := (cI_at hI 23 s0).2.2.2.2.2.2.2.2.2 rfl
    have g_90 : (f_77 a0 1).toInt = (f a0 1).toInt := congrArg Int32.toInt (hQ_81.2.2.2.2 1 (by decide))
    have g_91 : (f_77 a0 3).toInt = (f a0 3).toInt := congrArg Int32.toInt (hQ_81.2.2.2.2 3 (by decide))
    have g_92 : (f_77 a0 5).toInt = (f a0 5).toInt := congrArg Int32.toInt (hQ_81.2.2.2.2 5 (by decide))
    have g_93 : (f_77 a0 8).toInt = (f a0 8).toInt := congrArg Int32.toInt (hQ_81.2.2.2.2 8 (by decide))
    have g_94 : (f_77 a0 14).toInt = (f a0 14).toInt := congrArg Int32.toInt (hQ_81.2.2.2.2 14 (by decide))
    have g_95 : (f_77 a0 23).toInt = (f a0 23).toInt := congrArg Int32.toInt (hQ_81.2.2.2.2 23 (by decide))
    have hk : ∀ k, k ≠ 2 → f_77 a0 k = f a0 k := hQ_81.2.2.2.2
    show cT 117 22 [.ref a0, .int x1, .int x2, (((((.retAddr 0))))), (((((.retAddr 0))))), (((((.retAddr 0))))), (((((.retAddr 0)))))] [.int y_82] _ _ _ _ _ _
    refine cT_if b_M_index_22 (fun c_96 => ?_) (fun c_96 => ?_)
    · rw [t_eq] at c_96
      exact cT_ret b_M_index_25 hI_78 hF_80 ⟨_, rfl, hk⟩
    · rw [t_eq] at c_96
      refine cT_go b_M_index_27 ?_
      have t_97 := t_neg1
      exact l_M_index_32 ((8 - (nI 0).toInt).toNat + 1) (by omega) hI_78 hF_80 s0 hk (by omega) (by omega)
  · rw [t_eq] at c_72
    refine cT_if b_M_index_9 (fun c_98 => ?_) (fun c_98 => ?_)
    · rw [t_lt] at c_98
      refine cT_go b_M_index_17 ?_
      have t_99 : (nI 0).toInt = 0 := nI_toInt (by decide)
      have t_100 : (nI 1).toInt = 1 := nI_toInt (by decide)
      refine cT_call (b_M_index_18 s0) (c_M_goes hI s0) hF (fun o ho => by omega) (fun v_101 f_102 hI_103 hG_104 hF_105 hQ_106 => ?_)
      obtain ⟨y_107, rfl, hb_108, hQ_106⟩ := hQ_106
      have hb_108r := t_rng y_107
      have t_109 : 3 ≤ (f a0 1).toInt ∧ (f a0 1).toInt ≤ 30 := (cI_at hI 1 s0).2.1 rfl
      have t_110 : 0 ≤ (f a0 3).toInt ∧ (f a0 3).toInt ≤ 32 := (cI_at hI 3 s0).2.2.2.1 rfl
      have t_111 : 0 ≤ (f a0 5).toInt ∧ (f a0 5).toInt ≤ 6 := (cI_at hI 5 s0).2.2.2.2.1 rfl
      have t_112 : 0 ≤ (f a0 8).toInt ∧ (f a0 8).toInt ≤ 8 := (cI_at hI 8 s0).2.2.2.2.2.1 rfl
      have t_113 : 0 ≤ (f a0 14).toInt ∧ (f a0 14).toInt ≤ 26 := (cI_at hI 14 s0).2.2.2.2.2.2.1 rfl
      have t_114 : -1 ≤ (f a0 23).toInt ∧ (f a0 23).toInt ≤ 1 := (cI_at hI 23 s0).2.2.2.2.2.2.2.2.2 rfl
      have g_115 : (f_102 a0 1).toInt = (f a0 1).toInt := congrArg Int32.toInt (hQ_106.2.2.2.2 1 (by decide))
      have g_116 : (f_102 a0 3).toInt = (f a0 3).toInt := congrArg Int32.toInt (hQ_106.2.2.2.2 3 (by decide))
      have g_117 : (f_102 a0 5).toInt = (f a0 5).toInt := congrArg Int32.toInt (hQ_106.2.2.2.2 5 (by decide))
      have g_118 : (f_102 a0 8).toInt = (f a0 8).toInt := congrArg Int32.toInt (hQ_106.2.2.2.2 8 (by decide))
      have g_119 : (f_102 a0 14).toInt = (f a0 14).toInt := congrArg Int32.toInt (hQ_106.2.2.2.2 14 (by decide))
      have g_120 : (f_102 a0 23).toInt = (f a0 23).toInt := congrArg Int32.toInt (hQ_106.2.2.2.2 23 (by decide))
      have hk : ∀ k, k ≠ 2 → f_102 a0 k = f a0 k := hQ_106.2.2.2.2
      show cT 117 22 [.ref a0, .int x1, .int x2, ((((((.retAddr 0)))))), ((((((.retAddr 0)))))), ((((((.retAddr 0)))))), ((((((.retAddr 0))))))] [.int y_107] _ _ _ _ _ _
      refine cT_if b_M_index_22 (fun c_121 => ?_) (fun c_121 => ?_)
      · rw [t_eq] at c_121
        exact cT_ret b_M_index_25 hI_103 hF_105 ⟨_, rfl, hk⟩
      · rw [t_eq] at c_121
        refine cT_go b_M_index_27 ?_
        have t_122 := t_neg1
        exact l_M_index_32 ((8 - (nI 0).toInt).toNat + 1) (by omega) hI_103 hF_105 s0 hk (by omega) (by omega)
    · rw [t_lt] at c_98
      refine cT_go b_M_index_13 ?_
      have t_123 : (nI 1).toInt = 1 := nI_toInt (by decide)
      refine cT_call (b_M_index_18 s0) (c_M_goes hI s0) hF (fun o ho => by omega) (fun v_124 f_125 hI_126 hG_127 hF_128 hQ_129 => ?_)
      obtain ⟨y_130, rfl, hb_131, hQ_129⟩ := hQ_129
      have hb_131r := t_rng y_130
      have t_132 : 3 ≤ (f a0 1).toInt ∧ (f a0 1).toInt ≤ 30 := (cI_at hI 1 s0).2.1 rfl
      have t_133 : 0 ≤ (f a0 3).toInt ∧ (f a0 3).toInt ≤ 32 := (cI_at hI 3 s0).2.2.2.1 rfl
      have t_134 : 0 ≤ (f a0 5).toInt ∧ (f a0 5).toInt ≤ 6 := (cI_at hI 5 s0).2.2.2.2.1 rfl
      have t_135 : 0 ≤ (f a0 8).toInt ∧ (f a0 8).toInt ≤ 8 := (cI_at hI 8 s0).2.2.2.2.2.1 rfl
      have t_136 : 0 ≤ (f a0 14).toInt ∧ (f a0 14).toInt ≤ 26 := (cI_at hI 14 s0).2.2.2.2.2.2.1 rfl
      have t_137 : -1 ≤ (f a0 23).toInt ∧ (f a0 23).toInt ≤ 1 := (cI_at hI 23 s0).2.2.2.2.2.2.2.2.2 rfl
      have g_138 : (f_125 a0 1).toInt = (f a0 1).toInt := congrArg Int32.toInt (hQ_129.2.2.2.2 1 (by decide))
      have g_139 : (f_125 a0 3).toInt = (f a0 3).toInt := congrArg Int32.toInt (hQ_129.2.2.2.2 3 (by decide))
      have g_140 : (f_125 a0 5).toInt = (f a0 5).toInt := congrArg Int32.toInt (hQ_129.2.2.2.2 5 (by decide))
      have g_141 : (f_125 a0 8).toInt = (f a0 8).toInt := congrArg Int32.toInt (hQ_129.2.2.2.2 8 (by decide))
      have g_142 : (f_125 a0 14).toInt = (f a0 14).toInt := congrArg Int32.toInt (hQ_129.2.2.2.2 14 (by decide))
      have g_143 : (f_125 a0 23).toInt = (f a0 23).toInt := congrArg Int32.toInt (hQ_129.2.2.2.2 23 (by decide))
      have hk : ∀ k, k ≠ 2 → f_125 a0 k = f a0 k := hQ_129.2.2.2.2
      show cT 117 22 [.ref a0, .int x1, .int x2, ((((((.retAddr 0)))))), ((((((.retAddr 0)))))), ((((((.retAddr 0)))))), ((((((.retAddr 0))))))] [.int y_130] _ _ _ _ _ _
      refine cT_if b_M_index_22 (fun c_144 => ?_) (fun c_144 => ?_)
      · rw [t_eq] at c_144
        have t_145 : (nI 0).toInt = 0 := nI_toInt (by decide)
        exact cT_ret b_M_index_25 hI_126 hF_128 ⟨_, rfl, hk⟩
      · rw [t_eq] at c_144
        refine cT_go b_M_index_27 ?_
        have t_146 := t_neg1
        have t_147 : (nI 0).toInt = 0 := nI_toInt (by decide)
        exact l_M_index_32 ((8 - (nI 0).toInt).toNat + 1) (by omega) hI_126 hF_128 s0 hk (by omega) (by omega)
theorem c_M_count {L : Nat} {f : cg_G} {e : Nat × Nat} {a0 : Nat} {x1 : Int32} (hI : cI L f) (s0 : sh_ a0 = 7)  : cE 86 [.ref a0, .int x1] L e (fun o => o = a0) f (fun v f' => ∃ x : Int32, v = some (.int x) ∧ ((∀ k, k ≠ 2 → f' a0 k = f a0 k) ∧ (¬ (0 ≤ x1.toInt ∧ x1.toInt < 3) ∧ (f' a0 2).toInt = 1 ∨ (0 ≤ x1.toInt ∧ x1.toInt < 3) ∧ (f' a0 2).toInt = 0 ∧ (x1.toInt = 0 → x.toInt = (f a0 3).toInt) ∧ (x1.toInt = 1 → x.toInt = (f a0 5).toInt) ∧ (x1.toInt = 2 → x.toInt = (f a0 8).toInt)))) := by
  refine cE_of (ls := [.ref a0, .int x1]) rfl ?_
  have t0 := t_0
  have hF : cF (fun o => o = a0) f f := cF_rf
  have hm := one_7 s0
  have t_1 := t_rng (x1)
  have t_2 : (nI 3).toInt = 3 := nI_toInt (by decide)
  refine cT_call b_M_count_0 (c_M_below hI) hF (fun o ho => ho.elim) (fun v_3 f_4 hI_5 hG_6 hF_7 hQ_8 => ?_)
  obtain rfl := cF_no hG_6
  obtain ⟨y_9, rfl, hb_10, hQ_8⟩ := hQ_8
  have hb_10r := t_rng y_9
  show cT 86 6 [.ref a0, .int x1] [.int y_9, .ref a0] _ _ _ _ _ _
  have t_11 : (nI 1).toInt = 1 := nI_toInt (by decide)
  refine cT_call (b_M_count_6 s0) (c_M_goes hI s0) hF (fun o ho => by omega) (fun v_12 f_13 hI_14 hG_15 hF_16 hQ_17 => ?_)
  obtain ⟨y_18, rfl, hb_19, hQ_17⟩ := hQ_17
  have hb_19r := t_rng y_18
  have t_20 : 3 ≤ (f a0 1).toInt ∧ (f a0 1).toInt ≤ 30 := (cI_at hI 1 s0).2.1 rfl
  have t_21 : 0 ≤ (f a0 3).toInt ∧ (f a0 3).toInt ≤ 32 := (cI_at hI 3 s0).2.2.2.1 rfl
  have t_22 : 0 ≤ (f a0 5).toInt ∧ (f a0 5).toInt ≤ 6 := (cI_at hI 5 s0).2.2.2.2.1 rfl
  have t_23 : 0 ≤ (f a0 8).toInt ∧ (f a0 8).toInt ≤ 8 := (cI_at hI 8 s0).2.2.2.2.2.1 rfl
  have t_24 : 0 ≤ (f a0 14).toInt ∧ (f a0 14).toInt ≤ 26 := (cI_at hI 14 s0).2.2.2.2.2.2.1 rfl
  have t_25 : -1 ≤ (f a0 23).toInt ∧ (f a0 23).toInt ≤ 1 := (cI_at hI 23 s0).2.2.2.2.2.2.2.2.2 rfl
  have g_26 : (f_13 a0 1).toInt = (f a0 1).toInt := congrArg Int32.toInt (hQ_17.2.2.2.2 1 (by decide))
  have g_27 : (f_13 a0 3).toInt = (f a0 3).toInt := congrArg Int32.toInt (hQ_17.2.2.2.2 3 (by decide))
  have g_28 : (f_13 a0 5).toInt = (f a0 5).toInt := congrArg Int32.toInt (hQ_17.2.2.2.2 5 (by decide))
  have g_29 : (f_13 a0 8).toInt = (f a0 8).toInt := congrArg Int32.toInt (hQ_17.2.2.2.2 8 (by decide))
  have g_30 : (f_13 a0 14).toInt = (f a0 14).toInt := congrArg Int32.toInt (hQ_17.2.2.2.2 14 (by decide))
  have g_31 : (f_13 a0 23).toInt = (f a0 23).toInt := congrArg Int32.toInt (hQ_17.2.2.2.2 23 (by decide))
  have hk : ∀ k, k ≠ 2 → f_13 a0 k = f a0 k := hQ_17.2.2.2.2
  show cT 86 10 [.ref a0, .int x1] [.int y_18] _ _ _ _ _ _
  refine cT_if b_M_count_10 (fun c_32 => ?_) (fun c_32 => ?_)
  · rw [t_eq] at c_32
    have t_34 : (nI 0).toInt = 0 := nI_toInt (by decide)
    exact cT_ret b_M_count_13 hI_14 hF_16 ⟨_, rfl, ⟨hk, by omega⟩⟩
  · rw [t_eq] at c_32
    refine cT_if b_M_count_15 (fun c_35 => ?_) (fun c_35 => ?_)
    · rw [t_eq] at c_35
      refine cT_go (b_M_count_19 s0) ?_
      have t_36 : 0 ≤ (f_13 a0 3).toInt ∧ (f_13 a0 3).toInt ≤ 32 := (cI_at hI_14 3 s0).2.2.2.1 rfl
      exact cT_ret b_M_count_42 hI_14 hF_16 ⟨_, rfl, ⟨hk, by omega⟩⟩
    · rw [t_eq] at c_35
      refine cT_if b_M_count_26 (fun c_37 => ?_) (fun c_37 => ?_)
      · rw [t_eq] at c_37
        refine cT_go (b_M_count_31 s0) ?_
        have t_38 : 0 ≤ (f_13 a0 5).toInt ∧ (f_13 a0 5).toInt ≤ 6 := (cI_at hI_14 5 s0).2.2.2.2.1 rfl
        exact cT_ret b_M_count_42 hI_14 hF_16 ⟨_, rfl, ⟨hk, by omega⟩⟩
      · rw [t_eq] at c_37
        refine cT_go (b_M_count_38 s0) ?_
        have t_39 : 0 ≤ (f_13 a0 8).toInt ∧ (f_13 a0 8).toInt ≤ 8 := (cI_at hI_14 8 s0).2.2.2.2.2.1 rfl
        exact cT_ret b_M_count_42 hI_14 hF_16 ⟨_, rfl, ⟨hk, by omega⟩⟩
theorem c_M_high {L : Nat} {f : cg_G} {e : Nat × Nat} {a0 : Nat} {x1 : Int32} (hI : cI L f) (s0 : sh_ a0 = 7) (p1 : 0 ≤ x1.toInt ∧ x1.toInt < 1800) : cE 48 [.ref a0, .int x1] L e (fun o => False) f (fun v f' => ∃ x : Int32, v = some (.int x) ∧ (x.toInt = (f (a0 + 25) x1.toNatClampNeg).toInt + (f (a0 + 27) x1.toNatClampNeg).toInt ∧ 0 ≤ x.toInt ∧ x.toInt ≤ 32)) := by
  refine cE_of (ls := [.ref a0, .int x1]) rfl ?_
  have t0 := t_0
  have hF : cF (fun o => False) f f := cF_rf
  have hm := one_7 s0
  have t_1 := t_rng (x1)
  have t_3 : 0 ≤ (f (a0 + 25) x1.toNatClampNeg).toInt ∧ (f (a0 + 25) x1.toNatClampNeg).toInt ≤ 30 := (cI_at hI x1.toNatClampNeg (sc_7_34 s0)).2.2.2.2.2.2.2.2.2.2.2.1 (by omega)
  have t_4 : 0 ≤ (f (a0 + 27) x1.toNatClampNeg).toInt ∧ (f (a0 + 27) x1.toNatClampNeg).toInt ≤ 2 := (cI_at hI x1.toNatClampNeg (sc_7_36 s0)).2.2.2.2.2.2.2.2.2.2.2.2 (by omega)
  first | have t_2 : (((f (a0 + 25) x1.toNatClampNeg)) + ((f (a0 + 27) x1.toNatClampNeg))).toInt = (((f (a0 + 25) x1.toNatClampNeg))).toInt + (((f (a0 + 27) x1.toNatClampNeg))).toInt := t_addn (by omega) | obtain ⟨kt_2, t_2⟩ := t_add ((f (a0 + 25) x1.toNatClampNeg)) ((f (a0 + 27) x1.toNatClampNeg))
  exact cT_ret (b_M_high_0 s0 (by rw [t_in]; omega)) hI hF ⟨_, rfl, by omega⟩
theorem l_M_settles_4 {L : Nat} {e : Nat × Nat} {f0 : cg_G} : ∀ (k : Nat) {f : cg_G} {a0 : Nat} {x1 : Int32} {x2 : Int32} {x3 : Int32} {u4 : Value}, (8 - x3.toInt).toNat < k → cI L f → cF (fun o => o = a0 + 18) f0 f → sh_ a0 = 7 → (0 ≤ x1.toInt ∧ x1.toInt < 2) → (0 ≤ x2.toInt ∧ x2.toInt ≤ 1) → (0 ≤ x3.toInt) → cT 52 4 [.ref a0, .int x1, .int x2, .int x3, u4] [] L e (fun o => o = a0 + 18) f0 f (fun v f' => ∃ x : Int32, v = some (.int x) ∧ (x = 0 ∨ x = 1) ∧ (True)) := by
  intro k
  induction k with
  | zero => intro f a0 x1 x2 x3 u4 hm; omega
  | succ k ih =>
    intro f a0 x1 x2 x3 u4 hme hI hF s0 p1 i2 i3
    have t0 := t_0
    have hm := one_7 s0
    have t_1 := t_rng (x1)
    have t_2 := t_rng (x2)
    have t_3 := t_rng (x3)
    have t_5 : (nI 8).toInt = 8 := nI_toInt (by decide)
    refine cT_if b_M_settles_4 (fun c_4 => ?_) (fun c_4 => ?_)
    · rw [t_le] at c_4
      exact cT_ret (b_M_settles_77 (t_bool (by omega) (by omega))) hI hF ⟨_, rfl, (t_bool (by omega) (by omega)), trivial⟩
    · rw [t_le] at c_4
      first | have t_7 : (((nI 8)) * x1).toInt = 8 * (x1).toInt := t_mulc (by decide) (by omega) | (obtain ⟨kt_7, t_7⟩ := t_mul ((nI 8)) x1; rw [nI_toInt (show 8 < 2 ^ 31 by decide)] at t_7)
      first | have t_6 : ((((nI 8) * x1)) + x3).toInt = ((((nI 8) * x1))).toInt + (x3).toInt := t_addn (by omega) | obtain ⟨kt_6, t_6⟩ := t_add (((nI 8) * x1)) x3
      have t_9 := t_rng (f (a0 + 17) (((nI 8) * x1) + x3).toNatClampNeg)
      have t_10 := t_neg1
      refine cT_if (b_M_settles_10 s0 (by rw [t_in]; omega)) (fun c_8 => ?_) (fun c_8 => ?_)
      · rw [t_eq] at c_8
        refine cT_go b_M_settles_25 ?_
        refine cT_if b_M_settles_40 (fun c_11 => ?_) (fun c_11 => ?_)
        · rw [t_eq] at c_11
          refine cT_go b_M_settles_61 ?_
          have hI_13 := cI_up (k := x3.toNatClampNeg) (x := nI 0) hI (sc_7_27 s0) ⟨(fun _ => by omega), (fun _ => by omega), (fun _ => by omega), (fun _ => by omega), (fun _ => by omega), (fun _ => by omega), (fun _ => by omega), (fun _ => by omega), (fun _ => by omega), (fun _ => by omega), (fun _ => by omega), (fun _ => by omega), (fun _ => by omega)⟩
          have hF_14 := cF_up (a := a0 + 18) (k := x3.toNatClampNeg) (x := nI 0) hF (by omega)
          refine cT_go (b_M_settles_62 s0 (by rw [t_in]; omega)) ?_
          have t_15 : (nI 0).toInt = 0 := nI_toInt (by decide)
          have t_17 : (nI 1).toInt = 1 := nI_toInt (by decide)
          first | have t_16 : (x3 + (nI 1)).toInt = (x3).toInt + ((nI 1)).toInt := t_addn (by omega) | obtain ⟨kt_16, t_16⟩ := t_add x3 (nI 1)
          exact ih (by omega) hI_13 hF_14 s0 (by omega) (by omega) (by omega)
        · rw [t_eq] at c_11
          have t_19 : (nI 0).toInt = 0 := nI_toInt (by decide)
          have t_20 := t_rng (f (a0 + 18) x3.toNatClampNeg)
          refine cT_if (b_M_settles_46 s0 (by rw [t_in]; omega)) (fun c_18 => ?_) (fun c_18 => ?_)
          · rw [t_eq] at c_18
            refine cT_go b_M_settles_57 ?_
            have hI_21 := cI_up (k := x3.toNatClampNeg) (x := nI 0) hI (sc_7_27 s0) ⟨(fun _ => by omega), (fun _ => by omega), (fun _ => by omega), (fun _ => by omega), (fun _ => by omega), (fun _ => by omega), (fun _ => by omega), (fun _ => by omega), (fun _ => by omega), (fun _ => by omega), (fun _ => by omega), (fun _ => by omega), (fun _ => by omega)⟩
            have hF_22 := cF_up (a := a0 + 18) (k := x3.toNatClampNeg) (x := nI 0) hF (by omega)
            refine cT_go (b_M_settles_62 s0 (by rw [t_in]; omega)) ?_
            have t_23 : (nI 1).toInt = 1 := nI_toInt (by decide)
            first | have t_24 : (x3 + (nI 1)).toInt = (x3).toInt + ((nI 1)).toInt := t_addn (by omega) | obtain ⟨kt_24, t_24⟩ := t_add x3 (nI 1)
            exact ih (by omega) hI_21 hF_22 s0 (by omega) (by omega) (by omega)
          · rw [t_eq] at c_18
            refine cT_go b_M_settles_61 ?_
            have hI_25 := cI_up (k := x3.toNatClampNeg) (x := nI 0) hI (sc_7_27 s0) ⟨(fun _ => by omega), (fun _ => by omega), (fun _ => by omega), (fun _ => by omega), (fun _ => by omega), (fun _ => by omega), (fun _ => by omega), (fun _ => by omega), (fun _ => by omega), (fun _ => by omega), (fun _ => by omega), (fun _ => by omega), (fun _ => by omega)⟩
            have hF_26 := cF_up (a := a0 + 18) (k := x3.toNatClampNeg) (x := nI 0) hF (by omega)
            refine cT_go (b_M_settles_62 s0 (by rw [t_in]; omega)) ?_
            have t_28 : (nI 1).toInt = 1 := nI_toInt (by decide)
            first | have t_27 : (x3 + (nI 1)).toInt = (x3).toInt + ((nI 1)).toInt := t_addn (by omega) | obtain ⟨kt_27, t_27⟩ := t_add x3 (nI 1)
            exact ih (by omega) hI_25 hF_26 s0 (by omega) (by omega) (by omega)
      · rw [t_eq] at c_8
        refine cT_go (b_M_settles_29 s0 (by rw [t_in]; omega)) ?_
        refine cT_if b_M_settles_40 (fun c_29 => ?_) (fun c_29 => ?_)
        · rw [t_eq] at c_29
          refine cT_go b_M_settles_61 ?_
          have hI_31 := cI_up (k := x3.toNatClampNeg) (x := f (a0 + 17) (((nI 8) * x1) + x3).toNatClampNeg) hI (sc_7_27 s0) ⟨(fun _ => by omega), (fun _ => by omega), (fun _ => by omega), (fun _ => by omega), (fun _ => by omega), (fun _ => by omega), (fun _ => by omega), (fun _ => by omega), (fun _ => by omega), (fun _ => by omega), (fun _ => by omega), (fun _ => by omega), (fun _ => by omega)⟩
          have hF_32 := cF_up (a := a0 + 18) (k := x3.toNatClampNeg) (x := f (a0 + 17) (((nI 8) * x1) + x3).toNatClampNeg) hF (by omega)
          refine cT_go (b_M_settles_62 s0 (by rw [t_in]; omega)) ?_
          have t_33 : (nI 0).toInt = 0 := nI_toInt (by decide)
          have t_35 : (nI 1).toInt = 1 := nI_toInt (by decide)
          first | have t_34 : (x3 + (nI 1)).toInt = (x3).toInt + ((nI 1)).toInt := t_addn (by omega) | obtain ⟨kt_34, t_34⟩ := t_add x3 (nI 1)
          exact ih (by omega) hI_31 hF_32 s0 (by omega) (by omega) (by omega)
        · rw [t_eq] at c_29
          have t_37 := t_rng (f (a0 + 18) x3.toNatClampNeg)
          refine cT_if (b_M_settles_46 s0 (by rw [t_in]; omega)) (fun c_36 => ?_) (fun c_36 => ?_)
          · rw [t_eq] at c_36
            refine cT_go b_M_settles_57 ?_
            have hI_38 := cI_up (k := x3.toNatClampNeg) (x := f (a0 + 17) (((nI 8) * x1) + x3).toNatClampNeg) hI (sc_7_27 s0) ⟨(fun _ => by omega), (fun _ => by omega), (fun _ => by omega), (fun _ => by omega), (fun _ => by omega), (fun _ => by omega), (fun _ => by omega), (fun _ => by omega), (fun _ => by omega), (fun _ => by omega), (fun _ => by omega), (fun _ => by omega), (fun _ => by omega)⟩
            have hF_39 := cF_up (a := a0 + 18) (k := x3.toNatClampNeg) (x := f (a0 + 17) (((nI 8) * x1) + x3).toNatClampNeg) hF (by omega)
            refine cT_go (b_M_settles_62 s0 (by rw [t_in]; omega)) ?_
            have t_40 : (nI 1).toInt = 1 := nI_toInt (by decide)
            first | have t_41 : (x3 + (nI 1)).toInt = (x3).toInt + ((nI 1)).toInt := t_addn (by omega) | obtain ⟨kt_41, t_41⟩ := t_add x3 (nI 1)
            exact ih (by omega) hI_38 hF_39 s0 (by omega) (by omega) (by omega)
          · rw [t_eq] at c_36
            refine cT_go b_M_settles_61 ?_
            have hI_42 := cI_up (k := x3.toNatClampNeg) (x := f (a0 + 17) (((nI 8) * x1) + x3).toNatClampNeg) hI (sc_7_27 s0) ⟨(fun _ => by omega), (fun _ => by omega), (fun _ => by omega), (fun _ => by omega), (fun _ => by omega), (fun _ => by omega), (fun _ => by omega), (fun _ => by omega), (fun _ => by omega), (fun _ => by omega), (fun _ => by omega), (fun _ => by omega), (fun _ => by omega)⟩
            have hF_43 := cF_up (a := a0 + 18) (k := x3.toNatClampNeg) (x := f (a0 + 17) (((nI 8) * x1) + x3).toNatClampNeg) hF (by omega)
            refine cT_go (b_M_settles_62 s0 (by rw [t_in]; omega)) ?_
            have t_44 : (nI 0).toInt = 0 := nI_toInt (by decide)
            have t_46 : (nI 1).toInt = 1 := nI_toInt (by decide)
            first | have t_45 : (x3 + (nI 1)).toInt = (x3).toInt + ((nI 1)).toInt := t_addn (by omega) | obtain ⟨kt_45, t_45⟩ := t_add x3 (nI 1)
            exact ih (by omega) hI_42 hF_43 s0 (by omega) (by omega) (by omega)
theorem c_M_settles {L : Nat} {f : cg_G} {e : Nat × Nat} {a0 : Nat} {x1 : Int32} (hI : cI L f) (s0 : sh_ a0 = 7) (p1 : 0 ≤ x1.toInt ∧ x1.toInt < 2) : cE 52 [.ref a0, .int x1] L e (fun o => o = a0 + 18) f (fun v f' => ∃ x : Int32, v = some (.int x) ∧ (x = 0 ∨ x = 1) ∧ (True)) := by
  refine cE_of (ls := [.ref a0, .int x1, (.retAddr 0), (.retAddr 0), (.retAddr 0)]) rfl ?_
  have t0 := t_0
  have hF : cF (fun o => o = a0 + 18) f f := cF_rf
  have hm := one_7 s0
  have t_47 := t_rng (x1)
  refine cT_go b_M_settles_0 ?_
  have t_48 : (nI 1).toInt = 1 := nI_toInt (by decide)
  have t_49 : (nI 0).toInt = 0 := nI_toInt (by decide)
  exact l_M_settles_4 ((8 - (nI 0).toInt).toNat + 1) (by omega) hI hF s0 (by omega) (by omega) (by omega)
