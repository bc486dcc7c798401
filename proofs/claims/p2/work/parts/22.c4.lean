theorem c_C_run {L : Nat} {f : cg_G} {e : Nat × Nat} {a0 : Nat} (hI : cI L f) (s0 : sh_ a0 = 0)  : cE 145 [.ref a0] L e (fun o => o = a0 ∨ 124 ≤ o ∧ o < 206) f (fun v f' => ∃ x : Int32, v = some (.int x) ∧ (∀ k, k ≠ 8 → k ≠ 9 → k ≠ 10 → f' a0 k = f a0 k)) := by
  refine cE_of (ls := [.ref a0, (.retAddr 0), (.retAddr 0), (.retAddr 0)]) rfl ?_
  have t0 := t_0
  have hF : cF (fun o => o = a0 ∨ 124 ≤ o ∧ o < 206) f f := cF_rf
  have hx1 := one_0 s0
  refine cT_call (b_C_run_0 s0) (c_C_firstUnsourced hI s0) hF (fun o ho => ho.elim) (fun v_1 f_2 hI_3 hG_4 hF_5 hQ_6 => ?_)
  obtain rfl := cF_no hG_4
  obtain ⟨y_7, rfl, hQ_6⟩ := hQ_6
  have hQ_6r := t_rng y_7
  show cT 145 4 [.ref a0, ((.retAddr 0)), ((.retAddr 0)), ((.retAddr 0))] [.int y_7] _ _ _ _ _ _
  have t_9 := t_neg1
  refine cT_if b_C_run_4 (fun c_8 => ?_) (fun c_8 => ?_)
  · rw [t_eq] at c_8
    have t_10 : 0 ≤ (f a0 7).toInt ∧ (f a0 7).toInt ≤ 8 := (cI_at hI 7 s0).2.2.1 rfl
    refine cT_call (b_C_run_14 s0) (c_Press_setAll hI (sc_0_5 s0) (sc_0_4 s0) (la_sh10 hI s0) (by first | omega | assumption | exact sl_4_4 (by assumption))) hF (fun o ho => by omega) (fun v_11 f_12 hI_13 hG_14 hF_15 hQ_16 => ?_)
    obtain ⟨y_17, rfl, hQ_16⟩ := hQ_16
    have hQ_16r := t_rng y_17
    show cT 145 33 [.ref a0, .int y_7, ((((.retAddr 0)))), ((((.retAddr 0))))] [.int y_17] _ _ _ _ _ _
    refine cT_if b_C_run_33 (fun c_18 => ?_) (fun c_18 => ?_)
    · rw [t_eq] at c_18
      have hI_19 := cI_up (k := 9) (x := nI ((f_12 a0 10).toNatClampNeg)) hI_13 s0 ⟨(fun h => absurd h (by decide)), (fun h => absurd h (by decide)), (fun h => absurd h (by decide)), (fun h => absurd h (by decide)), (fun _ => la_ok ((cI_at hI_13 10 s0).2.2.2.2.2 rfl)), (fun h => absurd h (by decide))⟩
      have hF_20 := cF_up (a := a0) (k := 9) (x := nI ((f_12 a0 10).toNatClampNeg)) hF_15 (by omega)
      have hI_21 := cI_up (k := 10) (x := nI ((f_12 a0 9).toNatClampNeg)) hI_19 s0 ⟨(fun h => absurd h (by decide)), (fun h => absurd h (by decide)), (fun h => absurd h (by decide)), (fun h => absurd h (by decide)), (fun h => absurd h (by decide)), (fun _ => la_ok ((cI_at hI_13 9 s0).2.2.2.2.1 rfl))⟩
      have hF_22 := cF_up (a := a0) (k := 10) (x := nI ((f_12 a0 9).toNatClampNeg)) hF_20 (by omega)
      have t_25 : (nI 1).toInt = 1 := nI_toInt (by decide)
      have hI_23 := cI_up (k := 8) (x := nI 1) hI_21 s0 ⟨(fun h => absurd h (by decide)), (fun h => absurd h (by decide)), (fun h => absurd h (by decide)), (fun _ => by omega), (fun h => absurd h (by decide)), (fun h => absurd h (by decide))⟩
      have hF_24 := cF_up (a := a0) (k := 8) (x := nI 1) hF_22 (by omega)
      refine cT_call (b_C_run_44 s0 (cl_lt _) (cl_lt _) (la_sh9 hI_23 s0)) (c_Setting_pages hI_23 (la_sh9 hI_23 s0)) hF_24 (fun o ho => ho.elim) (fun v_26 f_27 hI_28 hG_29 hF_30 hQ_31 => ?_)
      obtain rfl := cF_no hG_29
      obtain ⟨y_32, rfl, hQ_31⟩ := hQ_31
      have hQ_31r := t_rng y_32
      show cT 145 74 [.ref a0, .int y_7, .int y_17, .ref (f_12 a0 9).toNatClampNeg] [.int y_32] _ _ _ _ _ _
      exact cT_ret b_C_run_74 hI_23 hF_24 ⟨_, rfl, by intro k h8 h9 h10; first | rfl | exact congrFun ((by assumption : cF (fun o => 124 ≤ o ∧ o < 206) f _) a0 (by omega)) k | (simp only [cg_up_k h8, cg_up_k h9, cg_up_k h10]; first | done | rfl | exact congrFun ((by assumption : cF (fun o => 124 ≤ o ∧ o < 206) f _) a0 (by omega)) k)⟩
    · rw [t_eq] at c_18
      have t_34 := t_rng (- nI 101)
      first | have t_33 : (((- nI 101)) - y_17).toInt = (((- nI 101))).toInt - (y_17).toInt := t_subn (by omega) | obtain ⟨kt_33, t_33⟩ := t_sub ((- nI 101)) y_17
      exact cT_ret b_C_run_39 hI_13 hF_15 ⟨_, rfl, by intro k h8 h9 h10; first | rfl | exact congrFun ((by assumption : cF (fun o => 124 ≤ o ∧ o < 206) f _) a0 (by omega)) k | (simp only [cg_up_k h8, cg_up_k h9, cg_up_k h10]; first | done | rfl | exact congrFun ((by assumption : cF (fun o => 124 ≤ o ∧ o < 206) f _) a0 (by omega)) k)⟩
  · rw [t_eq] at c_8
    first | have t_35 : (((- nI 1)) - y_7).toInt = (((- nI 1))).toInt - (y_7).toInt := t_subn (by omega) | obtain ⟨kt_35, t_35⟩ := t_sub ((- nI 1)) y_7
    exact cT_ret b_C_run_10 hI hF ⟨_, rfl, by intro k h8 h9 h10; first | rfl | exact congrFun ((by assumption : cF (fun o => 124 ≤ o ∧ o < 206) f _) a0 (by omega)) k | (simp only [cg_up_k h8, cg_up_k h9, cg_up_k h10]; first | done | rfl | exact congrFun ((by assumption : cF (fun o => 124 ≤ o ∧ o < 206) f _) a0 (by omega)) k)⟩
