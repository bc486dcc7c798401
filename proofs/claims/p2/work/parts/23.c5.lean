theorem c_Setting_figure {L : Nat} {f : cg_G} {e : Nat × Nat} {a0 : Nat} {x1 : Int32} (hI : cI L f) (s0 : sh_ a0 = 5)  : cE 27 [.ref a0, .int x1] L e (fun o => False) f (fun v f' => ∃ x : Int32, v = some (.int x) ∧ (True)) := by
  refine cE_of (ls := [.ref a0, .int x1]) rfl ?_
  have t0 := t_0
  have hF : cF (fun o => False) f f := cF_rf
  have t_1 := t_rng (x1)
  refine cT_sw b_Setting_figure_0 (sw_cases (A := fun p => cT 27 p _ _ _ _ _ _ _ _) (fun c_2 => ?_) (fun i hi c_2 => ?_))
  ·
    have t_3 := t_rng (f a0 9)
    exact cT_ret (b_Setting_figure_60 s0) hI hF ⟨_, rfl, trivial⟩
  · match i, hi, c_2 with
    | 0, _, c_2 =>
      have t_4 : 0 ≤ (f a0 5).toInt ∧ (f a0 5).toInt ≤ 848 := (cI_at hI 5 s0).2.1 rfl
      exact cT_ret (b_Setting_figure_32 s0) hI hF ⟨_, rfl, trivial⟩
    | 1, _, c_2 =>
      have t_5 := t_rng (f a0 6)
      exact cT_ret (b_Setting_figure_37 s0) hI hF ⟨_, rfl, trivial⟩
    | 2, _, c_2 =>
      have t_7 : 0 ≤ (f a0 7).toInt ∧ (f a0 7).toInt ≤ 1 := (cI_at hI 7 s0).2.2 rfl
      refine cT_if (b_Setting_figure_42 s0) (fun c_6 => ?_) (fun c_6 => ?_)
      · rw [t_eq] at c_6
        refine cT_go b_Setting_figure_53 ?_
        have t_9 : (nI 0).toInt = 0 := nI_toInt (by decide)
        exact cT_ret b_Setting_figure_54 hI hF ⟨_, rfl, trivial⟩
      · rw [t_eq] at c_6
        refine cT_go b_Setting_figure_49 ?_
        have t_10 : (nI 1).toInt = 1 := nI_toInt (by decide)
        exact cT_ret b_Setting_figure_54 hI hF ⟨_, rfl, trivial⟩
    | 3, _, c_2 =>
      have t_11 := t_rng (f a0 8)
      exact cT_ret (b_Setting_figure_55 s0) hI hF ⟨_, rfl, trivial⟩
    | i + 4, hi, _ => exact absurd hi (by simp)
theorem c_Setting_holdsEntry {L : Nat} {f : cg_G} {e : Nat × Nat} {a0 : Nat} {x1 : Int32} (hI : cI L f) (s0 : sh_ a0 = 5)  : cE 28 [.ref a0, .int x1] L e (fun o => False) f (fun v f' => ∃ x : Int32, v = some (.int x) ∧ (x = 0 ∨ x = 1) ∧ (x.toInt ≠ 0 → 0 ≤ x1.toInt ∧ x1.toInt < 8)) := by
  refine cE_of (ls := [.ref a0, .int x1]) rfl ?_
  have t0 := t_0
  have hF : cF (fun o => False) f f := cF_rf
  have t_1 := t_rng (x1)
  refine cT_if b_Setting_holdsEntry_0 (fun c_2 => ?_) (fun c_2 => ?_)
  · rw [t_lt] at c_2
    refine cT_go b_Setting_holdsEntry_16 ?_
    have t_4 : (nI 0).toInt = 0 := nI_toInt (by decide)
    exact cT_ret (b_Setting_holdsEntry_17 (by decide)) hI hF ⟨_, rfl, (by decide), by omega⟩
  · rw [t_lt] at c_2
    have t_6 : 0 ≤ (f a0 4).toInt ∧ (f a0 4).toInt ≤ 8 := (cI_at hI 4 s0).1 rfl
    refine cT_if (b_Setting_holdsEntry_4 s0) (fun c_5 => ?_) (fun c_5 => ?_)
    · rw [t_le] at c_5
      refine cT_go b_Setting_holdsEntry_16 ?_
      have t_7 : (nI 0).toInt = 0 := nI_toInt (by decide)
      exact cT_ret (b_Setting_holdsEntry_17 (by decide)) hI hF ⟨_, rfl, (by decide), by omega⟩
    · rw [t_le] at c_5
      refine cT_go b_Setting_holdsEntry_12 ?_
      have t_8 : (nI 1).toInt = 1 := nI_toInt (by decide)
      exact cT_ret (b_Setting_holdsEntry_17 (by decide)) hI hF ⟨_, rfl, (by decide), by omega⟩
theorem c_Setting_pageOf {L : Nat} {f : cg_G} {e : Nat × Nat} {a0 : Nat} {x1 : Int32} (hI : cI L f) (s0 : sh_ a0 = 5)  : cE 83 [.ref a0, .int x1] L e (fun o => False) f (fun v f' => ∃ x : Int32, v = some (.int x) ∧ (True)) := by
  refine cE_of (ls := [.ref a0, .int x1]) rfl ?_
  have t0 := t_0
  have hF : cF (fun o => False) f f := cF_rf
  have t_1 := t_rng (x1)
  refine cT_call (b_Setting_pageOf_0 s0) (c_Setting_holdsEntry hI s0) hF (fun o ho => ho.elim) (fun v_2 f_3 hI_4 hG_5 hF_6 hQ_7 => ?_)
  obtain rfl := cF_no hG_5
  obtain ⟨y_8, rfl, hb_9, hQ_7⟩ := hQ_7
  have hb_9r := t_rng y_8
  show cT 83 5 [.ref a0, .int x1] [.int y_8] _ _ _ _ _ _
  refine cT_if b_Setting_pageOf_5 (fun c_10 => ?_) (fun c_10 => ?_)
  · rw [t_eq] at c_10
    refine cT_go b_Setting_pageOf_17 ?_
    have t_12 : (nI 0).toInt = 0 := nI_toInt (by decide)
    exact cT_ret b_Setting_pageOf_18 hI hF ⟨_, rfl, trivial⟩
  · rw [t_eq] at c_10
    refine cT_go (b_Setting_pageOf_8 s0 (by rw [t_in]; omega)) ?_
    have t_13 := t_rng (f (a0 + 4) x1.toNatClampNeg)
    exact cT_ret b_Setting_pageOf_18 hI hF ⟨_, rfl, trivial⟩
theorem l_Setting_entryOfUnit_2 {L : Nat} {e : Nat × Nat} {f0 : cg_G} : ∀ (k : Nat) {f : cg_G} {a0 : Nat} {x1 : Int32} {x2 : Int32}, (8 - x2.toInt).toNat < k → cI L f → cF (fun o => False) f0 f → sh_ a0 = 5 → (0 ≤ x2.toInt) → cT 26 2 [.ref a0, .int x1, .int x2] [] L e (fun o => False) f0 f (fun v f' => ∃ x : Int32, v = some (.int x) ∧ (0 ≤ x.toInt ∧ x.toInt < 8)) := by
  intro k
  induction k with
  | zero => intro f a0 x1 x2 hm; omega
  | succ k ih =>
    intro f a0 x1 x2 hme hI hF s0 i2
    have t0 := t_0
    have t_1 := t_rng (x1)
    have t_2 := t_rng (x2)
    have t_4 : 0 ≤ (f a0 4).toInt ∧ (f a0 4).toInt ≤ 8 := (cI_at hI 4 s0).1 rfl
    refine cT_if (b_Setting_entryOfUnit_2 s0) (fun c_3 => ?_) (fun c_3 => ?_)
    · rw [t_le] at c_3
      have t_5 : (nI 0).toInt = 0 := nI_toInt (by decide)
      exact cT_ret b_Setting_entryOfUnit_30 hI hF ⟨_, rfl, by omega⟩
    · rw [t_le] at c_3
      have t_7 : (nI 1).toInt = 1 := nI_toInt (by decide)
      first | have t_6 : (x2 + ((nI 1))).toInt = (x2).toInt + (((nI 1))).toInt := t_addn (by omega) | obtain ⟨kt_6, t_6⟩ := t_add x2 ((nI 1))
      have t_9 := t_rng (f (a0 + 2) (x2 + (nI 1)).toNatClampNeg)
      refine cT_if (b_Setting_entryOfUnit_10 s0 (by rw [t_in]; omega)) (fun c_8 => ?_) (fun c_8 => ?_)
      · rw [t_le] at c_8
        refine cT_go b_Setting_entryOfUnit_24 ?_
        first | have t_10 : (x2 + (nI 1)).toInt = (x2).toInt + ((nI 1)).toInt := t_addn (by omega) | obtain ⟨kt_10, t_10⟩ := t_add x2 (nI 1)
        exact ih (by omega) hI hF s0 (by omega)
      · rw [t_le] at c_8
        exact cT_ret b_Setting_entryOfUnit_22 hI hF ⟨_, rfl, by omega⟩
theorem c_Setting_entryOfUnit {L : Nat} {f : cg_G} {e : Nat × Nat} {a0 : Nat} {x1 : Int32} (hI : cI L f) (s0 : sh_ a0 = 5)  : cE 26 [.ref a0, .int x1] L e (fun o => False) f (fun v f' => ∃ x : Int32, v = some (.int x) ∧ (0 ≤ x.toInt ∧ x.toInt < 8)) := by
  refine cE_of (ls := [.ref a0, .int x1, (.retAddr 0)]) rfl ?_
  have t0 := t_0
  have hF : cF (fun o => False) f f := cF_rf
  have t_11 := t_rng (x1)
  refine cT_go b_Setting_entryOfUnit_0 ?_
  have t_12 : (nI 0).toInt = 0 := nI_toInt (by decide)
  exact l_Setting_entryOfUnit_2 ((8 - (nI 0).toInt).toNat + 1) (by omega) hI hF s0 (by omega)
theorem c_Block_lineOfRow {L : Nat} {f : cg_G} {e : Nat × Nat} {a0 : Nat} {x1 : Int32} {x2 : Int32} (hI : cI L f) (s0 : sh_ a0 = 1)  : cE 6 [.ref a0, .int x1, .int x2] L e (fun o => False) f (fun v f' => ∃ x : Int32, v = some (.int x) ∧ (True)) := by
  refine cE_of (ls := [.ref a0, .int x1, .int x2]) rfl ?_
  have t0 := t_0
  have hF : cF (fun o => False) f f := cF_rf
  have t_1 := t_rng (x1)
  have t_2 := t_rng (x2)
  refine cT_if b_Block_lineOfRow_0 (fun c_3 => ?_) (fun c_3 => ?_)
  · rw [t_le] at c_3
    have t_6 := t_rng (f a0 3)
    refine cT_if (b_Block_lineOfRow_8 s0) (fun c_5 => ?_) (fun c_5 => ?_)
    · rw [t_le] at c_5
      refine cT_go (b_Block_lineOfRow_20 s0) ?_
      first | have t_7 : (x2 - ((f a0 3))).toInt = (x2).toInt - (((f a0 3))).toInt := t_subn (by omega) | obtain ⟨kt_7, t_7⟩ := t_sub x2 ((f a0 3))
      exact cT_ret b_Block_lineOfRow_26 hI hF ⟨_, rfl, trivial⟩
    · rw [t_le] at c_5
      refine cT_go b_Block_lineOfRow_16 ?_
      have t_8 := t_neg1
      exact cT_ret b_Block_lineOfRow_26 hI hF ⟨_, rfl, trivial⟩
  · rw [t_le] at c_3
    have t_10 : (nI 1).toInt = 1 := nI_toInt (by decide)
    first | have t_9 : (x1 + ((nI 1))).toInt = (x1).toInt + (((nI 1))).toInt := t_addn (by omega) | obtain ⟨kt_9, t_9⟩ := t_add x1 ((nI 1))
    exact cT_ret b_Block_lineOfRow_4 hI hF ⟨_, rfl, trivial⟩
theorem l_Setting_onPage_28 {L : Nat} {e : Nat × Nat} {f0 : cg_G} : ∀ (k : Nat) {f : cg_G} {a0 : Nat} {x1 : Int32} {x2 : Int32} {x3 : Int32} {x4 : Int32} {x5 : Int32} {u6 : Value} {u7 : Value} {u8 : Value}, ((f (a0 + 3) x1.toNatClampNeg).toInt - x5.toInt).toNat < k → cI L f → cF (fun o => False) f0 f → sh_ a0 = 5 → (1 ≤ x1.toInt ∧ x1.toInt ≤ 848) → cT 82 28 [.ref a0, .int x1, .int x2, .int x3, .int x4, .int x5, u6, u7, u8] [] L e (fun o => False) f0 f (fun v f' => ∃ x : Int32, v = some (.int x) ∧ (True)) := by
  intro k
  induction k with
  | zero => intro f a0 x1 x2 x3 x4 x5 u6 u7 u8 hm; omega
  | succ k ih =>
    intro f a0 x1 x2 x3 x4 x5 u6 u7 u8 hme hI hF s0 i1
    have t0 := t_0
    have t_1 := t_rng (x1)
    have t_2 := t_rng (x2)
    have t_3 := t_rng (x3)
    have t_4 := t_rng (x4)
    have t_5 := t_rng (x5)
    have t_7 := t_rng (f (a0 + 3) x1.toNatClampNeg)
    refine cT_if (b_Setting_onPage_28 s0 (by rw [t_in]; omega)) (fun c_6 => ?_) (fun c_6 => ?_)
    · rw [t_le] at c_6
      have t_8 := t_neg1
      exact cT_ret b_Setting_onPage_117 hI hF ⟨_, rfl, trivial⟩
    · rw [t_le] at c_6
      refine cT_call (b_Setting_onPage_39 s0) (c_Setting_entryOfUnit hI s0) hF (fun o ho => ho.elim) (fun v_9 f_10 hI_11 hG_12 hF_13 hQ_14 => ?_)
      obtain rfl := cF_no hG_12
      obtain ⟨y_15, rfl, hQ_14⟩ := hQ_14
      have hQ_14r := t_rng y_15
      show cT 82 45 [.ref a0, .int x1, .int x2, .int x3, .int x4, .int x5, u6, u7, u8] [.int y_15] _ _ _ _ _ _
      have t_17 := t_rng (f (a0 + 2) y_15.toNatClampNeg)
      first | have t_16 : (x5 - ((f (a0 + 2) y_15.toNatClampNeg))).toInt = (x5).toInt - (((f (a0 + 2) y_15.toNatClampNeg))).toInt := t_subn (by omega) | obtain ⟨kt_16, t_16⟩ := t_sub x5 ((f (a0 + 2) y_15.toNatClampNeg))
      refine cT_call (b_Setting_onPage_45 s0 (by rw [t_in]; omega) (by rw [t_in]; omega)) (c_Block_heightOfUnit hI (sa_105 (sc_5_0 s0) (cg_in_lt (by rw [t_in]; omega)))) hF (fun o ho => ho.elim) (fun v_18 f_19 hI_20 hG_21 hF_22 hQ_23 => ?_)
      obtain rfl := cF_no hG_21
      obtain ⟨y_24, rfl, hQ_23⟩ := hQ_23
      have hQ_23r := t_rng y_24
      show cT 82 71 [.ref a0, .int x1, .int x2, .int x3, .int x4, .int x5, .int y_15, .int (x5 - (f (a0 + 2) y_15.toNatClampNeg)), u8] [.int y_24] _ _ _ _ _ _
      refine cT_if b_Setting_onPage_71 (fun c_25 => ?_) (fun c_25 => ?_)
      · rw [t_le] at c_25
        refine cT_go b_Setting_onPage_104 ?_
        first | have t_26 : (x4 - y_24).toInt = (x4).toInt - (y_24).toInt := t_subn (by omega) | obtain ⟨kt_26, t_26⟩ := t_sub x4 y_24
        have t_28 : (nI 1).toInt = 1 := nI_toInt (by decide)
        first | have t_27 : (x5 + (nI 1)).toInt = (x5).toInt + ((nI 1)).toInt := t_addn (by omega) | obtain ⟨kt_27, t_27⟩ := t_add x5 (nI 1)
        exact ih (by omega) hI hF s0 (by omega)
      · rw [t_le] at c_25
        refine cT_if b_Setting_onPage_80 (fun c_29 => ?_) (fun c_29 => ?_)
        · rw [t_eq] at c_29
          refine cT_call (b_Setting_onPage_89 s0 (by rw [t_in]; omega)) (c_Block_lineOfRow hI (sa_105 (sc_5_0 s0) (cg_in_lt (by rw [t_in]; omega)))) hF (fun o ho => ho.elim) (fun v_31 f_32 hI_33 hG_34 hF_35 hQ_36 => ?_)
          obtain rfl := cF_no hG_34
          obtain ⟨y_37, rfl, hQ_36⟩ := hQ_36
          have hQ_36r := t_rng y_37
          show cT 82 103 [.ref a0, .int x1, .int x2, .int x3, .int x4, .int x5, .int y_15, .int (x5 - (f (a0 + 2) y_15.toNatClampNeg)), .int y_24] [.int y_37] _ _ _ _ _ _
          exact cT_ret b_Setting_onPage_103 hI hF ⟨_, rfl, trivial⟩
        · rw [t_eq] at c_29
          refine cT_go b_Setting_onPage_84 ?_
          exact cT_ret b_Setting_onPage_103 hI hF ⟨_, rfl, trivial⟩
theorem c_Setting_onPage {L : Nat} {f : cg_G} {e : Nat × Nat} {a0 : Nat} {x1 : Int32} {x2 : Int32} {x3 : Int32} (hI : cI L f) (s0 : sh_ a0 = 5)  : cE 82 [.ref a0, .int x1, .int x2, .int x3] L e (fun o => False) f (fun v f' => ∃ x : Int32, v = some (.int x) ∧ (True)) := by
  refine cE_of (ls := [.ref a0, .int x1, .int x2, .int x3, (.retAddr 0), (.retAddr 0), (.retAddr 0), (.retAddr 0), (.retAddr 0)]) rfl ?_
  have t0 := t_0
  have hF : cF (fun o => False) f f := cF_rf
  have t_38 := t_rng (x1)
  have t_39 := t_rng (x2)
  have t_40 := t_rng (x3)
  have t_42 : (nI 1).toInt = 1 := nI_toInt (by decide)
  refine cT_if b_Setting_onPage_0 (fun c_41 => ?_) (fun c_41 => ?_)
  · rw [t_lt] at c_41
    have t_43 := t_neg1
    exact cT_ret b_Setting_onPage_13 hI hF ⟨_, rfl, trivial⟩
  · rw [t_lt] at c_41
    have t_45 : 0 ≤ (f a0 5).toInt ∧ (f a0 5).toInt ≤ 848 := (cI_at hI 5 s0).2.1 rfl
    refine cT_if (b_Setting_onPage_5 s0) (fun c_44 => ?_) (fun c_44 => ?_)
    · rw [t_le] at c_44
      first | have t_46 : (x1 - ((nI 1))).toInt = (x1).toInt - (((nI 1))).toInt := t_subn (by omega) | obtain ⟨kt_46, t_46⟩ := t_sub x1 ((nI 1))
      refine cT_go (b_Setting_onPage_15 s0 (by rw [t_in]; omega)) ?_
      have t_47 := t_rng (f (a0 + 3) (x1 - (nI 1)).toNatClampNeg)
      have t_48 := t_rng (f (a0 + 3) x1.toNatClampNeg)
      exact l_Setting_onPage_28 (((f (a0 + 3) x1.toNatClampNeg).toInt - (f (a0 + 3) (x1 - (nI 1)).toNatClampNeg).toInt).toNat + 1) (by omega) hI hF s0 (by omega)
    · rw [t_le] at c_44
      have t_49 := t_neg1
      exact cT_ret b_Setting_onPage_13 hI hF ⟨_, rfl, trivial⟩
theorem c_Setting_holdsPlace {L : Nat} {f : cg_G} {e : Nat × Nat} {a0 : Nat} {x1 : Int32} {x2 : Int32} {x3 : Int32} (hI : cI L f) (s0 : sh_ a0 = 5)  : cE 80 [.ref a0, .int x1, .int x2, .int x3] L e (fun o => False) f (fun v f' => ∃ x : Int32, v = some (.int x) ∧ (x = 0 ∨ x = 1) ∧ (True)) := by
  refine cE_of (ls := [.ref a0, .int x1, .int x2, .int x3]) rfl ?_
  have t0 := t_0
  have hF : cF (fun o => False) f f := cF_rf
  have t_1 := t_rng (x1)
  have t_2 := t_rng (x2)
  have t_3 := t_rng (x3)
  refine cT_call (b_Setting_holdsPlace_0 s0) (c_Setting_holdsEntry hI s0) hF (fun o ho => ho.elim) (fun v_4 f_5 hI_6 hG_7 hF_8 hQ_9 => ?_)
  obtain rfl := cF_no hG_7
  obtain ⟨y_10, rfl, hb_11, hQ_9⟩ := hQ_9
  have hb_11r := t_rng y_10
  show cT 80 5 [.ref a0, .int x1, .int x2, .int x3] [.int y_10] _ _ _ _ _ _
  refine cT_if b_Setting_holdsPlace_5 (fun c_12 => ?_) (fun c_12 => ?_)
  · rw [t_eq] at c_12
    have t_14 : (nI 0).toInt = 0 := nI_toInt (by decide)
    exact cT_ret b_Setting_holdsPlace_8 hI hF ⟨_, rfl, (by decide), trivial⟩
  · rw [t_eq] at c_12
    have t_16 := t_neg1
    refine cT_if b_Setting_holdsPlace_10 (fun c_15 => ?_) (fun c_15 => ?_)
    · rw [t_eq] at c_15
      refine cT_go b_Setting_holdsPlace_42 ?_
      have t_17 : (nI 1).toInt = 1 := nI_toInt (by decide)
      exact cT_ret (b_Setting_holdsPlace_47 (by decide)) hI hF ⟨_, rfl, (by decide), trivial⟩
    · rw [t_eq] at c_15
      refine cT_call (b_Setting_holdsPlace_15 s0 (by rw [t_in]; omega)) (c_Block_lines hI (sa_105 (sc_5_0 s0) (cg_in_lt (by rw [t_in]; omega)))) hF (fun o ho => ho.elim) (fun v_18 f_19 hI_20 hG_21 hF_22 hQ_23 => ?_)
      obtain rfl := cF_no hG_21
      obtain ⟨y_24, rfl, hQ_23⟩ := hQ_23
      have hQ_23r := t_rng y_24
      show cT 80 25 [.ref a0, .int x1, .int x2, .int x3] [.int y_24, .int x2] _ _ _ _ _ _
      refine cT_if b_Setting_holdsPlace_25 (fun c_25 => ?_) (fun c_25 => ?_)
      · rw [t_le] at c_25
        refine cT_go b_Setting_holdsPlace_46 ?_
        have t_26 : (nI 0).toInt = 0 := nI_toInt (by decide)
        exact cT_ret (b_Setting_holdsPlace_47 (by decide)) hI hF ⟨_, rfl, (by decide), trivial⟩
      · rw [t_le] at c_25
        refine cT_call (b_Setting_holdsPlace_28 s0 (by rw [t_in]; omega)) (c_Block_lengthOf hI (sa_105 (sc_5_0 s0) (cg_in_lt (by rw [t_in]; omega)))) hF (fun o ho => ho.elim) (fun v_27 f_28 hI_29 hG_30 hF_31 hQ_32 => ?_)
        obtain rfl := cF_no hG_30
        obtain ⟨y_33, rfl, hQ_32⟩ := hQ_32
        have hQ_32r := t_rng y_33
        show cT 80 39 [.ref a0, .int x1, .int x2, .int x3] [.int y_33, .int x3] _ _ _ _ _ _
        refine cT_if b_Setting_holdsPlace_39 (fun c_34 => ?_) (fun c_34 => ?_)
        · rw [t_le] at c_34
          refine cT_go b_Setting_holdsPlace_46 ?_
          have t_35 : (nI 0).toInt = 0 := nI_toInt (by decide)
          exact cT_ret (b_Setting_holdsPlace_47 (by decide)) hI hF ⟨_, rfl, (by decide), trivial⟩
        · rw [t_le] at c_34
          refine cT_go b_Setting_holdsPlace_42 ?_
          have t_36 : (nI 1).toInt = 1 := nI_toInt (by decide)
          exact cT_ret (b_Setting_holdsPlace_47 (by decide)) hI hF ⟨_, rfl, (by decide), trivial⟩
theorem c_Block_signAt {L : Nat} {f : cg_G} {e : Nat × Nat} {a0 : Nat} {x1 : Int32} {x2 : Int32} (hI : cI L f) (s0 : sh_ a0 = 1)  : cE 72 [.ref a0, .int x1, .int x2] L e (fun o => False) f (fun v f' => ∃ x : Int32, v = some (.int x) ∧ (True)) := by
  refine cE_of (ls := [.ref a0, .int x1, .int x2]) rfl ?_
  have t0 := t_0
  have hF : cF (fun o => False) f f := cF_rf
  have t_1 := t_rng (x1)
  have t_2 := t_rng (x2)
  refine cT_if b_Block_signAt_0 (fun c_3 => ?_) (fun c_3 => ?_)
  · rw [t_lt] at c_3
    refine cT_go b_Block_signAt_31 ?_
    have t_5 : (nI 0).toInt = 0 := nI_toInt (by decide)
    exact cT_ret b_Block_signAt_32 hI hF ⟨_, rfl, trivial⟩
  · rw [t_lt] at c_3
    refine cT_call (b_Block_signAt_4 s0) (c_Block_lengthOf hI s0) hF (fun o ho => ho.elim) (fun v_6 f_7 hI_8 hG_9 hF_10 hQ_11 => ?_)
    obtain rfl := cF_no hG_9
    obtain ⟨y_12, rfl, hQ_11⟩ := hQ_11
    have hQ_11r := t_rng y_12
    show cT 72 10 [.ref a0, .int x1, .int x2] [.int y_12, .int x2] _ _ _ _ _ _
    refine cT_if b_Block_signAt_10 (fun c_13 => ?_) (fun c_13 => ?_)
    · rw [t_le] at c_13
      refine cT_go b_Block_signAt_31 ?_
      have t_14 : (nI 0).toInt = 0 := nI_toInt (by decide)
      exact cT_ret b_Block_signAt_32 hI hF ⟨_, rfl, trivial⟩
    · rw [t_le] at c_13
      have t_16 := t_rng (f (a0 + 3) x1.toNatClampNeg)
      first | have t_15 : (((f (a0 + 3) x1.toNatClampNeg)) + x2).toInt = (((f (a0 + 3) x1.toNatClampNeg))).toInt + (x2).toInt := t_addn (by omega) | obtain ⟨kt_15, t_15⟩ := t_add ((f (a0 + 3) x1.toNatClampNeg)) x2
      refine cT_call (b_Block_signAt_13 s0 (by rw [t_in]; omega)) (c_Signs_at hI (sc_1_0 s0)) hF (fun o ho => ho.elim) (fun v_17 f_18 hI_19 hG_20 hF_21 hQ_22 => ?_)
      obtain rfl := cF_no hG_20
      obtain ⟨y_23, rfl, hQ_22⟩ := hQ_22
      have hQ_22r := t_rng y_23
      show cT 72 28 [.ref a0, .int x1, .int x2] [.int y_23] _ _ _ _ _ _
      refine cT_go b_Block_signAt_28 ?_
      exact cT_ret b_Block_signAt_32 hI hF ⟨_, rfl, trivial⟩
theorem c_C_isEntry {L : Nat} {f : cg_G} {e : Nat × Nat} {a0 : Nat} {x1 : Int32} (hI : cI L f) (s0 : sh_ a0 = 0)  : cE 1 [.ref a0, .int x1] L e (fun o => False) f (fun v f' => ∃ x : Int32, v = some (.int x) ∧ (x = 0 ∨ x = 1) ∧ (x.toInt ≠ 0 ↔ 0 ≤ x1.toInt ∧ x1.toInt < (f a0 7).toInt)) := by
  refine cE_of (ls := [.ref a0, .int x1]) rfl ?_
  have t0 := t_0
  have hF : cF (fun o => False) f f := cF_rf
  have t_1 := t_rng (x1)
  refine cT_if b_C_isEntry_0 (fun c_2 => ?_) (fun c_2 => ?_)
  · rw [t_lt] at c_2
    refine cT_go b_C_isEntry_16 ?_
    have t_4 : (nI 0).toInt = 0 := nI_toInt (by decide)
    exact cT_ret (b_C_isEntry_17 (by decide)) hI hF ⟨_, rfl, (by decide), by omega⟩
  · rw [t_lt] at c_2
    have t_6 : 0 ≤ (f a0 7).toInt ∧ (f a0 7).toInt ≤ 8 := (cI_at hI 7 s0).2.2.1 rfl
    refine cT_if (b_C_isEntry_4 s0) (fun c_5 => ?_) (fun c_5 => ?_)
    · rw [t_le] at c_5
      refine cT_go b_C_isEntry_16 ?_
      have t_7 : (nI 0).toInt = 0 := nI_toInt (by decide)
      exact cT_ret (b_C_isEntry_17 (by decide)) hI hF ⟨_, rfl, (by decide), by omega⟩
    · rw [t_le] at c_5
      refine cT_go b_C_isEntry_12 ?_
      have t_8 : (nI 1).toInt = 1 := nI_toInt (by decide)
      exact cT_ret (b_C_isEntry_17 (by decide)) hI hF ⟨_, rfl, (by decide), by omega⟩
theorem c_C_isField {L : Nat} {f : cg_G} {e : Nat × Nat} {x0 : Int32} (hI : cI L f)   : cE 2 [.int x0] L e (fun o => False) f (fun v f' => ∃ x : Int32, v = some (.int x) ∧ (x = 0 ∨ x = 1) ∧ (x.toInt ≠ 0 ↔ 0 ≤ x0.toInt ∧ x0.toInt < 4)) := by
  refine cE_of (ls := [.int x0]) rfl ?_
  have t0 := t_0
  have hF : cF (fun o => False) f f := cF_rf
  have t_1 := t_rng (x0)
  refine cT_if b_C_isField_0 (fun c_2 => ?_) (fun c_2 => ?_)
  · rw [t_lt] at c_2
    refine cT_go b_C_isField_13 ?_
    have t_4 : (nI 0).toInt = 0 := nI_toInt (by decide)
    exact cT_ret (b_C_isField_14 (by decide)) hI hF ⟨_, rfl, (by decide), by omega⟩
  · rw [t_lt] at c_2
    have t_6 : (nI 4).toInt = 4 := nI_toInt (by decide)
    refine cT_if b_C_isField_4 (fun c_5 => ?_) (fun c_5 => ?_)
    · rw [t_le] at c_5
      refine cT_go b_C_isField_13 ?_
      have t_7 : (nI 0).toInt = 0 := nI_toInt (by decide)
      exact cT_ret (b_C_isField_14 (by decide)) hI hF ⟨_, rfl, (by decide), by omega⟩
    · rw [t_le] at c_5
      refine cT_go b_C_isField_9 ?_
      have t_8 : (nI 1).toInt = 1 := nI_toInt (by decide)
      exact cT_ret (b_C_isField_14 (by decide)) hI hF ⟨_, rfl, (by decide), by omega⟩
theorem c_C_rankOf {L : Nat} {f : cg_G} {e : Nat × Nat} {a0 : Nat} {x1 : Int32} (hI : cI L f) (s0 : sh_ a0 = 0)  : cE 68 [.ref a0, .int x1] L e (fun o => False) f (fun v f' => ∃ x : Int32, v = some (.int x) ∧ (True)) := by
  refine cE_of (ls := [.ref a0, .int x1, (.retAddr 0)]) rfl ?_
  have t0 := t_0
  have hF : cF (fun o => False) f f := cF_rf
  have t_1 := t_rng (x1)
  have t_3 : (nI 32).toInt = 32 := nI_toInt (by decide)
  refine cT_if b_C_rankOf_0 (fun c_2 => ?_) (fun c_2 => ?_)
  · rw [t_eq] at c_2
    have t_4 : (nI 0).toInt = 0 := nI_toInt (by decide)
    exact cT_ret b_C_rankOf_6 hI hF ⟨_, rfl, trivial⟩
  · rw [t_eq] at c_2
    refine cT_call (b_C_rankOf_8 s0) (c_Signs_placeOf hI (sc_0_2 s0)) hF (fun o ho => ho.elim) (fun v_5 f_6 hI_7 hG_8 hF_9 hQ_10 => ?_)
    obtain rfl := cF_no hG_8
    obtain ⟨y_11, rfl, hQ_10⟩ := hQ_10
    have hQ_10r := t_rng y_11
    show cT 68 16 [.ref a0, .int x1, (((.retAddr 0)))] [.int y_11] _ _ _ _ _ _
    have t_13 := t_neg1
    refine cT_if b_C_rankOf_16 (fun c_12 => ?_) (fun c_12 => ?_)
    · rw [t_eq] at c_12
      refine cT_go b_C_rankOf_22 ?_
      have t_15 : (nI 27).toInt = 27 := nI_toInt (by decide)
      first | have t_14 : (((nI 27)) + x1).toInt = (((nI 27))).toInt + (x1).toInt := t_addn (by omega) | obtain ⟨kt_14, t_14⟩ := t_add ((nI 27)) x1
      exact cT_ret b_C_rankOf_32 hI hF ⟨_, rfl, trivial⟩
    · rw [t_eq] at c_12
      refine cT_go b_C_rankOf_29 ?_
      have t_17 : (nI 1).toInt = 1 := nI_toInt (by decide)
      first | have t_16 : (((nI 1)) + y_11).toInt = (((nI 1))).toInt + (y_11).toInt := t_addn (by omega) | obtain ⟨kt_16, t_16⟩ := t_add ((nI 1)) y_11
      exact cT_ret b_C_rankOf_32 hI hF ⟨_, rfl, trivial⟩
theorem l_C_compareTexts_15 {L : Nat} {e : Nat × Nat} {f0 : cg_G} : ∀ (k : Nat) {f : cg_G} {a0 : Nat} {a1 : Nat} {a2 : Nat} {x3 : Int32} {x4 : Int32} {u5 : Value}, (4096 - x4.toInt).toNat < k → cI L f → cF (fun o => False) f0 f → sh_ a0 = 0 → sh_ a1 = 6 → sh_ a2 = 6 → (x3.toInt < 4096) → (0 ≤ x4.toInt) → cT 100 15 [.ref a0, .ref a1, .ref a2, .int x3, .int x4, u5] [] L e (fun o => False) f0 f (fun v f' => ∃ x : Int32, v = some (.int x) ∧ (True)) := by
  intro k
  induction k with
  | zero => intro f a0 a1 a2 x3 x4 u5 hm; omega
  | succ k ih =>
    intro f a0 a1 a2 x3 x4 u5 hme hI hF s0 s1 s2 i3 i4
    have t0 := t_0
    have t_1 := t_rng (x3)
    have t_2 := t_rng (x4)
    refine cT_if b_C_compareTexts_15 (fun c_3 => ?_) (fun c_3 => ?_)
    · rw [t_le] at c_3
      refine cT_call (b_C_compareTexts_58 s1) (c_Signs_size hI s1) hF (fun o ho => ho.elim) (fun v_4 f_5 hI_6 hG_7 hF_8 hQ_9 => ?_)
      obtain rfl := cF_no hG_7
      obtain ⟨y_10, rfl, hQ_9⟩ := hQ_9
      have hQ_9r := t_rng y_10
      show cT 100 62 [.ref a0, .ref a1, .ref a2, .int x3, .int x4, u5] [.int y_10] _ _ _ _ _ _
      refine cT_call (b_C_compareTexts_62 s2) (c_Signs_size hI s2) hF (fun o ho => ho.elim) (fun v_11 f_12 hI_13 hG_14 hF_15 hQ_16 => ?_)
      obtain rfl := cF_no hG_14
      obtain ⟨y_17, rfl, hQ_16⟩ := hQ_16
      have hQ_16r := t_rng y_17
      show cT 100 66 [.ref a0, .ref a1, .ref a2, .int x3, .int x4, u5] [.int y_17, .int y_10] _ _ _ _ _ _
      first | have t_18 : (y_10 - y_17).toInt = (y_10).toInt - (y_17).toInt := t_subn (by omega) | obtain ⟨kt_18, t_18⟩ := t_sub y_10 y_17
      exact cT_ret b_C_compareTexts_66 hI hF ⟨_, rfl, trivial⟩
    · rw [t_le] at c_3
      refine cT_call (b_C_compareTexts_21 s1) (c_Signs_at hI s1) hF (fun o ho => ho.elim) (fun v_19 f_20 hI_21 hG_22 hF_23 hQ_24 => ?_)
      obtain rfl := cF_no hG_22
      obtain ⟨y_25, rfl, hQ_24⟩ := hQ_24
      have hQ_24r := t_rng y_25
      show cT 100 28 [.ref a0, .ref a1, .ref a2, .int x3, .int x4, u5] [.int y_25, .ref a0] _ _ _ _ _ _
      refine cT_call (b_C_compareTexts_28 s0) (c_C_rankOf hI s0) hF (fun o ho => ho.elim) (fun v_26 f_27 hI_28 hG_29 hF_30 hQ_31 => ?_)
      obtain rfl := cF_no hG_29
      obtain ⟨y_32, rfl, hQ_31⟩ := hQ_31
      have hQ_31r := t_rng y_32
      show cT 100 31 [.ref a0, .ref a1, .ref a2, .int x3, .int x4, u5] [.int y_32] _ _ _ _ _ _
      refine cT_call (b_C_compareTexts_31 s2) (c_Signs_at hI s2) hF (fun o ho => ho.elim) (fun v_33 f_34 hI_35 hG_36 hF_37 hQ_38 => ?_)
      obtain rfl := cF_no hG_36
      obtain ⟨y_39, rfl, hQ_38⟩ := hQ_38
      have hQ_38r := t_rng y_39
      show cT 100 38 [.ref a0, .ref a1, .ref a2, .int x3, .int x4, u5] [.int y_39, .ref a0, .int y_32] _ _ _ _ _ _
      refine cT_call (b_C_compareTexts_38 s0) (c_C_rankOf hI s0) hF (fun o ho => ho.elim) (fun v_40 f_41 hI_42 hG_43 hF_44 hQ_45 => ?_)
      obtain rfl := cF_no hG_43
      obtain ⟨y_46, rfl, hQ_45⟩ := hQ_45
      have hQ_45r := t_rng y_46
      show cT 100 41 [.ref a0, .ref a1, .ref a2, .int x3, .int x4, u5] [.int y_46, .int y_32] _ _ _ _ _ _
      first | have t_48 : (y_32 - y_46).toInt = (y_32).toInt - (y_46).toInt := t_subn (by omega) | obtain ⟨kt_48, t_48⟩ := t_sub y_32 y_46
      refine cT_if b_C_compareTexts_41 (fun c_47 => ?_) (fun c_47 => ?_)
      · rw [t_eq] at c_47
        refine cT_go b_C_compareTexts_52 ?_
        have t_51 : (nI 1).toInt = 1 := nI_toInt (by decide)
        first | have t_50 : (x4 + (nI 1)).toInt = (x4).toInt + ((nI 1)).toInt := t_addn (by omega) | obtain ⟨kt_50, t_50⟩ := t_add x4 (nI 1)
        exact ih (by omega) hI hF s0 s1 s2 (by omega) (by omega)
      · rw [t_eq] at c_47
        exact cT_ret b_C_compareTexts_49 hI hF ⟨_, rfl, trivial⟩
theorem c_C_compareTexts {L : Nat} {f : cg_G} {e : Nat × Nat} {a0 : Nat} {a1 : Nat} {a2 : Nat} (hI : cI L f) (s0 : sh_ a0 = 0) (s1 : sh_ a1 = 6) (s2 : sh_ a2 = 6)  : cE 100 [.ref a0, .ref a1, .ref a2] L e (fun o => False) f (fun v f' => ∃ x : Int32, v = some (.int x) ∧ (True)) := by
  refine cE_of (ls := [.ref a0, .ref a1, .ref a2, (.retAddr 0), (.retAddr 0), (.retAddr 0)]) rfl ?_
  have t0 := t_0
  have hF : cF (fun o => False) f f := cF_rf
  refine cT_call (b_C_compareTexts_0 s1) (c_Signs_size hI s1) hF (fun o ho => ho.elim) (fun v_52 f_53 hI_54 hG_55 hF_56 hQ_57 => ?_)
  obtain rfl := cF_no hG_55
  obtain ⟨y_58, rfl, hQ_57⟩ := hQ_57
  have hQ_57r := t_rng y_58
  show cT 100 4 [.ref a0, .ref a1, .ref a2, ((.retAddr 0)), ((.retAddr 0)), ((.retAddr 0))] [.int y_58] _ _ _ _ _ _
  refine cT_call (b_C_compareTexts_4 s2) (c_Signs_size hI s2) hF (fun o ho => ho.elim) (fun v_59 f_60 hI_61 hG_62 hF_63 hQ_64 => ?_)
  obtain rfl := cF_no hG_62
  obtain ⟨y_65, rfl, hQ_64⟩ := hQ_64
  have hQ_64r := t_rng y_65
  show cT 100 8 [.ref a0, .ref a1, .ref a2, (((.retAddr 0))), (((.retAddr 0))), (((.retAddr 0)))] [.int y_65, .int y_58] _ _ _ _ _ _
  refine cT_go b_C_compareTexts_8 ?_
  have t_66 := t_ite (a := y_65) (b := y_58) (x := y_65) (y := y_58)
  have t_67 : (nI 0).toInt = 0 := nI_toInt (by decide)
  exact l_C_compareTexts_15 ((4096 - (nI 0).toInt).toNat + 1) (by omega) hI hF s0 s1 s2 (by omega) (by omega)
theorem l_C_entriesAhead_17 {L : Nat} {e : Nat × Nat} {f0 : cg_G} : ∀ (k : Nat) {f : cg_G} {a0 : Nat} {x1 : Int32} {x2 : Int32} {a3 : Nat} {x4 : Int32} {x5 : Int32} {u6 : Value} {u7 : Value}, (8 - x5.toInt).toNat < k → cI L f → cF (fun o => False) f0 f → sh_ a0 = 0 → sh_ a3 = 6 → (0 ≤ x5.toInt) → cT 125 17 [.ref a0, .int x1, .int x2, .ref a3, .int x4, .int x5, u6, u7] [] L e (fun o => False) f0 f (fun v f' => ∃ x : Int32, v = some (.int x) ∧ (True)) := by
  intro k
  induction k with
  | zero => intro f a0 x1 x2 a3 x4 x5 u6 u7 hm; omega
  | succ k ih =>
    intro f a0 x1 x2 a3 x4 x5 u6 u7 hme hI hF s0 s3 i5
    have t0 := t_0
    have t_1 := t_rng (x1)
    have t_2 := t_rng (x2)
    have t_3 := t_rng (x4)
    have t_4 := t_rng (x5)
    have t_6 : 0 ≤ (f a0 7).toInt ∧ (f a0 7).toInt ≤ 8 := (cI_at hI 7 s0).2.2.1 rfl
    refine cT_if (b_C_entriesAhead_17 s0) (fun c_5 => ?_) (fun c_5 => ?_)
    · rw [t_le] at c_5
      exact cT_ret b_C_entriesAhead_87 hI hF ⟨_, rfl, trivial⟩
    · rw [t_le] at c_5
      refine cT_call (b_C_entriesAhead_26 s0 (by rw [t_in]; omega)) (c_Entry_textOf hI (sa_104 (sc_0_4 s0) (cg_in_lt (by rw [t_in]; omega)))) hF (fun o ho => ho.elim) (fun v_7 f_8 hI_9 hG_10 hF_11 hQ_12 => ?_)
      obtain rfl := cF_no hG_10
      obtain ⟨y_13, rfl, hs_14, hQ_12⟩ := hQ_12
      show cT 125 37 [.ref a0, .int x1, .int x2, .ref a3, .int x4, .int x5, u6, u7] [.ref y_13] _ _ _ _ _ _
      refine cT_if b_C_entriesAhead_37 (fun c_15 => ?_) (fun c_15 => ?_)
      · rw [t_eq] at c_15
        refine cT_go b_C_entriesAhead_81 ?_
        have t_17 : (nI 1).toInt = 1 := nI_toInt (by decide)
        first | have t_16 : (x5 + (nI 1)).toInt = (x5).toInt + ((nI 1)).toInt := t_addn (by omega) | obtain ⟨kt_16, t_16⟩ := t_add x5 (nI 1)
        exact ih (by omega) hI hF s0 s3 (by omega)
      · rw [t_eq] at c_15
        refine cT_call (b_C_entriesAhead_45 hs_14) (c_Signs_size hI hs_14) hF (fun o ho => ho.elim) (fun v_18 f_19 hI_20 hG_21 hF_22 hQ_23 => ?_)
        obtain rfl := cF_no hG_21
        obtain ⟨y_24, rfl, hQ_23⟩ := hQ_23
        have hQ_23r := t_rng y_24
        show cT 125 50 [.ref a0, .int x1, .int x2, .ref a3, .int x4, .int x5, .ref y_13, u7] [.int y_24] _ _ _ _ _ _
        refine cT_if b_C_entriesAhead_50 (fun c_25 => ?_) (fun c_25 => ?_)
        · rw [t_le] at c_25
          refine cT_go b_C_entriesAhead_81 ?_
          have t_28 : (nI 1).toInt = 1 := nI_toInt (by decide)
          first | have t_27 : (x5 + (nI 1)).toInt = (x5).toInt + ((nI 1)).toInt := t_addn (by omega) | obtain ⟨kt_27, t_27⟩ := t_add x5 (nI 1)
          exact ih (by omega) hI hF s0 s3 (by omega)
        · rw [t_le] at c_25
          refine cT_call (b_C_entriesAhead_53 s0) (c_C_compareTexts hI s0 hs_14 s3) hF (fun o ho => ho.elim) (fun v_29 f_30 hI_31 hG_32 hF_33 hQ_34 => ?_)
          obtain rfl := cF_no hG_32
          obtain ⟨y_35, rfl, hQ_34⟩ := hQ_34
          have hQ_34r := t_rng y_35
          show cT 125 60 [.ref a0, .int x1, .int x2, .ref a3, .int x4, .int x5, .ref y_13, u7] [.int y_35] _ _ _ _ _ _
          refine cT_if b_C_entriesAhead_60 (fun c_36 => ?_) (fun c_36 => ?_)
          · rw [t_lt] at c_36
            refine cT_go b_C_entriesAhead_78 ?_
            refine cT_go b_C_entriesAhead_81 ?_
            have t_38 : (nI 1).toInt = 1 := nI_toInt (by decide)
            first | have t_37 : (x4 + (nI 1)).toInt = (x4).toInt + ((nI 1)).toInt := t_addn (by omega) | obtain ⟨kt_37, t_37⟩ := t_add x4 (nI 1)
            first | have t_39 : (x5 + (nI 1)).toInt = (x5).toInt + ((nI 1)).toInt := t_addn (by omega) | obtain ⟨kt_39, t_39⟩ := t_add x5 (nI 1)
            exact ih (by omega) hI hF s0 s3 (by omega)
          · rw [t_lt] at c_36
            refine cT_if b_C_entriesAhead_67 (fun c_40 => ?_) (fun c_40 => ?_)
            · rw [t_eq] at c_40
              refine cT_if b_C_entriesAhead_72 (fun c_41 => ?_) (fun c_41 => ?_)
              · rw [t_le] at c_41
                refine cT_go b_C_entriesAhead_81 ?_
                have t_43 : (nI 1).toInt = 1 := nI_toInt (by decide)
                first | have t_42 : (x5 + (nI 1)).toInt = (x5).toInt + ((nI 1)).toInt := t_addn (by omega) | obtain ⟨kt_42, t_42⟩ := t_add x5 (nI 1)
                exact ih (by omega) hI hF s0 s3 (by omega)
              · rw [t_le] at c_41
                refine cT_go b_C_entriesAhead_78 ?_
                refine cT_go b_C_entriesAhead_81 ?_
                have t_45 : (nI 1).toInt = 1 := nI_toInt (by decide)
                first | have t_44 : (x4 + (nI 1)).toInt = (x4).toInt + ((nI 1)).toInt := t_addn (by omega) | obtain ⟨kt_44, t_44⟩ := t_add x4 (nI 1)
                first | have t_46 : (x5 + (nI 1)).toInt = (x5).toInt + ((nI 1)).toInt := t_addn (by omega) | obtain ⟨kt_46, t_46⟩ := t_add x5 (nI 1)
                exact ih (by omega) hI hF s0 s3 (by omega)
            · rw [t_eq] at c_40
              refine cT_go b_C_entriesAhead_81 ?_
              have t_48 : (nI 1).toInt = 1 := nI_toInt (by decide)
              first | have t_47 : (x5 + (nI 1)).toInt = (x5).toInt + ((nI 1)).toInt := t_addn (by omega) | obtain ⟨kt_47, t_47⟩ := t_add x5 (nI 1)
              exact ih (by omega) hI hF s0 s3 (by omega)
theorem c_C_entriesAhead {L : Nat} {f : cg_G} {e : Nat × Nat} {a0 : Nat} {x1 : Int32} {x2 : Int32} (hI : cI L f) (s0 : sh_ a0 = 0) (p1 : 0 ≤ x1.toInt ∧ x1.toInt < 8) : cE 125 [.ref a0, .int x1, .int x2] L e (fun o => False) f (fun v f' => ∃ x : Int32, v = some (.int x) ∧ (True)) := by
  refine cE_of (ls := [.ref a0, .int x1, .int x2, (.retAddr 0), (.retAddr 0), (.retAddr 0), (.retAddr 0), (.retAddr 0)]) rfl ?_
  have t0 := t_0
  have hF : cF (fun o => False) f f := cF_rf
  have t_49 := t_rng (x1)
  have t_50 := t_rng (x2)
  refine cT_call (b_C_entriesAhead_0 s0 (by rw [t_in]; omega)) (c_Entry_textOf hI (sa_104 (sc_0_4 s0) (cg_in_lt (by rw [t_in]; omega)))) hF (fun o ho => ho.elim) (fun v_51 f_52 hI_53 hG_54 hF_55 hQ_56 => ?_)
  obtain rfl := cF_no hG_54
  obtain ⟨y_57, rfl, hs_58, hQ_56⟩ := hQ_56
  show cT 125 10 [.ref a0, .int x1, .int x2, ((.retAddr 0)), ((.retAddr 0)), ((.retAddr 0)), ((.retAddr 0)), ((.retAddr 0))] [.ref y_57] _ _ _ _ _ _
  refine cT_go b_C_entriesAhead_10 ?_
  have t_59 : (nI 0).toInt = 0 := nI_toInt (by decide)
  exact l_C_entriesAhead_17 ((8 - (nI 0).toInt).toNat + 1) (by omega) hI hF s0 hs_58 (by omega)
theorem c_C_about {L : Nat} {f : cg_G} {e : Nat × Nat} {a0 : Nat} {x1 : Int32} (hI : cI L f) (s0 : sh_ a0 = 0)  : cEx 57 [.ref a0, .int x1] L e (fun o => False) f (fun o f' => (∃ x : Int32, o = .inl (some (.int x)) ∧ (True)) ∨ ∃ k : Nat, o = .inr k ∧ k < 3 ∧ (k = 2 ∨ k = 0)) := by
  refine cEx_of (ls := [.ref a0, .int x1]) rfl ?_
  have t0 := t_0
  have hF : cF (fun o => False) f f := cF_rf
  have t_1 := t_rng (x1)
  refine cX_if b_C_about_0 (fun c_2 => ?_) (fun c_2 => ?_)
  · rw [t_lt] at c_2
    exact cX_throw b_C_about_9 hI hF (Or.inr ⟨_, rfl, by decide, by decide⟩)
  · rw [t_lt] at c_2
    have t_5 : (nI 4).toInt = 4 := nI_toInt (by decide)
    refine cX_if b_C_about_4 (fun c_4 => ?_) (fun c_4 => ?_)
    · rw [t_le] at c_4
      have t_7 : 0 ≤ (f a0 8).toInt ∧ (f a0 8).toInt ≤ 1 := (cI_at hI 8 s0).2.2.2.1 rfl
      refine cX_if (b_C_about_19 s0) (fun c_6 => ?_) (fun c_6 => ?_)
      · rw [t_eq] at c_6
        exact cX_throw b_C_about_26 hI hF (Or.inr ⟨_, rfl, by decide, by decide⟩)
      · rw [t_eq] at c_6
        refine cX_call (b_C_about_36 s0 (la_sh9 hI s0)) (c_Setting_figure hI (la_sh9 hI s0)) hF (fun o ho => ho.elim) (fun v_8 f_9 hI_10 hG_11 hF_12 hQ_13 => ?_)
        obtain rfl := cF_no hG_11
        obtain ⟨y_14, rfl, hQ_13⟩ := hQ_13
        have hQ_13r := t_rng y_14
        show cX 57 44 [.ref a0, .int x1] [.int y_14] _ _ _ _ _ _
        exact cX_ret b_C_about_44 hI hF (Or.inl ⟨_, rfl, trivial⟩)
    · rw [t_le] at c_4
      exact cX_throw b_C_about_9 hI hF (Or.inr ⟨_, rfl, by decide, by decide⟩)
theorem c_C_page {L : Nat} {f : cg_G} {e : Nat × Nat} {a0 : Nat} {x1 : Int32} (hI : cI L f) (s0 : sh_ a0 = 0)  : cEx 103 [.ref a0, .int x1] L e (fun o => False) f (fun o f' => (∃ x : Int32, o = .inl (some (.int x)) ∧ (True)) ∨ ∃ k : Nat, o = .inr k ∧ k < 3 ∧ (k = 2 ∨ k = 0)) := by
  refine cEx_of (ls := [.ref a0, .int x1, (.retAddr 0)]) rfl ?_
  have t0 := t_0
  have hF : cF (fun o => False) f f := cF_rf
  have t_1 := t_rng (x1)
  refine cX_call (b_C_page_0 s0) (c_C_isEntry hI s0) hF (fun o ho => ho.elim) (fun v_2 f_3 hI_4 hG_5 hF_6 hQ_7 => ?_)
  obtain rfl := cF_no hG_5
  obtain ⟨y_8, rfl, hb_9, hQ_7⟩ := hQ_7
  have hb_9r := t_rng y_8
  show cX 103 5 [.ref a0, .int x1, ((.retAddr 0))] [.int y_8] _ _ _ _ _ _
  refine cX_if b_C_page_5 (fun c_10 => ?_) (fun c_10 => ?_)
  · rw [t_eq] at c_10
    exact cX_throw b_C_page_8 hI hF (Or.inr ⟨_, rfl, by decide, by decide⟩)
  · rw [t_eq] at c_10
    have t_13 : 0 ≤ (f a0 8).toInt ∧ (f a0 8).toInt ≤ 1 := (cI_at hI 8 s0).2.2.2.1 rfl
    refine cX_if (b_C_page_18 s0) (fun c_12 => ?_) (fun c_12 => ?_)
    · rw [t_eq] at c_12
      exact cX_throw b_C_page_25 hI hF (Or.inr ⟨_, rfl, by decide, by decide⟩)
    · rw [t_eq] at c_12
      refine cX_call (b_C_page_35 s0 (la_sh9 hI s0)) (c_Setting_holdsEntry hI (la_sh9 hI s0)) hF (fun o ho => ho.elim) (fun v_14 f_15 hI_16 hG_17 hF_18 hQ_19 => ?_)
      obtain rfl := cF_no hG_17
      obtain ⟨y_20, rfl, hb_21, hQ_19⟩ := hQ_19
      have hb_21r := t_rng y_20
      show cX 103 43 [.ref a0, .int x1, (((((.retAddr 0)))))] [.int y_20] _ _ _ _ _ _
      refine cX_if b_C_page_43 (fun c_22 => ?_) (fun c_22 => ?_)
      · rw [t_eq] at c_22
        exact cX_throw b_C_page_46 hI hF (Or.inr ⟨_, rfl, by decide, by decide⟩)
      · rw [t_eq] at c_22
        refine cX_call (b_C_page_56 s0 (la_sh9 hI s0)) (c_Setting_pageOf hI (la_sh9 hI s0)) hF (fun o ho => ho.elim) (fun v_23 f_24 hI_25 hG_26 hF_27 hQ_28 => ?_)
        obtain rfl := cF_no hG_26
        obtain ⟨y_29, rfl, hQ_28⟩ := hQ_28
        have hQ_28r := t_rng y_29
        show cX 103 64 [.ref a0, .int x1, (((((((.retAddr 0)))))))] [.int y_29] _ _ _ _ _ _
        refine cX_if b_C_page_64 (fun c_30 => ?_) (fun c_30 => ?_)
        · rw [t_eq] at c_30
          refine cX_go b_C_page_69 ?_
          have t_31 := t_neg1
          exact cX_ret b_C_page_74 hI hF (Or.inl ⟨_, rfl, trivial⟩)
        · rw [t_eq] at c_30
          refine cX_go b_C_page_73 ?_
          exact cX_ret b_C_page_74 hI hF (Or.inl ⟨_, rfl, trivial⟩)
theorem c_C_line {L : Nat} {f : cg_G} {e : Nat × Nat} {a0 : Nat} {x1 : Int32} {x2 : Int32} {x3 : Int32} (hI : cI L f) (s0 : sh_ a0 = 0)  : cEx 101 [.ref a0, .int x1, .int x2, .int x3] L e (fun o => False) f (fun o f' => (∃ x : Int32, o = .inl (some (.int x)) ∧ (True)) ∨ ∃ k : Nat, o = .inr k ∧ k < 3 ∧ (k = 2 ∨ k = 0)) := by
  refine cEx_of (ls := [.ref a0, .int x1, .int x2, .int x3]) rfl ?_
  have t0 := t_0
  have hF : cF (fun o => False) f f := cF_rf
  have t_1 := t_rng (x1)
  have t_2 := t_rng (x2)
  have t_3 := t_rng (x3)
  have t_5 : (nI 1).toInt = 1 := nI_toInt (by decide)
  refine cX_if b_C_line_0 (fun c_4 => ?_) (fun c_4 => ?_)
  · rw [t_lt] at c_4
    exact cX_throw b_C_line_26 hI hF (Or.inr ⟨_, rfl, by decide, by decide⟩)
  · rw [t_lt] at c_4
    refine cX_if b_C_line_5 (fun c_6 => ?_) (fun c_6 => ?_)
    · rw [t_lt] at c_6
      exact cX_throw b_C_line_26 hI hF (Or.inr ⟨_, rfl, by decide, by decide⟩)
    · rw [t_lt] at c_6
      have t_9 : 3 ≤ (f a0 0).toInt ∧ (f a0 0).toInt ≤ 30 := (cI_at hI 0 s0).1 rfl
      refine cX_if (b_C_line_9 s0) (fun c_8 => ?_) (fun c_8 => ?_)
      · rw [t_le] at c_8
        exact cX_throw b_C_line_26 hI hF (Or.inr ⟨_, rfl, by decide, by decide⟩)
      · rw [t_le] at c_8
        refine cX_if b_C_line_17 (fun c_10 => ?_) (fun c_10 => ?_)
        · rw [t_lt] at c_10
          exact cX_throw b_C_line_26 hI hF (Or.inr ⟨_, rfl, by decide, by decide⟩)
        · rw [t_lt] at c_10
          refine cX_if b_C_line_21 (fun c_11 => ?_) (fun c_11 => ?_)
          · rw [t_le] at c_11
            have t_13 : 0 ≤ (f a0 8).toInt ∧ (f a0 8).toInt ≤ 1 := (cI_at hI 8 s0).2.2.2.1 rfl
            refine cX_if (b_C_line_36 s0) (fun c_12 => ?_) (fun c_12 => ?_)
            · rw [t_eq] at c_12
              exact cX_throw b_C_line_43 hI hF (Or.inr ⟨_, rfl, by decide, by decide⟩)
            · rw [t_eq] at c_12
              refine cX_call (b_C_line_53 s0 (la_sh9 hI s0)) (c_Setting_pages hI (la_sh9 hI s0)) hF (fun o ho => ho.elim) (fun v_14 f_15 hI_16 hG_17 hF_18 hQ_19 => ?_)
              obtain rfl := cF_no hG_17
              obtain ⟨y_20, rfl, hQ_19⟩ := hQ_19
              have hQ_19r := t_rng y_20
              show cX 101 61 [.ref a0, .int x1, .int x2, .int x3] [.int y_20, .int x1] _ _ _ _ _ _
              refine cX_if b_C_line_61 (fun c_21 => ?_) (fun c_21 => ?_)
              · rw [t_le] at c_21
                refine cX_if (b_C_line_74 s0) (fun c_22 => ?_) (fun c_22 => ?_)
                · rw [t_eq] at c_22
                  refine cX_go b_C_line_84 ?_
                  refine cX_call (b_C_line_89 (la_sh9 hI s0)) (c_Setting_onPage hI (la_sh9 hI s0)) hF (fun o ho => ho.elim) (fun v_23 f_24 hI_25 hG_26 hF_27 hQ_28 => ?_)
                  obtain rfl := cF_no hG_26
                  obtain ⟨y_29, rfl, hQ_28⟩ := hQ_28
                  have hQ_28r := t_rng y_29
                  show cX 101 92 [.ref a0, .int x1, .int x2, .int x3] [.int y_29] _ _ _ _ _ _
                  exact cX_ret b_C_line_92 hI hF (Or.inl ⟨_, rfl, trivial⟩)
                · rw [t_eq] at c_22
                  refine cX_go b_C_line_88 ?_
                  have t_30 : (nI 0).toInt = 0 := nI_toInt (by decide)
                  refine cX_call (b_C_line_89 (la_sh9 hI s0)) (c_Setting_onPage hI (la_sh9 hI s0)) hF (fun o ho => ho.elim) (fun v_31 f_32 hI_33 hG_34 hF_35 hQ_36 => ?_)
                  obtain rfl := cF_no hG_34
                  obtain ⟨y_37, rfl, hQ_36⟩ := hQ_36
                  have hQ_36r := t_rng y_37
                  show cX 101 92 [.ref a0, .int x1, .int x2, .int x3] [.int y_37] _ _ _ _ _ _
                  exact cX_ret b_C_line_92 hI hF (Or.inl ⟨_, rfl, trivial⟩)
              · rw [t_le] at c_21
                exact cX_throw b_C_line_64 hI hF (Or.inr ⟨_, rfl, by decide, by decide⟩)
          · rw [t_le] at c_11
            exact cX_throw b_C_line_26 hI hF (Or.inr ⟨_, rfl, by decide, by decide⟩)
theorem c_C_sign {L : Nat} {f : cg_G} {e : Nat × Nat} {a0 : Nat} {x1 : Int32} {x2 : Int32} {x3 : Int32} (hI : cI L f) (s0 : sh_ a0 = 0)  : cEx 104 [.ref a0, .int x1, .int x2, .int x3] L e (fun o => False) f (fun o f' => (∃ x : Int32, o = .inl (some (.int x)) ∧ (True)) ∨ ∃ k : Nat, o = .inr k ∧ k < 3 ∧ (k = 2 ∨ k = 0)) := by
  refine cEx_of (ls := [.ref a0, .int x1, .int x2, .int x3, (.retAddr 0)]) rfl ?_
  have t0 := t_0
  have hF : cF (fun o => False) f f := cF_rf
  have t_1 := t_rng (x1)
  have t_2 := t_rng (x2)
  have t_3 := t_rng (x3)
  refine cX_call (b_C_sign_0 s0) (c_C_isEntry hI s0) hF (fun o ho => ho.elim) (fun v_4 f_5 hI_6 hG_7 hF_8 hQ_9 => ?_)
  obtain rfl := cF_no hG_7
  obtain ⟨y_10, rfl, hb_11, hQ_9⟩ := hQ_9
  have hb_11r := t_rng y_10
  show cX 104 5 [.ref a0, .int x1, .int x2, .int x3, ((.retAddr 0))] [.int y_10] _ _ _ _ _ _
  refine cX_if b_C_sign_5 (fun c_12 => ?_) (fun c_12 => ?_)
  · rw [t_eq] at c_12
    exact cX_throw b_C_sign_28 hI hF (Or.inr ⟨_, rfl, by decide, by decide⟩)
  · rw [t_eq] at c_12
    have t_15 := t_neg1
    refine cX_if b_C_sign_8 (fun c_14 => ?_) (fun c_14 => ?_)
    · rw [t_lt] at c_14
      exact cX_throw b_C_sign_28 hI hF (Or.inr ⟨_, rfl, by decide, by decide⟩)
    · rw [t_lt] at c_14
      refine cX_if b_C_sign_13 (fun c_16 => ?_) (fun c_16 => ?_)
      · rw [t_lt] at c_16
        exact cX_throw b_C_sign_28 hI hF (Or.inr ⟨_, rfl, by decide, by decide⟩)
      · rw [t_lt] at c_16
        refine cX_if b_C_sign_18 (fun c_17 => ?_) (fun c_17 => ?_)
        · rw [t_eq] at c_17
          refine cX_if b_C_sign_23 (fun c_18 => ?_) (fun c_18 => ?_)
          · rw [t_eq] at c_18
            have t_20 : 0 ≤ (f a0 8).toInt ∧ (f a0 8).toInt ≤ 1 := (cI_at hI 8 s0).2.2.2.1 rfl
            refine cX_if (b_C_sign_38 s0) (fun c_19 => ?_) (fun c_19 => ?_)
            · rw [t_eq] at c_19
              exact cX_throw b_C_sign_45 hI hF (Or.inr ⟨_, rfl, by decide, by decide⟩)
            · rw [t_eq] at c_19
              refine cX_call (b_C_sign_55 s0 (la_sh9 hI s0)) (c_Setting_holdsPlace hI (la_sh9 hI s0)) hF (fun o ho => ho.elim) (fun v_21 f_22 hI_23 hG_24 hF_25 hQ_26 => ?_)
              obtain rfl := cF_no hG_24
              obtain ⟨y_27, rfl, hb_28, hQ_26⟩ := hQ_26
              have hb_28r := t_rng y_27
              show cX 104 65 [.ref a0, .int x1, .int x2, .int x3, (((((((((.retAddr 0)))))))))] [.int y_27] _ _ _ _ _ _
              refine cX_if b_C_sign_65 (fun c_29 => ?_) (fun c_29 => ?_)
              · rw [t_eq] at c_29
                exact cX_throw b_C_sign_68 hI hF (Or.inr ⟨_, rfl, by decide, by decide⟩)
              · rw [t_eq] at c_29
                refine cX_call (b_C_sign_78 s0 (la_sh9 hI s0)) (c_Setting_blockOf hI (la_sh9 hI s0)) hF (fun o ho => ho.elim) (fun v_30 f_31 hI_32 hG_33 hF_34 hQ_35 => ?_)
                obtain rfl := cF_no hG_33
                obtain ⟨y_36, rfl, hs_37, hQ_35⟩ := hQ_35
                show cX 104 86 [.ref a0, .int x1, .int x2, .int x3, (((((((((((.retAddr 0)))))))))))] [.ref y_36] _ _ _ _ _ _
                refine cX_if b_C_sign_86 (fun c_38 => ?_) (fun c_38 => ?_)
                · rw [t_eq] at c_38
                  refine cX_call (b_C_sign_93 hs_37) (c_Block_lines hI hs_37) hF (fun o ho => ho.elim) (fun v_39 f_40 hI_41 hG_42 hF_43 hQ_44 => ?_)
                  obtain rfl := cF_no hG_42
                  obtain ⟨y_45, rfl, hQ_44⟩ := hQ_44
                  have hQ_44r := t_rng y_45
                  show cX 104 98 [.ref a0, .int x1, .int x2, .int x3, .ref y_36] [.int y_45] _ _ _ _ _ _
                  exact cX_ret b_C_sign_98 hI hF (Or.inl ⟨_, rfl, trivial⟩)
                · rw [t_eq] at c_38
                  refine cX_if b_C_sign_99 (fun c_46 => ?_) (fun c_46 => ?_)
                  · rw [t_eq] at c_46
                    refine cX_call (b_C_sign_104 hs_37) (c_Block_lengthOf hI hs_37) hF (fun o ho => ho.elim) (fun v_47 f_48 hI_49 hG_50 hF_51 hQ_52 => ?_)
                    obtain rfl := cF_no hG_50
                    obtain ⟨y_53, rfl, hQ_52⟩ := hQ_52
                    have hQ_52r := t_rng y_53
                    show cX 104 110 [.ref a0, .int x1, .int x2, .int x3, .ref y_36] [.int y_53] _ _ _ _ _ _
                    refine cX_go b_C_sign_110 ?_
                    exact cX_ret b_C_sign_120 hI hF (Or.inl ⟨_, rfl, trivial⟩)
                  · rw [t_eq] at c_46
                    refine cX_call (b_C_sign_113 hs_37) (c_Block_signAt hI hs_37) hF (fun o ho => ho.elim) (fun v_54 f_55 hI_56 hG_57 hF_58 hQ_59 => ?_)
                    obtain rfl := cF_no hG_57
                    obtain ⟨y_60, rfl, hQ_59⟩ := hQ_59
                    have hQ_59r := t_rng y_60
                    show cX 104 120 [.ref a0, .int x1, .int x2, .int x3, .ref y_36] [.int y_60] _ _ _ _ _ _
                    exact cX_ret b_C_sign_120 hI hF (Or.inl ⟨_, rfl, trivial⟩)
          · rw [t_eq] at c_18
            exact cX_throw b_C_sign_28 hI hF (Or.inr ⟨_, rfl, by decide, by decide⟩)
        · rw [t_eq] at c_17
          have t_62 : 0 ≤ (f a0 8).toInt ∧ (f a0 8).toInt ≤ 1 := (cI_at hI 8 s0).2.2.2.1 rfl
          refine cX_if (b_C_sign_38 s0) (fun c_61 => ?_) (fun c_61 => ?_)
          · rw [t_eq] at c_61
            exact cX_throw b_C_sign_45 hI hF (Or.inr ⟨_, rfl, by decide, by decide⟩)
          · rw [t_eq] at c_61
            refine cX_call (b_C_sign_55 s0 (la_sh9 hI s0)) (c_Setting_holdsPlace hI (la_sh9 hI s0)) hF (fun o ho => ho.elim) (fun v_63 f_64 hI_65 hG_66 hF_67 hQ_68 => ?_)
            obtain rfl := cF_no hG_66
            obtain ⟨y_69, rfl, hb_70, hQ_68⟩ := hQ_68
            have hb_70r := t_rng y_69
            show cX 104 65 [.ref a0, .int x1, .int x2, .int x3, ((((((((.retAddr 0))))))))] [.int y_69] _ _ _ _ _ _
            refine cX_if b_C_sign_65 (fun c_71 => ?_) (fun c_71 => ?_)
            · rw [t_eq] at c_71
              exact cX_throw b_C_sign_68 hI hF (Or.inr ⟨_, rfl, by decide, by decide⟩)
            · rw [t_eq] at c_71
              refine cX_call (b_C_sign_78 s0 (la_sh9 hI s0)) (c_Setting_blockOf hI (la_sh9 hI s0)) hF (fun o ho => ho.elim) (fun v_72 f_73 hI_74 hG_75 hF_76 hQ_77 => ?_)
              obtain rfl := cF_no hG_75
              obtain ⟨y_78, rfl, hs_79, hQ_77⟩ := hQ_77
              show cX 104 86 [.ref a0, .int x1, .int x2, .int x3, ((((((((((.retAddr 0))))))))))] [.ref y_78] _ _ _ _ _ _
              refine cX_if b_C_sign_86 (fun c_80 => ?_) (fun c_80 => ?_)
              · rw [t_eq] at c_80
                refine cX_call (b_C_sign_93 hs_79) (c_Block_lines hI hs_79) hF (fun o ho => ho.elim) (fun v_81 f_82 hI_83 hG_84 hF_85 hQ_86 => ?_)
                obtain rfl := cF_no hG_84
                obtain ⟨y_87, rfl, hQ_86⟩ := hQ_86
                have hQ_86r := t_rng y_87
                show cX 104 98 [.ref a0, .int x1, .int x2, .int x3, .ref y_78] [.int y_87] _ _ _ _ _ _
                exact cX_ret b_C_sign_98 hI hF (Or.inl ⟨_, rfl, trivial⟩)
              · rw [t_eq] at c_80
                refine cX_if b_C_sign_99 (fun c_88 => ?_) (fun c_88 => ?_)
                · rw [t_eq] at c_88
                  refine cX_call (b_C_sign_104 hs_79) (c_Block_lengthOf hI hs_79) hF (fun o ho => ho.elim) (fun v_89 f_90 hI_91 hG_92 hF_93 hQ_94 => ?_)
                  obtain rfl := cF_no hG_92
                  obtain ⟨y_95, rfl, hQ_94⟩ := hQ_94
                  have hQ_94r := t_rng y_95
                  show cX 104 110 [.ref a0, .int x1, .int x2, .int x3, .ref y_78] [.int y_95] _ _ _ _ _ _
                  refine cX_go b_C_sign_110 ?_
                  exact cX_ret b_C_sign_120 hI hF (Or.inl ⟨_, rfl, trivial⟩)
                · rw [t_eq] at c_88
                  refine cX_call (b_C_sign_113 hs_79) (c_Block_signAt hI hs_79) hF (fun o ho => ho.elim) (fun v_96 f_97 hI_98 hG_99 hF_100 hQ_101 => ?_)
                  obtain rfl := cF_no hG_99
                  obtain ⟨y_102, rfl, hQ_101⟩ := hQ_101
                  have hQ_101r := t_rng y_102
                  show cX 104 120 [.ref a0, .int x1, .int x2, .int x3, .ref y_78] [.int y_102] _ _ _ _ _ _
                  exact cX_ret b_C_sign_120 hI hF (Or.inl ⟨_, rfl, trivial⟩)
theorem l_C_index_23 {L : Nat} {e : Nat × Nat} {f0 : cg_G} : ∀ (k : Nat) {f : cg_G} {a0 : Nat} {x1 : Int32} {x2 : Int32} {x3 : Int32}, (8 - x3.toInt).toNat < k → cI L f → cF (fun o => False) f0 f → sh_ a0 = 0 → (0 ≤ x3.toInt) → cX 137 23 [.ref a0, .int x1, .int x2, .int x3] [] L e (fun o => False) f0 f (fun o f' => (∃ x : Int32, o = .inl (some (.int x)) ∧ (True)) ∨ ∃ k : Nat, o = .inr k ∧ k < 3 ∧ (k = 2)) := by
  intro k
  induction k with
  | zero => intro f a0 x1 x2 x3 hm; omega
  | succ k ih =>
    intro f a0 x1 x2 x3 hme hI hF s0 i3
    have t0 := t_0
    have t_1 := t_rng (x1)
    have t_2 := t_rng (x2)
    have t_3 := t_rng (x3)
    have t_5 : 0 ≤ (f a0 7).toInt ∧ (f a0 7).toInt ≤ 8 := (cI_at hI 7 s0).2.2.1 rfl
    refine cX_if (b_C_index_23 s0) (fun c_4 => ?_) (fun c_4 => ?_)
    · rw [t_le] at c_4
      have t_6 := t_neg1
      exact cX_ret b_C_index_65 hI hF (Or.inl ⟨_, rfl, trivial⟩)
    · rw [t_le] at c_4
      have tc_7 := t_cl x3
      refine cX_call (b_C_index_31 s0 (by rw [t_in]; omega)) (c_Entry_textOf hI (sa_104 (sc_0_4 s0) (cg_in_lt (by rw [t_in]; omega)))) hF (fun o ho => ho.elim) (fun v_8 f_9 hI_10 hG_11 hF_12 hQ_13 => ?_)
      obtain rfl := cF_no hG_11
      obtain ⟨y_14, rfl, hs_15, hQ_13⟩ := hQ_13
      show cX 137 41 [.ref a0, .int x1, .int x2, .int x3] [.ref y_14] _ _ _ _ _ _
      refine cX_call (b_C_index_41 hs_15) (c_Signs_size hI hs_15) hF (fun o ho => ho.elim) (fun v_16 f_17 hI_18 hG_19 hF_20 hQ_21 => ?_)
      obtain rfl := cF_no hG_19
      obtain ⟨y_22, rfl, hQ_21⟩ := hQ_21
      have hQ_21r := t_rng y_22
      show cX 137 44 [.ref a0, .int x1, .int x2, .int x3] [.int y_22] _ _ _ _ _ _
      refine cX_if b_C_index_44 (fun c_23 => ?_) (fun c_23 => ?_)
      · rw [t_le] at c_23
        refine cX_go b_C_index_59 ?_
        have t_26 : (nI 1).toInt = 1 := nI_toInt (by decide)
        first | have t_25 : (x3 + (nI 1)).toInt = (x3).toInt + ((nI 1)).toInt := t_addn (by omega) | obtain ⟨kt_25, t_25⟩ := t_add x3 (nI 1)
        exact ih (by omega) hI hF s0 (by omega)
      · rw [t_le] at c_23
        refine cX_call (b_C_index_47 s0) (c_C_entriesAhead hI s0 (by first | omega | assumption | exact sl_4_4 (by assumption))) hF (fun o ho => ho.elim) (fun v_27 f_28 hI_29 hG_30 hF_31 hQ_32 => ?_)
        obtain rfl := cF_no hG_30
        obtain ⟨y_33, rfl, hQ_32⟩ := hQ_32
        have hQ_32r := t_rng y_33
        show cX 137 53 [.ref a0, .int x1, .int x2, .int x3] [.int y_33] _ _ _ _ _ _
        refine cX_if b_C_index_53 (fun c_34 => ?_) (fun c_34 => ?_)
        · rw [t_eq] at c_34
          exact cX_ret b_C_index_57 hI hF (Or.inl ⟨_, rfl, trivial⟩)
        · rw [t_eq] at c_34
          refine cX_go b_C_index_59 ?_
          have t_36 : (nI 1).toInt = 1 := nI_toInt (by decide)
          first | have t_35 : (x3 + (nI 1)).toInt = (x3).toInt + ((nI 1)).toInt := t_addn (by omega) | obtain ⟨kt_35, t_35⟩ := t_add x3 (nI 1)
          exact ih (by omega) hI hF s0 (by omega)
theorem c_C_index {L : Nat} {f : cg_G} {e : Nat × Nat} {a0 : Nat} {x1 : Int32} {x2 : Int32} (hI : cI L f) (s0 : sh_ a0 = 0)  : cEx 137 [.ref a0, .int x1, .int x2] L e (fun o => False) f (fun o f' => (∃ x : Int32, o = .inl (some (.int x)) ∧ (True)) ∨ ∃ k : Nat, o = .inr k ∧ k < 3 ∧ (k = 2)) := by
  refine cEx_of (ls := [.ref a0, .int x1, .int x2, (.retAddr 0)]) rfl ?_
  have t0 := t_0
  have hF : cF (fun o => False) f f := cF_rf
  have t_37 := t_rng (x1)
  have t_38 := t_rng (x2)
  refine cX_call b_C_index_0 (c_C_isField hI) hF (fun o ho => ho.elim) (fun v_39 f_40 hI_41 hG_42 hF_43 hQ_44 => ?_)
  obtain rfl := cF_no hG_42
  obtain ⟨y_45, rfl, hb_46, hQ_44⟩ := hQ_44
  have hb_46r := t_rng y_45
  show cX 137 4 [.ref a0, .int x1, .int x2, ((.retAddr 0))] [.int y_45] _ _ _ _ _ _
  refine cX_if b_C_index_4 (fun c_47 => ?_) (fun c_47 => ?_)
  · rw [t_eq] at c_47
    exact cX_throw b_C_index_11 hI hF (Or.inr ⟨_, rfl, by decide, rfl⟩)
  · rw [t_eq] at c_47
    refine cX_if b_C_index_7 (fun c_49 => ?_) (fun c_49 => ?_)
    · rw [t_le] at c_49
      refine cX_go b_C_index_21 ?_
      have t_50 : (nI 0).toInt = 0 := nI_toInt (by decide)
      exact l_C_index_23 ((8 - (nI 0).toInt).toNat + 1) (by omega) hI hF s0 (by omega)
    · rw [t_le] at c_49
      exact cX_throw b_C_index_11 hI hF (Or.inr ⟨_, rfl, by decide, rfl⟩)
theorem c_C_count {L : Nat} {f : cg_G} {e : Nat × Nat} {a0 : Nat} {x1 : Int32} (hI : cI L f) (s0 : sh_ a0 = 0)  : cEx 60 [.ref a0, .int x1] L e (fun o => False) f (fun o f' => (∃ x : Int32, o = .inl (some (.int x)) ∧ ((0 ≤ x1.toInt ∧ x1.toInt < 3) ∧ (x1.toInt = 0 → x.toInt = (f (a0 + 1) 1).toInt) ∧ (x1.toInt = 1 → x.toInt = (f a0 6).toInt) ∧ (x1.toInt = 2 → x.toInt = (f a0 7).toInt))) ∨ ∃ k : Nat, o = .inr k ∧ k < 3 ∧ (k = 2 ∧ ¬ (0 ≤ x1.toInt ∧ x1.toInt < 3))) := by
  refine cEx_of (ls := [.ref a0, .int x1]) rfl ?_
  have t0 := t_0
  have hF : cF (fun o => False) f f := cF_rf
  have t_1 := t_rng (x1)
  refine cX_if b_C_count_0 (fun c_2 => ?_) (fun c_2 => ?_)
  · rw [t_lt] at c_2
    exact cX_throw b_C_count_9 hI hF (Or.inr ⟨_, rfl, by decide, ⟨rfl, by omega⟩⟩)
  · rw [t_lt] at c_2
    have t_5 : (nI 2).toInt = 2 := nI_toInt (by decide)
    refine cX_if b_C_count_4 (fun c_4 => ?_) (fun c_4 => ?_)
    · rw [t_le] at c_4
      refine cX_if b_C_count_19 (fun c_6 => ?_) (fun c_6 => ?_)
      · rw [t_eq] at c_6
        refine cX_call (b_C_count_23 s0) (c_Signs_size hI (sc_0_1 s0)) hF (fun o ho => ho.elim) (fun v_7 f_8 hI_9 hG_10 hF_11 hQ_12 => ?_)
        obtain rfl := cF_no hG_10
        obtain ⟨y_13, rfl, hQ_12⟩ := hQ_12
        have hQ_12r := t_rng y_13
        show cX 60 30 [.ref a0, .int x1] [.int y_13] _ _ _ _ _ _
        exact cX_ret b_C_count_30 hI hF (Or.inl ⟨_, rfl, by omega⟩)
      · rw [t_eq] at c_6
        have t_15 : (nI 1).toInt = 1 := nI_toInt (by decide)
        refine cX_if b_C_count_31 (fun c_14 => ?_) (fun c_14 => ?_)
        · rw [t_eq] at c_14
          refine cX_go (b_C_count_36 s0) ?_
          have t_16 : 0 ≤ (f a0 6).toInt ∧ (f a0 6).toInt ≤ 6 := (cI_at hI 6 s0).2.1 rfl
          exact cX_ret b_C_count_47 hI hF (Or.inl ⟨_, rfl, by omega⟩)
        · rw [t_eq] at c_14
          refine cX_go (b_C_count_43 s0) ?_
          have t_17 : 0 ≤ (f a0 7).toInt ∧ (f a0 7).toInt ≤ 8 := (cI_at hI 7 s0).2.2.1 rfl
          exact cX_ret b_C_count_47 hI hF (Or.inl ⟨_, rfl, by omega⟩)
    · rw [t_le] at c_4
      exact cX_throw b_C_count_9 hI hF (Or.inr ⟨_, rfl, by decide, ⟨rfl, by omega⟩⟩)
