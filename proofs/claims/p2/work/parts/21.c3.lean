theorem c_Setting_startPass {L : Nat} {f : cg_G} {e : Nat × Nat} {a0 : Nat} {x1 : Int32} {x2 : Int32} (hI : cI L f) (s0 : sh_ a0 = 5) (p1 : 0 ≤ x1.toInt) : cE 32 [.ref a0, .int x1, .int x2] L e (fun o => 124 ≤ o ∧ o < 206) f (fun v f' => v = none ∧ (True)) := by
  refine cE_of (ls := [.ref a0, .int x1, .int x2]) rfl ?_
  have t0 := t_0
  have hF : cF (fun o => 124 ≤ o ∧ o < 206) f f := cF_rf
  have hr := rg_5 s0
  have t_1 := t_rng (x1)
  have t_2 := t_rng (x2)
  have t_6 : (nI 8).toInt = 8 := nI_toInt (by decide)
  have t_5 := t_ite (a := (nI 8)) (b := x1) (x := (nI 8)) (y := x1)
  have hI_3 := cI_up (k := 4) (x := if (nI 8) < x1 then (nI 8) else x1) hI s0 ⟨(fun _ => by omega), (fun h => absurd h (by decide)), (fun h => absurd h (by decide))⟩
  have hF_4 := cF_up (a := a0) (k := 4) (x := if (nI 8) < x1 then (nI 8) else x1) hF (by omega)
  have hI_7 := cI_up (k := 6) (x := x2) hI_3 s0 ⟨(fun h => absurd h (by decide)), (fun h => absurd h (by decide)), (fun h => absurd h (by decide))⟩
  have hF_8 := cF_up (a := a0) (k := 6) (x := x2) hF_4 (by omega)
  have hI_9 := cI_up (k := 8) (x := nI 0) hI_7 s0 ⟨(fun h => absurd h (by decide)), (fun h => absurd h (by decide)), (fun h => absurd h (by decide))⟩
  have hF_10 := cF_up (a := a0) (k := 8) (x := nI 0) hF_8 (by omega)
  exact cT_ret (b_Setting_startPass_0 s0) hI_9 hF_10 ⟨rfl, trivial⟩
theorem c_Setting_blockOf {L : Nat} {f : cg_G} {e : Nat × Nat} {a0 : Nat} {x1 : Int32} (hI : cI L f) (s0 : sh_ a0 = 5)  : cE 25 [.ref a0, .int x1] L e (fun o => False) f (fun v f' => ∃ c : Nat, v = some (.ref c) ∧ sh_ c = 1 ∧ (True)) := by
  refine cE_of (ls := [.ref a0, .int x1]) rfl ?_
  have t0 := t_0
  have hF : cF (fun o => False) f f := cF_rf
  have t_1 := t_rng (x1)
  refine cT_if (b_Setting_blockOf_0 s0) (fun c_2 => ?_) (fun c_2 => ?_)
  · rw [t_lt] at c_2
    refine cT_go b_Setting_blockOf_14 ?_
    have t_4 : (nI 0).toInt = 0 := nI_toInt (by decide)
    exact cT_ret (b_Setting_blockOf_19 (sc_5_0 s0) (by rw [t_in]; omega)) hI hF ⟨_, rfl, (sa_105 (sc_5_0 s0) (cg_in_lt (by rw [t_in]; omega))), trivial⟩
  · rw [t_lt] at c_2
    have t_6 : (nI 8).toInt = 8 := nI_toInt (by decide)
    refine cT_if b_Setting_blockOf_8 (fun c_5 => ?_) (fun c_5 => ?_)
    · rw [t_lt] at c_5
      refine cT_go b_Setting_blockOf_18 ?_
      exact cT_ret (b_Setting_blockOf_19 (sc_5_0 s0) (by rw [t_in]; omega)) hI hF ⟨_, rfl, (sa_105 (sc_5_0 s0) (cg_in_lt (by rw [t_in]; omega))), trivial⟩
    · rw [t_lt] at c_5
      refine cT_go b_Setting_blockOf_14 ?_
      have t_7 : (nI 0).toInt = 0 := nI_toInt (by decide)
      exact cT_ret (b_Setting_blockOf_19 (sc_5_0 s0) (by rw [t_in]; omega)) hI hF ⟨_, rfl, (sa_105 (sc_5_0 s0) (cg_in_lt (by rw [t_in]; omega))), trivial⟩
theorem c_Setting_addLineSquares {L : Nat} {f : cg_G} {e : Nat × Nat} {a0 : Nat} {x1 : Int32} (hI : cI L f) (s0 : sh_ a0 = 5)  : cE 24 [.ref a0, .int x1] L e (fun o => 124 ≤ o ∧ o < 206) f (fun v f' => v = none ∧ (True)) := by
  refine cE_of (ls := [.ref a0, .int x1]) rfl ?_
  have t0 := t_0
  have hF : cF (fun o => 124 ≤ o ∧ o < 206) f f := cF_rf
  have hr := rg_5 s0
  have t_1 := t_rng (x1)
  have hI_2 := cI_up (k := 8) (x := (f a0 8) + x1) hI s0 ⟨(fun h => absurd h (by decide)), (fun h => absurd h (by decide)), (fun h => absurd h (by decide))⟩
  have hF_3 := cF_up (a := a0) (k := 8) (x := (f a0 8) + x1) hF (by omega)
  exact cT_ret (b_Setting_addLineSquares_0 s0) hI_2 hF_3 ⟨rfl, trivial⟩
theorem l_Setting_markPages_7 {L : Nat} {e : Nat × Nat} {f0 : cg_G} : ∀ (k : Nat) {f : cg_G} {a0 : Nat} {a1 : Nat} {x2 : Int32}, (848 - (f a0 5).toInt).toNat < k → cI L f → cF (fun o => 124 ≤ o ∧ o < 206) f0 f → sh_ a0 = 5 → sh_ a1 = 3 → cT 81 7 [.ref a0, .ref a1, .int x2] [] L e (fun o => 124 ≤ o ∧ o < 206) f0 f (fun v f' => v = none ∧ (True)) := by
  intro k
  induction k with
  | zero => intro f a0 a1 x2 hm; omega
  | succ k ih =>
    intro f a0 a1 x2 hme hI hF s0 s1 
    have t0 := t_0
    have hr := rg_5 s0
    have t_1 := t_rng (x2)
    refine cT_call (b_Setting_markPages_7 s1) (c_Filling_items hI s1) hF (fun o ho => ho.elim) (fun v_2 f_3 hI_4 hG_5 hF_6 hQ_7 => ?_)
    obtain rfl := cF_no hG_5
    obtain ⟨y_8, rfl, hQ_7⟩ := hQ_7
    have hQ_7r := t_rng y_8
    show cT 81 12 [.ref a0, .ref a1, .int x2] [.int y_8, .int x2] _ _ _ _ _ _
    refine cT_if b_Setting_markPages_12 (fun c_9 => ?_) (fun c_9 => ?_)
    · rw [t_le] at c_9
      exact cT_ret b_Setting_markPages_54 hI hF ⟨rfl, trivial⟩
    · rw [t_le] at c_9
      have t_11 : (nI 848).toInt = 848 := nI_toInt (by decide)
      have t_12 : 0 ≤ (f a0 5).toInt ∧ (f a0 5).toInt ≤ 848 := (cI_at hI 5 s0).2.1 rfl
      refine cT_if (b_Setting_markPages_15 s0) (fun c_10 => ?_) (fun c_10 => ?_)
      · rw [t_le] at c_10
        exact cT_ret b_Setting_markPages_54 hI hF ⟨rfl, trivial⟩
      · rw [t_le] at c_10
        refine cT_call (b_Setting_markPages_25 s1) (c_Filling_endOfRow hI s1) hF (fun o ho => ho.elim) (fun v_13 f_14 hI_15 hG_16 hF_17 hQ_18 => ?_)
        obtain rfl := cF_no hG_16
        obtain ⟨y_19, rfl, hQ_18⟩ := hQ_18
        have hQ_18r := t_rng y_19
        show cT 81 30 [.ref a0, .ref a1, .int x2] [.int y_19] _ _ _ _ _ _
        have t_23 : (nI 1).toInt = 1 := nI_toInt (by decide)
        first | have t_22 : (((f a0 5)) + ((nI 1))).toInt = (((f a0 5))).toInt + (((nI 1))).toInt := t_addn (by omega) | obtain ⟨kt_22, t_22⟩ := t_add ((f a0 5)) ((nI 1))
        have hI_20 := cI_up (k := 5) (x := (f a0 5) + (nI 1)) hI s0 ⟨(fun h => absurd h (by decide)), (fun _ => by omega), (fun h => absurd h (by decide))⟩
        have hF_21 := cF_up (a := a0) (k := 5) (x := (f a0 5) + (nI 1)) hF (by omega)
        have hI_24 := cI_up (k := ((cg_up f a0 5 ((f a0 5) + (nI 1))) a0 5).toNatClampNeg) (x := y_19) hI_20 (sc_5_2 s0) (ok100 (by omega))
        have hF_25 := cF_up (a := a0 + 3) (k := ((cg_up f a0 5 ((f a0 5) + (nI 1))) a0 5).toNatClampNeg) (x := y_19) hF_21 (by omega)
        have t_26 : ((cg_up f a0 5 ((f a0 5) + (nI 1))) a0 5).toInt = ((f a0 5) + (nI 1)).toInt := by rw [cg_up_s]
        refine cT_go (b_Setting_markPages_30 s0 (by rw [t_in]; omega)) ?_
        have t_27 : ((cg_up (cg_up f a0 5 ((f a0 5) + (nI 1))) (a0 + 3) ((cg_up f a0 5 ((f a0 5) + (nI 1))) a0 5).toNatClampNeg y_19) a0 5).toInt = ((cg_up f a0 5 ((f a0 5) + (nI 1))) a0 5).toInt := by rw [cg_up_o (ne_sh s0 (sc_5_2 s0) (by decide))]
        exact ih (by omega) hI_24 hF_25 s0 s1
theorem c_Setting_markPages {L : Nat} {f : cg_G} {e : Nat × Nat} {a0 : Nat} {a1 : Nat} (hI : cI L f) (s0 : sh_ a0 = 5) (s1 : sh_ a1 = 3)  : cE 81 [.ref a0, .ref a1] L e (fun o => 124 ≤ o ∧ o < 206) f (fun v f' => v = none ∧ (True)) := by
  refine cE_of (ls := [.ref a0, .ref a1, (.retAddr 0)]) rfl ?_
  have t0 := t_0
  have hF : cF (fun o => 124 ≤ o ∧ o < 206) f f := cF_rf
  have hr := rg_5 s0
  have t_30 : (nI 0).toInt = 0 := nI_toInt (by decide)
  have hI_28 := cI_up (k := 5) (x := nI 0) hI s0 ⟨(fun h => absurd h (by decide)), (fun _ => by omega), (fun h => absurd h (by decide))⟩
  have hF_29 := cF_up (a := a0) (k := 5) (x := nI 0) hF (by omega)
  refine cT_go (b_Setting_markPages_0 s0) ?_
  have t_31 : ((cg_up f a0 5 (nI 0)) a0 5).toInt = (nI 0).toInt := by rw [cg_up_s]
  exact l_Setting_markPages_7 ((848 - ((cg_up f a0 5 (nI 0)) a0 5).toInt).toNat + 1) (by omega) hI_28 hF_29 s0 s1
theorem l_Setting_pageOfUnit_2 {L : Nat} {e : Nat × Nat} {f0 : cg_G} : ∀ (k : Nat) {f : cg_G} {a0 : Nat} {x1 : Int32} {x2 : Int32}, (849 - x2.toInt).toNat < k → cI L f → cF (fun o => False) f0 f → sh_ a0 = 5 → (1 ≤ x2.toInt) → cT 29 2 [.ref a0, .int x1, .int x2] [] L e (fun o => False) f0 f (fun v f' => ∃ x : Int32, v = some (.int x) ∧ (True)) := by
  intro k
  induction k with
  | zero => intro f a0 x1 x2 hm; omega
  | succ k ih =>
    intro f a0 x1 x2 hme hI hF s0 i2
    have t0 := t_0
    have t_1 := t_rng (x1)
    have t_2 := t_rng (x2)
    have t_4 : 0 ≤ (f a0 5).toInt ∧ (f a0 5).toInt ≤ 848 := (cI_at hI 5 s0).2.1 rfl
    refine cT_if (b_Setting_pageOfUnit_2 s0) (fun c_3 => ?_) (fun c_3 => ?_)
    · rw [t_lt] at c_3
      have t_5 : (nI 0).toInt = 0 := nI_toInt (by decide)
      exact cT_ret b_Setting_pageOfUnit_28 hI hF ⟨_, rfl, trivial⟩
    · rw [t_lt] at c_3
      have t_7 := t_rng (f (a0 + 3) x2.toNatClampNeg)
      refine cT_if (b_Setting_pageOfUnit_10 s0 (by rw [t_in]; omega)) (fun c_6 => ?_) (fun c_6 => ?_)
      · rw [t_le] at c_6
        refine cT_go b_Setting_pageOfUnit_22 ?_
        have t_9 : (nI 1).toInt = 1 := nI_toInt (by decide)
        first | have t_8 : (x2 + (nI 1)).toInt = (x2).toInt + ((nI 1)).toInt := t_addn (by omega) | obtain ⟨kt_8, t_8⟩ := t_add x2 (nI 1)
        exact ih (by omega) hI hF s0 (by omega)
      · rw [t_le] at c_6
        exact cT_ret b_Setting_pageOfUnit_20 hI hF ⟨_, rfl, trivial⟩
theorem c_Setting_pageOfUnit {L : Nat} {f : cg_G} {e : Nat × Nat} {a0 : Nat} {x1 : Int32} (hI : cI L f) (s0 : sh_ a0 = 5)  : cE 29 [.ref a0, .int x1] L e (fun o => False) f (fun v f' => ∃ x : Int32, v = some (.int x) ∧ (True)) := by
  refine cE_of (ls := [.ref a0, .int x1, (.retAddr 0)]) rfl ?_
  have t0 := t_0
  have hF : cF (fun o => False) f f := cF_rf
  have t_10 := t_rng (x1)
  refine cT_go b_Setting_pageOfUnit_0 ?_
  have t_11 : (nI 1).toInt = 1 := nI_toInt (by decide)
  exact l_Setting_pageOfUnit_2 ((849 - (nI 1).toInt).toNat + 1) (by omega) hI hF s0 (by omega)
theorem l_Setting_findEntryPages_2 {L : Nat} {e : Nat × Nat} {f0 : cg_G} : ∀ (k : Nat) {f : cg_G} {a0 : Nat} {x1 : Int32}, (8 - x1.toInt).toNat < k → cI L f → cF (fun o => 124 ≤ o ∧ o < 206) f0 f → sh_ a0 = 5 → (0 ≤ x1.toInt) → cT 79 2 [.ref a0, .int x1] [] L e (fun o => 124 ≤ o ∧ o < 206) f0 f (fun v f' => v = none ∧ (True)) := by
  intro k
  induction k with
  | zero => intro f a0 x1 hm; omega
  | succ k ih =>
    intro f a0 x1 hme hI hF s0 i1
    have t0 := t_0
    have hr := rg_5 s0
    have t_1 := t_rng (x1)
    have t_3 : 0 ≤ (f a0 4).toInt ∧ (f a0 4).toInt ≤ 8 := (cI_at hI 4 s0).1 rfl
    refine cT_if (b_Setting_findEntryPages_2 s0) (fun c_2 => ?_) (fun c_2 => ?_)
    · rw [t_le] at c_2
      exact cT_ret b_Setting_findEntryPages_48 hI hF ⟨rfl, trivial⟩
    · rw [t_le] at c_2
      refine cT_call (b_Setting_findEntryPages_10 s0 (by rw [t_in]; omega)) (c_Block_units hI (sa_105 (sc_5_0 s0) (cg_in_lt (by rw [t_in]; omega)))) hF (fun o ho => ho.elim) (fun v_4 f_5 hI_6 hG_7 hF_8 hQ_9 => ?_)
      obtain rfl := cF_no hG_7
      obtain ⟨y_10, rfl, hQ_9⟩ := hQ_9
      have hQ_9r := t_rng y_10
      show cT 79 24 [.ref a0, .int x1] [.int y_10, .int x1, .ref (a0 + 4)] _ _ _ _ _ _
      refine cT_if b_Setting_findEntryPages_24 (fun c_11 => ?_) (fun c_11 => ?_)
      · rw [t_eq] at c_11
        refine cT_go b_Setting_findEntryPages_27 ?_
        have hI_13 := cI_up (k := x1.toNatClampNeg) (x := nI 0) hI (sc_5_3 s0) (ok100 (by omega))
        have hF_14 := cF_up (a := a0 + 4) (k := x1.toNatClampNeg) (x := nI 0) hF (by omega)
        refine cT_go (b_Setting_findEntryPages_41 (sc_5_3 s0) (by rw [sl_5_3 s0, t_in]; omega) (by omega)) ?_
        have t_16 : (nI 1).toInt = 1 := nI_toInt (by decide)
        first | have t_15 : (x1 + (nI 1)).toInt = (x1).toInt + ((nI 1)).toInt := t_addn (by omega) | obtain ⟨kt_15, t_15⟩ := t_add x1 (nI 1)
        exact ih (by omega) hI_13 hF_14 s0 (by omega)
      · rw [t_eq] at c_11
        have t_17 := t_rng (f (a0 + 2) x1.toNatClampNeg)
        refine cT_call (b_Setting_findEntryPages_31 s0 (by rw [t_in]; omega)) (c_Setting_pageOfUnit hI s0) hF (fun o ho => ho.elim) (fun v_18 f_19 hI_20 hG_21 hF_22 hQ_23 => ?_)
        obtain rfl := cF_no hG_21
        obtain ⟨y_24, rfl, hQ_23⟩ := hQ_23
        have hQ_23r := t_rng y_24
        show cT 79 41 [.ref a0, .int x1] [.int y_24, .int x1, .ref (a0 + 4)] _ _ _ _ _ _
        have hI_25 := cI_up (k := x1.toNatClampNeg) (x := y_24) hI (sc_5_3 s0) (ok100 (by omega))
        have hF_26 := cF_up (a := a0 + 4) (k := x1.toNatClampNeg) (x := y_24) hF (by omega)
        refine cT_go (b_Setting_findEntryPages_41 (sc_5_3 s0) (by rw [sl_5_3 s0, t_in]; omega) (by omega)) ?_
        have t_28 : (nI 1).toInt = 1 := nI_toInt (by decide)
        first | have t_27 : (x1 + (nI 1)).toInt = (x1).toInt + ((nI 1)).toInt := t_addn (by omega) | obtain ⟨kt_27, t_27⟩ := t_add x1 (nI 1)
        exact ih (by omega) hI_25 hF_26 s0 (by omega)
theorem c_Setting_findEntryPages {L : Nat} {f : cg_G} {e : Nat × Nat} {a0 : Nat} (hI : cI L f) (s0 : sh_ a0 = 5)  : cE 79 [.ref a0] L e (fun o => 124 ≤ o ∧ o < 206) f (fun v f' => v = none ∧ (True)) := by
  refine cE_of (ls := [.ref a0, (.retAddr 0)]) rfl ?_
  have t0 := t_0
  have hF : cF (fun o => 124 ≤ o ∧ o < 206) f f := cF_rf
  have hr := rg_5 s0
  refine cT_go b_Setting_findEntryPages_0 ?_
  have t_29 : (nI 0).toInt = 0 := nI_toInt (by decide)
  exact l_Setting_findEntryPages_2 ((8 - (nI 0).toInt).toNat + 1) (by omega) hI hF s0 (by omega)
theorem l_Setting_breakPages_29 {L : Nat} {e : Nat × Nat} {f0 : cg_G} {Q : Option Value → cg_G → Prop} {a0 : Nat} {x1 : Int32} {a2 : Nat} {x3 : Int32} (s0 : sh_ a0 = 5) (s2 : sh_ a2 = 3) (j3 : 0 ≤ x3.toInt ∧ x3.toInt < 8) : ∀ (k : Nat) {f : cg_G} {x4 : Int32}, (106 - x4.toInt).toNat < k → cI L f → cF (fun o => 124 ≤ o ∧ o < 206) f0 f → (0 ≤ x4.toInt) → (∀ (f' : cg_G) (x4' : Int32), cI L f' → cF (fun o => 124 ≤ o ∧ o < 206) f0 f' → cT 131 64 [.ref a0, .int x1, .ref a2, .int x3, .int x4'] [] L e (fun o => 124 ≤ o ∧ o < 206) f0 f' Q) → cT 131 29 [.ref a0, .int x1, .ref a2, .int x3, .int x4] [] L e (fun o => 124 ≤ o ∧ o < 206) f0 f Q := by
  intro k
  induction k with
  | zero => intro f x4 hm; omega
  | succ k ih =>
    intro f x4 hm hI hF i4 hx
    have t0 := t_0
    have hr := rg_5 s0
    have hr2 := rg_3 s2
    have t_1 := t_rng (x1)
    have t_2 := t_rng (x3)
    have t_3 := t_rng (x4)
    refine cT_call (b_Setting_breakPages_29 s0 (by rw [t_in]; omega)) (c_Block_units hI (sa_105 (sc_5_0 s0) (cg_in_lt (by rw [t_in]; omega)))) hF (fun o ho => ho.elim) (fun v_4 f_5 hI_6 hG_7 hF_8 hQ_9 => ?_)
    obtain rfl := cF_no hG_7
    obtain ⟨y_10, rfl, hQ_9⟩ := hQ_9
    have hQ_9r := t_rng y_10
    show cT 131 40 [.ref a0, .int x1, .ref a2, .int x3, .int x4] [.int y_10, .int x4] _ _ _ _ _ _
    refine cT_if b_Setting_breakPages_40 (fun c_11 => ?_) (fun c_11 => ?_)
    · rw [t_le] at c_11
      exact hx _ _ hI hF 
    · rw [t_le] at c_11
      refine cT_call (b_Setting_breakPages_43 s0 (by rw [t_in]; omega)) (c_Block_heightOfUnit hI (sa_105 (sc_5_0 s0) (cg_in_lt (by rw [t_in]; omega)))) hF (fun o ho => ho.elim) (fun v_12 f_13 hI_14 hG_15 hF_16 hQ_17 => ?_)
      obtain rfl := cF_no hG_15
      obtain ⟨y_18, rfl, hQ_17⟩ := hQ_17
      have hQ_17r := t_rng y_18
      show cT 131 55 [.ref a0, .int x1, .ref a2, .int x3, .int x4] [.int y_18, .ref a2] _ _ _ _ _ _
      refine cT_call (b_Setting_breakPages_55 s2) (c_Filling_add hI s2) hF (fun o ho => by omega) (fun v_19 f_20 hI_21 hG_22 hF_23 hQ_24 => ?_)
      obtain ⟨rfl, hQ_24⟩ := hQ_24
      show cT 131 58 [.ref a0, .int x1, .ref a2, .int x3, .int x4] [] _ _ _ _ _ _
      refine cT_go b_Setting_breakPages_58 ?_
      have t_27 : (nI 1).toInt = 1 := nI_toInt (by decide)
      first | have t_26 : (x4 + (nI 1)).toInt = (x4).toInt + ((nI 1)).toInt := t_addn (by omega) | obtain ⟨kt_26, t_26⟩ := t_add x4 (nI 1)
      exact ih (by omega) hI_21 hF_23 (by omega) hx
theorem l_Setting_breakPages_8 {L : Nat} {e : Nat × Nat} {f0 : cg_G} : ∀ (k : Nat) {f : cg_G} {a0 : Nat} {x1 : Int32} {a2 : Nat} {x3 : Int32} {u4 : Value}, (8 - x3.toInt).toNat < k → cI L f → cF (fun o => 124 ≤ o ∧ o < 206) f0 f → sh_ a0 = 5 → sh_ a2 = 3 → (0 ≤ x3.toInt) → cT 131 8 [.ref a0, .int x1, .ref a2, .int x3, u4] [] L e (fun o => 124 ≤ o ∧ o < 206) f0 f (fun v f' => v = none ∧ (True)) := by
  intro k
  induction k with
  | zero => intro f a0 x1 a2 x3 u4 hm; omega
  | succ k ih =>
    intro f a0 x1 a2 x3 u4 hme hI hF s0 s2 i3
    have t0 := t_0
    have hr := rg_5 s0
    have hr2 := rg_3 s2
    have t_28 := t_rng (x1)
    have t_29 := t_rng (x3)
    have t_31 : 0 ≤ (f a0 4).toInt ∧ (f a0 4).toInt ≤ 8 := (cI_at hI 4 s0).1 rfl
    refine cT_if (b_Setting_breakPages_8 s0) (fun c_30 => ?_) (fun c_30 => ?_)
    · rw [t_le] at c_30
      refine cT_call (b_Setting_breakPages_70 s0 s2) (c_Filling_items hI s2) hF (fun o ho => ho.elim) (fun v_32 f_33 hI_34 hG_35 hF_36 hQ_37 => ?_)
      obtain rfl := cF_no hG_35
      obtain ⟨y_38, rfl, hQ_37⟩ := hQ_37
      have hQ_37r := t_rng y_38
      show cT 131 82 [.ref a0, .int x1, .ref a2, .int x3, u4] [.int y_38, .int (f a0 4), .ref (a0 + 2)] _ _ _ _ _ _
      have hI_39 := cI_up (k := (f a0 4).toNatClampNeg) (x := y_38) hI (sc_5_1 s0) (ok100 (by omega))
      have hF_40 := cF_up (a := a0 + 2) (k := (f a0 4).toNatClampNeg) (x := y_38) hF (by omega)
      refine cT_call (b_Setting_breakPages_82 (sc_5_1 s0) (by rw [sl_5_1 s0, t_in]; omega) (by omega) s2) (c_Filling_solve hI_39 s2) hF_40 (fun o ho => by omega) (fun v_41 f_42 hI_43 hG_44 hF_45 hQ_46 => ?_)
      obtain ⟨rfl, hQ_46⟩ := hQ_46
      show cT 131 87 [.ref a0, .int x1, .ref a2, .int x3, u4] [] _ _ _ _ _ _
      refine cT_call (b_Setting_breakPages_87 s2) (c_Filling_leastSquares hI_43 s2) hF_45 (fun o ho => ho.elim) (fun v_48 f_49 hI_50 hG_51 hF_52 hQ_53 => ?_)
      obtain rfl := cF_no hG_51
      obtain ⟨y_54, rfl, hQ_53⟩ := hQ_53
      have hQ_53r := t_rng y_54
      show cT 131 92 [.ref a0, .int x1, .ref a2, .int x3, u4] [.int y_54, .ref a0] _ _ _ _ _ _
      have hI_55 := cI_up (k := 9) (x := y_54) hI_43 s0 ⟨(fun h => absurd h (by decide)), (fun h => absurd h (by decide)), (fun h => absurd h (by decide))⟩
      have hF_56 := cF_up (a := a0) (k := 9) (x := y_54) hF_45 (by omega)
      refine cT_call (b_Setting_breakPages_92 s0 s0) (c_Setting_markPages hI_55 s0 s2) hF_56 (fun o ho => by omega) (fun v_57 f_58 hI_59 hG_60 hF_61 hQ_62 => ?_)
      obtain ⟨rfl, hQ_62⟩ := hQ_62
      show cT 131 100 [.ref a0, .int x1, .ref a2, .int x3, u4] [] _ _ _ _ _ _
      refine cT_call (b_Setting_breakPages_100 s0) (c_Setting_findEntryPages hI_59 s0) hF_61 (fun o ho => by omega) (fun v_64 f_65 hI_66 hG_67 hF_68 hQ_69 => ?_)
      obtain ⟨rfl, hQ_69⟩ := hQ_69
      show cT 131 104 [.ref a0, .int x1, .ref a2, .int x3, u4] [] _ _ _ _ _ _
      exact cT_ret b_Setting_breakPages_104 hI_66 hF_68 ⟨rfl, trivial⟩
    · rw [t_le] at c_30
      refine cT_call (b_Setting_breakPages_16 s0 s2) (c_Filling_items hI s2) hF (fun o ho => ho.elim) (fun v_71 f_72 hI_73 hG_74 hF_75 hQ_76 => ?_)
      obtain rfl := cF_no hG_74
      obtain ⟨y_77, rfl, hQ_76⟩ := hQ_76
      have hQ_76r := t_rng y_77
      show cT 131 25 [.ref a0, .int x1, .ref a2, .int x3, u4] [.int y_77, .int x3, .ref (a0 + 2)] _ _ _ _ _ _
      have hI_78 := cI_up (k := x3.toNatClampNeg) (x := y_77) hI (sc_5_1 s0) (ok100 (by omega))
      have hF_79 := cF_up (a := a0 + 2) (k := x3.toNatClampNeg) (x := y_77) hF (by omega)
      refine cT_go (b_Setting_breakPages_25 (sc_5_1 s0) (by rw [sl_5_1 s0, t_in]; omega) (by omega)) ?_
      have t_80 : (nI 0).toInt = 0 := nI_toInt (by decide)
      refine l_Setting_breakPages_29 s0 s2 (by omega) ((106 - (nI 0).toInt).toNat + 1) (by omega) hI_78 hF_79 (by omega) (fun f_82 x4vw81 hI_83 hF_84 => ?_)
      have t_85 := t_rng (x4vw81)
      refine cT_go b_Setting_breakPages_64 ?_
      have t_87 : (nI 1).toInt = 1 := nI_toInt (by decide)
      first | have t_86 : (x3 + (nI 1)).toInt = (x3).toInt + ((nI 1)).toInt := t_addn (by omega) | obtain ⟨kt_86, t_86⟩ := t_add x3 (nI 1)
      exact ih (by omega) hI_83 hF_84 s0 s2 (by omega)
theorem c_Setting_breakPages {L : Nat} {f : cg_G} {e : Nat × Nat} {a0 : Nat} {x1 : Int32} {a2 : Nat} (hI : cI L f) (s0 : sh_ a0 = 5) (s2 : sh_ a2 = 3)  : cE 131 [.ref a0, .int x1, .ref a2] L e (fun o => 124 ≤ o ∧ o < 206) f (fun v f' => v = none ∧ (True)) := by
  refine cE_of (ls := [.ref a0, .int x1, .ref a2, (.retAddr 0), (.retAddr 0)]) rfl ?_
  have t0 := t_0
  have hF : cF (fun o => 124 ≤ o ∧ o < 206) f f := cF_rf
  have hr := rg_5 s0
  have hr2 := rg_3 s2
  have t_88 := t_rng (x1)
  have t_89 : (nI 0).toInt = 0 := nI_toInt (by decide)
  refine cT_call (b_Setting_breakPages_0 s2) (c_Filling_start hI s2) hF (fun o ho => by omega) (fun v_90 f_91 hI_92 hG_93 hF_94 hQ_95 => ?_)
  obtain ⟨rfl, hQ_95⟩ := hQ_95
  show cT 131 6 [.ref a0, .int x1, .ref a2, ((.retAddr 0)), ((.retAddr 0))] [] _ _ _ _ _ _
  refine cT_go b_Setting_breakPages_6 ?_
  exact l_Setting_breakPages_8 ((8 - (nI 0).toInt).toNat + 1) (by omega) hI_92 hF_94 s0 s2 (by omega)
theorem l_Setting_settle_7 {L : Nat} {e : Nat × Nat} {f0 : cg_G} : ∀ (k : Nat) {f : cg_G} {a0 : Nat} {a1 : Nat} {x2 : Int32}, (8 - x2.toInt).toNat < k → cI L f → cF (fun o => 124 ≤ o ∧ o < 206) f0 f → sh_ a0 = 5 → sh_ a1 = 100 → (0 ≤ x2.toInt) → (ln_ L a1 = 8 ∧ a1 ≠ 0) → cT 31 7 [.ref a0, .ref a1, .int x2] [] L e (fun o => 124 ≤ o ∧ o < 206) f0 f (fun v f' => ∃ x : Int32, v = some (.int x) ∧ (x = 0 ∨ x = 1) ∧ (True)) := by
  intro k
  induction k with
  | zero => intro f a0 a1 x2 hm; omega
  | succ k ih =>
    intro f a0 a1 x2 hme hI hF s0 s1 i2 q1
    have t0 := t_0
    have hr := rg_5 s0
    have t_1 := t_rng (x2)
    have t_3 : 0 ≤ (f a0 4).toInt ∧ (f a0 4).toInt ≤ 8 := (cI_at hI 4 s0).1 rfl
    refine cT_if (b_Setting_settle_7 s0) (fun c_2 => ?_) (fun c_2 => ?_)
    · rw [t_le] at c_2
      have t_4 : 0 ≤ (f a0 7).toInt ∧ (f a0 7).toInt ≤ 1 := (cI_at hI 7 s0).2.2 rfl
      exact cT_ret (b_Setting_settle_44 s0 (t_bool (by omega) (by omega))) hI hF ⟨_, rfl, (t_bool (by omega) (by omega)), trivial⟩
    · rw [t_le] at c_2
      have t_6 : (nI (ln_ L a1)).toInt = (ln_ L a1 : Nat) := nI_toInt (ln_small (by omega))
      refine cT_if (b_Setting_settle_15 s1) (fun c_5 => ?_) (fun c_5 => ?_)
      · rw [t_le] at c_5
        have t_7 : 0 ≤ (f a0 7).toInt ∧ (f a0 7).toInt ≤ 1 := (cI_at hI 7 s0).2.2 rfl
        exact cT_ret (b_Setting_settle_44 s0 (t_bool (by omega) (by omega))) hI hF ⟨_, rfl, (t_bool (by omega) (by omega)), trivial⟩
      · rw [t_le] at c_5
        have t_9 := t_rng (f (a0 + 4) x2.toNatClampNeg)
        have t_10 := t_rng (f a1 x2.toNatClampNeg)
        refine cT_if (b_Setting_settle_21 s0 (by rw [t_in]; omega) s1 (by rw [t_in]; omega)) (fun c_8 => ?_) (fun c_8 => ?_)
        · rw [t_eq] at c_8
          refine cT_go b_Setting_settle_38 ?_
          have t_12 : (nI 1).toInt = 1 := nI_toInt (by decide)
          first | have t_11 : (x2 + (nI 1)).toInt = (x2).toInt + ((nI 1)).toInt := t_addn (by omega) | obtain ⟨kt_11, t_11⟩ := t_add x2 (nI 1)
          exact ih (by omega) hI hF s0 s1 (by omega) q1
        · rw [t_eq] at c_8
          have t_15 : (nI 0).toInt = 0 := nI_toInt (by decide)
          have hI_13 := cI_up (k := 7) (x := nI 0) hI s0 ⟨(fun h => absurd h (by decide)), (fun h => absurd h (by decide)), (fun _ => by omega)⟩
          have hF_14 := cF_up (a := a0) (k := 7) (x := nI 0) hF (by omega)
          refine cT_go (b_Setting_settle_33 s0) ?_
          refine cT_go b_Setting_settle_38 ?_
          have t_17 : (nI 1).toInt = 1 := nI_toInt (by decide)
          first | have t_16 : (x2 + (nI 1)).toInt = (x2).toInt + ((nI 1)).toInt := t_addn (by omega) | obtain ⟨kt_16, t_16⟩ := t_add x2 (nI 1)
          exact ih (by omega) hI_13 hF_14 s0 s1 (by omega) q1
theorem c_Setting_settle {L : Nat} {f : cg_G} {e : Nat × Nat} {a0 : Nat} {a1 : Nat} (hI : cI L f) (s0 : sh_ a0 = 5) (s1 : sh_ a1 = 100) (q1 : ln_ L a1 = 8 ∧ a1 ≠ 0) : cE 31 [.ref a0, .ref a1] L e (fun o => 124 ≤ o ∧ o < 206) f (fun v f' => ∃ x : Int32, v = some (.int x) ∧ (x = 0 ∨ x = 1) ∧ (True)) := by
  refine cE_of (ls := [.ref a0, .ref a1, (.retAddr 0)]) rfl ?_
  have t0 := t_0
  have hF : cF (fun o => 124 ≤ o ∧ o < 206) f f := cF_rf
  have hr := rg_5 s0
  have t_20 : (nI 1).toInt = 1 := nI_toInt (by decide)
  have hI_18 := cI_up (k := 7) (x := nI 1) hI s0 ⟨(fun h => absurd h (by decide)), (fun h => absurd h (by decide)), (fun _ => by omega)⟩
  have hF_19 := cF_up (a := a0) (k := 7) (x := nI 1) hF (by omega)
  refine cT_go (b_Setting_settle_0 s0) ?_
  have t_21 : (nI 0).toInt = 0 := nI_toInt (by decide)
  exact l_Setting_settle_7 ((8 - (nI 0).toInt).toNat + 1) (by omega) hI_18 hF_19 s0 s1 (by omega) q1
theorem l_Setting_tellPages_2 {L : Nat} {e : Nat × Nat} {f0 : cg_G} : ∀ (k : Nat) {f : cg_G} {a0 : Nat} {a1 : Nat} {x2 : Int32}, (8 - x2.toInt).toNat < k → cI L f → cF (fun o => 124 ≤ o ∧ o < 206) f0 f → sh_ a0 = 5 → sh_ a1 = 100 → (0 ≤ x2.toInt) → (ln_ L a1 = 8 ∧ a1 ≠ 0) → (124 ≤ a1 ∧ a1 < 206) → cT 33 2 [.ref a0, .ref a1, .int x2] [] L e (fun o => 124 ≤ o ∧ o < 206) f0 f (fun v f' => v = none ∧ (True)) := by
  intro k
  induction k with
  | zero => intro f a0 a1 x2 hm; omega
  | succ k ih =>
    intro f a0 a1 x2 hme hI hF s0 s1 i2 q1 q2
    have t0 := t_0
    have hr := rg_5 s0
    have t_1 := t_rng (x2)
    have t_3 : 0 ≤ (f a0 4).toInt ∧ (f a0 4).toInt ≤ 8 := (cI_at hI 4 s0).1 rfl
    refine cT_if (b_Setting_tellPages_2 s0) (fun c_2 => ?_) (fun c_2 => ?_)
    · rw [t_le] at c_2
      exact cT_ret b_Setting_tellPages_31 hI hF ⟨rfl, trivial⟩
    · rw [t_le] at c_2
      have t_5 : (nI (ln_ L a1)).toInt = (ln_ L a1 : Nat) := nI_toInt (ln_small (by omega))
      refine cT_if (b_Setting_tellPages_10 s1) (fun c_4 => ?_) (fun c_4 => ?_)
      · rw [t_le] at c_4
        exact cT_ret b_Setting_tellPages_31 hI hF ⟨rfl, trivial⟩
      · rw [t_le] at c_4
        have hI_6 := cI_up (k := x2.toNatClampNeg) (x := f (a0 + 4) x2.toNatClampNeg) hI s1 (ok100 (by omega))
        have hF_7 := cF_up (a := a1) (k := x2.toNatClampNeg) (x := f (a0 + 4) x2.toNatClampNeg) hF (by omega)
        refine cT_go (b_Setting_tellPages_16 s0 (by rw [t_in]; omega) s1 (by rw [t_in]; omega) (by omega)) ?_
        have t_9 : (nI 1).toInt = 1 := nI_toInt (by decide)
        first | have t_8 : (x2 + (nI 1)).toInt = (x2).toInt + ((nI 1)).toInt := t_addn (by omega) | obtain ⟨kt_8, t_8⟩ := t_add x2 (nI 1)
        exact ih (by omega) hI_6 hF_7 s0 s1 (by omega) q1 q2
theorem c_Setting_tellPages {L : Nat} {f : cg_G} {e : Nat × Nat} {a0 : Nat} {a1 : Nat} (hI : cI L f) (s0 : sh_ a0 = 5) (s1 : sh_ a1 = 100) (q1 : ln_ L a1 = 8 ∧ a1 ≠ 0) (q2 : 124 ≤ a1 ∧ a1 < 206) : cE 33 [.ref a0, .ref a1] L e (fun o => 124 ≤ o ∧ o < 206) f (fun v f' => v = none ∧ (True)) := by
  refine cE_of (ls := [.ref a0, .ref a1, (.retAddr 0)]) rfl ?_
  have t0 := t_0
  have hF : cF (fun o => 124 ≤ o ∧ o < 206) f f := cF_rf
  have hr := rg_5 s0
  refine cT_go b_Setting_tellPages_0 ?_
  have t_10 : (nI 0).toInt = 0 := nI_toInt (by decide)
  exact l_Setting_tellPages_2 ((8 - (nI 0).toInt).toNat + 1) (by omega) hI hF s0 s1 (by omega) q1 q2
theorem c_Setting_pages {L : Nat} {f : cg_G} {e : Nat × Nat} {a0 : Nat} (hI : cI L f) (s0 : sh_ a0 = 5)  : cE 30 [.ref a0] L e (fun o => False) f (fun v f' => ∃ x : Int32, v = some (.int x) ∧ (0 ≤ x.toInt ∧ x.toInt ≤ 848)) := by
  refine cE_of (ls := [.ref a0]) rfl ?_
  have t0 := t_0
  have hF : cF (fun o => False) f f := cF_rf
  have t_1 : 0 ≤ (f a0 5).toInt ∧ (f a0 5).toInt ≤ 848 := (cI_at hI 5 s0).2.1 rfl
  exact cT_ret (b_Setting_pages_0 s0) hI hF ⟨_, rfl, by omega⟩
theorem l_Press_setLines_3 {L : Nat} {e : Nat × Nat} {f0 : cg_G} : ∀ (k : Nat) {f : cg_G} {a0 : Nat} {a1 : Nat} {x2 : Int32} {a3 : Nat} {x4 : Int32} {u5 : Value}, (8 - x4.toInt).toNat < k → cI L f → cF (fun o => 124 ≤ o ∧ o < 206) f0 f → sh_ a0 = 4 → sh_ a1 = 104 → sh_ a3 = 5 → (0 ≤ x4.toInt) → cT 138 3 [.ref a0, .ref a1, .int x2, .ref a3, .int x4, u5] [] L e (fun o => 124 ≤ o ∧ o < 206) f0 f (fun v f' => ∃ x : Int32, v = some (.int x) ∧ (True)) := by
  intro k
  induction k with
  | zero => intro f a0 a1 x2 a3 x4 u5 hm; omega
  | succ k ih =>
    intro f a0 a1 x2 a3 x4 u5 hme hI hF s0 s1 s3 i4
    have t0 := t_0
    have hr := rg_4 s0
    have hr2 := rg_5 s3
    have hn := sz_104 s1
    have hla := sla_104 (L := L) s1
    have t_1 := t_rng (x2)
    have t_2 := t_rng (x4)
    refine cT_if b_Press_setLines_3 (fun c_3 => ?_) (fun c_3 => ?_)
    · rw [t_le] at c_3
      have t_4 := t_neg1
      exact cT_ret b_Press_setLines_104 hI hF ⟨_, rfl, trivial⟩
    · rw [t_le] at c_3
      have t_6 : (nI (ln_ L a1)).toInt = (ln_ L a1 : Nat) := nI_toInt (ln_small (by omega))
      refine cT_if (b_Press_setLines_9 s1) (fun c_5 => ?_) (fun c_5 => ?_)
      · rw [t_le] at c_5
        have t_7 := t_neg1
        exact cT_ret b_Press_setLines_104 hI hF ⟨_, rfl, trivial⟩
      · rw [t_le] at c_5
        refine cT_call (b_Press_setLines_16 s3) (c_Setting_blockOf hI s3) hF (fun o ho => ho.elim) (fun v_8 f_9 hI_10 hG_11 hF_12 hQ_13 => ?_)
        obtain rfl := cF_no hG_11
        obtain ⟨y_14, rfl, hs_15, hQ_13⟩ := hQ_13
        show cT 138 22 [.ref a0, .ref a1, .int x2, .ref a3, .int x4, u5] [.ref y_14] _ _ _ _ _ _
        refine cT_call (b_Press_setLines_22 s1 (by rw [t_in]; omega) s0) (c_Entry_printTo hI (sa_104 s1 (cg_in_lt (by rw [t_in]; omega))) (sc_4_2 s0) (sc_4_4 s0) (by first | omega | assumption | exact sl_4_4 (by assumption))) hF (fun o ho => by omega) (fun v_16 f_17 hI_18 hG_19 hF_20 hQ_21 => ?_)
        obtain ⟨rfl, hQ_21⟩ := hQ_21
        show cT 138 39 [.ref a0, .ref a1, .int x2, .ref a3, .int x4, .ref y_14] [] _ _ _ _ _ _
        refine cT_call (b_Press_setLines_39 s1 (by rw [t_in]; omega)) (c_Entry_pictureHeight hI_18 (sa_104 s1 (cg_in_lt (by rw [t_in]; omega)))) hF_20 (fun o ho => ho.elim) (fun v_23 f_24 hI_25 hG_26 hF_27 hQ_28 => ?_)
        obtain rfl := cF_no hG_26
        obtain ⟨y_29, rfl, hQ_28⟩ := hQ_28
        have hQ_28r := t_rng y_29
        show cT 138 48 [.ref a0, .ref a1, .int x2, .ref a3, .int x4, .ref y_14] [.int y_29, .ref y_14] _ _ _ _ _ _
        refine cT_call (b_Press_setLines_48 hs_15) (c_Block_takePicture hI_18 hs_15) hF_20 (fun o ho => by omega) (fun v_30 f_31 hI_32 hG_33 hF_34 hQ_35 => ?_)
        obtain ⟨rfl, hQ_35⟩ := hQ_35
        show cT 138 51 [.ref a0, .ref a1, .int x2, .ref a3, .int x4, .ref y_14] [] _ _ _ _ _ _
        have t_37 := t_rng (f_31 a0 0)
        refine cT_call (b_Press_setLines_51 s0 hs_15) (c_Block_breakLines hI_32 hs_15 (sc_4_2 s0) (sc_4_3 s0)) hF_34 (fun o ho => by omega) (fun v_38 f_39 hI_40 hG_41 hF_42 hQ_43 => ?_)
        obtain ⟨y_44, rfl, hb_45, hQ_43⟩ := hQ_43
        have hb_45r := t_rng y_44
        show cT 138 68 [.ref a0, .ref a1, .int x2, .ref a3, .int x4, .ref y_14] [.int y_44] _ _ _ _ _ _
        refine cT_if b_Press_setLines_68 (fun c_46 => ?_) (fun c_46 => ?_)
        · rw [t_eq] at c_46
          exact cT_ret b_Press_setLines_84 hI_40 hF_42 ⟨_, rfl, trivial⟩
        · rw [t_eq] at c_46
          have t_48 : (nI 0).toInt = 0 := nI_toInt (by decide)
          refine cT_call (b_Press_setLines_71 hs_15) (c_Block_heightOfUnit hI_40 hs_15) hF_42 (fun o ho => ho.elim) (fun v_49 f_50 hI_51 hG_52 hF_53 hQ_54 => ?_)
          obtain rfl := cF_no hG_52
          obtain ⟨y_55, rfl, hQ_54⟩ := hQ_54
          have hQ_54r := t_rng y_55
          show cT 138 77 [.ref a0, .ref a1, .int x2, .ref a3, .int x4, .ref y_14] [.int y_55] _ _ _ _ _ _
          have t_57 := t_rng (f_39 a0 1)
          refine cT_if (b_Press_setLines_77 s0) (fun c_56 => ?_) (fun c_56 => ?_)
          · rw [t_le] at c_56
            refine cT_call (b_Press_setLines_87 s0) (c_Filling_leastSquares hI_40 (sc_4_3 s0)) hF_42 (fun o ho => ho.elim) (fun v_58 f_59 hI_60 hG_61 hF_62 hQ_63 => ?_)
            obtain rfl := cF_no hG_61
            obtain ⟨y_64, rfl, hQ_63⟩ := hQ_63
            have hQ_63r := t_rng y_64
            show cT 138 95 [.ref a0, .ref a1, .int x2, .ref a3, .int x4, .ref y_14] [.int y_64, .ref a3] _ _ _ _ _ _
            refine cT_call (b_Press_setLines_95 s3) (c_Setting_addLineSquares hI_40 s3) hF_42 (fun o ho => by omega) (fun v_65 f_66 hI_67 hG_68 hF_69 hQ_70 => ?_)
            obtain ⟨rfl, hQ_70⟩ := hQ_70
            show cT 138 98 [.ref a0, .ref a1, .int x2, .ref a3, .int x4, .ref y_14] [] _ _ _ _ _ _
            refine cT_go b_Press_setLines_98 ?_
            have t_73 : (nI 1).toInt = 1 := nI_toInt (by decide)
            first | have t_72 : (x4 + (nI 1)).toInt = (x4).toInt + ((nI 1)).toInt := t_addn (by omega) | obtain ⟨kt_72, t_72⟩ := t_add x4 (nI 1)
            exact ih (by omega) hI_67 hF_69 s0 s1 s3 (by omega)
          · rw [t_le] at c_56
            exact cT_ret b_Press_setLines_84 hI_40 hF_42 ⟨_, rfl, trivial⟩
theorem c_Press_setLines {L : Nat} {f : cg_G} {e : Nat × Nat} {a0 : Nat} {a1 : Nat} {x2 : Int32} {a3 : Nat} (hI : cI L f) (s0 : sh_ a0 = 4) (s1 : sh_ a1 = 104) (s3 : sh_ a3 = 5) (p2 : 0 ≤ x2.toInt) : cE 138 [.ref a0, .ref a1, .int x2, .ref a3] L e (fun o => 124 ≤ o ∧ o < 206) f (fun v f' => ∃ x : Int32, v = some (.int x) ∧ (True)) := by
  refine cE_of (ls := [.ref a0, .ref a1, .int x2, .ref a3, (.retAddr 0), (.retAddr 0)]) rfl ?_
  have t0 := t_0
  have hF : cF (fun o => 124 ≤ o ∧ o < 206) f f := cF_rf
  have hr := rg_4 s0
  have hr2 := rg_5 s3
  have hn := sz_104 s1
  have hla := sla_104 (L := L) s1
  have t_74 := t_rng (x2)
  refine cT_go b_Press_setLines_0 ?_
  have t_75 : (nI 0).toInt = 0 := nI_toInt (by decide)
  exact l_Press_setLines_3 ((8 - (nI 0).toInt).toNat + 1) (by omega) hI hF s0 s1 s3 (by omega)
theorem l_Press_setAll_3 {L : Nat} {e : Nat × Nat} {f0 : cg_G} {Q : Option Value → cg_G → Prop} {a0 : Nat} {a1 : Nat} {x2 : Int32} {a3 : Nat} {u5 : Value} (s0 : sh_ a0 = 4) (s1 : sh_ a1 = 104) (s3 : sh_ a3 = 5)  : ∀ (k : Nat) {f : cg_G} {x4 : Int32}, (8 - x4.toInt).toNat < k → cI L f → cF (fun o => 124 ≤ o ∧ o < 206) f0 f → (0 ≤ x4.toInt) → (∀ (f' : cg_G) (x4' : Int32), cI L f' → cF (fun o => 124 ≤ o ∧ o < 206) f0 f' → cT 143 24 [.ref a0, .ref a1, .int x2, .ref a3, .int x4', u5] [] L e (fun o => 124 ≤ o ∧ o < 206) f0 f' Q) → cT 143 3 [.ref a0, .ref a1, .int x2, .ref a3, .int x4, u5] [] L e (fun o => 124 ≤ o ∧ o < 206) f0 f Q := by
  intro k
  induction k with
  | zero => intro f x4 hm; omega
  | succ k ih =>
    intro f x4 hm hI hF i4 hx
    have t0 := t_0
    have hr := rg_4 s0
    have hr2 := rg_5 s3
    have t_1 := t_rng (x2)
    have t_2 := t_rng (x4)
    have t_4 : (nI 8).toInt = 8 := nI_toInt (by decide)
    refine cT_if b_Press_setAll_3 (fun c_3 => ?_) (fun c_3 => ?_)
    · rw [t_le] at c_3
      exact hx _ _ hI hF 
    · rw [t_le] at c_3
      have hI_5 := cI_up (k := x4.toNatClampNeg) (x := nI 0) hI (sc_4_4 s0) (ok100 (by omega))
      have hF_6 := cF_up (a := a0 + 7) (k := x4.toNatClampNeg) (x := nI 0) hF (by omega)
      refine cT_go (b_Press_setAll_10 s0 (by rw [t_in]; omega)) ?_
      have t_8 : (nI 1).toInt = 1 := nI_toInt (by decide)
      first | have t_7 : (x4 + (nI 1)).toInt = (x4).toInt + ((nI 1)).toInt := t_addn (by omega) | obtain ⟨kt_7, t_7⟩ := t_add x4 (nI 1)
      exact ih (by omega) hI_5 hF_6 (by omega) hx
theorem l_Press_setAll_27 {L : Nat} {e : Nat × Nat} {f0 : cg_G} : ∀ (k : Nat) {f : cg_G} {a0 : Nat} {a1 : Nat} {x2 : Int32} {a3 : Nat} {x4 : Int32} {u5 : Value}, (6 - x4.toInt).toNat < k → cI L f → cF (fun o => 124 ≤ o ∧ o < 206) f0 f → sh_ a0 = 4 → sh_ a1 = 104 → sh_ a3 = 5 → (1 ≤ x4.toInt) → (0 ≤ x2.toInt) → cT 143 27 [.ref a0, .ref a1, .int x2, .ref a3, .int x4, u5] [] L e (fun o => 124 ≤ o ∧ o < 206) f0 f (fun v f' => ∃ x : Int32, v = some (.int x) ∧ (True)) := by
  intro k
  induction k with
  | zero => intro f a0 a1 x2 a3 x4 u5 hm; omega
  | succ k ih =>
    intro f a0 a1 x2 a3 x4 u5 hme hI hF s0 s1 s3 i4 p2
    have t0 := t_0
    have hr := rg_4 s0
    have hr2 := rg_5 s3
    have t_9 := t_rng (x2)
    have t_10 := t_rng (x4)
    have t_12 : (nI 5).toInt = 5 := nI_toInt (by decide)
    refine cT_if b_Press_setAll_27 (fun c_11 => ?_) (fun c_11 => ?_)
    · rw [t_lt] at c_11
      have t_13 := t_neg1
      exact cT_ret b_Press_setAll_97 hI hF ⟨_, rfl, trivial⟩
    · rw [t_lt] at c_11
      refine cT_call (b_Press_setAll_33 s3) (c_Setting_startPass hI s3 (by first | omega | assumption | exact sl_4_4 (by assumption))) hF (fun o ho => by omega) (fun v_14 f_15 hI_16 hG_17 hF_18 hQ_19 => ?_)
      obtain ⟨rfl, hQ_19⟩ := hQ_19
      show cT 143 40 [.ref a0, .ref a1, .int x2, .ref a3, .int x4, u5] [] _ _ _ _ _ _
      refine cT_call (b_Press_setAll_40 s0) (c_Press_setLines hI_16 s0 s1 s3 (by first | omega | assumption | exact sl_4_4 (by assumption))) hF_18 (fun o ho => by omega) (fun v_21 f_22 hI_23 hG_24 hF_25 hQ_26 => ?_)
      obtain ⟨y_27, rfl, hQ_26⟩ := hQ_26
      have hQ_26r := t_rng y_27
      show cT 143 47 [.ref a0, .ref a1, .int x2, .ref a3, .int x4, u5] [.int y_27] _ _ _ _ _ _
      have t_29 := t_neg1
      refine cT_if b_Press_setAll_47 (fun c_28 => ?_) (fun c_28 => ?_)
      · rw [t_eq] at c_28
        have t_30 := t_rng (f_22 a0 1)
        refine cT_call (b_Press_setAll_58 s0 s3) (c_Setting_breakPages hI_23 s3 (sc_4_3 s0)) hF_25 (fun o ho => by omega) (fun v_31 f_32 hI_33 hG_34 hF_35 hQ_36 => ?_)
        obtain ⟨rfl, hQ_36⟩ := hQ_36
        show cT 143 70 [.ref a0, .ref a1, .int x2, .ref a3, .int x4, .int y_27] [] _ _ _ _ _ _
        refine cT_call (b_Press_setAll_70 s0 s3) (c_Setting_settle hI_33 s3 (sc_4_4 s0) (by first | assumption | (constructor <;> first | exact sl_4_4 (by assumption) | omega))) hF_35 (fun o ho => by omega) (fun v_38 f_39 hI_40 hG_41 hF_42 hQ_43 => ?_)
        obtain ⟨y_44, rfl, hb_45, hQ_43⟩ := hQ_43
        have hb_45r := t_rng y_44
        show cT 143 78 [.ref a0, .ref a1, .int x2, .ref a3, .int x4, .int y_27] [.int y_44] _ _ _ _ _ _
        refine cT_if b_Press_setAll_78 (fun c_46 => ?_) (fun c_46 => ?_)
        · rw [t_eq] at c_46
          refine cT_call (b_Press_setAll_83 s0 s3) (c_Setting_tellPages hI_40 s3 (sc_4_4 s0) (by first | assumption | (constructor <;> first | exact sl_4_4 (by assumption) | omega)) (by first | omega | assumption | exact sl_4_4 (by assumption))) hF_42 (fun o ho => by omega) (fun v_48 f_49 hI_50 hG_51 hF_52 hQ_53 => ?_)
          obtain ⟨rfl, hQ_53⟩ := hQ_53
          show cT 143 91 [.ref a0, .ref a1, .int x2, .ref a3, .int x4, .int y_27] [] _ _ _ _ _ _
          refine cT_go b_Press_setAll_91 ?_
          have t_56 : (nI 1).toInt = 1 := nI_toInt (by decide)
          first | have t_55 : (x4 + (nI 1)).toInt = (x4).toInt + ((nI 1)).toInt := t_addn (by omega) | obtain ⟨kt_55, t_55⟩ := t_add x4 (nI 1)
          exact ih (by omega) hI_50 hF_52 s0 s1 s3 (by omega) (by omega)
        · rw [t_eq] at c_46
          exact cT_ret b_Press_setAll_81 hI_40 hF_42 ⟨_, rfl, trivial⟩
      · rw [t_eq] at c_28
        exact cT_ret b_Press_setAll_55 hI_23 hF_25 ⟨_, rfl, trivial⟩
theorem c_Press_setAll {L : Nat} {f : cg_G} {e : Nat × Nat} {a0 : Nat} {a1 : Nat} {x2 : Int32} {a3 : Nat} (hI : cI L f) (s0 : sh_ a0 = 4) (s1 : sh_ a1 = 104) (s3 : sh_ a3 = 5) (p2 : 0 ≤ x2.toInt) : cE 143 [.ref a0, .ref a1, .int x2, .ref a3] L e (fun o => 124 ≤ o ∧ o < 206) f (fun v f' => ∃ x : Int32, v = some (.int x) ∧ (True)) := by
  refine cE_of (ls := [.ref a0, .ref a1, .int x2, .ref a3, (.retAddr 0), (.retAddr 0)]) rfl ?_
  have t0 := t_0
  have hF : cF (fun o => 124 ≤ o ∧ o < 206) f f := cF_rf
  have hr := rg_4 s0
  have hr2 := rg_5 s3
  have t_57 := t_rng (x2)
  refine cT_go b_Press_setAll_0 ?_
  have t_58 : (nI 0).toInt = 0 := nI_toInt (by decide)
  refine l_Press_setAll_3 s0 s1 s3 ((8 - (nI 0).toInt).toNat + 1) (by omega) hI hF (by omega) (fun f_60 x4vw59 hI_61 hF_62 => ?_)
  have t_63 := t_rng (x4vw59)
  refine cT_go b_Press_setAll_24 ?_
  have t_64 : (nI 1).toInt = 1 := nI_toInt (by decide)
  exact l_Press_setAll_27 ((6 - (nI 1).toInt).toNat + 1) (by omega) hI_61 hF_62 s0 s1 s3 (by omega) (by omega)
theorem l_C_firstUnsourced_2 {L : Nat} {e : Nat × Nat} {f0 : cg_G} : ∀ (k : Nat) {f : cg_G} {a0 : Nat} {x1 : Int32}, (8 - x1.toInt).toNat < k → cI L f → cF (fun o => False) f0 f → sh_ a0 = 0 → (0 ≤ x1.toInt) → cT 62 2 [.ref a0, .int x1] [] L e (fun o => False) f0 f (fun v f' => ∃ x : Int32, v = some (.int x) ∧ (True)) := by
  intro k
  induction k with
  | zero => intro f a0 x1 hm; omega
  | succ k ih =>
    intro f a0 x1 hme hI hF s0 i1
    have t0 := t_0
    have t_1 := t_rng (x1)
    have t_3 : 0 ≤ (f a0 7).toInt ∧ (f a0 7).toInt ≤ 8 := (cI_at hI 7 s0).2.2.1 rfl
    refine cT_if (b_C_firstUnsourced_2 s0) (fun c_2 => ?_) (fun c_2 => ?_)
    · rw [t_le] at c_2
      have t_4 := t_neg1
      exact cT_ret b_C_firstUnsourced_30 hI hF ⟨_, rfl, trivial⟩
    · rw [t_le] at c_2
      refine cT_call (b_C_firstUnsourced_10 s0 (by rw [t_in]; omega)) (c_Entry_hasUnsourcedClaim hI (sa_104 (sc_0_4 s0) (cg_in_lt (by rw [t_in]; omega)))) hF (fun o ho => ho.elim) (fun v_5 f_6 hI_7 hG_8 hF_9 hQ_10 => ?_)
      obtain rfl := cF_no hG_8
      obtain ⟨y_11, rfl, hb_12, hQ_10⟩ := hQ_10
      have hb_12r := t_rng y_11
      show cT 62 19 [.ref a0, .int x1] [.int y_11] _ _ _ _ _ _
      refine cT_if b_C_firstUnsourced_19 (fun c_13 => ?_) (fun c_13 => ?_)
      · rw [t_eq] at c_13
        refine cT_go b_C_firstUnsourced_24 ?_
        have t_16 : (nI 1).toInt = 1 := nI_toInt (by decide)
        first | have t_15 : (x1 + (nI 1)).toInt = (x1).toInt + ((nI 1)).toInt := t_addn (by omega) | obtain ⟨kt_15, t_15⟩ := t_add x1 (nI 1)
        exact ih (by omega) hI hF s0 (by omega)
      · rw [t_eq] at c_13
        exact cT_ret b_C_firstUnsourced_22 hI hF ⟨_, rfl, trivial⟩
theorem c_C_firstUnsourced {L : Nat} {f : cg_G} {e : Nat × Nat} {a0 : Nat} (hI : cI L f) (s0 : sh_ a0 = 0)  : cE 62 [.ref a0] L e (fun o => False) f (fun v f' => ∃ x : Int32, v = some (.int x) ∧ (True)) := by
  refine cE_of (ls := [.ref a0, (.retAddr 0)]) rfl ?_
  have t0 := t_0
  have hF : cF (fun o => False) f f := cF_rf
  refine cT_go b_C_firstUnsourced_0 ?_
  have t_17 : (nI 0).toInt = 0 := nI_toInt (by decide)
  exact l_C_firstUnsourced_2 ((8 - (nI 0).toInt).toNat + 1) (by omega) hI hF s0 (by omega)
