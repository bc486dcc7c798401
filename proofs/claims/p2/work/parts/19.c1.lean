theorem c_Signs_size {L : Nat} {f : cg_G} {e : Nat × Nat} {a0 : Nat} (hI : cI L f) (s0 : sh_ a0 = 6)  : cE 39 [.ref a0] L e (fun o => False) f (fun v f' => ∃ x : Int32, v = some (.int x) ∧ (x.toInt = (f a0 1).toInt ∧ 0 ≤ x.toInt ∧ x.toInt < 4096)) := by
  refine cE_of (ls := [.ref a0]) rfl ?_
  have t0 := t_0
  have hF : cF (fun o => False) f f := cF_rf
  have hl := ln_lt (L := L) (a := a0 + 1) (by omega)
  have t_1 : 0 ≤ (f a0 1).toInt ∧ (f a0 1).toInt ≤ (ln_ L (a0 + 1) : Int) := (cI_at hI 1 s0) rfl
  exact cT_ret (b_Signs_size_0 s0) hI hF ⟨_, rfl, by omega⟩
theorem c_Signs_clear {L : Nat} {f : cg_G} {e : Nat × Nat} {a0 : Nat} (hI : cI L f) (s0 : sh_ a0 = 6)  : cE 37 [.ref a0] L e (fun o => o = a0) f (fun v f' => v = none ∧ (f' = cg_up f a0 1 (nI 0))) := by
  refine cE_of (ls := [.ref a0]) rfl ?_
  have t0 := t_0
  have hF : cF (fun o => o = a0) f f := cF_rf
  have t_3 : (nI 0).toInt = 0 := nI_toInt (by decide)
  have hI_1 := cI_up (k := 1) (x := nI 0) hI s0 (fun _ => by omega)
  have hF_2 := cF_up (a := a0) (k := 1) (x := nI 0) hF (by omega)
  exact cT_ret (b_Signs_clear_0 s0) hI_1 hF_2 ⟨rfl, rfl⟩
theorem c_Signs_at {L : Nat} {f : cg_G} {e : Nat × Nat} {a0 : Nat} {x1 : Int32} (hI : cI L f) (s0 : sh_ a0 = 6)  : cE 36 [.ref a0, .int x1] L e (fun o => False) f (fun v f' => ∃ x : Int32, v = some (.int x) ∧ (0 ≤ x1.toInt ∧ x1.toInt < (f a0 1).toInt → x.toInt = (f (a0 + 1) x1.toNatClampNeg).toInt)) := by
  refine cE_of (ls := [.ref a0, .int x1]) rfl ?_
  have t0 := t_0
  have hF : cF (fun o => False) f f := cF_rf
  have hl := ln_lt (L := L) (a := a0 + 1) (by omega)
  have t_1 := t_rng (x1)
  refine cT_if b_Signs_at_0 (fun c_2 => ?_) (fun c_2 => ?_)
  · rw [t_lt] at c_2
    refine cT_go b_Signs_at_21 ?_
    have t_4 : (nI 0).toInt = 0 := nI_toInt (by decide)
    exact cT_ret b_Signs_at_22 hI hF ⟨_, rfl, by first | exact fun _ => rfl | exact fun h => absurd h (by omega)⟩
  · rw [t_lt] at c_2
    have t_6 : 0 ≤ (f a0 1).toInt ∧ (f a0 1).toInt ≤ (ln_ L (a0 + 1) : Int) := (cI_at hI 1 s0) rfl
    refine cT_if (b_Signs_at_4 s0) (fun c_5 => ?_) (fun c_5 => ?_)
    · rw [t_le] at c_5
      refine cT_go b_Signs_at_21 ?_
      have t_7 : (nI 0).toInt = 0 := nI_toInt (by decide)
      exact cT_ret b_Signs_at_22 hI hF ⟨_, rfl, by first | exact fun _ => rfl | exact fun h => absurd h (by omega)⟩
    · rw [t_le] at c_5
      refine cT_go (b_Signs_at_12 s0 (by rw [t_in]; omega)) ?_
      have t_8 := t_rng (f (a0 + 1) x1.toNatClampNeg)
      exact cT_ret b_Signs_at_22 hI hF ⟨_, rfl, by first | exact fun _ => rfl | exact fun h => absurd h (by omega)⟩
theorem c_Signs_add {L : Nat} {f : cg_G} {e : Nat × Nat} {a0 : Nat} {x1 : Int32} (hI : cI L f) (s0 : sh_ a0 = 6)  : cE 35 [.ref a0, .int x1] L e (fun o => o = a0 ∨ o = a0 + 1) f (fun v f' => v = none ∧ (((f a0 1).toInt < (ln_ L (a0 + 1) : Nat) → f' = cg_up (cg_up f (a0 + 1) (f a0 1).toNatClampNeg (chr x1)) a0 1 (f a0 1 + nI 1)) ∧ ((ln_ L (a0 + 1) : Nat) ≤ (f a0 1).toInt → f' = f))) := by
  refine cE_of (ls := [.ref a0, .int x1]) rfl ?_
  have t0 := t_0
  have hF : cF (fun o => o = a0 ∨ o = a0 + 1) f f := cF_rf
  have hl := ln_lt (L := L) (a := a0 + 1) (by omega)
  have t_1 := t_rng (x1)
  have t_3 : (nI (ln_ L (a0 + 1))).toInt = (ln_ L (a0 + 1) : Nat) := nI_toInt (ln_small (by omega))
  have t_4 : 0 ≤ (f a0 1).toInt ∧ (f a0 1).toInt ≤ (ln_ L (a0 + 1) : Int) := (cI_at hI 1 s0) rfl
  refine cT_if (b_Signs_add_0 s0) (fun c_2 => ?_) (fun c_2 => ?_)
  · rw [t_le] at c_2
    exact cT_ret b_Signs_add_33 hI hF ⟨rfl, by first | exact ⟨fun h => absurd h (by omega), fun _ => rfl⟩ | exact ⟨fun _ => by unfold chr; rw [cg_up_o (show a0 ≠ a0 + 1 by omega), pk_vc], fun h => absurd h (by omega)⟩⟩
  · rw [t_le] at c_2
    have hI_5 := cI_up (k := (f a0 1).toNatClampNeg) (x := vp_nar .char ((x1.toUInt32 % 65536).toInt32)) hI (sc_6_0 s0) trivial
    have hF_6 := cF_up (a := a0 + 1) (k := (f a0 1).toNatClampNeg) (x := vp_nar .char ((x1.toUInt32 % 65536).toInt32)) hF (by omega)
    have t_10 : ((cg_up f (a0 + 1) (f a0 1).toNatClampNeg (vp_nar .char ((x1.toUInt32 % 65536).toInt32))) a0 1).toInt = (f a0 1).toInt := by rw [cg_up_o (ne_sh s0 (sc_6_0 s0) (by decide))]
    have t_11 : (nI 1).toInt = 1 := nI_toInt (by decide)
    first | have t_9 : ((((cg_up f (a0 + 1) (f a0 1).toNatClampNeg (vp_nar .char ((x1.toUInt32 % 65536).toInt32))) a0 1)) + ((nI 1))).toInt = ((((cg_up f (a0 + 1) (f a0 1).toNatClampNeg (vp_nar .char ((x1.toUInt32 % 65536).toInt32))) a0 1))).toInt + (((nI 1))).toInt := t_addn (by omega) | obtain ⟨kt_9, t_9⟩ := t_add (((cg_up f (a0 + 1) (f a0 1).toNatClampNeg (vp_nar .char ((x1.toUInt32 % 65536).toInt32))) a0 1)) ((nI 1))
    have hI_7 := cI_up (k := 1) (x := ((cg_up f (a0 + 1) (f a0 1).toNatClampNeg (vp_nar .char ((x1.toUInt32 % 65536).toInt32))) a0 1) + (nI 1)) hI_5 s0 (fun _ => by omega)
    have hF_8 := cF_up (a := a0) (k := 1) (x := ((cg_up f (a0 + 1) (f a0 1).toNatClampNeg (vp_nar .char ((x1.toUInt32 % 65536).toInt32))) a0 1) + (nI 1)) hF_6 (by omega)
    refine cT_go (b_Signs_add_12 s0 (by rw [t_in]; omega)) ?_
    exact cT_ret b_Signs_add_33 hI_7 hF_8 ⟨rfl, by first | exact ⟨fun h => absurd h (by omega), fun _ => rfl⟩ | exact ⟨fun _ => by unfold chr; rw [cg_up_o (show a0 ≠ a0 + 1 by omega), pk_vc], fun h => absurd h (by omega)⟩⟩
theorem l_Signs_addAll_7 {L : Nat} {e : Nat × Nat} {f0 : cg_G} : ∀ (k : Nat) {f : cg_G} {a0 : Nat} {a1 : Nat} {x2 : Int32} {x3 : Int32}, (x2.toInt - x3.toInt).toNat < k → cI L f → cF (fun o => o = a0 ∨ o = a0 + 1) f0 f → sh_ a0 = 6 → sh_ a1 = 6 → (0 ≤ x3.toInt ∧ x3.toInt ≤ x2.toInt) → (x2.toInt = (f0 a1 1).toInt) → ((f0 a0 1).toInt + (f0 a1 1).toInt ≤ (ln_ L (a0 + 1) : Nat) → (f a0 1).toInt = (f0 a0 1).toInt + x3.toInt) → cT 84 7 [.ref a0, .ref a1, .int x2, .int x3] [] L e (fun o => o = a0 ∨ o = a0 + 1) f0 f (fun v f' => v = none ∧ ((f0 a0 1).toInt + (f0 a1 1).toInt ≤ (ln_ L (a0 + 1) : Nat) → (f' a0 1).toInt = (f0 a0 1).toInt + (f0 a1 1).toInt)) := by
  intro k
  induction k with
  | zero => intro f a0 a1 x2 x3 hm; omega
  | succ k ih =>
    intro f a0 a1 x2 x3 hme hI hF s0 s1 i3 i2 i4
    have t0 := t_0
    have n1 : (nI 1).toInt = 1 := nI_toInt (by decide)
    have t_1 := t_rng (x2)
    have t_2 := t_rng (x3)
    refine cT_if b_Signs_addAll_7 (fun c_3 => ?_) (fun c_3 => ?_)
    · rw [t_le] at c_3
      exact cT_ret b_Signs_addAll_27 hI hF ⟨rfl, by omega⟩
    · rw [t_le] at c_3
      refine cT_call (b_Signs_addAll_12 s1) (c_Signs_at hI s1) hF (fun o ho => ho.elim) (fun v_4 f_5 hI_6 hG_7 hF_8 hQ_9 => ?_)
      obtain rfl := cF_no hG_7
      obtain ⟨y_10, rfl, hQ_9⟩ := hQ_9
      have hQ_9r := t_rng y_10
      show cT 84 18 [.ref a0, .ref a1, .int x2, .int x3] [.int y_10, .ref a0] _ _ _ _ _ _
      refine cT_call (b_Signs_addAll_18 s0) (c_Signs_add hI s0) hF (fun o ho => by omega) (fun v_11 f_12 hI_13 hG_14 hF_15 hQ_16 => ?_)
      obtain ⟨rfl, hQ_16⟩ := hQ_16
      have g_18 : (f a0 1).toInt < (ln_ L (a0 + 1) : Nat) → (f_12 a0 1).toInt = (f a0 1).toInt + 1 := fun h => by have hl := ln_lt (L := L) (a := a0 + 1) (by omega); rw [hQ_16.1 h, cg_up_s, t_addn (by have := t_rng (f a0 1); omega)]; omega
      show cT 84 21 [.ref a0, .ref a1, .int x2, .int x3] [] _ _ _ _ _ _
      refine cT_go b_Signs_addAll_21 ?_
      have t_20 : (nI 1).toInt = 1 := nI_toInt (by decide)
      first | have t_19 : (x3 + (nI 1)).toInt = (x3).toInt + ((nI 1)).toInt := t_addn (by omega) | obtain ⟨kt_19, t_19⟩ := t_add x3 (nI 1)
      exact ih (by omega) hI_13 hF_15 s0 s1 (by omega) (by omega) (by omega)
theorem c_Signs_addAll {L : Nat} {f : cg_G} {e : Nat × Nat} {a0 : Nat} {a1 : Nat} (hI : cI L f) (s0 : sh_ a0 = 6) (s1 : sh_ a1 = 6)  : cE 84 [.ref a0, .ref a1] L e (fun o => o = a0 ∨ o = a0 + 1) f (fun v f' => v = none ∧ ((f a0 1).toInt + (f a1 1).toInt ≤ (ln_ L (a0 + 1) : Nat) → (f' a0 1).toInt = (f a0 1).toInt + (f a1 1).toInt)) := by
  refine cE_of (ls := [.ref a0, .ref a1, (.retAddr 0), (.retAddr 0)]) rfl ?_
  have t0 := t_0
  have hF : cF (fun o => o = a0 ∨ o = a0 + 1) f f := cF_rf
  have n1 : (nI 1).toInt = 1 := nI_toInt (by decide)
  refine cT_call (b_Signs_addAll_0 s1) (c_Signs_size hI s1) hF (fun o ho => ho.elim) (fun v_21 f_22 hI_23 hG_24 hF_25 hQ_26 => ?_)
  obtain rfl := cF_no hG_24
  obtain ⟨y_27, rfl, hQ_26⟩ := hQ_26
  have hQ_26r := t_rng y_27
  show cT 84 4 [.ref a0, .ref a1, ((.retAddr 0)), ((.retAddr 0))] [.int y_27] _ _ _ _ _ _
  refine cT_go b_Signs_addAll_4 ?_
  have t_28 : (nI 0).toInt = 0 := nI_toInt (by decide)
  exact l_Signs_addAll_7 ((y_27.toInt - (nI 0).toInt).toNat + 1) (by omega) hI hF s0 s1 (by omega) (by omega) (by omega)
theorem l_Signs_placeOf_2 {L : Nat} {e : Nat × Nat} {f0 : cg_G} : ∀ (k : Nat) {f : cg_G} {a0 : Nat} {x1 : Int32} {x2 : Int32}, (4096 - x2.toInt).toNat < k → cI L f → cF (fun o => False) f0 f → sh_ a0 = 6 → (0 ≤ x2.toInt) → (∀ j : Nat, (j : Int) < x2.toInt → (f (a0 + 1) j).toInt ≠ x1.toInt) → cT 38 2 [.ref a0, .int x1, .int x2] [] L e (fun o => False) f0 f (fun v f' => ∃ x : Int32, v = some (.int x) ∧ (plc (f (a0 + 1)) (f a0 1).toInt x1.toInt x.toInt)) := by
  intro k
  induction k with
  | zero => intro f a0 x1 x2 hm; omega
  | succ k ih =>
    intro f a0 x1 x2 hme hI hF s0 i2 i3
    have t0 := t_0
    have hl := ln_lt (L := L) (a := a0 + 1) (by omega)
    have t_1 := t_rng (x1)
    have t_2 := t_rng (x2)
    have t_4 : 0 ≤ (f a0 1).toInt ∧ (f a0 1).toInt ≤ (ln_ L (a0 + 1) : Int) := (cI_at hI 1 s0) rfl
    refine cT_if (b_Signs_placeOf_2 s0) (fun c_3 => ?_) (fun c_3 => ?_)
    · rw [t_le] at c_3
      have t_5 := t_neg1
      exact cT_ret b_Signs_placeOf_28 hI hF ⟨_, rfl, by first | exact Or.inr ⟨x2.toNatClampNeg, by rw [t_cl]; omega, by rw [t_cl]; omega, by omega, fun j hj => i3 j (by rw [t_cl] at hj; omega)⟩ | exact Or.inl ⟨by omega, fun j hj => i3 j (by omega)⟩⟩
    · rw [t_le] at c_3
      have t_7 := t_rng (f (a0 + 1) x2.toNatClampNeg)
      refine cT_if (b_Signs_placeOf_10 s0 (by rw [t_in]; omega)) (fun c_6 => ?_) (fun c_6 => ?_)
      · rw [t_eq] at c_6
        exact cT_ret b_Signs_placeOf_20 hI hF ⟨_, rfl, by first | exact Or.inr ⟨x2.toNatClampNeg, by rw [t_cl]; omega, by rw [t_cl]; omega, by omega, fun j hj => i3 j (by rw [t_cl] at hj; omega)⟩ | exact Or.inl ⟨by omega, fun j hj => i3 j (by omega)⟩⟩
      · rw [t_eq] at c_6
        refine cT_go b_Signs_placeOf_22 ?_
        have t_9 : (nI 1).toInt = 1 := nI_toInt (by decide)
        first | have t_8 : (x2 + (nI 1)).toInt = (x2).toInt + ((nI 1)).toInt := t_addn (by omega) | obtain ⟨kt_8, t_8⟩ := t_add x2 (nI 1)
        exact ih (by omega) hI hF s0 (by omega) (fun j hj => by first | (exfalso; omega) | (by_cases e : j = x2.toNatClampNeg; (subst e; omega); exact i3 j (by rw [t_cl] at e; omega)))
theorem c_Signs_placeOf {L : Nat} {f : cg_G} {e : Nat × Nat} {a0 : Nat} {x1 : Int32} (hI : cI L f) (s0 : sh_ a0 = 6)  : cE 38 [.ref a0, .int x1] L e (fun o => False) f (fun v f' => ∃ x : Int32, v = some (.int x) ∧ (plc (f (a0 + 1)) (f a0 1).toInt x1.toInt x.toInt)) := by
  refine cE_of (ls := [.ref a0, .int x1, (.retAddr 0)]) rfl ?_
  have t0 := t_0
  have hF : cF (fun o => False) f f := cF_rf
  have hl := ln_lt (L := L) (a := a0 + 1) (by omega)
  have t_10 := t_rng (x1)
  refine cT_go b_Signs_placeOf_0 ?_
  have t_11 : (nI 0).toInt = 0 := nI_toInt (by decide)
  exact l_Signs_placeOf_2 ((4096 - (nI 0).toInt).toNat + 1) (by omega) hI hF s0 (by omega) (fun j hj => by first | (exfalso; omega) | (by_cases e : j = x2.toNatClampNeg; (subst e; omega); exact i3 j (by rw [t_cl] at e; omega)))
theorem c_Filling_add {L : Nat} {f : cg_G} {e : Nat × Nat} {a0 : Nat} {x1 : Int32} (hI : cI L f) (s0 : sh_ a0 = 3)  : cE 17 [.ref a0, .int x1] L e (fun o => 124 ≤ o ∧ o < 206) f (fun v f' => v = none ∧ (True)) := by
  refine cE_of (ls := [.ref a0, .int x1]) rfl ?_
  have t0 := t_0
  have hF : cF (fun o => 124 ≤ o ∧ o < 206) f f := cF_rf
  have hr := rg_3 s0
  have t_1 := t_rng (x1)
  have t_3 : (nI 848).toInt = 848 := nI_toInt (by decide)
  have t_4 : 0 ≤ (f a0 3).toInt ∧ (f a0 3).toInt ≤ 848 := (cI_at hI 3 s0) rfl
  refine cT_if (b_Filling_add_0 s0) (fun c_2 => ?_) (fun c_2 => ?_)
  · rw [t_le] at c_2
    exact cT_ret b_Filling_add_30 hI hF ⟨rfl, trivial⟩
  · rw [t_le] at c_2
    have hI_5 := cI_up (k := (f a0 3).toNatClampNeg) (x := x1) hI (sc_3_0 s0) (ok100 (by omega))
    have hF_6 := cF_up (a := a0 + 1) (k := (f a0 3).toNatClampNeg) (x := x1) hF (by omega)
    have t_10 : ((cg_up f (a0 + 1) (f a0 3).toNatClampNeg x1) a0 3).toInt = (f a0 3).toInt := by rw [cg_up_o (ne_sh s0 (sc_3_0 s0) (by decide))]
    have t_11 : (nI 1).toInt = 1 := nI_toInt (by decide)
    first | have t_9 : ((((cg_up f (a0 + 1) (f a0 3).toNatClampNeg x1) a0 3)) + ((nI 1))).toInt = ((((cg_up f (a0 + 1) (f a0 3).toNatClampNeg x1) a0 3))).toInt + (((nI 1))).toInt := t_addn (by omega) | obtain ⟨kt_9, t_9⟩ := t_add (((cg_up f (a0 + 1) (f a0 3).toNatClampNeg x1) a0 3)) ((nI 1))
    have hI_7 := cI_up (k := 3) (x := ((cg_up f (a0 + 1) (f a0 3).toNatClampNeg x1) a0 3) + (nI 1)) hI_5 s0 (fun _ => by omega)
    have hF_8 := cF_up (a := a0) (k := 3) (x := ((cg_up f (a0 + 1) (f a0 3).toNatClampNeg x1) a0 3) + (nI 1)) hF_6 (by omega)
    refine cT_go (b_Filling_add_10 s0 (by rw [t_in]; omega)) ?_
    exact cT_ret b_Filling_add_30 hI_7 hF_8 ⟨rfl, trivial⟩
theorem c_Filling_sizeOf {L : Nat} {f : cg_G} {e : Nat × Nat} {a0 : Nat} {x1 : Int32} (hI : cI L f) (s0 : sh_ a0 = 3)  : cE 22 [.ref a0, .int x1] L e (fun o => False) f (fun v f' => ∃ x : Int32, v = some (.int x) ∧ (True)) := by
  refine cE_of (ls := [.ref a0, .int x1]) rfl ?_
  have t0 := t_0
  have hF : cF (fun o => False) f f := cF_rf
  have t_1 := t_rng (x1)
  refine cT_if b_Filling_sizeOf_0 (fun c_2 => ?_) (fun c_2 => ?_)
  · rw [t_lt] at c_2
    refine cT_go b_Filling_sizeOf_21 ?_
    have t_4 : (nI 0).toInt = 0 := nI_toInt (by decide)
    exact cT_ret b_Filling_sizeOf_22 hI hF ⟨_, rfl, trivial⟩
  · rw [t_lt] at c_2
    have t_6 : 0 ≤ (f a0 3).toInt ∧ (f a0 3).toInt ≤ 848 := (cI_at hI 3 s0) rfl
    refine cT_if (b_Filling_sizeOf_4 s0) (fun c_5 => ?_) (fun c_5 => ?_)
    · rw [t_le] at c_5
      refine cT_go b_Filling_sizeOf_21 ?_
      have t_7 : (nI 0).toInt = 0 := nI_toInt (by decide)
      exact cT_ret b_Filling_sizeOf_22 hI hF ⟨_, rfl, trivial⟩
    · rw [t_le] at c_5
      refine cT_go (b_Filling_sizeOf_12 s0 (by rw [t_in]; omega)) ?_
      have t_8 := t_rng (f (a0 + 1) x1.toNatClampNeg)
      exact cT_ret b_Filling_sizeOf_22 hI hF ⟨_, rfl, trivial⟩
theorem l_Filling_hasRoomForEach_2 {L : Nat} {e : Nat × Nat} {f0 : cg_G} : ∀ (k : Nat) {f : cg_G} {a0 : Nat} {x1 : Int32}, (848 - x1.toInt).toNat < k → cI L f → cF (fun o => False) f0 f → sh_ a0 = 3 → (0 ≤ x1.toInt) → cT 19 2 [.ref a0, .int x1] [] L e (fun o => False) f0 f (fun v f' => ∃ x : Int32, v = some (.int x) ∧ (x = 0 ∨ x = 1) ∧ (True)) := by
  intro k
  induction k with
  | zero => intro f a0 x1 hm; omega
  | succ k ih =>
    intro f a0 x1 hme hI hF s0 i1
    have t0 := t_0
    have t_1 := t_rng (x1)
    have t_3 : 0 ≤ (f a0 3).toInt ∧ (f a0 3).toInt ≤ 848 := (cI_at hI 3 s0) rfl
    refine cT_if (b_Filling_hasRoomForEach_2 s0) (fun c_2 => ?_) (fun c_2 => ?_)
    · rw [t_le] at c_2
      have t_4 : (nI 1).toInt = 1 := nI_toInt (by decide)
      exact cT_ret b_Filling_hasRoomForEach_31 hI hF ⟨_, rfl, (by decide), trivial⟩
    · rw [t_le] at c_2
      have t_6 := t_rng (f (a0 + 1) x1.toNatClampNeg)
      have t_7 := t_rng (f a0 4)
      refine cT_if (b_Filling_hasRoomForEach_10 s0 (by rw [t_in]; omega)) (fun c_5 => ?_) (fun c_5 => ?_)
      · rw [t_le] at c_5
        refine cT_go b_Filling_hasRoomForEach_25 ?_
        have t_9 : (nI 1).toInt = 1 := nI_toInt (by decide)
        first | have t_8 : (x1 + (nI 1)).toInt = (x1).toInt + ((nI 1)).toInt := t_addn (by omega) | obtain ⟨kt_8, t_8⟩ := t_add x1 (nI 1)
        exact ih (by omega) hI hF s0 (by omega)
      · rw [t_le] at c_5
        have t_10 : (nI 0).toInt = 0 := nI_toInt (by decide)
        exact cT_ret b_Filling_hasRoomForEach_23 hI hF ⟨_, rfl, (by decide), trivial⟩
theorem c_Filling_hasRoomForEach {L : Nat} {f : cg_G} {e : Nat × Nat} {a0 : Nat} (hI : cI L f) (s0 : sh_ a0 = 3)  : cE 19 [.ref a0] L e (fun o => False) f (fun v f' => ∃ x : Int32, v = some (.int x) ∧ (x = 0 ∨ x = 1) ∧ (True)) := by
  refine cE_of (ls := [.ref a0, (.retAddr 0)]) rfl ?_
  have t0 := t_0
  have hF : cF (fun o => False) f f := cF_rf
  refine cT_go b_Filling_hasRoomForEach_0 ?_
  have t_11 : (nI 0).toInt = 0 := nI_toInt (by decide)
  exact l_Filling_hasRoomForEach_2 ((848 - (nI 0).toInt).toNat + 1) (by omega) hI hF s0 (by omega)
theorem c_Filling_endOfRow {L : Nat} {f : cg_G} {e : Nat × Nat} {a0 : Nat} {x1 : Int32} (hI : cI L f) (s0 : sh_ a0 = 3)  : cE 18 [.ref a0, .int x1] L e (fun o => False) f (fun v f' => ∃ x : Int32, v = some (.int x) ∧ (True)) := by
  refine cE_of (ls := [.ref a0, .int x1]) rfl ?_
  have t0 := t_0
  have hF : cF (fun o => False) f f := cF_rf
  have t_1 := t_rng (x1)
  refine cT_if b_Filling_endOfRow_0 (fun c_2 => ?_) (fun c_2 => ?_)
  · rw [t_lt] at c_2
    refine cT_go (b_Filling_endOfRow_21 s0) ?_
    have t_4 : 0 ≤ (f a0 3).toInt ∧ (f a0 3).toInt ≤ 848 := (cI_at hI 3 s0) rfl
    exact cT_ret b_Filling_endOfRow_25 hI hF ⟨_, rfl, trivial⟩
  · rw [t_lt] at c_2
    have t_6 : 0 ≤ (f a0 3).toInt ∧ (f a0 3).toInt ≤ 848 := (cI_at hI 3 s0) rfl
    refine cT_if (b_Filling_endOfRow_4 s0) (fun c_5 => ?_) (fun c_5 => ?_)
    · rw [t_le] at c_5
      refine cT_go (b_Filling_endOfRow_21 s0) ?_
      exact cT_ret b_Filling_endOfRow_25 hI hF ⟨_, rfl, trivial⟩
    · rw [t_le] at c_5
      refine cT_go (b_Filling_endOfRow_12 s0 (by rw [t_in]; omega)) ?_
      have t_7 := t_rng (f (a0 + 3) x1.toNatClampNeg)
      exact cT_ret b_Filling_endOfRow_25 hI hF ⟨_, rfl, trivial⟩
theorem l_Filling_solveFrom_28 {L : Nat} {e : Nat × Nat} {f0 : cg_G} : ∀ (k : Nat) {f : cg_G} {a0 : Nat} {x1 : Int32} {x2 : Int32} {x3 : Int32} {u4 : Value} {u5 : Value}, (849 - x3.toInt).toNat < k → cI L f → cF (fun o => 124 ≤ o ∧ o < 206) f0 f → sh_ a0 = 3 → (0 ≤ x1.toInt ∧ x1.toInt < 848) → (0 ≤ x3.toInt) → cT 77 28 [.ref a0, .int x1, .int x2, .int x3, u4, u5] [] L e (fun o => 124 ≤ o ∧ o < 206) f0 f (fun v f' => v = none ∧ (True)) := by
  intro k
  induction k with
  | zero => intro f a0 x1 x2 x3 u4 u5 hm; omega
  | succ k ih =>
    intro f a0 x1 x2 x3 u4 u5 hme hI hF s0 i1 i3
    have t0 := t_0
    have hr := rg_3 s0
    have t_1 := t_rng (x1)
    have t_2 := t_rng (x2)
    have t_3 := t_rng (x3)
    have t_5 : 0 ≤ (f a0 3).toInt ∧ (f a0 3).toInt ≤ 848 := (cI_at hI 3 s0) rfl
    refine cT_if (b_Filling_solveFrom_28 s0) (fun c_4 => ?_) (fun c_4 => ?_)
    · rw [t_lt] at c_4
      exact cT_ret b_Filling_solveFrom_123 hI hF ⟨rfl, trivial⟩
    · rw [t_lt] at c_4
      have t_7 := t_rng (f a0 4)
      refine cT_if (b_Filling_solveFrom_36 s0) (fun c_6 => ?_) (fun c_6 => ?_)
      · rw [t_lt] at c_6
        exact cT_ret b_Filling_solveFrom_123 hI hF ⟨rfl, trivial⟩
      · rw [t_lt] at c_6
        refine cT_if (b_Filling_solveFrom_44 s0) (fun c_8 => ?_) (fun c_8 => ?_)
        · rw [t_eq] at c_8
          refine cT_go b_Filling_solveFrom_60 ?_
          have t_10 := t_rng (f (a0 + 2) x1.toNatClampNeg)
          have t_11 : (nI 0).toInt = 0 := nI_toInt (by decide)
          refine cT_if (b_Filling_solveFrom_76 s0 (by rw [t_in]; omega)) (fun c_9 => ?_) (fun c_9 => ?_)
          · rw [t_le] at c_9
            refine cT_call (b_Filling_solveFrom_104 s0) (c_Filling_sizeOf hI s0) hF (fun o ho => ho.elim) (fun v_12 f_13 hI_14 hG_15 hF_16 hQ_17 => ?_)
            obtain rfl := cF_no hG_15
            obtain ⟨y_18, rfl, hQ_17⟩ := hQ_17
            have hQ_17r := t_rng y_18
            show cT 77 114 [.ref a0, .int x1, .int x2, .int x3, .int ((f a0 4) - x2), .int (nI 0)] [.int y_18, .int (f a0 5), .int x2] _ _ _ _ _ _
            refine cT_go b_Filling_solveFrom_114 ?_
            have t_21 := t_rng (f a0 5)
            first | have t_20 : (((f a0 5)) + y_18).toInt = (((f a0 5))).toInt + (y_18).toInt := t_addn (by omega) | obtain ⟨kt_20, t_20⟩ := t_add ((f a0 5)) y_18
            first | have t_19 : (x2 + (((f a0 5) + y_18))).toInt = (x2).toInt + ((((f a0 5) + y_18))).toInt := t_addn (by omega) | obtain ⟨kt_19, t_19⟩ := t_add x2 (((f a0 5) + y_18))
            have t_23 : (nI 1).toInt = 1 := nI_toInt (by decide)
            first | have t_22 : (x3 + (nI 1)).toInt = (x3).toInt + ((nI 1)).toInt := t_addn (by omega) | obtain ⟨kt_22, t_22⟩ := t_add x3 (nI 1)
            first | have t_24 : (((f a0 4)) - x2).toInt = (((f a0 4))).toInt - (x2).toInt := t_subn (by omega) | obtain ⟨kt_24, t_24⟩ := t_sub ((f a0 4)) x2
            exact ih (by omega) hI hF s0 (by omega) (by omega)
          · rw [t_le] at c_9
            have hI_25 := cI_up (k := x1.toNatClampNeg) (x := nI 0) hI (sc_3_1 s0) (ok100 (by omega))
            have hF_26 := cF_up (a := a0 + 2) (k := x1.toNatClampNeg) (x := nI 0) hF (by omega)
            have hI_27 := cI_up (k := x1.toNatClampNeg) (x := x3) hI_25 (sc_3_2 s0) (ok100 (by omega))
            have hF_28 := cF_up (a := a0 + 3) (k := x1.toNatClampNeg) (x := x3) hF_26 (by omega)
            refine cT_go (b_Filling_solveFrom_89 s0 (by rw [t_in]; omega) (by rw [t_in]; omega)) ?_
            refine cT_call (b_Filling_solveFrom_104 s0) (c_Filling_sizeOf hI_27 s0) hF_28 (fun o ho => ho.elim) (fun v_29 f_30 hI_31 hG_32 hF_33 hQ_34 => ?_)
            obtain rfl := cF_no hG_32
            obtain ⟨y_35, rfl, hQ_34⟩ := hQ_34
            have hQ_34r := t_rng y_35
            show cT 77 114 [.ref a0, .int x1, .int x2, .int x3, .int ((f a0 4) - x2), .int (nI 0)] [.int y_35, .int ((cg_up (cg_up f (a0 + 2) x1.toNatClampNeg (nI 0)) (a0 + 3) x1.toNatClampNeg x3) a0 5), .int x2] _ _ _ _ _ _
            refine cT_go b_Filling_solveFrom_114 ?_
            have t_38 : ((cg_up (cg_up f (a0 + 2) x1.toNatClampNeg (nI 0)) (a0 + 3) x1.toNatClampNeg x3) a0 5).toInt = ((cg_up f (a0 + 2) x1.toNatClampNeg (nI 0)) a0 5).toInt := by rw [cg_up_o (ne_sh s0 (sc_3_2 s0) (by decide))]
            have t_39 : ((cg_up f (a0 + 2) x1.toNatClampNeg (nI 0)) a0 5).toInt = (f a0 5).toInt := by rw [cg_up_o (ne_sh s0 (sc_3_1 s0) (by decide))]
            have t_40 := t_rng (f a0 5)
            first | have t_37 : ((((cg_up (cg_up f (a0 + 2) x1.toNatClampNeg (nI 0)) (a0 + 3) x1.toNatClampNeg x3) a0 5)) + y_35).toInt = ((((cg_up (cg_up f (a0 + 2) x1.toNatClampNeg (nI 0)) (a0 + 3) x1.toNatClampNeg x3) a0 5))).toInt + (y_35).toInt := t_addn (by omega) | obtain ⟨kt_37, t_37⟩ := t_add (((cg_up (cg_up f (a0 + 2) x1.toNatClampNeg (nI 0)) (a0 + 3) x1.toNatClampNeg x3) a0 5)) y_35
            first | have t_36 : (x2 + ((((cg_up (cg_up f (a0 + 2) x1.toNatClampNeg (nI 0)) (a0 + 3) x1.toNatClampNeg x3) a0 5) + y_35))).toInt = (x2).toInt + (((((cg_up (cg_up f (a0 + 2) x1.toNatClampNeg (nI 0)) (a0 + 3) x1.toNatClampNeg x3) a0 5) + y_35))).toInt := t_addn (by omega) | obtain ⟨kt_36, t_36⟩ := t_add x2 ((((cg_up (cg_up f (a0 + 2) x1.toNatClampNeg (nI 0)) (a0 + 3) x1.toNatClampNeg x3) a0 5) + y_35))
            have t_42 : (nI 1).toInt = 1 := nI_toInt (by decide)
            first | have t_41 : (x3 + (nI 1)).toInt = (x3).toInt + ((nI 1)).toInt := t_addn (by omega) | obtain ⟨kt_41, t_41⟩ := t_add x3 (nI 1)
            first | have t_43 : (((f a0 4)) - x2).toInt = (((f a0 4))).toInt - (x2).toInt := t_subn (by omega) | obtain ⟨kt_43, t_43⟩ := t_sub ((f a0 4)) x2
            exact ih (by omega) hI_27 hF_28 s0 (by omega) (by omega)
        · rw [t_eq] at c_8
          refine cT_go (b_Filling_solveFrom_64 s0 (by rw [t_in]; omega)) ?_
          have t_45 := t_rng (f (a0 + 2) x1.toNatClampNeg)
          first | have t_48 : (((f a0 4)) - x2).toInt = (((f a0 4))).toInt - (x2).toInt := t_subn (by omega) | obtain ⟨kt_48, t_48⟩ := t_sub ((f a0 4)) x2
          have t_47 := t_rng (((f a0 4) - x2) * ((f a0 4) - x2))
          have t_47s := t_sq ((f a0 4) - x2)
          have t_49 := t_rng (f (a0 + 2) x3.toNatClampNeg)
          first | have t_46 : (((((f a0 4) - x2) * ((f a0 4) - x2))) + ((f (a0 + 2) x3.toNatClampNeg))).toInt = (((((f a0 4) - x2) * ((f a0 4) - x2)))).toInt + (((f (a0 + 2) x3.toNatClampNeg))).toInt := t_addn (by omega) | obtain ⟨kt_46, t_46⟩ := t_add ((((f a0 4) - x2) * ((f a0 4) - x2))) ((f (a0 + 2) x3.toNatClampNeg))
          refine cT_if (b_Filling_solveFrom_76 s0 (by rw [t_in]; omega)) (fun c_44 => ?_) (fun c_44 => ?_)
          · rw [t_le] at c_44
            refine cT_call (b_Filling_solveFrom_104 s0) (c_Filling_sizeOf hI s0) hF (fun o ho => ho.elim) (fun v_50 f_51 hI_52 hG_53 hF_54 hQ_55 => ?_)
            obtain rfl := cF_no hG_53
            obtain ⟨y_56, rfl, hQ_55⟩ := hQ_55
            have hQ_55r := t_rng y_56
            show cT 77 114 [.ref a0, .int x1, .int x2, .int x3, .int ((f a0 4) - x2), .int ((((f a0 4) - x2) * ((f a0 4) - x2)) + (f (a0 + 2) x3.toNatClampNeg))] [.int y_56, .int (f a0 5), .int x2] _ _ _ _ _ _
            refine cT_go b_Filling_solveFrom_114 ?_
            have t_59 := t_rng (f a0 5)
            first | have t_58 : (((f a0 5)) + y_56).toInt = (((f a0 5))).toInt + (y_56).toInt := t_addn (by omega) | obtain ⟨kt_58, t_58⟩ := t_add ((f a0 5)) y_56
            first | have t_57 : (x2 + (((f a0 5) + y_56))).toInt = (x2).toInt + ((((f a0 5) + y_56))).toInt := t_addn (by omega) | obtain ⟨kt_57, t_57⟩ := t_add x2 (((f a0 5) + y_56))
            have t_61 : (nI 1).toInt = 1 := nI_toInt (by decide)
            first | have t_60 : (x3 + (nI 1)).toInt = (x3).toInt + ((nI 1)).toInt := t_addn (by omega) | obtain ⟨kt_60, t_60⟩ := t_add x3 (nI 1)
            exact ih (by omega) hI hF s0 (by omega) (by omega)
          · rw [t_le] at c_44
            have hI_62 := cI_up (k := x1.toNatClampNeg) (x := (((f a0 4) - x2) * ((f a0 4) - x2)) + (f (a0 + 2) x3.toNatClampNeg)) hI (sc_3_1 s0) (ok100 (by omega))
            have hF_63 := cF_up (a := a0 + 2) (k := x1.toNatClampNeg) (x := (((f a0 4) - x2) * ((f a0 4) - x2)) + (f (a0 + 2) x3.toNatClampNeg)) hF (by omega)
            have hI_64 := cI_up (k := x1.toNatClampNeg) (x := x3) hI_62 (sc_3_2 s0) (ok100 (by omega))
            have hF_65 := cF_up (a := a0 + 3) (k := x1.toNatClampNeg) (x := x3) hF_63 (by omega)
            refine cT_go (b_Filling_solveFrom_89 s0 (by rw [t_in]; omega) (by rw [t_in]; omega)) ?_
            refine cT_call (b_Filling_solveFrom_104 s0) (c_Filling_sizeOf hI_64 s0) hF_65 (fun o ho => ho.elim) (fun v_66 f_67 hI_68 hG_69 hF_70 hQ_71 => ?_)
            obtain rfl := cF_no hG_69
            obtain ⟨y_72, rfl, hQ_71⟩ := hQ_71
            have hQ_71r := t_rng y_72
            show cT 77 114 [.ref a0, .int x1, .int x2, .int x3, .int ((f a0 4) - x2), .int ((((f a0 4) - x2) * ((f a0 4) - x2)) + (f (a0 + 2) x3.toNatClampNeg))] [.int y_72, .int ((cg_up (cg_up f (a0 + 2) x1.toNatClampNeg ((((f a0 4) - x2) * ((f a0 4) - x2)) + (f (a0 + 2) x3.toNatClampNeg))) (a0 + 3) x1.toNatClampNeg x3) a0 5), .int x2] _ _ _ _ _ _
            refine cT_go b_Filling_solveFrom_114 ?_
            have t_75 : ((cg_up (cg_up f (a0 + 2) x1.toNatClampNeg ((((f a0 4) - x2) * ((f a0 4) - x2)) + (f (a0 + 2) x3.toNatClampNeg))) (a0 + 3) x1.toNatClampNeg x3) a0 5).toInt = ((cg_up f (a0 + 2) x1.toNatClampNeg ((((f a0 4) - x2) * ((f a0 4) - x2)) + (f (a0 + 2) x3.toNatClampNeg))) a0 5).toInt := by rw [cg_up_o (ne_sh s0 (sc_3_2 s0) (by decide))]
            have t_76 : ((cg_up f (a0 + 2) x1.toNatClampNeg ((((f a0 4) - x2) * ((f a0 4) - x2)) + (f (a0 + 2) x3.toNatClampNeg))) a0 5).toInt = (f a0 5).toInt := by rw [cg_up_o (ne_sh s0 (sc_3_1 s0) (by decide))]
            have t_77 := t_rng (f a0 5)
            first | have t_74 : ((((cg_up (cg_up f (a0 + 2) x1.toNatClampNeg ((((f a0 4) - x2) * ((f a0 4) - x2)) + (f (a0 + 2) x3.toNatClampNeg))) (a0 + 3) x1.toNatClampNeg x3) a0 5)) + y_72).toInt = ((((cg_up (cg_up f (a0 + 2) x1.toNatClampNeg ((((f a0 4) - x2) * ((f a0 4) - x2)) + (f (a0 + 2) x3.toNatClampNeg))) (a0 + 3) x1.toNatClampNeg x3) a0 5))).toInt + (y_72).toInt := t_addn (by omega) | obtain ⟨kt_74, t_74⟩ := t_add (((cg_up (cg_up f (a0 + 2) x1.toNatClampNeg ((((f a0 4) - x2) * ((f a0 4) - x2)) + (f (a0 + 2) x3.toNatClampNeg))) (a0 + 3) x1.toNatClampNeg x3) a0 5)) y_72
            first | have t_73 : (x2 + ((((cg_up (cg_up f (a0 + 2) x1.toNatClampNeg ((((f a0 4) - x2) * ((f a0 4) - x2)) + (f (a0 + 2) x3.toNatClampNeg))) (a0 + 3) x1.toNatClampNeg x3) a0 5) + y_72))).toInt = (x2).toInt + (((((cg_up (cg_up f (a0 + 2) x1.toNatClampNeg ((((f a0 4) - x2) * ((f a0 4) - x2)) + (f (a0 + 2) x3.toNatClampNeg))) (a0 + 3) x1.toNatClampNeg x3) a0 5) + y_72))).toInt := t_addn (by omega) | obtain ⟨kt_73, t_73⟩ := t_add x2 ((((cg_up (cg_up f (a0 + 2) x1.toNatClampNeg ((((f a0 4) - x2) * ((f a0 4) - x2)) + (f (a0 + 2) x3.toNatClampNeg))) (a0 + 3) x1.toNatClampNeg x3) a0 5) + y_72))
            have t_79 : (nI 1).toInt = 1 := nI_toInt (by decide)
            first | have t_78 : (x3 + (nI 1)).toInt = (x3).toInt + ((nI 1)).toInt := t_addn (by omega) | obtain ⟨kt_78, t_78⟩ := t_add x3 (nI 1)
            exact ih (by omega) hI_64 hF_65 s0 (by omega) (by omega)
theorem c_Filling_solveFrom {L : Nat} {f : cg_G} {e : Nat × Nat} {a0 : Nat} {x1 : Int32} (hI : cI L f) (s0 : sh_ a0 = 3) (p1 : 0 ≤ x1.toInt ∧ x1.toInt < 848) : cE 77 [.ref a0, .int x1] L e (fun o => 124 ≤ o ∧ o < 206) f (fun v f' => v = none ∧ (True)) := by
  refine cE_of (ls := [.ref a0, .int x1, (.retAddr 0), (.retAddr 0), (.retAddr 0), (.retAddr 0)]) rfl ?_
  have t0 := t_0
  have hF : cF (fun o => 124 ≤ o ∧ o < 206) f f := cF_rf
  have hr := rg_3 s0
  have t_80 := t_rng (x1)
  have hI_81 := cI_up (k := x1.toNatClampNeg) (x := nI 1356800) hI (sc_3_1 s0) (ok100 (by omega))
  have hF_82 := cF_up (a := a0 + 2) (k := x1.toNatClampNeg) (x := nI 1356800) hF (by omega)
  have hI_83 := cI_up (k := x1.toNatClampNeg) (x := x1 + (nI 1)) hI_81 (sc_3_2 s0) (ok100 (by omega))
  have hF_84 := cF_up (a := a0 + 3) (k := x1.toNatClampNeg) (x := x1 + (nI 1)) hF_82 (by omega)
  refine cT_go (b_Filling_solveFrom_0 s0 (by rw [t_in]; omega) (by rw [t_in]; omega)) ?_
  have t_85 : ((cg_up (cg_up f (a0 + 2) x1.toNatClampNeg (nI 1356800)) (a0 + 3) x1.toNatClampNeg (x1 + (nI 1))) (a0 + 1) x1.toNatClampNeg).toInt = ((cg_up f (a0 + 2) x1.toNatClampNeg (nI 1356800)) (a0 + 1) x1.toNatClampNeg).toInt := by rw [cg_up_o (by omega)]
  have t_86 : ((cg_up f (a0 + 2) x1.toNatClampNeg (nI 1356800)) (a0 + 1) x1.toNatClampNeg).toInt = (f (a0 + 1) x1.toNatClampNeg).toInt := by rw [cg_up_o (by omega)]
  have t_87 := t_rng (f (a0 + 1) x1.toNatClampNeg)
  have t_89 : (nI 1).toInt = 1 := nI_toInt (by decide)
  first | have t_88 : (x1 + ((nI 1))).toInt = (x1).toInt + (((nI 1))).toInt := t_addn (by omega) | obtain ⟨kt_88, t_88⟩ := t_add x1 ((nI 1))
  exact l_Filling_solveFrom_28 ((849 - (x1 + (nI 1)).toInt).toNat + 1) (by omega) hI_83 hF_84 s0 (by omega) (by omega)
theorem l_Filling_solve_17 {L : Nat} {e : Nat × Nat} {f0 : cg_G} : ∀ (k : Nat) {f : cg_G} {a0 : Nat} {x1 : Int32}, (x1.toInt + 1).toNat < k → cI L f → cF (fun o => 124 ≤ o ∧ o < 206) f0 f → sh_ a0 = 3 → (-1 ≤ x1.toInt ∧ x1.toInt < 848) → cT 108 17 [.ref a0, .int x1] [] L e (fun o => 124 ≤ o ∧ o < 206) f0 f (fun v f' => v = none ∧ (True)) := by
  intro k
  induction k with
  | zero => intro f a0 x1 hm; omega
  | succ k ih =>
    intro f a0 x1 hme hI hF s0 i1
    have t0 := t_0
    have hr := rg_3 s0
    have t_1 := t_rng (x1)
    refine cT_if b_Filling_solve_17 (fun c_2 => ?_) (fun c_2 => ?_)
    · rw [t_lt] at c_2
      exact cT_ret b_Filling_solve_32 hI hF ⟨rfl, trivial⟩
    · rw [t_lt] at c_2
      refine cT_call (b_Filling_solve_21 s0) (c_Filling_solveFrom hI s0 (by first | omega | assumption | exact sl_4_4 (by assumption))) hF (fun o ho => by omega) (fun v_4 f_5 hI_6 hG_7 hF_8 hQ_9 => ?_)
      obtain ⟨rfl, hQ_9⟩ := hQ_9
      show cT 108 26 [.ref a0, .int x1] [] _ _ _ _ _ _
      refine cT_go b_Filling_solve_26 ?_
      have t_12 := t_neg1
      first | have t_11 : (x1 + (- nI 1)).toInt = (x1).toInt + ((- nI 1)).toInt := t_addn (by omega) | obtain ⟨kt_11, t_11⟩ := t_add x1 (- nI 1)
      exact ih (by omega) hI_6 hF_8 s0 (by omega)
theorem c_Filling_solve {L : Nat} {f : cg_G} {e : Nat × Nat} {a0 : Nat} (hI : cI L f) (s0 : sh_ a0 = 3)  : cE 108 [.ref a0] L e (fun o => 124 ≤ o ∧ o < 206) f (fun v f' => v = none ∧ (True)) := by
  refine cE_of (ls := [.ref a0, (.retAddr 0)]) rfl ?_
  have t0 := t_0
  have hF : cF (fun o => 124 ≤ o ∧ o < 206) f f := cF_rf
  have hr := rg_3 s0
  have hI_13 := cI_up (k := (f a0 3).toNatClampNeg) (x := nI 0) hI (sc_3_1 s0) (ok100 (by omega))
  have hF_14 := cF_up (a := a0 + 2) (k := (f a0 3).toNatClampNeg) (x := nI 0) hF (by omega)
  have t_15 : 0 ≤ (f a0 3).toInt ∧ (f a0 3).toInt ≤ 848 := (cI_at hI 3 s0) rfl
  refine cT_go (b_Filling_solve_0 s0 (by rw [t_in]; omega)) ?_
  have t_17 : ((cg_up f (a0 + 2) (f a0 3).toNatClampNeg (nI 0)) a0 3).toInt = (f a0 3).toInt := by rw [cg_up_o (ne_sh s0 (sc_3_1 s0) (by decide))]
  have t_18 : (nI 1).toInt = 1 := nI_toInt (by decide)
  first | have t_16 : ((((cg_up f (a0 + 2) (f a0 3).toNatClampNeg (nI 0)) a0 3)) - ((nI 1))).toInt = ((((cg_up f (a0 + 2) (f a0 3).toNatClampNeg (nI 0)) a0 3))).toInt - (((nI 1))).toInt := t_subn (by omega) | obtain ⟨kt_16, t_16⟩ := t_sub (((cg_up f (a0 + 2) (f a0 3).toNatClampNeg (nI 0)) a0 3)) ((nI 1))
  exact l_Filling_solve_17 (((((cg_up f (a0 + 2) (f a0 3).toNatClampNeg (nI 0)) a0 3) - (nI 1)).toInt + 1).toNat + 1) (by omega) hI_13 hF_14 s0 (by omega)
theorem c_Filling_start {L : Nat} {f : cg_G} {e : Nat × Nat} {a0 : Nat} {x1 : Int32} {x2 : Int32} (hI : cI L f) (s0 : sh_ a0 = 3)  : cE 23 [.ref a0, .int x1, .int x2] L e (fun o => 124 ≤ o ∧ o < 206) f (fun v f' => v = none ∧ (True)) := by
  refine cE_of (ls := [.ref a0, .int x1, .int x2]) rfl ?_
  have t0 := t_0
  have hF : cF (fun o => 124 ≤ o ∧ o < 206) f f := cF_rf
  have hr := rg_3 s0
  have t_1 := t_rng (x1)
  have t_2 := t_rng (x2)
  have hI_3 := cI_up (k := 4) (x := x1) hI s0 (fun h => absurd h (by decide))
  have hF_4 := cF_up (a := a0) (k := 4) (x := x1) hF (by omega)
  have hI_5 := cI_up (k := 5) (x := x2) hI_3 s0 (fun h => absurd h (by decide))
  have hF_6 := cF_up (a := a0) (k := 5) (x := x2) hF_4 (by omega)
  have t_9 : (nI 0).toInt = 0 := nI_toInt (by decide)
  have hI_7 := cI_up (k := 3) (x := nI 0) hI_5 s0 (fun _ => by omega)
  have hF_8 := cF_up (a := a0) (k := 3) (x := nI 0) hF_6 (by omega)
  exact cT_ret (b_Filling_start_0 s0) hI_7 hF_8 ⟨rfl, trivial⟩
theorem c_Filling_items {L : Nat} {f : cg_G} {e : Nat × Nat} {a0 : Nat} (hI : cI L f) (s0 : sh_ a0 = 3)  : cE 20 [.ref a0] L e (fun o => False) f (fun v f' => ∃ x : Int32, v = some (.int x) ∧ (x.toInt = (f a0 3).toInt ∧ 0 ≤ x.toInt ∧ x.toInt ≤ 848)) := by
  refine cE_of (ls := [.ref a0]) rfl ?_
  have t0 := t_0
  have hF : cF (fun o => False) f f := cF_rf
  have t_1 : 0 ≤ (f a0 3).toInt ∧ (f a0 3).toInt ≤ 848 := (cI_at hI 3 s0) rfl
  exact cT_ret (b_Filling_items_0 s0) hI hF ⟨_, rfl, by omega⟩
theorem c_Filling_leastSquares {L : Nat} {f : cg_G} {e : Nat × Nat} {a0 : Nat} (hI : cI L f) (s0 : sh_ a0 = 3)  : cE 21 [.ref a0] L e (fun o => False) f (fun v f' => ∃ x : Int32, v = some (.int x) ∧ (True)) := by
  refine cE_of (ls := [.ref a0]) rfl ?_
  have t0 := t_0
  have hF : cF (fun o => False) f f := cF_rf
  have t_1 : (nI 0).toInt = 0 := nI_toInt (by decide)
  have t_2 := t_rng (f (a0 + 2) (nI 0).toNatClampNeg)
  exact cT_ret (b_Filling_leastSquares_0 s0 (by rw [t_in]; omega)) hI hF ⟨_, rfl, trivial⟩
