theorem c_M_goes {L : Nat} {f : cg_G} {e : Nat × Nat} {a0 : Nat} {x1 : Int32} {x2 : Int32} (hI : cI L f) (s0 : sh_ a0 = 7)  : cE 46 [.ref a0, .int x1, .int x2] L e (fun o => o = a0) f (fun v f' => ∃ x : Int32, v = some (.int x) ∧ (x = 0 ∨ x = 1) ∧ ((x.toInt ≠ 0 ↔ x1.toInt ≠ 0 ∧ x2.toInt ≠ 0) ∧ (x1.toInt = 0 → (f' a0 2).toInt = 1) ∧ (x1.toInt ≠ 0 → x2.toInt = 0 → (f' a0 2).toInt = 2) ∧ (x1.toInt ≠ 0 → x2.toInt ≠ 0 → (f' a0 2).toInt = 0) ∧ ∀ k, k ≠ 2 → f' a0 k = f a0 k)) := by
  refine cE_of (ls := [.ref a0, .int x1, .int x2]) rfl ?_
  have t0 := t_0
  have hF : cF (fun o => o = a0) f f := cF_rf
  have hm := one_7 s0
  have t_1 := t_rng (x1)
  have t_2 := t_rng (x2)
  refine cT_if b_M_goes_0 (fun c_3 => ?_) (fun c_3 => ?_)
  · rw [t_eq] at c_3
    refine cT_go b_M_goes_5 ?_
    have t_7 : (nI 1).toInt = 1 := nI_toInt (by decide)
    have hI_5 := cI_up (k := 2) (x := nI 1) hI s0 ⟨(fun h => absurd h (by decide)), (fun h => absurd h (by decide)), (fun _ => by omega), (fun h => absurd h (by decide)), (fun h => absurd h (by decide)), (fun h => absurd h (by decide)), (fun h => absurd h (by decide)), (fun h => absurd h (by decide)), (fun h => absurd h (by decide)), (fun h => absurd h (by decide))⟩
    have hF_6 := cF_up (a := a0) (k := 2) (x := nI 1) hF (by omega)
    have t_9 : ((cg_up f a0 2 (nI 1)) a0 2).toInt = (nI 1).toInt := by rw [cg_up_s]
    refine cT_if (b_M_goes_18 s0 s0) (fun c_8 => ?_) (fun c_8 => ?_)
    · rw [t_eq] at c_8
      refine cT_go b_M_goes_28 ?_
      exact cT_ret (b_M_goes_33 (by decide)) hI_5 hF_6 ⟨_, rfl, (by decide), ⟨by omega, by omega, by omega, by omega, fun k hk => cg_up_k hk⟩⟩
    · rw [t_eq] at c_8
      refine cT_go b_M_goes_32 ?_
      have t_10 : (nI 0).toInt = 0 := nI_toInt (by decide)
      exact cT_ret (b_M_goes_33 (by decide)) hI_5 hF_6 ⟨_, rfl, (by decide), ⟨by omega, by omega, by omega, by omega, fun k hk => cg_up_k hk⟩⟩
  · rw [t_eq] at c_3
    refine cT_if b_M_goes_9 (fun c_11 => ?_) (fun c_11 => ?_)
    · rw [t_eq] at c_11
      refine cT_go b_M_goes_13 ?_
      have t_14 : (nI 2).toInt = 2 := nI_toInt (by decide)
      have hI_12 := cI_up (k := 2) (x := nI 2) hI s0 ⟨(fun h => absurd h (by decide)), (fun h => absurd h (by decide)), (fun _ => by omega), (fun h => absurd h (by decide)), (fun h => absurd h (by decide)), (fun h => absurd h (by decide)), (fun h => absurd h (by decide)), (fun h => absurd h (by decide)), (fun h => absurd h (by decide)), (fun h => absurd h (by decide))⟩
      have hF_13 := cF_up (a := a0) (k := 2) (x := nI 2) hF (by omega)
      have t_16 : ((cg_up f a0 2 (nI 2)) a0 2).toInt = (nI 2).toInt := by rw [cg_up_s]
      refine cT_if (b_M_goes_18 s0 s0) (fun c_15 => ?_) (fun c_15 => ?_)
      · rw [t_eq] at c_15
        refine cT_go b_M_goes_28 ?_
        have t_17 : (nI 1).toInt = 1 := nI_toInt (by decide)
        exact cT_ret (b_M_goes_33 (by decide)) hI_12 hF_13 ⟨_, rfl, (by decide), ⟨by omega, by omega, by omega, by omega, fun k hk => cg_up_k hk⟩⟩
      · rw [t_eq] at c_15
        refine cT_go b_M_goes_32 ?_
        have t_18 : (nI 0).toInt = 0 := nI_toInt (by decide)
        exact cT_ret (b_M_goes_33 (by decide)) hI_12 hF_13 ⟨_, rfl, (by decide), ⟨by omega, by omega, by omega, by omega, fun k hk => cg_up_k hk⟩⟩
    · rw [t_eq] at c_11
      refine cT_go b_M_goes_17 ?_
      have t_21 : (nI 0).toInt = 0 := nI_toInt (by decide)
      have hI_19 := cI_up (k := 2) (x := nI 0) hI s0 ⟨(fun h => absurd h (by decide)), (fun h => absurd h (by decide)), (fun _ => by omega), (fun h => absurd h (by decide)), (fun h => absurd h (by decide)), (fun h => absurd h (by decide)), (fun h => absurd h (by decide)), (fun h => absurd h (by decide)), (fun h => absurd h (by decide)), (fun h => absurd h (by decide))⟩
      have hF_20 := cF_up (a := a0) (k := 2) (x := nI 0) hF (by omega)
      have t_23 : ((cg_up f a0 2 (nI 0)) a0 2).toInt = (nI 0).toInt := by rw [cg_up_s]
      refine cT_if (b_M_goes_18 s0 s0) (fun c_22 => ?_) (fun c_22 => ?_)
      · rw [t_eq] at c_22
        refine cT_go b_M_goes_28 ?_
        have t_24 : (nI 1).toInt = 1 := nI_toInt (by decide)
        exact cT_ret (b_M_goes_33 (by decide)) hI_19 hF_20 ⟨_, rfl, (by decide), ⟨by omega, by omega, by omega, by omega, fun k hk => cg_up_k hk⟩⟩
      · rw [t_eq] at c_22
        refine cT_go b_M_goes_32 ?_
        exact cT_ret (b_M_goes_33 (by decide)) hI_19 hF_20 ⟨_, rfl, (by decide), ⟨by omega, by omega, by omega, by omega, fun k hk => cg_up_k hk⟩⟩
theorem c_M_below {L : Nat} {f : cg_G} {e : Nat × Nat} {x0 : Int32} {x1 : Int32} (hI : cI L f)   : cE 44 [.int x0, .int x1] L e (fun o => False) f (fun v f' => ∃ x : Int32, v = some (.int x) ∧ (x = 0 ∨ x = 1) ∧ (x.toInt ≠ 0 ↔ 0 ≤ x0.toInt ∧ x0.toInt < x1.toInt)) := by
  refine cE_of (ls := [.int x0, .int x1]) rfl ?_
  have t0 := t_0
  have hF : cF (fun o => False) f f := cF_rf
  have t_1 := t_rng (x0)
  have t_2 := t_rng (x1)
  refine cT_if b_M_below_0 (fun c_3 => ?_) (fun c_3 => ?_)
  · rw [t_lt] at c_3
    refine cT_go b_M_below_13 ?_
    have t_5 : (nI 0).toInt = 0 := nI_toInt (by decide)
    exact cT_ret (b_M_below_14 (by decide)) hI hF ⟨_, rfl, (by decide), by omega⟩
  · rw [t_lt] at c_3
    refine cT_if b_M_below_4 (fun c_6 => ?_) (fun c_6 => ?_)
    · rw [t_le] at c_6
      refine cT_go b_M_below_13 ?_
      have t_7 : (nI 0).toInt = 0 := nI_toInt (by decide)
      exact cT_ret (b_M_below_14 (by decide)) hI hF ⟨_, rfl, (by decide), by omega⟩
    · rw [t_le] at c_6
      refine cT_go b_M_below_9 ?_
      have t_8 : (nI 1).toInt = 1 := nI_toInt (by decide)
      exact cT_ret (b_M_below_14 (by decide)) hI hF ⟨_, rfl, (by decide), by omega⟩
theorem c_M_isEntry {L : Nat} {f : cg_G} {e : Nat × Nat} {a0 : Nat} {x1 : Int32} (hI : cI L f) (s0 : sh_ a0 = 7)  : cE 90 [.ref a0, .int x1] L e (fun o => False) f (fun v f' => ∃ x : Int32, v = some (.int x) ∧ (x = 0 ∨ x = 1) ∧ (x.toInt ≠ 0 ↔ 0 ≤ x1.toInt ∧ x1.toInt < (f a0 8).toInt)) := by
  refine cE_of (ls := [.ref a0, .int x1]) rfl ?_
  have t0 := t_0
  have hF : cF (fun o => False) f f := cF_rf
  have hm := one_7 s0
  have t_1 := t_rng (x1)
  have t_2 : 0 ≤ (f a0 8).toInt ∧ (f a0 8).toInt ≤ 8 := (cI_at hI 8 s0).2.2.2.2.2.1 rfl
  refine cT_call (b_M_isEntry_0 s0) (c_M_below hI) hF (fun o ho => ho.elim) (fun v_3 f_4 hI_5 hG_6 hF_7 hQ_8 => ?_)
  obtain rfl := cF_no hG_6
  obtain ⟨y_9, rfl, hb_10, hQ_8⟩ := hQ_8
  have hb_10r := t_rng y_9
  show cT 90 8 [.ref a0, .int x1] [.int y_9] _ _ _ _ _ _
  exact cT_ret (b_M_isEntry_8 hb_10) hI hF ⟨_, rfl, hb_10, by omega⟩
theorem c_M_isLetter {L : Nat} {f : cg_G} {e : Nat × Nat} {x0 : Int32} (hI : cI L f)   : cE 49 [.int x0] L e (fun o => False) f (fun v f' => ∃ x : Int32, v = some (.int x) ∧ (x = 0 ∨ x = 1) ∧ (x.toInt ≠ 0 ↔ 97 ≤ x0.toInt ∧ x0.toInt ≤ 122)) := by
  refine cE_of (ls := [.int x0]) rfl ?_
  have t0 := t_0
  have hF : cF (fun o => False) f f := cF_rf
  have t_1 := t_rng (x0)
  have t_3 : (nI 97).toInt = 97 := nI_toInt (by decide)
  refine cT_if b_M_isLetter_0 (fun c_2 => ?_) (fun c_2 => ?_)
  · rw [t_lt] at c_2
    refine cT_go b_M_isLetter_16 ?_
    have t_4 : (nI 0).toInt = 0 := nI_toInt (by decide)
    exact cT_ret (b_M_isLetter_17 (by decide)) hI hF ⟨_, rfl, (by decide), by omega⟩
  · rw [t_lt] at c_2
    have t_6 : (nI 122).toInt = 122 := nI_toInt (by decide)
    refine cT_if b_M_isLetter_6 (fun c_5 => ?_) (fun c_5 => ?_)
    · rw [t_lt] at c_5
      refine cT_go b_M_isLetter_16 ?_
      have t_7 : (nI 0).toInt = 0 := nI_toInt (by decide)
      exact cT_ret (b_M_isLetter_17 (by decide)) hI hF ⟨_, rfl, (by decide), by omega⟩
    · rw [t_lt] at c_5
      refine cT_go b_M_isLetter_12 ?_
      have t_8 : (nI 1).toInt = 1 := nI_toInt (by decide)
      exact cT_ret (b_M_isLetter_17 (by decide)) hI hF ⟨_, rfl, (by decide), by omega⟩
theorem l_M_signsOf_4 {L : Nat} {e : Nat × Nat} {f0 : cg_G} : ∀ (k : Nat) {f : cg_G} {x0 : Int32} {x1 : Int32} {x2 : Int32}, (4 - x2.toInt).toNat < k → cI L f → cF (fun o => False) f0 f → (0 ≤ x2.toInt ∧ x2.toInt ≤ 4) → (0 ≤ x1.toInt ∧ x1.toInt ≤ x2.toInt) → (x1.toInt = (cnz x0 x2.toNatClampNeg : Nat)) → cT 53 4 [.int x0, .int x1, .int x2] [] L e (fun o => False) f0 f (fun v f' => ∃ x : Int32, v = some (.int x) ∧ (x.toInt = (cnz x0 4 : Nat) ∧ x.toInt ≤ 4)) := by
  intro k
  induction k with
  | zero => intro f x0 x1 x2 hm; omega
  | succ k ih =>
    intro f x0 x1 x2 hme hI hF  i2 i0 i1
    have t0 := t_0
    have t_1 := t_rng (x0)
    have t_2 := t_rng (x1)
    have t_3 := t_rng (x2)
    have t_5 : (nI 4).toInt = 4 := nI_toInt (by decide)
    refine cT_if b_M_signsOf_4 (fun c_4 => ?_) (fun c_4 => ?_)
    · rw [t_le] at c_4
      exact cT_ret b_M_signsOf_36 hI hF ⟨_, rfl, ⟨by rw [← cl4 (show x2.toInt = 4 by omega)]; exact i1, by omega⟩⟩
    · rw [t_le] at c_4
      have t_7 := t_rng (((x0.toUInt32 >>> (((nI 8) * x2).toUInt32 &&& Int32.toUInt32 31)).toInt32) &&& (nI 255))
      refine cT_if b_M_signsOf_9 (fun c_6 => ?_) (fun c_6 => ?_)
      · rw [t_eq] at c_6
        refine cT_go b_M_signsOf_22 ?_
        refine cT_go b_M_signsOf_29 ?_
        have t_10 : (nI 1).toInt = 1 := nI_toInt (by decide)
        first | have t_9 : (x2 + (nI 1)).toInt = (x2).toInt + ((nI 1)).toInt := t_addn (by omega) | obtain ⟨kt_9, t_9⟩ := t_add x2 (nI 1)
        exact ih (by omega) hI hF (by omega) (by omega) (by first | (rw [cnz_0]; omega) | (rw [cnz_s (by omega)]; split <;> omega) | (rw [cnz_s (by omega)]; unfold byt; split <;> omega))
      · rw [t_eq] at c_6
        refine cT_go b_M_signsOf_26 ?_
        refine cT_go b_M_signsOf_29 ?_
        have t_12 : (nI 1).toInt = 1 := nI_toInt (by decide)
        first | have t_11 : (x1 + ((nI 1))).toInt = (x1).toInt + (((nI 1))).toInt := t_addn (by omega) | obtain ⟨kt_11, t_11⟩ := t_add x1 ((nI 1))
        first | have t_13 : (x2 + (nI 1)).toInt = (x2).toInt + ((nI 1)).toInt := t_addn (by omega) | obtain ⟨kt_13, t_13⟩ := t_add x2 (nI 1)
        exact ih (by omega) hI hF (by omega) (by omega) (by first | (rw [cnz_0]; omega) | (rw [cnz_s (by omega)]; split <;> omega) | (rw [cnz_s (by omega)]; unfold byt; split <;> omega))
theorem c_M_signsOf {L : Nat} {f : cg_G} {e : Nat × Nat} {x0 : Int32} (hI : cI L f)   : cE 53 [.int x0] L e (fun o => False) f (fun v f' => ∃ x : Int32, v = some (.int x) ∧ (x.toInt = (cnz x0 4 : Nat) ∧ x.toInt ≤ 4)) := by
  refine cE_of (ls := [.int x0, (.retAddr 0), (.retAddr 0)]) rfl ?_
  have t0 := t_0
  have hF : cF (fun o => False) f f := cF_rf
  have t_14 := t_rng (x0)
  refine cT_go b_M_signsOf_0 ?_
  have t_15 : (nI 0).toInt = 0 := nI_toInt (by decide)
  exact l_M_signsOf_4 ((4 - (nI 0).toInt).toNat + 1) (by omega) hI hF (by omega) (by omega) (by first | (rw [cnz_0]; omega) | (rw [cnz_s (by omega)]; split <;> omega) | (rw [cnz_s (by omega)]; unfold byt; split <;> omega))
theorem l_M_arePlain_4 {L : Nat} {e : Nat × Nat} {f0 : cg_G} : ∀ (k : Nat) {f : cg_G} {x0 : Int32} {x1 : Int32} {x2 : Int32} {u3 : Value}, (4 - x2.toInt).toNat < k → cI L f → cF (fun o => False) f0 f → (0 ≤ x2.toInt ∧ x2.toInt ≤ 4) → (0 ≤ x1.toInt ∧ x1.toInt ≤ 1) → (x1.toInt ≠ 0 ↔ cbd x0 x2.toNatClampNeg = 0) → cT 43 4 [.int x0, .int x1, .int x2, u3] [] L e (fun o => False) f0 f (fun v f' => ∃ x : Int32, v = some (.int x) ∧ (x = 0 ∨ x = 1) ∧ (x.toInt ≠ 0 ↔ cbd x0 4 = 0)) := by
  intro k
  induction k with
  | zero => intro f x0 x1 x2 u3 hm; omega
  | succ k ih =>
    intro f x0 x1 x2 u3 hme hI hF  i2 i1 i3
    have t0 := t_0
    have t_1 := t_rng (x0)
    have t_2 := t_rng (x1)
    have t_3 := t_rng (x2)
    have t_5 : (nI 4).toInt = 4 := nI_toInt (by decide)
    refine cT_if b_M_arePlain_4 (fun c_4 => ?_) (fun c_4 => ?_)
    · rw [t_le] at c_4
      exact cT_ret (b_M_arePlain_52 (t_bool (by omega) (by omega))) hI hF ⟨_, rfl, (t_bool (by omega) (by omega)), by rw [← cl4 (show x2.toInt = 4 by omega)]; omega⟩
    · rw [t_le] at c_4
      refine cT_if b_M_arePlain_9 (fun c_6 => ?_) (fun c_6 => ?_)
      · rw [t_eq] at c_6
        refine cT_go b_M_arePlain_44 ?_
        refine cT_go b_M_arePlain_45 ?_
        have t_8 : (nI 0).toInt = 0 := nI_toInt (by decide)
        have t_10 : (nI 1).toInt = 1 := nI_toInt (by decide)
        first | have t_9 : (x2 + (nI 1)).toInt = (x2).toInt + ((nI 1)).toInt := t_addn (by omega) | obtain ⟨kt_9, t_9⟩ := t_add x2 (nI 1)
        have t_11 := t_rng (((x0.toUInt32 >>> (((nI 8) * x2).toUInt32 &&& Int32.toUInt32 31)).toInt32) &&& (nI 255))
        exact ih (by omega) hI hF (by omega) (by omega) (by first | exact cbd_0 | (rw [cbd_0]; omega) | (rw [cbd_s (by omega)]; split <;> omega) | (rw [cbd_s (by omega)]; unfold byt; split <;> omega))
      · rw [t_eq] at c_6
        have t_13 := t_rng (((x0.toUInt32 >>> (((nI 8) * x2).toUInt32 &&& Int32.toUInt32 31)).toInt32) &&& (nI 255))
        refine cT_if b_M_arePlain_24 (fun c_12 => ?_) (fun c_12 => ?_)
        · rw [t_eq] at c_12
          refine cT_go b_M_arePlain_40 ?_
          refine cT_go b_M_arePlain_45 ?_
          have t_14 : (nI 1).toInt = 1 := nI_toInt (by decide)
          first | have t_15 : (x2 + (nI 1)).toInt = (x2).toInt + ((nI 1)).toInt := t_addn (by omega) | obtain ⟨kt_15, t_15⟩ := t_add x2 (nI 1)
          exact ih (by omega) hI hF (by omega) (by omega) (by first | exact cbd_0 | (rw [cbd_0]; omega) | (rw [cbd_s (by omega)]; split <;> omega) | (rw [cbd_s (by omega)]; unfold byt; split <;> omega))
        · rw [t_eq] at c_12
          have t_17 : (nI 32).toInt = 32 := nI_toInt (by decide)
          refine cT_if b_M_arePlain_28 (fun c_16 => ?_) (fun c_16 => ?_)
          · rw [t_lt] at c_16
            refine cT_go b_M_arePlain_44 ?_
            refine cT_go b_M_arePlain_45 ?_
            have t_18 : (nI 0).toInt = 0 := nI_toInt (by decide)
            have t_20 : (nI 1).toInt = 1 := nI_toInt (by decide)
            first | have t_19 : (x2 + (nI 1)).toInt = (x2).toInt + ((nI 1)).toInt := t_addn (by omega) | obtain ⟨kt_19, t_19⟩ := t_add x2 (nI 1)
            exact ih (by omega) hI hF (by omega) (by omega) (by first | exact cbd_0 | (rw [cbd_0]; omega) | (rw [cbd_s (by omega)]; split <;> omega) | (rw [cbd_s (by omega)]; unfold byt; split <;> omega))
          · rw [t_lt] at c_16
            have t_22 : (nI 126).toInt = 126 := nI_toInt (by decide)
            refine cT_if b_M_arePlain_34 (fun c_21 => ?_) (fun c_21 => ?_)
            · rw [t_lt] at c_21
              refine cT_go b_M_arePlain_44 ?_
              refine cT_go b_M_arePlain_45 ?_
              have t_23 : (nI 0).toInt = 0 := nI_toInt (by decide)
              have t_25 : (nI 1).toInt = 1 := nI_toInt (by decide)
              first | have t_24 : (x2 + (nI 1)).toInt = (x2).toInt + ((nI 1)).toInt := t_addn (by omega) | obtain ⟨kt_24, t_24⟩ := t_add x2 (nI 1)
              exact ih (by omega) hI hF (by omega) (by omega) (by first | exact cbd_0 | (rw [cbd_0]; omega) | (rw [cbd_s (by omega)]; split <;> omega) | (rw [cbd_s (by omega)]; unfold byt; split <;> omega))
            · rw [t_lt] at c_21
              refine cT_go b_M_arePlain_40 ?_
              refine cT_go b_M_arePlain_45 ?_
              have t_26 : (nI 1).toInt = 1 := nI_toInt (by decide)
              first | have t_27 : (x2 + (nI 1)).toInt = (x2).toInt + ((nI 1)).toInt := t_addn (by omega) | obtain ⟨kt_27, t_27⟩ := t_add x2 (nI 1)
              exact ih (by omega) hI hF (by omega) (by omega) (by first | exact cbd_0 | (rw [cbd_0]; omega) | (rw [cbd_s (by omega)]; split <;> omega) | (rw [cbd_s (by omega)]; unfold byt; split <;> omega))
theorem c_M_arePlain {L : Nat} {f : cg_G} {e : Nat × Nat} {x0 : Int32} (hI : cI L f)   : cE 43 [.int x0] L e (fun o => False) f (fun v f' => ∃ x : Int32, v = some (.int x) ∧ (x = 0 ∨ x = 1) ∧ (x.toInt ≠ 0 ↔ cbd x0 4 = 0)) := by
  refine cE_of (ls := [.int x0, (.retAddr 0), (.retAddr 0), (.retAddr 0)]) rfl ?_
  have t0 := t_0
  have hF : cF (fun o => False) f f := cF_rf
  have t_28 := t_rng (x0)
  refine cT_go b_M_arePlain_0 ?_
  have t_29 : (nI 1).toInt = 1 := nI_toInt (by decide)
  have t_30 : (nI 0).toInt = 0 := nI_toInt (by decide)
  exact l_M_arePlain_4 ((4 - (nI 0).toInt).toNat + 1) (by omega) hI hF (by omega) (by omega) (by first | exact cbd_0 | (rw [cbd_0]; omega) | (rw [cbd_s (by omega)]; split <;> omega) | (rw [cbd_s (by omega)]; unfold byt; split <;> omega))
theorem c_M_thrown {L : Nat} {f : cg_G} {e : Nat × Nat} {a0 : Nat} (hI : cI L f) (s0 : sh_ a0 = 7)  : cE 56 [.ref a0] L e (fun o => False) f (fun v f' => ∃ x : Int32, v = some (.int x) ∧ (x = f a0 2)) := by
  refine cE_of (ls := [.ref a0]) rfl ?_
  have t0 := t_0
  have hF : cF (fun o => False) f f := cF_rf
  have hm := one_7 s0
  have t_1 : 0 ≤ (f a0 2).toInt ∧ (f a0 2).toInt ≤ 2 := (cI_at hI 2 s0).2.2.1 rfl
  exact cT_ret (b_M_thrown_0 s0) hI hF ⟨_, rfl, rfl⟩
theorem c_M_entry {L : Nat} {f : cg_G} {e : Nat × Nat} {a0 : Nat} {x1 : Int32} (hI : cI L f) (s0 : sh_ a0 = 7)  : cE 87 [.ref a0, .int x1] L e (fun o => o = a0 ∨ o = a0 + 4) f (fun v f' => ∃ x : Int32, v = some (.int x) ∧ (((¬ (0 ≤ x1.toInt ∧ x1.toInt < (f a0 5).toInt) ∧ (f' a0 2).toInt = 1) ∨ ((0 ≤ x1.toInt ∧ x1.toInt < (f a0 5).toInt) ∧ 8 ≤ (f a0 8).toInt ∧ (f' a0 2).toInt = 2)) ∧ f' (a0 + 4) = f (a0 + 4) ∧ (∀ k, k ≠ 2 → f' a0 k = f a0 k) ∨ ((0 ≤ x1.toInt ∧ x1.toInt < (f a0 5).toInt) ∧ (f a0 8).toInt < 8 ∧ (f' a0 2).toInt = 0 ∧ x.toInt = (f a0 8).toInt ∧ (f' a0 8).toInt = (f a0 8).toInt + 1) ∧ f' (a0 + 4) = cj_up (f (a0 + 4)) (f a0 8).toNatClampNeg x1 ∧ (∀ k, k ≠ 2 → k ≠ 8 → f' a0 k = f a0 k))) := by
  refine cE_of (ls := [.ref a0, .int x1]) rfl ?_
  have t0 := t_0
  have hF : cF (fun o => o = a0 ∨ o = a0 + 4) f f := cF_rf
  have hm := one_7 s0
  have t_1 := t_rng (x1)
  have t_2 : 0 ≤ (f a0 5).toInt ∧ (f a0 5).toInt ≤ 6 := (cI_at hI 5 s0).2.2.2.2.1 rfl
  refine cT_call (b_M_entry_0 s0) (c_M_below hI) hF (fun o ho => ho.elim) (fun v_3 f_4 hI_5 hG_6 hF_7 hQ_8 => ?_)
  obtain rfl := cF_no hG_6
  obtain ⟨y_9, rfl, hb_10, hQ_8⟩ := hQ_8
  have hb_10r := t_rng y_9
  show cT 87 9 [.ref a0, .int x1] [.int y_9, .ref a0] _ _ _ _ _ _
  have t_12 : (nI 8).toInt = 8 := nI_toInt (by decide)
  have t_13 : 0 ≤ (f a0 8).toInt ∧ (f a0 8).toInt ≤ 8 := (cI_at hI 8 s0).2.2.2.2.2.1 rfl
  refine cT_if (b_M_entry_9 s0) (fun c_11 => ?_) (fun c_11 => ?_)
  · rw [t_le] at c_11
    refine cT_go b_M_entry_22 ?_
    have t_14 : (nI 0).toInt = 0 := nI_toInt (by decide)
    refine cT_call (b_M_entry_23 s0) (c_M_goes hI s0) hF (fun o ho => by omega) (fun v_15 f_16 hI_17 hG_18 hF_19 hQ_20 => ?_)
    obtain ⟨y_21, rfl, hb_22, hQ_20⟩ := hQ_20
    have hb_22r := t_rng y_21
    have t_23 : 3 ≤ (f a0 1).toInt ∧ (f a0 1).toInt ≤ 30 := (cI_at hI 1 s0).2.1 rfl
    have t_24 : 0 ≤ (f a0 3).toInt ∧ (f a0 3).toInt ≤ 32 := (cI_at hI 3 s0).2.2.2.1 rfl
    have t_25 : 0 ≤ (f a0 14).toInt ∧ (f a0 14).toInt ≤ 26 := (cI_at hI 14 s0).2.2.2.2.2.2.1 rfl
    have t_26 : -1 ≤ (f a0 23).toInt ∧ (f a0 23).toInt ≤ 1 := (cI_at hI 23 s0).2.2.2.2.2.2.2.2.2 rfl
    have g_27 : (f_16 a0 1).toInt = (f a0 1).toInt := congrArg Int32.toInt (hQ_20.2.2.2.2 1 (by decide))
    have g_28 : (f_16 a0 3).toInt = (f a0 3).toInt := congrArg Int32.toInt (hQ_20.2.2.2.2 3 (by decide))
    have g_29 : (f_16 a0 5).toInt = (f a0 5).toInt := congrArg Int32.toInt (hQ_20.2.2.2.2 5 (by decide))
    have g_30 : (f_16 a0 8).toInt = (f a0 8).toInt := congrArg Int32.toInt (hQ_20.2.2.2.2 8 (by decide))
    have g_31 : (f_16 a0 14).toInt = (f a0 14).toInt := congrArg Int32.toInt (hQ_20.2.2.2.2 14 (by decide))
    have g_32 : (f_16 a0 23).toInt = (f a0 23).toInt := congrArg Int32.toInt (hQ_20.2.2.2.2 23 (by decide))
    have hr4 : f_16 (a0 + 4) = f (a0 + 4) := hG_18 (a0 + 4) (by omega)
    have hk : ∀ k, k ≠ 2 → f_16 a0 k = f a0 k := hQ_20.2.2.2.2
    show cT 87 26 [.ref a0, .int x1] [.int y_21] _ _ _ _ _ _
    refine cT_if b_M_entry_26 (fun c_33 => ?_) (fun c_33 => ?_)
    · rw [t_eq] at c_33
      have t_35 : 0 ≤ (f_16 a0 2).toInt ∧ (f_16 a0 2).toInt ≤ 2 := (cI_at hI_17 2 s0).2.2.1 rfl
      have t_36 : 0 ≤ (f_16 a0 8).toInt ∧ (f_16 a0 8).toInt ≤ 8 := (cI_at hI_17 8 s0).2.2.2.2.2.1 rfl
      exact cT_ret b_M_entry_29 hI_17 hF_19 ⟨_, rfl, by first | exact Or.inl ⟨by omega, hr4, hk⟩ | exact Or.inr ⟨by omega, by rw [cg_up_o (by omega), cg_up_row, hr4, hk 8 (by decide)], fun k h2 h8 => by rw [cg_up_k h8, cg_up_o (by omega)]; exact hk k h2⟩⟩
    · rw [t_eq] at c_33
      have hI_37 := cI_up (k := (f_16 a0 8).toNatClampNeg) (x := x1) hI_17 (sc_7_9 s0) ⟨(fun _ => by omega), (fun _ => by omega), (fun _ => by omega), (fun _ => by omega), (fun _ => by omega), (fun _ => by omega), (fun _ => by omega), (fun _ => by omega), (fun _ => by omega), (fun _ => by omega), (fun _ => by omega), (fun _ => by omega), (fun _ => by omega)⟩
      have hF_38 := cF_up (a := a0 + 4) (k := (f_16 a0 8).toNatClampNeg) (x := x1) hF_19 (by omega)
      have t_42 : ((cg_up f_16 (a0 + 4) (f_16 a0 8).toNatClampNeg x1) a0 8).toInt = (f_16 a0 8).toInt := by rw [cg_up_o (ne_sh s0 (sc_7_9 s0) (by decide))]
      have t_43 : 0 ≤ (f_16 a0 8).toInt ∧ (f_16 a0 8).toInt ≤ 8 := (cI_at hI_17 8 s0).2.2.2.2.2.1 rfl
      have t_44 : (nI 1).toInt = 1 := nI_toInt (by decide)
      first | have t_41 : ((((cg_up f_16 (a0 + 4) (f_16 a0 8).toNatClampNeg x1) a0 8)) + ((nI 1))).toInt = ((((cg_up f_16 (a0 + 4) (f_16 a0 8).toNatClampNeg x1) a0 8))).toInt + (((nI 1))).toInt := t_addn (by omega) | obtain ⟨kt_41, t_41⟩ := t_add (((cg_up f_16 (a0 + 4) (f_16 a0 8).toNatClampNeg x1) a0 8)) ((nI 1))
      have hI_39 := cI_up (k := 8) (x := ((cg_up f_16 (a0 + 4) (f_16 a0 8).toNatClampNeg x1) a0 8) + (nI 1)) hI_37 s0 ⟨(fun h => absurd h (by decide)), (fun h => absurd h (by decide)), (fun h => absurd h (by decide)), (fun h => absurd h (by decide)), (fun h => absurd h (by decide)), (fun _ => by omega), (fun h => absurd h (by decide)), (fun h => absurd h (by decide)), (fun h => absurd h (by decide)), (fun h => absurd h (by decide))⟩
      have hF_40 := cF_up (a := a0) (k := 8) (x := ((cg_up f_16 (a0 + 4) (f_16 a0 8).toNatClampNeg x1) a0 8) + (nI 1)) hF_38 (by omega)
      have t_45 : ((cg_up (cg_up f_16 (a0 + 4) (f_16 a0 8).toNatClampNeg x1) a0 8 (((cg_up f_16 (a0 + 4) (f_16 a0 8).toNatClampNeg x1) a0 8) + (nI 1))) a0 2).toInt = ((cg_up f_16 (a0 + 4) (f_16 a0 8).toNatClampNeg x1) a0 2).toInt := by rw [cg_up_k (by decide)]
      have t_46 : ((cg_up f_16 (a0 + 4) (f_16 a0 8).toNatClampNeg x1) a0 2).toInt = (f_16 a0 2).toInt := by rw [cg_up_o (ne_sh s0 (sc_7_9 s0) (by decide))]
      have t_47 : 0 ≤ (f_16 a0 2).toInt ∧ (f_16 a0 2).toInt ≤ 2 := (cI_at hI_17 2 s0).2.2.1 rfl
      have t_48 : ((cg_up (cg_up f_16 (a0 + 4) (f_16 a0 8).toNatClampNeg x1) a0 8 (((cg_up f_16 (a0 + 4) (f_16 a0 8).toNatClampNeg x1) a0 8) + (nI 1))) a0 8).toInt = (((cg_up f_16 (a0 + 4) (f_16 a0 8).toNatClampNeg x1) a0 8) + (nI 1)).toInt := by rw [cg_up_s]
      first | have t_49 : ((((cg_up (cg_up f_16 (a0 + 4) (f_16 a0 8).toNatClampNeg x1) a0 8 (((cg_up f_16 (a0 + 4) (f_16 a0 8).toNatClampNeg x1) a0 8) + (nI 1))) a0 8)) - ((nI 1))).toInt = ((((cg_up (cg_up f_16 (a0 + 4) (f_16 a0 8).toNatClampNeg x1) a0 8 (((cg_up f_16 (a0 + 4) (f_16 a0 8).toNatClampNeg x1) a0 8) + (nI 1))) a0 8))).toInt - (((nI 1))).toInt := t_subn (by omega) | obtain ⟨kt_49, t_49⟩ := t_sub (((cg_up (cg_up f_16 (a0 + 4) (f_16 a0 8).toNatClampNeg x1) a0 8 (((cg_up f_16 (a0 + 4) (f_16 a0 8).toNatClampNeg x1) a0 8) + (nI 1))) a0 8)) ((nI 1))
      exact cT_ret (b_M_entry_31 s0 (by rw [t_in]; omega)) hI_39 hF_40 ⟨_, rfl, by first | exact Or.inl ⟨by omega, hr4, hk⟩ | exact Or.inr ⟨by omega, by rw [cg_up_o (by omega), cg_up_row, hr4, hk 8 (by decide)], fun k h2 h8 => by rw [cg_up_k h8, cg_up_o (by omega)]; exact hk k h2⟩⟩
  · rw [t_le] at c_11
    refine cT_go b_M_entry_18 ?_
    have t_50 : (nI 1).toInt = 1 := nI_toInt (by decide)
    refine cT_call (b_M_entry_23 s0) (c_M_goes hI s0) hF (fun o ho => by omega) (fun v_51 f_52 hI_53 hG_54 hF_55 hQ_56 => ?_)
    obtain ⟨y_57, rfl, hb_58, hQ_56⟩ := hQ_56
    have hb_58r := t_rng y_57
    have t_59 : 3 ≤ (f a0 1).toInt ∧ (f a0 1).toInt ≤ 30 := (cI_at hI 1 s0).2.1 rfl
    have t_60 : 0 ≤ (f a0 3).toInt ∧ (f a0 3).toInt ≤ 32 := (cI_at hI 3 s0).2.2.2.1 rfl
    have t_61 : 0 ≤ (f a0 14).toInt ∧ (f a0 14).toInt ≤ 26 := (cI_at hI 14 s0).2.2.2.2.2.2.1 rfl
    have t_62 : -1 ≤ (f a0 23).toInt ∧ (f a0 23).toInt ≤ 1 := (cI_at hI 23 s0).2.2.2.2.2.2.2.2.2 rfl
    have g_63 : (f_52 a0 1).toInt = (f a0 1).toInt := congrArg Int32.toInt (hQ_56.2.2.2.2 1 (by decide))
    have g_64 : (f_52 a0 3).toInt = (f a0 3).toInt := congrArg Int32.toInt (hQ_56.2.2.2.2 3 (by decide))
    have g_65 : (f_52 a0 5).toInt = (f a0 5).toInt := congrArg Int32.toInt (hQ_56.2.2.2.2 5 (by decide))
    have g_66 : (f_52 a0 8).toInt = (f a0 8).toInt := congrArg Int32.toInt (hQ_56.2.2.2.2 8 (by decide))
    have g_67 : (f_52 a0 14).toInt = (f a0 14).toInt := congrArg Int32.toInt (hQ_56.2.2.2.2 14 (by decide))
    have g_68 : (f_52 a0 23).toInt = (f a0 23).toInt := congrArg Int32.toInt (hQ_56.2.2.2.2 23 (by decide))
    have hr4 : f_52 (a0 + 4) = f (a0 + 4) := hG_54 (a0 + 4) (by omega)
    have hk : ∀ k, k ≠ 2 → f_52 a0 k = f a0 k := hQ_56.2.2.2.2
    show cT 87 26 [.ref a0, .int x1] [.int y_57] _ _ _ _ _ _
    refine cT_if b_M_entry_26 (fun c_69 => ?_) (fun c_69 => ?_)
    · rw [t_eq] at c_69
      have t_71 : 0 ≤ (f_52 a0 2).toInt ∧ (f_52 a0 2).toInt ≤ 2 := (cI_at hI_53 2 s0).2.2.1 rfl
      have t_72 : 0 ≤ (f_52 a0 8).toInt ∧ (f_52 a0 8).toInt ≤ 8 := (cI_at hI_53 8 s0).2.2.2.2.2.1 rfl
      have t_73 : (nI 0).toInt = 0 := nI_toInt (by decide)
      exact cT_ret b_M_entry_29 hI_53 hF_55 ⟨_, rfl, by first | exact Or.inl ⟨by omega, hr4, hk⟩ | exact Or.inr ⟨by omega, by rw [cg_up_o (by omega), cg_up_row, hr4, hk 8 (by decide)], fun k h2 h8 => by rw [cg_up_k h8, cg_up_o (by omega)]; exact hk k h2⟩⟩
    · rw [t_eq] at c_69
      have hI_74 := cI_up (k := (f_52 a0 8).toNatClampNeg) (x := x1) hI_53 (sc_7_9 s0) ⟨(fun _ => by omega), (fun _ => by omega), (fun _ => by omega), (fun _ => by omega), (fun _ => by omega), (fun _ => by omega), (fun _ => by omega), (fun _ => by omega), (fun _ => by omega), (fun _ => by omega), (fun _ => by omega), (fun _ => by omega), (fun _ => by omega)⟩
      have hF_75 := cF_up (a := a0 + 4) (k := (f_52 a0 8).toNatClampNeg) (x := x1) hF_55 (by omega)
      have t_79 : ((cg_up f_52 (a0 + 4) (f_52 a0 8).toNatClampNeg x1) a0 8).toInt = (f_52 a0 8).toInt := by rw [cg_up_o (ne_sh s0 (sc_7_9 s0) (by decide))]
      have t_80 : 0 ≤ (f_52 a0 8).toInt ∧ (f_52 a0 8).toInt ≤ 8 := (cI_at hI_53 8 s0).2.2.2.2.2.1 rfl
      first | have t_78 : ((((cg_up f_52 (a0 + 4) (f_52 a0 8).toNatClampNeg x1) a0 8)) + ((nI 1))).toInt = ((((cg_up f_52 (a0 + 4) (f_52 a0 8).toNatClampNeg x1) a0 8))).toInt + (((nI 1))).toInt := t_addn (by omega) | obtain ⟨kt_78, t_78⟩ := t_add (((cg_up f_52 (a0 + 4) (f_52 a0 8).toNatClampNeg x1) a0 8)) ((nI 1))
      have hI_76 := cI_up (k := 8) (x := ((cg_up f_52 (a0 + 4) (f_52 a0 8).toNatClampNeg x1) a0 8) + (nI 1)) hI_74 s0 ⟨(fun h => absurd h (by decide)), (fun h => absurd h (by decide)), (fun h => absurd h (by decide)), (fun h => absurd h (by decide)), (fun h => absurd h (by decide)), (fun _ => by omega), (fun h => absurd h (by decide)), (fun h => absurd h (by decide)), (fun h => absurd h (by decide)), (fun h => absurd h (by decide))⟩
      have hF_77 := cF_up (a := a0) (k := 8) (x := ((cg_up f_52 (a0 + 4) (f_52 a0 8).toNatClampNeg x1) a0 8) + (nI 1)) hF_75 (by omega)
      have t_81 : ((cg_up (cg_up f_52 (a0 + 4) (f_52 a0 8).toNatClampNeg x1) a0 8 (((cg_up f_52 (a0 + 4) (f_52 a0 8).toNatClampNeg x1) a0 8) + (nI 1))) a0 2).toInt = ((cg_up f_52 (a0 + 4) (f_52 a0 8).toNatClampNeg x1) a0 2).toInt := by rw [cg_up_k (by decide)]
      have t_82 : ((cg_up f_52 (a0 + 4) (f_52 a0 8).toNatClampNeg x1) a0 2).toInt = (f_52 a0 2).toInt := by rw [cg_up_o (ne_sh s0 (sc_7_9 s0) (by decide))]
      have t_83 : 0 ≤ (f_52 a0 2).toInt ∧ (f_52 a0 2).toInt ≤ 2 := (cI_at hI_53 2 s0).2.2.1 rfl
      have t_84 : ((cg_up (cg_up f_52 (a0 + 4) (f_52 a0 8).toNatClampNeg x1) a0 8 (((cg_up f_52 (a0 + 4) (f_52 a0 8).toNatClampNeg x1) a0 8) + (nI 1))) a0 8).toInt = (((cg_up f_52 (a0 + 4) (f_52 a0 8).toNatClampNeg x1) a0 8) + (nI 1)).toInt := by rw [cg_up_s]
      first | have t_85 : ((((cg_up (cg_up f_52 (a0 + 4) (f_52 a0 8).toNatClampNeg x1) a0 8 (((cg_up f_52 (a0 + 4) (f_52 a0 8).toNatClampNeg x1) a0 8) + (nI 1))) a0 8)) - ((nI 1))).toInt = ((((cg_up (cg_up f_52 (a0 + 4) (f_52 a0 8).toNatClampNeg x1) a0 8 (((cg_up f_52 (a0 + 4) (f_52 a0 8).toNatClampNeg x1) a0 8) + (nI 1))) a0 8))).toInt - (((nI 1))).toInt := t_subn (by omega) | obtain ⟨kt_85, t_85⟩ := t_sub (((cg_up (cg_up f_52 (a0 + 4) (f_52 a0 8).toNatClampNeg x1) a0 8 (((cg_up f_52 (a0 + 4) (f_52 a0 8).toNatClampNeg x1) a0 8) + (nI 1))) a0 8)) ((nI 1))
      exact cT_ret (b_M_entry_31 s0 (by rw [t_in]; omega)) hI_76 hF_77 ⟨_, rfl, by first | exact Or.inl ⟨by omega, hr4, hk⟩ | exact Or.inr ⟨by omega, by rw [cg_up_o (by omega), cg_up_row, hr4, hk 8 (by decide)], fun k h2 h8 => by rw [cg_up_k h8, cg_up_o (by omega)]; exact hk k h2⟩⟩
theorem c_M_claim {L : Nat} {f : cg_G} {e : Nat × Nat} {a0 : Nat} {x1 : Int32} {x2 : Int32} {x3 : Int32} (hI : cI L f) (s0 : sh_ a0 = 7)  : cE 115 [.ref a0, .int x1, .int x2, .int x3] L e (fun o => o = a0 ∨ o = a0 + 8) f (fun v f' => ∃ x : Int32, v = some (.int x) ∧ (((¬ (0 ≤ x1.toInt ∧ x1.toInt < (f a0 8).toInt ∧ 0 ≤ x2.toInt ∧ x2.toInt < 4) ∧ (f' a0 2).toInt = 1) ∨ ((0 ≤ x1.toInt ∧ x1.toInt < (f a0 8).toInt ∧ 0 ≤ x2.toInt ∧ x2.toInt < 4) ∧ ¬ (-1 ≤ x3.toInt ∧ x3.toInt ≤ 1) ∧ (f' a0 2).toInt = 2)) ∧ f' (a0 + 8) = f (a0 + 8) ∧ (∀ k, k ≠ 2 → f' a0 k = f a0 k) ∨ ((0 ≤ x1.toInt ∧ x1.toInt < (f a0 8).toInt ∧ 0 ≤ x2.toInt ∧ x2.toInt < 4) ∧ (-1 ≤ x3.toInt ∧ x3.toInt ≤ 1) ∧ (f' a0 2).toInt = 0) ∧ x = f (a0 + 8) (nI 4 * x1 + x2).toNatClampNeg ∧ f' (a0 + 8) = cj_up (f (a0 + 8)) (nI 4 * x1 + x2).toNatClampNeg x3 ∧ (∀ k, k ≠ 2 → f' a0 k = f a0 k))) := by
  refine cE_of (ls := [.ref a0, .int x1, .int x2, .int x3, (.retAddr 0)]) rfl ?_
  have t0 := t_0
  have hF : cF (fun o => o = a0 ∨ o = a0 + 8) f f := cF_rf
  have hm := one_7 s0
  have t_1 := t_rng (x1)
  have t_2 := t_rng (x2)
  have t_3 := t_rng (x3)
  refine cT_call (b_M_claim_0 s0) (c_M_isEntry hI s0) hF (fun o ho => ho.elim) (fun v_4 f_5 hI_6 hG_7 hF_8 hQ_9 => ?_)
  obtain rfl := cF_no hG_7
  obtain ⟨y_10, rfl, hb_11, hQ_9⟩ := hQ_9
  have hb_11r := t_rng y_10
  have t_12 : 0 ≤ (f a0 8).toInt ∧ (f a0 8).toInt ≤ 8 := (cI_at hI 8 s0).2.2.2.2.2.1 rfl
  show cT 115 6 [.ref a0, .int x1, .int x2, .int x3, ((.retAddr 0))] [.int y_10, .ref a0] _ _ _ _ _ _
  refine cT_if b_M_claim_6 (fun c_13 => ?_) (fun c_13 => ?_)
  · rw [t_eq] at c_13
    refine cT_go b_M_claim_21 ?_
    have t_16 := t_neg1
    refine cT_if b_M_claim_22 (fun c_15 => ?_) (fun c_15 => ?_)
    · rw [t_lt] at c_15
      refine cT_go b_M_claim_36 ?_
      have t_17 : (nI 0).toInt = 0 := nI_toInt (by decide)
      refine cT_call (b_M_claim_37 s0) (c_M_goes hI s0) hF (fun o ho => by omega) (fun v_18 f_19 hI_20 hG_21 hF_22 hQ_23 => ?_)
      obtain ⟨y_24, rfl, hb_25, hQ_23⟩ := hQ_23
      have hb_25r := t_rng y_24
      have t_26 : 3 ≤ (f a0 1).toInt ∧ (f a0 1).toInt ≤ 30 := (cI_at hI 1 s0).2.1 rfl
      have t_27 : 0 ≤ (f a0 3).toInt ∧ (f a0 3).toInt ≤ 32 := (cI_at hI 3 s0).2.2.2.1 rfl
      have t_28 : 0 ≤ (f a0 5).toInt ∧ (f a0 5).toInt ≤ 6 := (cI_at hI 5 s0).2.2.2.2.1 rfl
      have t_29 : 0 ≤ (f a0 14).toInt ∧ (f a0 14).toInt ≤ 26 := (cI_at hI 14 s0).2.2.2.2.2.2.1 rfl
      have t_30 : -1 ≤ (f a0 23).toInt ∧ (f a0 23).toInt ≤ 1 := (cI_at hI 23 s0).2.2.2.2.2.2.2.2.2 rfl
      have g_31 : (f_19 a0 1).toInt = (f a0 1).toInt := congrArg Int32.toInt (hQ_23.2.2.2.2 1 (by decide))
      have g_32 : (f_19 a0 3).toInt = (f a0 3).toInt := congrArg Int32.toInt (hQ_23.2.2.2.2 3 (by decide))
      have g_33 : (f_19 a0 5).toInt = (f a0 5).toInt := congrArg Int32.toInt (hQ_23.2.2.2.2 5 (by decide))
      have g_34 : (f_19 a0 8).toInt = (f a0 8).toInt := congrArg Int32.toInt (hQ_23.2.2.2.2 8 (by decide))
      have g_35 : (f_19 a0 14).toInt = (f a0 14).toInt := congrArg Int32.toInt (hQ_23.2.2.2.2 14 (by decide))
      have g_36 : (f_19 a0 23).toInt = (f a0 23).toInt := congrArg Int32.toInt (hQ_23.2.2.2.2 23 (by decide))
      have hr8 : f_19 (a0 + 8) = f (a0 + 8) := hG_21 (a0 + 8) (by omega)
      have hk : ∀ k, k ≠ 2 → f_19 a0 k = f a0 k := hQ_23.2.2.2.2
      show cT 115 40 [.ref a0, .int x1, .int x2, .int x3, (((((((.retAddr 0)))))))] [.int y_24] _ _ _ _ _ _
      refine cT_if b_M_claim_40 (fun c_37 => ?_) (fun c_37 => ?_)
      · rw [t_eq] at c_37
        have t_38 : 0 ≤ (f_19 a0 2).toInt ∧ (f_19 a0 2).toInt ≤ 2 := (cI_at hI_20 2 s0).2.2.1 rfl
        exact cT_ret b_M_claim_43 hI_20 hF_22 ⟨_, rfl, by first | exact Or.inl ⟨by omega, hr8, hk⟩ | exact Or.inr ⟨by omega, by rw [hr8], by rw [cg_up_row, hr8], fun k h2 => by rw [cg_up_o (by omega)]; exact hk k h2⟩⟩
      · rw [t_eq] at c_37
        have hI_39 := cI_up (k := (((nI 4) * x1) + x2).toNatClampNeg) (x := x3) hI_20 (sc_7_13 s0) ⟨(fun _ => by omega), (fun _ => by omega), (fun _ => by omega), (fun _ => by omega), (fun _ => by omega), (fun _ => by omega), (fun _ => by omega), (fun _ => by omega), (fun _ => by omega), (fun _ => by omega), (fun _ => by omega), (fun _ => by omega), (fun _ => by omega)⟩
        have hF_40 := cF_up (a := a0 + 8) (k := (((nI 4) * x1) + x2).toNatClampNeg) (x := x3) hF_22 (by omega)
        have t_43 : (nI 4).toInt = 4 := nI_toInt (by decide)
        first | have t_42 : (((nI 4)) * x1).toInt = 4 * (x1).toInt := t_mulc (by decide) (by omega) | (obtain ⟨kt_42, t_42⟩ := t_mul ((nI 4)) x1; rw [nI_toInt (show 4 < 2 ^ 31 by decide)] at t_42)
        first | have t_41 : ((((nI 4) * x1)) + x2).toInt = ((((nI 4) * x1))).toInt + (x2).toInt := t_addn (by omega) | obtain ⟨kt_41, t_41⟩ := t_add (((nI 4) * x1)) x2
        have t_44 : ((cg_up f_19 (a0 + 8) (((nI 4) * x1) + x2).toNatClampNeg x3) a0 2).toInt = (f_19 a0 2).toInt := by rw [cg_up_o (ne_sh s0 (sc_7_13 s0) (by decide))]
        have t_45 : 0 ≤ (f_19 a0 2).toInt ∧ (f_19 a0 2).toInt ≤ 2 := (cI_at hI_20 2 s0).2.2.1 rfl
        have t_46 := t_rng (f_19 (a0 + 8) (((nI 4) * x1) + x2).toNatClampNeg)
        exact cT_ret (b_M_claim_45 s0 (by rw [t_in]; omega)) hI_39 hF_40 ⟨_, rfl, by first | exact Or.inl ⟨by omega, hr8, hk⟩ | exact Or.inr ⟨by omega, by rw [hr8], by rw [cg_up_row, hr8], fun k h2 => by rw [cg_up_o (by omega)]; exact hk k h2⟩⟩
    · rw [t_lt] at c_15
      have t_48 : (nI 1).toInt = 1 := nI_toInt (by decide)
      refine cT_if b_M_claim_27 (fun c_47 => ?_) (fun c_47 => ?_)
      · rw [t_lt] at c_47
        refine cT_go b_M_claim_36 ?_
        have t_49 : (nI 0).toInt = 0 := nI_toInt (by decide)
        refine cT_call (b_M_claim_37 s0) (c_M_goes hI s0) hF (fun o ho => by omega) (fun v_50 f_51 hI_52 hG_53 hF_54 hQ_55 => ?_)
        obtain ⟨y_56, rfl, hb_57, hQ_55⟩ := hQ_55
        have hb_57r := t_rng y_56
        have t_58 : 3 ≤ (f a0 1).toInt ∧ (f a0 1).toInt ≤ 30 := (cI_at hI 1 s0).2.1 rfl
        have t_59 : 0 ≤ (f a0 3).toInt ∧ (f a0 3).toInt ≤ 32 := (cI_at hI 3 s0).2.2.2.1 rfl
        have t_60 : 0 ≤ (f a0 5).toInt ∧ (f a0 5).toInt ≤ 6 := (cI_at hI 5 s0).2.2.2.2.1 rfl
        have t_61 : 0 ≤ (f a0 14).toInt ∧ (f a0 14).toInt ≤ 26 := (cI_at hI 14 s0).2.2.2.2.2.2.1 rfl
        have t_62 : -1 ≤ (f a0 23).toInt ∧ (f a0 23).toInt ≤ 1 := (cI_at hI 23 s0).2.2.2.2.2.2.2.2.2 rfl
        have g_63 : (f_51 a0 1).toInt = (f a0 1).toInt := congrArg Int32.toInt (hQ_55.2.2.2.2 1 (by decide))
        have g_64 : (f_51 a0 3).toInt = (f a0 3).toInt := congrArg Int32.toInt (hQ_55.2.2.2.2 3 (by decide))
        have g_65 : (f_51 a0 5).toInt = (f a0 5).toInt := congrArg Int32.toInt (hQ_55.2.2.2.2 5 (by decide))
        have g_66 : (f_51 a0 8).toInt = (f a0 8).toInt := congrArg Int32.toInt (hQ_55.2.2.2.2 8 (by decide))
        have g_67 : (f_51 a0 14).toInt = (f a0 14).toInt := congrArg Int32.toInt (hQ_55.2.2.2.2 14 (by decide))
        have g_68 : (f_51 a0 23).toInt = (f a0 23).toInt := congrArg Int32.toInt (hQ_55.2.2.2.2 23 (by decide))
        have hr8 : f_51 (a0 + 8) = f (a0 + 8) := hG_53 (a0 + 8) (by omega)
        have hk : ∀ k, k ≠ 2 → f_51 a0 k = f a0 k := hQ_55.2.2.2.2
        show cT 115 40 [.ref a0, .int x1, .int x2, .int x3, ((((((((.retAddr 0))))))))] [.int y_56] _ _ _ _ _ _
        refine cT_if b_M_claim_40 (fun c_69 => ?_) (fun c_69 => ?_)
        · rw [t_eq] at c_69
          have t_70 : 0 ≤ (f_51 a0 2).toInt ∧ (f_51 a0 2).toInt ≤ 2 := (cI_at hI_52 2 s0).2.2.1 rfl
          exact cT_ret b_M_claim_43 hI_52 hF_54 ⟨_, rfl, by first | exact Or.inl ⟨by omega, hr8, hk⟩ | exact Or.inr ⟨by omega, by rw [hr8], by rw [cg_up_row, hr8], fun k h2 => by rw [cg_up_o (by omega)]; exact hk k h2⟩⟩
        · rw [t_eq] at c_69
          have hI_71 := cI_up (k := (((nI 4) * x1) + x2).toNatClampNeg) (x := x3) hI_52 (sc_7_13 s0) ⟨(fun _ => by omega), (fun _ => by omega), (fun _ => by omega), (fun _ => by omega), (fun _ => by omega), (fun _ => by omega), (fun _ => by omega), (fun _ => by omega), (fun _ => by omega), (fun _ => by omega), (fun _ => by omega), (fun _ => by omega), (fun _ => by omega)⟩
          have hF_72 := cF_up (a := a0 + 8) (k := (((nI 4) * x1) + x2).toNatClampNeg) (x := x3) hF_54 (by omega)
          have t_75 : (nI 4).toInt = 4 := nI_toInt (by decide)
          first | have t_74 : (((nI 4)) * x1).toInt = 4 * (x1).toInt := t_mulc (by decide) (by omega) | (obtain ⟨kt_74, t_74⟩ := t_mul ((nI 4)) x1; rw [nI_toInt (show 4 < 2 ^ 31 by decide)] at t_74)
          first | have t_73 : ((((nI 4) * x1)) + x2).toInt = ((((nI 4) * x1))).toInt + (x2).toInt := t_addn (by omega) | obtain ⟨kt_73, t_73⟩ := t_add (((nI 4) * x1)) x2
          have t_76 : ((cg_up f_51 (a0 + 8) (((nI 4) * x1) + x2).toNatClampNeg x3) a0 2).toInt = (f_51 a0 2).toInt := by rw [cg_up_o (ne_sh s0 (sc_7_13 s0) (by decide))]
          have t_77 : 0 ≤ (f_51 a0 2).toInt ∧ (f_51 a0 2).toInt ≤ 2 := (cI_at hI_52 2 s0).2.2.1 rfl
          have t_78 := t_rng (f_51 (a0 + 8) (((nI 4) * x1) + x2).toNatClampNeg)
          exact cT_ret (b_M_claim_45 s0 (by rw [t_in]; omega)) hI_71 hF_72 ⟨_, rfl, by first | exact Or.inl ⟨by omega, hr8, hk⟩ | exact Or.inr ⟨by omega, by rw [hr8], by rw [cg_up_row, hr8], fun k h2 => by rw [cg_up_o (by omega)]; exact hk k h2⟩⟩
      · rw [t_lt] at c_47
        refine cT_go b_M_claim_32 ?_
        have t_79 : (nI 0).toInt = 0 := nI_toInt (by decide)
        refine cT_call (b_M_claim_37 s0) (c_M_goes hI s0) hF (fun o ho => by omega) (fun v_80 f_81 hI_82 hG_83 hF_84 hQ_85 => ?_)
        obtain ⟨y_86, rfl, hb_87, hQ_85⟩ := hQ_85
        have hb_87r := t_rng y_86
        have t_88 : 3 ≤ (f a0 1).toInt ∧ (f a0 1).toInt ≤ 30 := (cI_at hI 1 s0).2.1 rfl
        have t_89 : 0 ≤ (f a0 3).toInt ∧ (f a0 3).toInt ≤ 32 := (cI_at hI 3 s0).2.2.2.1 rfl
        have t_90 : 0 ≤ (f a0 5).toInt ∧ (f a0 5).toInt ≤ 6 := (cI_at hI 5 s0).2.2.2.2.1 rfl
        have t_91 : 0 ≤ (f a0 14).toInt ∧ (f a0 14).toInt ≤ 26 := (cI_at hI 14 s0).2.2.2.2.2.2.1 rfl
        have t_92 : -1 ≤ (f a0 23).toInt ∧ (f a0 23).toInt ≤ 1 := (cI_at hI 23 s0).2.2.2.2.2.2.2.2.2 rfl
        have g_93 : (f_81 a0 1).toInt = (f a0 1).toInt := congrArg Int32.toInt (hQ_85.2.2.2.2 1 (by decide))
        have g_94 : (f_81 a0 3).toInt = (f a0 3).toInt := congrArg Int32.toInt (hQ_85.2.2.2.2 3 (by decide))
        have g_95 : (f_81 a0 5).toInt = (f a0 5).toInt := congrArg Int32.toInt (hQ_85.2.2.2.2 5 (by decide))
        have g_96 : (f_81 a0 8).toInt = (f a0 8).toInt := congrArg Int32.toInt (hQ_85.2.2.2.2 8 (by decide))
        have g_97 : (f_81 a0 14).toInt = (f a0 14).toInt := congrArg Int32.toInt (hQ_85.2.2.2.2 14 (by decide))
        have g_98 : (f_81 a0 23).toInt = (f a0 23).toInt := congrArg Int32.toInt (hQ_85.2.2.2.2 23 (by decide))
        have hr8 : f_81 (a0 + 8) = f (a0 + 8) := hG_83 (a0 + 8) (by omega)
        have hk : ∀ k, k ≠ 2 → f_81 a0 k = f a0 k := hQ_85.2.2.2.2
        show cT 115 40 [.ref a0, .int x1, .int x2, .int x3, ((((((((.retAddr 0))))))))] [.int y_86] _ _ _ _ _ _
        refine cT_if b_M_claim_40 (fun c_99 => ?_) (fun c_99 => ?_)
        · rw [t_eq] at c_99
          have t_100 : 0 ≤ (f_81 a0 2).toInt ∧ (f_81 a0 2).toInt ≤ 2 := (cI_at hI_82 2 s0).2.2.1 rfl
          exact cT_ret b_M_claim_43 hI_82 hF_84 ⟨_, rfl, by first | exact Or.inl ⟨by omega, hr8, hk⟩ | exact Or.inr ⟨by omega, by rw [hr8], by rw [cg_up_row, hr8], fun k h2 => by rw [cg_up_o (by omega)]; exact hk k h2⟩⟩
        · rw [t_eq] at c_99
          have hI_101 := cI_up (k := (((nI 4) * x1) + x2).toNatClampNeg) (x := x3) hI_82 (sc_7_13 s0) ⟨(fun _ => by omega), (fun _ => by omega), (fun _ => by omega), (fun _ => by omega), (fun _ => by omega), (fun _ => by omega), (fun _ => by omega), (fun _ => by omega), (fun _ => by omega), (fun _ => by omega), (fun _ => by omega), (fun _ => by omega), (fun _ => by omega)⟩
          have hF_102 := cF_up (a := a0 + 8) (k := (((nI 4) * x1) + x2).toNatClampNeg) (x := x3) hF_84 (by omega)
          have t_105 : (nI 4).toInt = 4 := nI_toInt (by decide)
          first | have t_104 : (((nI 4)) * x1).toInt = 4 * (x1).toInt := t_mulc (by decide) (by omega) | (obtain ⟨kt_104, t_104⟩ := t_mul ((nI 4)) x1; rw [nI_toInt (show 4 < 2 ^ 31 by decide)] at t_104)
          first | have t_103 : ((((nI 4) * x1)) + x2).toInt = ((((nI 4) * x1))).toInt + (x2).toInt := t_addn (by omega) | obtain ⟨kt_103, t_103⟩ := t_add (((nI 4) * x1)) x2
          have t_106 : ((cg_up f_81 (a0 + 8) (((nI 4) * x1) + x2).toNatClampNeg x3) a0 2).toInt = (f_81 a0 2).toInt := by rw [cg_up_o (ne_sh s0 (sc_7_13 s0) (by decide))]
          have t_107 : 0 ≤ (f_81 a0 2).toInt ∧ (f_81 a0 2).toInt ≤ 2 := (cI_at hI_82 2 s0).2.2.1 rfl
          have t_108 := t_rng (f_81 (a0 + 8) (((nI 4) * x1) + x2).toNatClampNeg)
          exact cT_ret (b_M_claim_45 s0 (by rw [t_in]; omega)) hI_101 hF_102 ⟨_, rfl, by first | exact Or.inl ⟨by omega, hr8, hk⟩ | exact Or.inr ⟨by omega, by rw [hr8], by rw [cg_up_row, hr8], fun k h2 => by rw [cg_up_o (by omega)]; exact hk k h2⟩⟩
  · rw [t_eq] at c_13
    have t_109 : (nI 4).toInt = 4 := nI_toInt (by decide)
    refine cT_call b_M_claim_9 (c_M_below hI) hF (fun o ho => ho.elim) (fun v_110 f_111 hI_112 hG_113 hF_114 hQ_115 => ?_)
    obtain rfl := cF_no hG_113
    obtain ⟨y_116, rfl, hb_117, hQ_115⟩ := hQ_115
    have hb_117r := t_rng y_116
    show cT 115 14 [.ref a0, .int x1, .int x2, .int x3, ((((.retAddr 0))))] [.int y_116, .ref a0] _ _ _ _ _ _
    refine cT_if b_M_claim_14 (fun c_118 => ?_) (fun c_118 => ?_)
    · rw [t_eq] at c_118
      refine cT_go b_M_claim_21 ?_
      have t_120 := t_neg1
      refine cT_if b_M_claim_22 (fun c_119 => ?_) (fun c_119 => ?_)
      · rw [t_lt] at c_119
        refine cT_go b_M_claim_36 ?_
        have t_121 : (nI 0).toInt = 0 := nI_toInt (by decide)
        refine cT_call (b_M_claim_37 s0) (c_M_goes hI s0) hF (fun o ho => by omega) (fun v_122 f_123 hI_124 hG_125 hF_126 hQ_127 => ?_)
        obtain ⟨y_128, rfl, hb_129, hQ_127⟩ := hQ_127
        have hb_129r := t_rng y_128
        have t_130 : 3 ≤ (f a0 1).toInt ∧ (f a0 1).toInt ≤ 30 := (cI_at hI 1 s0).2.1 rfl
        have t_131 : 0 ≤ (f a0 3).toInt ∧ (f a0 3).toInt ≤ 32 := (cI_at hI 3 s0).2.2.2.1 rfl
        have t_132 : 0 ≤ (f a0 5).toInt ∧ (f a0 5).toInt ≤ 6 := (cI_at hI 5 s0).2.2.2.2.1 rfl
        have t_133 : 0 ≤ (f a0 14).toInt ∧ (f a0 14).toInt ≤ 26 := (cI_at hI 14 s0).2.2.2.2.2.2.1 rfl
        have t_134 : -1 ≤ (f a0 23).toInt ∧ (f a0 23).toInt ≤ 1 := (cI_at hI 23 s0).2.2.2.2.2.2.2.2.2 rfl
        have g_135 : (f_123 a0 1).toInt = (f a0 1).toInt := congrArg Int32.toInt (hQ_127.2.2.2.2 1 (by decide))
        have g_136 : (f_123 a0 3).toInt = (f a0 3).toInt := congrArg Int32.toInt (hQ_127.2.2.2.2 3 (by decide))
        have g_137 : (f_123 a0 5).toInt = (f a0 5).toInt := congrArg Int32.toInt (hQ_127.2.2.2.2 5 (by decide))
        have g_138 : (f_123 a0 8).toInt = (f a0 8).toInt := congrArg Int32.toInt (hQ_127.2.2.2.2 8 (by decide))
        have g_139 : (f_123 a0 14).toInt = (f a0 14).toInt := congrArg Int32.toInt (hQ_127.2.2.2.2 14 (by decide))
        have g_140 : (f_123 a0 23).toInt = (f a0 23).toInt := congrArg Int32.toInt (hQ_127.2.2.2.2 23 (by decide))
        have hr8 : f_123 (a0 + 8) = f (a0 + 8) := hG_125 (a0 + 8) (by omega)
        have hk : ∀ k, k ≠ 2 → f_123 a0 k = f a0 k := hQ_127.2.2.2.2
        show cT 115 40 [.ref a0, .int x1, .int x2, .int x3, (((((((((.retAddr 0)))))))))] [.int y_128] _ _ _ _ _ _
        refine cT_if b_M_claim_40 (fun c_141 => ?_) (fun c_141 => ?_)
        · rw [t_eq] at c_141
          have t_142 : 0 ≤ (f_123 a0 2).toInt ∧ (f_123 a0 2).toInt ≤ 2 := (cI_at hI_124 2 s0).2.2.1 rfl
          exact cT_ret b_M_claim_43 hI_124 hF_126 ⟨_, rfl, by first | exact Or.inl ⟨by omega, hr8, hk⟩ | exact Or.inr ⟨by omega, by rw [hr8], by rw [cg_up_row, hr8], fun k h2 => by rw [cg_up_o (by omega)]; exact hk k h2⟩⟩
        · rw [t_eq] at c_141
          have hI_143 := cI_up (k := (((nI 4) * x1) + x2).toNatClampNeg) (x := x3) hI_124 (sc_7_13 s0) ⟨(fun _ => by omega), (fun _ => by omega), (fun _ => by omega), (fun _ => by omega), (fun _ => by omega), (fun _ => by omega), (fun _ => by omega), (fun _ => by omega), (fun _ => by omega), (fun _ => by omega), (fun _ => by omega), (fun _ => by omega), (fun _ => by omega)⟩
          have hF_144 := cF_up (a := a0 + 8) (k := (((nI 4) * x1) + x2).toNatClampNeg) (x := x3) hF_126 (by omega)
          first | have t_146 : (((nI 4)) * x1).toInt = 4 * (x1).toInt := t_mulc (by decide) (by omega) | (obtain ⟨kt_146, t_146⟩ := t_mul ((nI 4)) x1; rw [nI_toInt (show 4 < 2 ^ 31 by decide)] at t_146)
          first | have t_145 : ((((nI 4) * x1)) + x2).toInt = ((((nI 4) * x1))).toInt + (x2).toInt := t_addn (by omega) | obtain ⟨kt_145, t_145⟩ := t_add (((nI 4) * x1)) x2
          have t_147 : ((cg_up f_123 (a0 + 8) (((nI 4) * x1) + x2).toNatClampNeg x3) a0 2).toInt = (f_123 a0 2).toInt := by rw [cg_up_o (ne_sh s0 (sc_7_13 s0) (by decide))]
          have t_148 : 0 ≤ (f_123 a0 2).toInt ∧ (f_123 a0 2).toInt ≤ 2 := (cI_at hI_124 2 s0).2.2.1 rfl
          have t_149 := t_rng (f_123 (a0 + 8) (((nI 4) * x1) + x2).toNatClampNeg)
          exact cT_ret (b_M_claim_45 s0 (by rw [t_in]; omega)) hI_143 hF_144 ⟨_, rfl, by first | exact Or.inl ⟨by omega, hr8, hk⟩ | exact Or.inr ⟨by omega, by rw [hr8], by rw [cg_up_row, hr8], fun k h2 => by rw [cg_up_o (by omega)]; exact hk k h2⟩⟩
      · rw [t_lt] at c_119
        have t_151 : (nI 1).toInt = 1 := nI_toInt (by decide)
        refine cT_if b_M_claim_27 (fun c_150 => ?_) (fun c_150 => ?_)
        · rw [t_lt] at c_150
          refine cT_go b_M_claim_36 ?_
          have t_152 : (nI 0).toInt = 0 := nI_toInt (by decide)
          refine cT_call (b_M_claim_37 s0) (c_M_goes hI s0) hF (fun o ho => by omega) (fun v_153 f_154 hI_155 hG_156 hF_157 hQ_158 => ?_)
          obtain ⟨y_159, rfl, hb_160, hQ_158⟩ := hQ_158
          have hb_160r := t_rng y_159
          have t_161 : 3 ≤ (f a0 1).toInt ∧ (f a0 1).toInt ≤ 30 := (cI_at hI 1 s0).2.1 rfl
          have t_162 : 0 ≤ (f a0 3).toInt ∧ (f a0 3).toInt ≤ 32 := (cI_at hI 3 s0).2.2.2.1 rfl
          have t_163 : 0 ≤ (f a0 5).toInt ∧ (f a0 5).toInt ≤ 6 := (cI_at hI 5 s0).2.2.2.2.1 rfl
          have t_164 : 0 ≤ (f a0 14).toInt ∧ (f a0 14).toInt ≤ 26 := (cI_at hI 14 s0).2.2.2.2.2.2.1 rfl
          have t_165 : -1 ≤ (f a0 23).toInt ∧ (f a0 23).toInt ≤ 1 := (cI_at hI 23 s0).2.2.2.2.2.2.2.2.2 rfl
          have g_166 : (f_154 a0 1).toInt = (f a0 1).toInt := congrArg Int32.toInt (hQ_158.2.2.2.2 1 (by decide))
          have g_167 : (f_154 a0 3).toInt = (f a0 3).toInt := congrArg Int32.toInt (hQ_158.2.2.2.2 3 (by decide))
          have g_168 : (f_154 a0 5).toInt = (f a0 5).toInt := congrArg Int32.toInt (hQ_158.2.2.2.2 5 (by decide))
          have g_169 : (f_154 a0 8).toInt = (f a0 8).toInt := congrArg Int32.toInt (hQ_158.2.2.2.2 8 (by decide))
          have g_170 : (f_154 a0 14).toInt = (f a0 14).toInt := congrArg Int32.toInt (hQ_158.2.2.2.2 14 (by decide))
          have g_171 : (f_154 a0 23).toInt = (f a0 23).toInt := congrArg Int32.toInt (hQ_158.2.2.2.2 23 (by decide))
          have hr8 : f_154 (a0 + 8) = f (a0 + 8) := hG_156 (a0 + 8) (by omega)
          have hk : ∀ k, k ≠ 2 → f_154 a0 k = f a0 k := hQ_158.2.2.2.2
          show cT 115 40 [.ref a0, .int x1, .int x2, .int x3, ((((((((((.retAddr 0))))))))))] [.int y_159] _ _ _ _ _ _
          refine cT_if b_M_claim_40 (fun c_172 => ?_) (fun c_172 => ?_)
          · rw [t_eq] at c_172
            have t_173 : 0 ≤ (f_154 a0 2).toInt ∧ (f_154 a0 2).toInt ≤ 2 := (cI_at hI_155 2 s0).2.2.1 rfl
            exact cT_ret b_M_claim_43 hI_155 hF_157 ⟨_, rfl, by first | exact Or.inl ⟨by omega, hr8, hk⟩ | exact Or.inr ⟨by omega, by rw [hr8], by rw [cg_up_row, hr8], fun k h2 => by rw [cg_up_o (by omega)]; exact hk k h2⟩⟩
          · rw [t_eq] at c_172
            have hI_174 := cI_up (k := (((nI 4) * x1) + x2).toNatClampNeg) (x := x3) hI_155 (sc_7_13 s0) ⟨(fun _ => by omega), (fun _ => by omega), (fun _ => by omega), (fun _ => by omega), (fun _ => by omega), (fun _ => by omega), (fun _ => by omega), (fun _ => by omega), (fun _ => by omega), (fun _ => by omega), (fun _ => by omega), (fun _ => by omega), (fun _ => by omega)⟩
            have hF_175 := cF_up (a := a0 + 8) (k := (((nI 4) * x1) + x2).toNatClampNeg) (x := x3) hF_157 (by omega)
            first | have t_177 : (((nI 4)) * x1).toInt = 4 * (x1).toInt := t_mulc (by decide) (by omega) | (obtain ⟨kt_177, t_177⟩ := t_mul ((nI 4)) x1; rw [nI_toInt (show 4 < 2 ^ 31 by decide)] at t_177)
            first | have t_176 : ((((nI 4) * x1)) + x2).toInt = ((((nI 4) * x1))).toInt + (x2).toInt := t_addn (by omega) | obtain ⟨kt_176, t_176⟩ := t_add (((nI 4) * x1)) x2
            have t_178 : ((cg_up f_154 (a0 + 8) (((nI 4) * x1) + x2).toNatClampNeg x3) a0 2).toInt = (f_154 a0 2).toInt := by rw [cg_up_o (ne_sh s0 (sc_7_13 s0) (by decide))]
            have t_179 : 0 ≤ (f_154 a0 2).toInt ∧ (f_154 a0 2).toInt ≤ 2 := (cI_at hI_155 2 s0).2.2.1 rfl
            have t_180 := t_rng (f_154 (a0 + 8) (((nI 4) * x1) + x2).toNatClampNeg)
            exact cT_ret (b_M_claim_45 s0 (by rw [t_in]; omega)) hI_174 hF_175 ⟨_, rfl, by first | exact Or.inl ⟨by omega, hr8, hk⟩ | exact Or.inr ⟨by omega, by rw [hr8], by rw [cg_up_row, hr8], fun k h2 => by rw [cg_up_o (by omega)]; exact hk k h2⟩⟩
        · rw [t_lt] at c_150
          refine cT_go b_M_claim_32 ?_
          have t_181 : (nI 0).toInt = 0 := nI_toInt (by decide)
          refine cT_call (b_M_claim_37 s0) (c_M_goes hI s0) hF (fun o ho => by omega) (fun v_182 f_183 hI_184 hG_185 hF_186 hQ_187 => ?_)
          obtain ⟨y_188, rfl, hb_189, hQ_187⟩ := hQ_187
          have hb_189r := t_rng y_188
          have t_190 : 3 ≤ (f a0 1).toInt ∧ (f a0 1).toInt ≤ 30 := (cI_at hI 1 s0).2.1 rfl
          have t_191 : 0 ≤ (f a0 3).toInt ∧ (f a0 3).toInt ≤ 32 := (cI_at hI 3 s0).2.2.2.1 rfl
          have t_192 : 0 ≤ (f a0 5).toInt ∧ (f a0 5).toInt ≤ 6 := (cI_at hI 5 s0).2.2.2.2.1 rfl
          have t_193 : 0 ≤ (f a0 14).toInt ∧ (f a0 14).toInt ≤ 26 := (cI_at hI 14 s0).2.2.2.2.2.2.1 rfl
          have t_194 : -1 ≤ (f a0 23).toInt ∧ (f a0 23).toInt ≤ 1 := (cI_at hI 23 s0).2.2.2.2.2.2.2.2.2 rfl
          have g_195 : (f_183 a0 1).toInt = (f a0 1).toInt := congrArg Int32.toInt (hQ_187.2.2.2.2 1 (by decide))
          have g_196 : (f_183 a0 3).toInt = (f a0 3).toInt := congrArg Int32.toInt (hQ_187.2.2.2.2 3 (by decide))
          have g_197 : (f_183 a0 5).toInt = (f a0 5).toInt := congrArg Int32.toInt (hQ_187.2.2.2.2 5 (by decide))
          have g_198 : (f_183 a0 8).toInt = (f a0 8).toInt := congrArg Int32.toInt (hQ_187.2.2.2.2 8 (by decide))
          have g_199 : (f_183 a0 14).toInt = (f a0 14).toInt := congrArg Int32.toInt (hQ_187.2.2.2.2 14 (by decide))
          have g_200 : (f_183 a0 23).toInt = (f a0 23).toInt := congrArg Int32.toInt (hQ_187.2.2.2.2 23 (by decide))
          have hr8 : f_183 (a0 + 8) = f (a0 + 8) := hG_185 (a0 + 8) (by omega)
          have hk : ∀ k, k ≠ 2 → f_183 a0 k = f a0 k := hQ_187.2.2.2.2
          show cT 115 40 [.ref a0, .int x1, .int x2, .int x3, ((((((((((.retAddr 0))))))))))] [.int y_188] _ _ _ _ _ _
          refine cT_if b_M_claim_40 (fun c_201 => ?_) (fun c_201 => ?_)
          · rw [t_eq] at c_201
            have t_202 : 0 ≤ (f_183 a0 2).toInt ∧ (f_183 a0 2).toInt ≤ 2 := (cI_at hI_184 2 s0).2.2.1 rfl
            exact cT_ret b_M_claim_43 hI_184 hF_186 ⟨_, rfl, by first | exact Or.inl ⟨by omega, hr8, hk⟩ | exact Or.inr ⟨by omega, by rw [hr8], by rw [cg_up_row, hr8], fun k h2 => by rw [cg_up_o (by omega)]; exact hk k h2⟩⟩
          · rw [t_eq] at c_201
            have hI_203 := cI_up (k := (((nI 4) * x1) + x2).toNatClampNeg) (x := x3) hI_184 (sc_7_13 s0) ⟨(fun _ => by omega), (fun _ => by omega), (fun _ => by omega), (fun _ => by omega), (fun _ => by omega), (fun _ => by omega), (fun _ => by omega), (fun _ => by omega), (fun _ => by omega), (fun _ => by omega), (fun _ => by omega), (fun _ => by omega), (fun _ => by omega)⟩
            have hF_204 := cF_up (a := a0 + 8) (k := (((nI 4) * x1) + x2).toNatClampNeg) (x := x3) hF_186 (by omega)
            first | have t_206 : (((nI 4)) * x1).toInt = 4 * (x1).toInt := t_mulc (by decide) (by omega) | (obtain ⟨kt_206, t_206⟩ := t_mul ((nI 4)) x1; rw [nI_toInt (show 4 < 2 ^ 31 by decide)] at t_206)
            first | have t_205 : ((((nI 4) * x1)) + x2).toInt = ((((nI 4) * x1))).toInt + (x2).toInt := t_addn (by omega) | obtain ⟨kt_205, t_205⟩ := t_add (((nI 4) * x1)) x2
            have t_207 : ((cg_up f_183 (a0 + 8) (((nI 4) * x1) + x2).toNatClampNeg x3) a0 2).toInt = (f_183 a0 2).toInt := by rw [cg_up_o (ne_sh s0 (sc_7_13 s0) (by decide))]
            have t_208 : 0 ≤ (f_183 a0 2).toInt ∧ (f_183 a0 2).toInt ≤ 2 := (cI_at hI_184 2 s0).2.2.1 rfl
            have t_209 := t_rng (f_183 (a0 + 8) (((nI 4) * x1) + x2).toNatClampNeg)
            exact cT_ret (b_M_claim_45 s0 (by rw [t_in]; omega)) hI_203 hF_204 ⟨_, rfl, by first | exact Or.inl ⟨by omega, hr8, hk⟩ | exact Or.inr ⟨by omega, by rw [hr8], by rw [cg_up_row, hr8], fun k h2 => by rw [cg_up_o (by omega)]; exact hk k h2⟩⟩
    · rw [t_eq] at c_118
      refine cT_go b_M_claim_17 ?_
      have t_211 := t_neg1
      refine cT_if b_M_claim_22 (fun c_210 => ?_) (fun c_210 => ?_)
      · rw [t_lt] at c_210
        refine cT_go b_M_claim_36 ?_
        have t_212 : (nI 1).toInt = 1 := nI_toInt (by decide)
        have t_213 : (nI 0).toInt = 0 := nI_toInt (by decide)
        refine cT_call (b_M_claim_37 s0) (c_M_goes hI s0) hF (fun o ho => by omega) (fun v_214 f_215 hI_216 hG_217 hF_218 hQ_219 => ?_)
        obtain ⟨y_220, rfl, hb_221, hQ_219⟩ := hQ_219
        have hb_221r := t_rng y_220
        have t_222 : 3 ≤ (f a0 1).toInt ∧ (f a0 1).toInt ≤ 30 := (cI_at hI 1 s0).2.1 rfl
        have t_223 : 0 ≤ (f a0 3).toInt ∧ (f a0 3).toInt ≤ 32 := (cI_at hI 3 s0).2.2.2.1 rfl
        have t_224 : 0 ≤ (f a0 5).toInt ∧ (f a0 5).toInt ≤ 6 := (cI_at hI 5 s0).2.2.2.2.1 rfl
        have t_225 : 0 ≤ (f a0 14).toInt ∧ (f a0 14).toInt ≤ 26 := (cI_at hI 14 s0).2.2.2.2.2.2.1 rfl
        have t_226 : -1 ≤ (f a0 23).toInt ∧ (f a0 23).toInt ≤ 1 := (cI_at hI 23 s0).2.2.2.2.2.2.2.2.2 rfl
        have g_227 : (f_215 a0 1).toInt = (f a0 1).toInt := congrArg Int32.toInt (hQ_219.2.2.2.2 1 (by decide))
        have g_228 : (f_215 a0 3).toInt = (f a0 3).toInt := congrArg Int32.toInt (hQ_219.2.2.2.2 3 (by decide))
        have g_229 : (f_215 a0 5).toInt = (f a0 5).toInt := congrArg Int32.toInt (hQ_219.2.2.2.2 5 (by decide))
        have g_230 : (f_215 a0 8).toInt = (f a0 8).toInt := congrArg Int32.toInt (hQ_219.2.2.2.2 8 (by decide))
        have g_231 : (f_215 a0 14).toInt = (f a0 14).toInt := congrArg Int32.toInt (hQ_219.2.2.2.2 14 (by decide))
        have g_232 : (f_215 a0 23).toInt = (f a0 23).toInt := congrArg Int32.toInt (hQ_219.2.2.2.2 23 (by decide))
        have hr8 : f_215 (a0 + 8) = f (a0 + 8) := hG_217 (a0 + 8) (by omega)
        have hk : ∀ k, k ≠ 2 → f_215 a0 k = f a0 k := hQ_219.2.2.2.2
        show cT 115 40 [.ref a0, .int x1, .int x2, .int x3, (((((((((.retAddr 0)))))))))] [.int y_220] _ _ _ _ _ _
        refine cT_if b_M_claim_40 (fun c_233 => ?_) (fun c_233 => ?_)
        · rw [t_eq] at c_233
          have t_234 : 0 ≤ (f_215 a0 2).toInt ∧ (f_215 a0 2).toInt ≤ 2 := (cI_at hI_216 2 s0).2.2.1 rfl
          exact cT_ret b_M_claim_43 hI_216 hF_218 ⟨_, rfl, by first | exact Or.inl ⟨by omega, hr8, hk⟩ | exact Or.inr ⟨by omega, by rw [hr8], by rw [cg_up_row, hr8], fun k h2 => by rw [cg_up_o (by omega)]; exact hk k h2⟩⟩
        · rw [t_eq] at c_233
          have hI_235 := cI_up (k := (((nI 4) * x1) + x2).toNatClampNeg) (x := x3) hI_216 (sc_7_13 s0) ⟨(fun _ => by omega), (fun _ => by omega), (fun _ => by omega), (fun _ => by omega), (fun _ => by omega), (fun _ => by omega), (fun _ => by omega), (fun _ => by omega), (fun _ => by omega), (fun _ => by omega), (fun _ => by omega), (fun _ => by omega), (fun _ => by omega)⟩
          have hF_236 := cF_up (a := a0 + 8) (k := (((nI 4) * x1) + x2).toNatClampNeg) (x := x3) hF_218 (by omega)
          first | have t_238 : (((nI 4)) * x1).toInt = 4 * (x1).toInt := t_mulc (by decide) (by omega) | (obtain ⟨kt_238, t_238⟩ := t_mul ((nI 4)) x1; rw [nI_toInt (show 4 < 2 ^ 31 by decide)] at t_238)
          first | have t_237 : ((((nI 4) * x1)) + x2).toInt = ((((nI 4) * x1))).toInt + (x2).toInt := t_addn (by omega) | obtain ⟨kt_237, t_237⟩ := t_add (((nI 4) * x1)) x2
          have t_239 : ((cg_up f_215 (a0 + 8) (((nI 4) * x1) + x2).toNatClampNeg x3) a0 2).toInt = (f_215 a0 2).toInt := by rw [cg_up_o (ne_sh s0 (sc_7_13 s0) (by decide))]
          have t_240 : 0 ≤ (f_215 a0 2).toInt ∧ (f_215 a0 2).toInt ≤ 2 := (cI_at hI_216 2 s0).2.2.1 rfl
          have t_241 := t_rng (f_215 (a0 + 8) (((nI 4) * x1) + x2).toNatClampNeg)
          exact cT_ret (b_M_claim_45 s0 (by rw [t_in]; omega)) hI_235 hF_236 ⟨_, rfl, by first | exact Or.inl ⟨by omega, hr8, hk⟩ | exact Or.inr ⟨by omega, by rw [hr8], by rw [cg_up_row, hr8], fun k h2 => by rw [cg_up_o (by omega)]; exact hk k h2⟩⟩
      · rw [t_lt] at c_210
        have t_243 : (nI 1).toInt = 1 := nI_toInt (by decide)
        refine cT_if b_M_claim_27 (fun c_242 => ?_) (fun c_242 => ?_)
        · rw [t_lt] at c_242
          refine cT_go b_M_claim_36 ?_
          have t_244 : (nI 0).toInt = 0 := nI_toInt (by decide)
          refine cT_call (b_M_claim_37 s0) (c_M_goes hI s0) hF (fun o ho => by omega) (fun v_245 f_246 hI_247 hG_248 hF_249 hQ_250 => ?_)
          obtain ⟨y_251, rfl, hb_252, hQ_250⟩ := hQ_250
          have hb_252r := t_rng y_251
          have t_253 : 3 ≤ (f a0 1).toInt ∧ (f a0 1).toInt ≤ 30 := (cI_at hI 1 s0).2.1 rfl
          have t_254 : 0 ≤ (f a0 3).toInt ∧ (f a0 3).toInt ≤ 32 := (cI_at hI 3 s0).2.2.2.1 rfl
          have t_255 : 0 ≤ (f a0 5).toInt ∧ (f a0 5).toInt ≤ 6 := (cI_at hI 5 s0).2.2.2.2.1 rfl
          have t_256 : 0 ≤ (f a0 14).toInt ∧ (f a0 14).toInt ≤ 26 := (cI_at hI 14 s0).2.2.2.2.2.2.1 rfl
          have t_257 : -1 ≤ (f a0 23).toInt ∧ (f a0 23).toInt ≤ 1 := (cI_at hI 23 s0).2.2.2.2.2.2.2.2.2 rfl
          have g_258 : (f_246 a0 1).toInt = (f a0 1).toInt := congrArg Int32.toInt (hQ_250.2.2.2.2 1 (by decide))
          have g_259 : (f_246 a0 3).toInt = (f a0 3).toInt := congrArg Int32.toInt (hQ_250.2.2.2.2 3 (by decide))
          have g_260 : (f_246 a0 5).toInt = (f a0 5).toInt := congrArg Int32.toInt (hQ_250.2.2.2.2 5 (by decide))
          have g_261 : (f_246 a0 8).toInt = (f a0 8).toInt := congrArg Int32.toInt (hQ_250.2.2.2.2 8 (by decide))
          have g_262 : (f_246 a0 14).toInt = (f a0 14).toInt := congrArg Int32.toInt (hQ_250.2.2.2.2 14 (by decide))
          have g_263 : (f_246 a0 23).toInt = (f a0 23).toInt := congrArg Int32.toInt (hQ_250.2.2.2.2 23 (by decide))
          have hr8 : f_246 (a0 + 8) = f (a0 + 8) := hG_248 (a0 + 8) (by omega)
          have hk : ∀ k, k ≠ 2 → f_246 a0 k = f a0 k := hQ_250.2.2.2.2
          show cT 115 40 [.ref a0, .int x1, .int x2, .int x3, ((((((((((.retAddr 0))))))))))] [.int y_251] _ _ _ _ _ _
          refine cT_if b_M_claim_40 (fun c_264 => ?_) (fun c_264 => ?_)
          · rw [t_eq] at c_264
            have t_265 : 0 ≤ (f_246 a0 2).toInt ∧ (f_246 a0 2).toInt ≤ 2 := (cI_at hI_247 2 s0).2.2.1 rfl
            exact cT_ret b_M_claim_43 hI_247 hF_249 ⟨_, rfl, by first | exact Or.inl ⟨by omega, hr8, hk⟩ | exact Or.inr ⟨by omega, by rw [hr8], by rw [cg_up_row, hr8], fun k h2 => by rw [cg_up_o (by omega)]; exact hk k h2⟩⟩
          · rw [t_eq] at c_264
            have hI_266 := cI_up (k := (((nI 4) * x1) + x2).toNatClampNeg) (x := x3) hI_247 (sc_7_13 s0) ⟨(fun _ => by omega), (fun _ => by omega), (fun _ => by omega), (fun _ => by omega), (fun _ => by omega), (fun _ => by omega), (fun _ => by omega), (fun _ => by omega), (fun _ => by omega), (fun _ => by omega), (fun _ => by omega), (fun _ => by omega), (fun _ => by omega)⟩
            have hF_267 := cF_up (a := a0 + 8) (k := (((nI 4) * x1) + x2).toNatClampNeg) (x := x3) hF_249 (by omega)
            first | have t_269 : (((nI 4)) * x1).toInt = 4 * (x1).toInt := t_mulc (by decide) (by omega) | (obtain ⟨kt_269, t_269⟩ := t_mul ((nI 4)) x1; rw [nI_toInt (show 4 < 2 ^ 31 by decide)] at t_269)
            first | have t_268 : ((((nI 4) * x1)) + x2).toInt = ((((nI 4) * x1))).toInt + (x2).toInt := t_addn (by omega) | obtain ⟨kt_268, t_268⟩ := t_add (((nI 4) * x1)) x2
            have t_270 : ((cg_up f_246 (a0 + 8) (((nI 4) * x1) + x2).toNatClampNeg x3) a0 2).toInt = (f_246 a0 2).toInt := by rw [cg_up_o (ne_sh s0 (sc_7_13 s0) (by decide))]
            have t_271 : 0 ≤ (f_246 a0 2).toInt ∧ (f_246 a0 2).toInt ≤ 2 := (cI_at hI_247 2 s0).2.2.1 rfl
            have t_272 := t_rng (f_246 (a0 + 8) (((nI 4) * x1) + x2).toNatClampNeg)
            exact cT_ret (b_M_claim_45 s0 (by rw [t_in]; omega)) hI_266 hF_267 ⟨_, rfl, by first | exact Or.inl ⟨by omega, hr8, hk⟩ | exact Or.inr ⟨by omega, by rw [hr8], by rw [cg_up_row, hr8], fun k h2 => by rw [cg_up_o (by omega)]; exact hk k h2⟩⟩
        · rw [t_lt] at c_242
          refine cT_go b_M_claim_32 ?_
          refine cT_call (b_M_claim_37 s0) (c_M_goes hI s0) hF (fun o ho => by omega) (fun v_273 f_274 hI_275 hG_276 hF_277 hQ_278 => ?_)
          obtain ⟨y_279, rfl, hb_280, hQ_278⟩ := hQ_278
          have hb_280r := t_rng y_279
          have t_281 : 3 ≤ (f a0 1).toInt ∧ (f a0 1).toInt ≤ 30 := (cI_at hI 1 s0).2.1 rfl
          have t_282 : 0 ≤ (f a0 3).toInt ∧ (f a0 3).toInt ≤ 32 := (cI_at hI 3 s0).2.2.2.1 rfl
          have t_283 : 0 ≤ (f a0 5).toInt ∧ (f a0 5).toInt ≤ 6 := (cI_at hI 5 s0).2.2.2.2.1 rfl
          have t_284 : 0 ≤ (f a0 14).toInt ∧ (f a0 14).toInt ≤ 26 := (cI_at hI 14 s0).2.2.2.2.2.2.1 rfl
          have t_285 : -1 ≤ (f a0 23).toInt ∧ (f a0 23).toInt ≤ 1 := (cI_at hI 23 s0).2.2.2.2.2.2.2.2.2 rfl
          have g_286 : (f_274 a0 1).toInt = (f a0 1).toInt := congrArg Int32.toInt (hQ_278.2.2.2.2 1 (by decide))
          have g_287 : (f_274 a0 3).toInt = (f a0 3).toInt := congrArg Int32.toInt (hQ_278.2.2.2.2 3 (by decide))
          have g_288 : (f_274 a0 5).toInt = (f a0 5).toInt := congrArg Int32.toInt (hQ_278.2.2.2.2 5 (by decide))
          have g_289 : (f_274 a0 8).toInt = (f a0 8).toInt := congrArg Int32.toInt (hQ_278.2.2.2.2 8 (by decide))
          have g_290 : (f_274 a0 14).toInt = (f a0 14).toInt := congrArg Int32.toInt (hQ_278.2.2.2.2 14 (by decide))
          have g_291 : (f_274 a0 23).toInt = (f a0 23).toInt := congrArg Int32.toInt (hQ_278.2.2.2.2 23 (by decide))
          have hr8 : f_274 (a0 + 8) = f (a0 + 8) := hG_276 (a0 + 8) (by omega)
          have hk : ∀ k, k ≠ 2 → f_274 a0 k = f a0 k := hQ_278.2.2.2.2
          show cT 115 40 [.ref a0, .int x1, .int x2, .int x3, ((((((((((.retAddr 0))))))))))] [.int y_279] _ _ _ _ _ _
          refine cT_if b_M_claim_40 (fun c_292 => ?_) (fun c_292 => ?_)
          · rw [t_eq] at c_292
            have t_293 : 0 ≤ (f_274 a0 2).toInt ∧ (f_274 a0 2).toInt ≤ 2 := (cI_at hI_275 2 s0).2.2.1 rfl
            have t_294 : (nI 0).toInt = 0 := nI_toInt (by decide)
            exact cT_ret b_M_claim_43 hI_275 hF_277 ⟨_, rfl, by first | exact Or.inl ⟨by omega, hr8, hk⟩ | exact Or.inr ⟨by omega, by rw [hr8], by rw [cg_up_row, hr8], fun k h2 => by rw [cg_up_o (by omega)]; exact hk k h2⟩⟩
          · rw [t_eq] at c_292
            have hI_295 := cI_up (k := (((nI 4) * x1) + x2).toNatClampNeg) (x := x3) hI_275 (sc_7_13 s0) ⟨(fun _ => by omega), (fun _ => by omega), (fun _ => by omega), (fun _ => by omega), (fun _ => by omega), (fun _ => by omega), (fun _ => by omega), (fun _ => by omega), (fun _ => by omega), (fun _ => by omega), (fun _ => by omega), (fun _ => by omega), (fun _ => by omega)⟩
            have hF_296 := cF_up (a := a0 + 8) (k := (((nI 4) * x1) + x2).toNatClampNeg) (x := x3) hF_277 (by omega)
            first | have t_298 : (((nI 4)) * x1).toInt = 4 * (x1).toInt := t_mulc (by decide) (by omega) | (obtain ⟨kt_298, t_298⟩ := t_mul ((nI 4)) x1; rw [nI_toInt (show 4 < 2 ^ 31 by decide)] at t_298)
            first | have t_297 : ((((nI 4) * x1)) + x2).toInt = ((((nI 4) * x1))).toInt + (x2).toInt := t_addn (by omega) | obtain ⟨kt_297, t_297⟩ := t_add (((nI 4) * x1)) x2
            have t_299 : ((cg_up f_274 (a0 + 8) (((nI 4) * x1) + x2).toNatClampNeg x3) a0 2).toInt = (f_274 a0 2).toInt := by rw [cg_up_o (ne_sh s0 (sc_7_13 s0) (by decide))]
            have t_300 : 0 ≤ (f_274 a0 2).toInt ∧ (f_274 a0 2).toInt ≤ 2 := (cI_at hI_275 2 s0).2.2.1 rfl
            have t_301 := t_rng (f_274 (a0 + 8) (((nI 4) * x1) + x2).toNatClampNeg)
            exact cT_ret (b_M_claim_45 s0 (by rw [t_in]; omega)) hI_295 hF_296 ⟨_, rfl, by first | exact Or.inl ⟨by omega, hr8, hk⟩ | exact Or.inr ⟨by omega, by rw [hr8], by rw [cg_up_row, hr8], fun k h2 => by rw [cg_up_o (by omega)]; exact hk k h2⟩⟩
theorem c_M_picture {L : Nat} {f : cg_G} {e : Nat × Nat} {a0 : Nat} {x1 : Int32} {x2 : Int32} (hI : cI L f) (s0 : sh_ a0 = 7)  : cE 119 [.ref a0, .int x1, .int x2] L e (fun o => o = a0 ∨ o = a0 + 7) f (fun v f' => ∃ x : Int32, v = some (.int x) ∧ (((¬ (0 ≤ x1.toInt ∧ x1.toInt < (f a0 8).toInt) ∧ (f' a0 2).toInt = 1) ∨ ((0 ≤ x1.toInt ∧ x1.toInt < (f a0 8).toInt) ∧ ¬ (0 ≤ x2.toInt ∧ x2.toInt ≤ 30) ∧ (f' a0 2).toInt = 2)) ∧ f' (a0 + 7) = f (a0 + 7) ∧ (∀ k, k ≠ 2 → f' a0 k = f a0 k) ∨ ((0 ≤ x1.toInt ∧ x1.toInt < (f a0 8).toInt) ∧ (0 ≤ x2.toInt ∧ x2.toInt ≤ 30) ∧ (f' a0 2).toInt = 0) ∧ x = f (a0 + 7) x1.toNatClampNeg ∧ f' (a0 + 7) = cj_up (f (a0 + 7)) x1.toNatClampNeg x2 ∧ (∀ k, k ≠ 2 → f' a0 k = f a0 k))) := by
  refine cE_of (ls := [.ref a0, .int x1, .int x2, (.retAddr 0)]) rfl ?_
  have t0 := t_0
  have hF : cF (fun o => o = a0 ∨ o = a0 + 7) f f := cF_rf
  have hm := one_7 s0
  have t_1 := t_rng (x1)
  have t_2 := t_rng (x2)
  refine cT_call (b_M_picture_0 s0) (c_M_isEntry hI s0) hF (fun o ho => ho.elim) (fun v_3 f_4 hI_5 hG_6 hF_7 hQ_8 => ?_)
  obtain rfl := cF_no hG_6
  obtain ⟨y_9, rfl, hb_10, hQ_8⟩ := hQ_8
  have hb_10r := t_rng y_9
  have t_11 : 0 ≤ (f a0 8).toInt ∧ (f a0 8).toInt ≤ 8 := (cI_at hI 8 s0).2.2.2.2.2.1 rfl
  show cT 119 6 [.ref a0, .int x1, .int x2, ((.retAddr 0))] [.int y_9, .ref a0] _ _ _ _ _ _
  refine cT_if b_M_picture_6 (fun c_12 => ?_) (fun c_12 => ?_)
  · rw [t_lt] at c_12
    refine cT_go b_M_picture_20 ?_
    have t_14 : (nI 0).toInt = 0 := nI_toInt (by decide)
    refine cT_call (b_M_picture_21 s0) (c_M_goes hI s0) hF (fun o ho => by omega) (fun v_15 f_16 hI_17 hG_18 hF_19 hQ_20 => ?_)
    obtain ⟨y_21, rfl, hb_22, hQ_20⟩ := hQ_20
    have hb_22r := t_rng y_21
    have t_23 : 3 ≤ (f a0 1).toInt ∧ (f a0 1).toInt ≤ 30 := (cI_at hI 1 s0).2.1 rfl
    have t_24 : 0 ≤ (f a0 3).toInt ∧ (f a0 3).toInt ≤ 32 := (cI_at hI 3 s0).2.2.2.1 rfl
    have t_25 : 0 ≤ (f a0 5).toInt ∧ (f a0 5).toInt ≤ 6 := (cI_at hI 5 s0).2.2.2.2.1 rfl
    have t_26 : 0 ≤ (f a0 14).toInt ∧ (f a0 14).toInt ≤ 26 := (cI_at hI 14 s0).2.2.2.2.2.2.1 rfl
    have t_27 : -1 ≤ (f a0 23).toInt ∧ (f a0 23).toInt ≤ 1 := (cI_at hI 23 s0).2.2.2.2.2.2.2.2.2 rfl
    have g_28 : (f_16 a0 1).toInt = (f a0 1).toInt := congrArg Int32.toInt (hQ_20.2.2.2.2 1 (by decide))
    have g_29 : (f_16 a0 3).toInt = (f a0 3).toInt := congrArg Int32.toInt (hQ_20.2.2.2.2 3 (by decide))
    have g_30 : (f_16 a0 5).toInt = (f a0 5).toInt := congrArg Int32.toInt (hQ_20.2.2.2.2 5 (by decide))
    have g_31 : (f_16 a0 8).toInt = (f a0 8).toInt := congrArg Int32.toInt (hQ_20.2.2.2.2 8 (by decide))
    have g_32 : (f_16 a0 14).toInt = (f a0 14).toInt := congrArg Int32.toInt (hQ_20.2.2.2.2 14 (by decide))
    have g_33 : (f_16 a0 23).toInt = (f a0 23).toInt := congrArg Int32.toInt (hQ_20.2.2.2.2 23 (by decide))
    have hr7 : f_16 (a0 + 7) = f (a0 + 7) := hG_18 (a0 + 7) (by omega)
    have hk : ∀ k, k ≠ 2 → f_16 a0 k = f a0 k := hQ_20.2.2.2.2
    show cT 119 24 [.ref a0, .int x1, .int x2, (((((.retAddr 0)))))] [.int y_21] _ _ _ _ _ _
    refine cT_if b_M_picture_24 (fun c_34 => ?_) (fun c_34 => ?_)
    · rw [t_eq] at c_34
      have t_35 : 0 ≤ (f_16 a0 2).toInt ∧ (f_16 a0 2).toInt ≤ 2 := (cI_at hI_17 2 s0).2.2.1 rfl
      exact cT_ret b_M_picture_27 hI_17 hF_19 ⟨_, rfl, by first | exact Or.inl ⟨by omega, hr7, hk⟩ | exact Or.inr ⟨by omega, by rw [hr7], by rw [cg_up_row, hr7], fun k h2 => by rw [cg_up_o (by omega)]; exact hk k h2⟩⟩
    · rw [t_eq] at c_34
      have hI_36 := cI_up (k := x1.toNatClampNeg) (x := x2) hI_17 (sc_7_12 s0) ⟨(fun _ => by omega), (fun _ => by omega), (fun _ => by omega), (fun _ => by omega), (fun _ => by omega), (fun _ => by omega), (fun _ => by omega), (fun _ => by omega), (fun _ => by omega), (fun _ => by omega), (fun _ => by omega), (fun _ => by omega), (fun _ => by omega)⟩
      have hF_37 := cF_up (a := a0 + 7) (k := x1.toNatClampNeg) (x := x2) hF_19 (by omega)
      have t_38 : ((cg_up f_16 (a0 + 7) x1.toNatClampNeg x2) a0 2).toInt = (f_16 a0 2).toInt := by rw [cg_up_o (ne_sh s0 (sc_7_12 s0) (by decide))]
      have t_39 : 0 ≤ (f_16 a0 2).toInt ∧ (f_16 a0 2).toInt ≤ 2 := (cI_at hI_17 2 s0).2.2.1 rfl
      have t_40 : 0 ≤ (f_16 (a0 + 7) x1.toNatClampNeg).toInt ∧ (f_16 (a0 + 7) x1.toNatClampNeg).toInt ≤ 30 := (cI_at hI_17 x1.toNatClampNeg (sc_7_12 s0)).2.2.2.1 (by omega)
      exact cT_ret (b_M_picture_29 s0 (by rw [t_in]; omega)) hI_36 hF_37 ⟨_, rfl, by first | exact Or.inl ⟨by omega, hr7, hk⟩ | exact Or.inr ⟨by omega, by rw [hr7], by rw [cg_up_row, hr7], fun k h2 => by rw [cg_up_o (by omega)]; exact hk k h2⟩⟩
  · rw [t_lt] at c_12
    have t_42 : (nI 30).toInt = 30 := nI_toInt (by decide)
    refine cT_if b_M_picture_10 (fun c_41 => ?_) (fun c_41 => ?_)
    · rw [t_lt] at c_41
      refine cT_go b_M_picture_20 ?_
      have t_43 : (nI 0).toInt = 0 := nI_toInt (by decide)
      refine cT_call (b_M_picture_21 s0) (c_M_goes hI s0) hF (fun o ho => by omega) (fun v_44 f_45 hI_46 hG_47 hF_48 hQ_49 => ?_)
      obtain ⟨y_50, rfl, hb_51, hQ_49⟩ := hQ_49
      have hb_51r := t_rng y_50
      have t_52 : 3 ≤ (f a0 1).toInt ∧ (f a0 1).toInt ≤ 30 := (cI_at hI 1 s0).2.1 rfl
      have t_53 : 0 ≤ (f a0 3).toInt ∧ (f a0 3).toInt ≤ 32 := (cI_at hI 3 s0).2.2.2.1 rfl
      have t_54 : 0 ≤ (f a0 5).toInt ∧ (f a0 5).toInt ≤ 6 := (cI_at hI 5 s0).2.2.2.2.1 rfl
      have t_55 : 0 ≤ (f a0 14).toInt ∧ (f a0 14).toInt ≤ 26 := (cI_at hI 14 s0).2.2.2.2.2.2.1 rfl
      have t_56 : -1 ≤ (f a0 23).toInt ∧ (f a0 23).toInt ≤ 1 := (cI_at hI 23 s0).2.2.2.2.2.2.2.2.2 rfl
      have g_57 : (f_45 a0 1).toInt = (f a0 1).toInt := congrArg Int32.toInt (hQ_49.2.2.2.2 1 (by decide))
      have g_58 : (f_45 a0 3).toInt = (f a0 3).toInt := congrArg Int32.toInt (hQ_49.2.2.2.2 3 (by decide))
      have g_59 : (f_45 a0 5).toInt = (f a0 5).toInt := congrArg Int32.toInt (hQ_49.2.2.2.2 5 (by decide))
      have g_60 : (f_45 a0 8).toInt = (f a0 8).toInt := congrArg Int32.toInt (hQ_49.2.2.2.2 8 (by decide))
      have g_61 : (f_45 a0 14).toInt = (f a0 14).toInt := congrArg Int32.toInt (hQ_49.2.2.2.2 14 (by decide))
      have g_62 : (f_45 a0 23).toInt = (f a0 23).toInt := congrArg Int32.toInt (hQ_49.2.2.2.2 23 (by decide))
      have hr7 : f_45 (a0 + 7) = f (a0 + 7) := hG_47 (a0 + 7) (by omega)
      have hk : ∀ k, k ≠ 2 → f_45 a0 k = f a0 k := hQ_49.2.2.2.2
      show cT 119 24 [.ref a0, .int x1, .int x2, ((((((.retAddr 0))))))] [.int y_50] _ _ _ _ _ _
      refine cT_if b_M_picture_24 (fun c_63 => ?_) (fun c_63 => ?_)
      · rw [t_eq] at c_63
        have t_64 : 0 ≤ (f_45 a0 2).toInt ∧ (f_45 a0 2).toInt ≤ 2 := (cI_at hI_46 2 s0).2.2.1 rfl
        exact cT_ret b_M_picture_27 hI_46 hF_48 ⟨_, rfl, by first | exact Or.inl ⟨by omega, hr7, hk⟩ | exact Or.inr ⟨by omega, by rw [hr7], by rw [cg_up_row, hr7], fun k h2 => by rw [cg_up_o (by omega)]; exact hk k h2⟩⟩
      · rw [t_eq] at c_63
        have hI_65 := cI_up (k := x1.toNatClampNeg) (x := x2) hI_46 (sc_7_12 s0) ⟨(fun _ => by omega), (fun _ => by omega), (fun _ => by omega), (fun _ => by omega), (fun _ => by omega), (fun _ => by omega), (fun _ => by omega), (fun _ => by omega), (fun _ => by omega), (fun _ => by omega), (fun _ => by omega), (fun _ => by omega), (fun _ => by omega)⟩
        have hF_66 := cF_up (a := a0 + 7) (k := x1.toNatClampNeg) (x := x2) hF_48 (by omega)
        have t_67 : ((cg_up f_45 (a0 + 7) x1.toNatClampNeg x2) a0 2).toInt = (f_45 a0 2).toInt := by rw [cg_up_o (ne_sh s0 (sc_7_12 s0) (by decide))]
        have t_68 : 0 ≤ (f_45 a0 2).toInt ∧ (f_45 a0 2).toInt ≤ 2 := (cI_at hI_46 2 s0).2.2.1 rfl
        have t_69 : 0 ≤ (f_45 (a0 + 7) x1.toNatClampNeg).toInt ∧ (f_45 (a0 + 7) x1.toNatClampNeg).toInt ≤ 30 := (cI_at hI_46 x1.toNatClampNeg (sc_7_12 s0)).2.2.2.1 (by omega)
        exact cT_ret (b_M_picture_29 s0 (by rw [t_in]; omega)) hI_65 hF_66 ⟨_, rfl, by first | exact Or.inl ⟨by omega, hr7, hk⟩ | exact Or.inr ⟨by omega, by rw [hr7], by rw [cg_up_row, hr7], fun k h2 => by rw [cg_up_o (by omega)]; exact hk k h2⟩⟩
    · rw [t_lt] at c_41
      refine cT_go b_M_picture_16 ?_
      have t_70 : (nI 1).toInt = 1 := nI_toInt (by decide)
      refine cT_call (b_M_picture_21 s0) (c_M_goes hI s0) hF (fun o ho => by omega) (fun v_71 f_72 hI_73 hG_74 hF_75 hQ_76 => ?_)
      obtain ⟨y_77, rfl, hb_78, hQ_76⟩ := hQ_76
      have hb_78r := t_rng y_77
      have t_79 : 3 ≤ (f a0 1).toInt ∧ (f a0 1).toInt ≤ 30 := (cI_at hI 1 s0).2.1 rfl
      have t_80 : 0 ≤ (f a0 3).toInt ∧ (f a0 3).toInt ≤ 32 := (cI_at hI 3 s0).2.2.2.1 rfl
      have t_81 : 0 ≤ (f a0 5).toInt ∧ (f a0 5).toInt ≤ 6 := (cI_at hI 5 s0).2.2.2.2.1 rfl
      have t_82 : 0 ≤ (f a0 14).toInt ∧ (f a0 14).toInt ≤ 26 := (cI_at hI 14 s0).2.2.2.2.2.2.1 rfl
      have t_83 : -1 ≤ (f a0 23).toInt ∧ (f a0 23).toInt ≤ 1 := (cI_at hI 23 s0).2.2.2.2.2.2.2.2.2 rfl
      have g_84 : (f_72 a0 1).toInt = (f a0 1).toInt := congrArg Int32.toInt (hQ_76.2.2.2.2 1 (by decide))
      have g_85 : (f_72 a0 3).toInt = (f a0 3).toInt := congrArg Int32.toInt (hQ_76.2.2.2.2 3 (by decide))
      have g_86 : (f_72 a0 5).toInt = (f a0 5).toInt := congrArg Int32.toInt (hQ_76.2.2.2.2 5 (by decide))
      have g_87 : (f_72 a0 8).toInt = (f a0 8).toInt := congrArg Int32.toInt (hQ_76.2.2.2.2 8 (by decide))
      have g_88 : (f_72 a0 14).toInt = (f a0 14).toInt := congrArg Int32.toInt (hQ_76.2.2.2.2 14 (by decide))
      have g_89 : (f_72 a0 23).toInt = (f a0 23).toInt := congrArg Int32.toInt (hQ_76.2.2.2.2 23 (by decide))
      have hr7 : f_72 (a0 + 7) = f (a0 + 7) := hG_74 (a0 + 7) (by omega)
      have hk : ∀ k, k ≠ 2 → f_72 a0 k = f a0 k := hQ_76.2.2.2.2
      show cT 119 24 [.ref a0, .int x1, .int x2, ((((((.retAddr 0))))))] [.int y_77] _ _ _ _ _ _
      refine cT_if b_M_picture_24 (fun c_90 => ?_) (fun c_90 => ?_)
      · rw [t_eq] at c_90
        have t_91 : 0 ≤ (f_72 a0 2).toInt ∧ (f_72 a0 2).toInt ≤ 2 := (cI_at hI_73 2 s0).2.2.1 rfl
        have t_92 : (nI 0).toInt = 0 := nI_toInt (by decide)
        exact cT_ret b_M_picture_27 hI_73 hF_75 ⟨_, rfl, by first | exact Or.inl ⟨by omega, hr7, hk⟩ | exact Or.inr ⟨by omega, by rw [hr7], by rw [cg_up_row, hr7], fun k h2 => by rw [cg_up_o (by omega)]; exact hk k h2⟩⟩
      · rw [t_eq] at c_90
        have hI_93 := cI_up (k := x1.toNatClampNeg) (x := x2) hI_73 (sc_7_12 s0) ⟨(fun _ => by omega), (fun _ => by omega), (fun _ => by omega), (fun _ => by omega), (fun _ => by omega), (fun _ => by omega), (fun _ => by omega), (fun _ => by omega), (fun _ => by omega), (fun _ => by omega), (fun _ => by omega), (fun _ => by omega), (fun _ => by omega)⟩
        have hF_94 := cF_up (a := a0 + 7) (k := x1.toNatClampNeg) (x := x2) hF_75 (by omega)
        have t_95 : ((cg_up f_72 (a0 + 7) x1.toNatClampNeg x2) a0 2).toInt = (f_72 a0 2).toInt := by rw [cg_up_o (ne_sh s0 (sc_7_12 s0) (by decide))]
        have t_96 : 0 ≤ (f_72 a0 2).toInt ∧ (f_72 a0 2).toInt ≤ 2 := (cI_at hI_73 2 s0).2.2.1 rfl
        have t_97 : 0 ≤ (f_72 (a0 + 7) x1.toNatClampNeg).toInt ∧ (f_72 (a0 + 7) x1.toNatClampNeg).toInt ≤ 30 := (cI_at hI_73 x1.toNatClampNeg (sc_7_12 s0)).2.2.2.1 (by omega)
        exact cT_ret (b_M_picture_29 s0 (by rw [t_in]; omega)) hI_93 hF_94 ⟨_, rfl, by first | exact Or.inl ⟨by omega, hr7, hk⟩ | exact Or.inr ⟨by omega, by rw [hr7], by rw [cg_up_row, hr7], fun k h2 => by rw [cg_up_o (by omega)]; exact hk k h2⟩⟩
