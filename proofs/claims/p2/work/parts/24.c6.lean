theorem c_M_goes {L : Nat} {f : cg_G} {e : Nat × Nat} {a0 : Nat} {x1 : Int32} {x2 : Int32} (hI : cI L f) (s0 : sh_ a0 = 7)  : cE 46 [.ref a0, .int x1, .int x2] L e (fun o => o = a0) f (fun v f' => ∃ x : Int32, v = some (.int x) ∧ (x = 0 ∨ x = 1) ∧ ((x.toInt ≠ 0 ↔ x1.toInt ≠ 0 ∧ x2.toInt ≠ 0) ∧ (x1.toInt = 0 → (f' a0 2).toInt = 1) ∧ (x1.toInt ≠ 0 → x2.toInt = 0 → (f' a0 2).toInt = 2) ∧ (x1.toInt ≠ 0 → x2.toInt ≠ 0 → (f' a0 2).toInt = 0) ∧ ∀ k, k ≠ 2 → f' a0 k = f a0 k)) := by
  refine cE_of (ls := [.ref a0, .int x1, .int x2]) rfl ?_
  have t0 := t_0
  have hF : cF (fun o => o = a0) f f := cF_rf
  have hm := one_7 s0
  have t_1 := t_rng (x1)
  have t_2 := t_rng (x2)
  refine cT_if b_M_goes_0 (fun c_3 => ?_) (fun c_3 => ?_)
  · rw [t_eq] at c_3
    refine cT_go b_M_goes_5 ?_
    have t_7 : (nI 1).toInt = 1 := nI_toInt (by decide)
    have hI_5 := cI_up (k := 2) (x := nI 1) hI s0 ⟨(fun h => absurd h (by decide)), (fun h => absurd h (by decide)), (fun _ => by omega), (fun h => absurd h (by decide)), (fun h => absurd h (by decide)), (fun h => absurd h (by decide)), (fun h => absurd h (by decide)), (fun h => absurd h (by decide)), (fun h => absurd h (by decide)), (fun h => absurd h (by decide))⟩
    have hF_6 := cF_up (a := a0) (k := 2) (x := nI 1) hF (by omega)
    have t_9 : ((cg_up f a0 2 (nI 1)) a0 2).toInt = (nI 1).toInt := by rw [cg_up_s]
    refine cT_if (b_M_goes_18 s0 s0) (fun c_8 => ?_) (fun c_8 => ?_)
    · rw [t_eq] at c_8
      refine cT_go b_M_goes_28 ?_
      exact cT_ret (b_M_goes_33 (by decide)) hI_5 hF_6 ⟨_, rfl, (by decide), ⟨by omega, by omega, by omega, by omega, fun k hk => cg_up_k hk⟩⟩
    · rw [t_eq] at c_8
      refine cT_go b_M_goes_32 ?_
      have t_10 : (nI 0).toInt = 0 := nI_toInt (by decide)
      exact cT_ret (b_M_goes_33 (by decide)) hI_5 hF_6 ⟨_, rfl, (by decide), ⟨by omega, by omega, by omega, by omega, fun k hk => cg_up_k hk⟩⟩
  · rw [t_eq] at c_3
    refine cT_if b_M_goes_9 (fun c_11 => ?_) (fun c_11 => ?_)
    · rw [t_eq] at c_11
      refine cT_go b_M_goes_13 ?_
      have t_14 : (nI 2).toInt = 2 := nI_toInt (by decide)
      have hI_12 := cI_up (k := 2) (x := nI 2) hI s0 ⟨(fun h => absurd h (by decide)), (fun h => absurd h (by decide)), (fun _ => by omega), (fun h => absurd h (by decide)), (fun h => absurd h (by decide)), (fun h => absurd h (by decide)), (fun h => absurd h (by decide)), (fun h => absurd h (by decide)), (fun h => absurd h (by decide)), (fun h => absurd h (by decide))⟩
      have hF_13 := cF_up (a := a0) (k := 2) (x := nI 2) hF (by omega)
      have t_16 : ((cg_up f a0 2 (nI 2)) a0 2).toInt = (nI 2).toInt := by rw [cg_up_s]
      refine cT_if (b_M_goes_18 s0 s0) (fun c_15 => ?_) (fun c_15 => ?_)
      · rw [t_eq] at c_15
        refine cT_go b_M_goes_28 ?_
        have t_17 : (nI 1).toInt = 1 := nI_toInt (by decide)
        exact cT_ret (b_M_goes_33 (by decide)) hI_12 hF_13 ⟨_, rfl, (by decide), ⟨by omega, by omega, by omega, by omega, fun k hk => cg_up_k hk⟩⟩
      · rw [t_eq] at c_15
        refine cT_go b_M_goes_32 ?_
        have t_18 : (nI 0).toInt = 0 := nI_toInt (by decide)
        exact cT_ret (b_M_goes_33 (by decide)) hI_12 hF_13 ⟨_, rfl, (by decide), ⟨by omega, by omega, by omega, by omega, fun k hk => cg_up_k hk⟩⟩
    · rw [t_eq] at c_11
      refine cT_go b_M_goes_17 ?_
      have t_21 : (nI 0).toInt = 0 := nI_toInt (by decide)
      have hI_19 := cI_up (k := 2) (x := nI 0) hI s0 ⟨(fun h => absurd h (by decide)), (fun h => absurd h (by decide)), (fun _ => by omega), (fun h => absurd h (by decide)), (fun h => absurd h (by decide)), (fun h => absurd h (by decide)), (fun h => absurd h (by decide)), (fun h => absurd h (by decide)), (fun h => absurd h (by decide)), (fun h => absurd h (by decide))⟩
      have hF_20 := cF_up (a := a0) (k := 2) (x := nI 0) hF (by omega)
      have t_23 : ((cg_up f a0 2 (nI 0)) a0 2).toInt = (nI 0).toInt := by rw [cg_up_s]
      refine cT_if (b_M_goes_18 s0 s0) (fun c_22 => ?_) (fun c_22 => ?_)
      · rw [t_eq] at c_22
        refine cT_go b_M_goes_28 ?_
        have t_24 : (nI 1).toInt = 1 := nI_toInt (by decide)
        exact cT_ret (b_M_goes_33 (by decide)) hI_19 hF_20 ⟨_, rfl, (by decide), ⟨by omega, by omega, by omega, by omega, fun k hk => cg_up_k hk⟩⟩
      · rw [t_eq] at c_22
        refine cT_go b_M_goes_32 ?_
        exact cT_ret (b_M_goes_33 (by decide)) hI_19 hF_20 ⟨_, rfl, (by decide), ⟨by omega, by omega, by omega, by omega, fun k hk => cg_up_k hk⟩⟩
theorem c_M_below {L : Nat} {f : cg_G} {e : Nat × Nat} {x0 : Int32} {x1 : Int32} (hI : cI L f)   : cE 44 [.int x0, .int x1] L e (fun o => False) f (fun v f' => ∃ x : Int32, v = some (.int x) ∧ (x = 0 ∨ x = 1) ∧ (x.toInt ≠ 0 ↔ 0 ≤ x0.toInt ∧ x0.toInt < x1.toInt)) := by
  refine cE_of (ls := [.int x0, .int x1]) rfl ?_
  have t0 := t_0
  have hF : cF (fun o => False) f f := cF_rf
  have t_1 := t_rng (x0)
  have t_2 := t_rng (x1)
  refine cT_if b_M_below_0 (fun c_3 => ?_) (fun c_3 => ?_)
  · rw [t_lt] at c_3
    refine cT_go b_M_below_13 ?_
    have t_5 : (nI 0).toInt = 0 := nI_toInt (by decide)
    exact cT_ret (b_M_below_14 (by decide)) hI hF ⟨_, rfl, (by decide), by omega⟩
  · rw [t_lt] at c_3
    refine cT_if b_M_below_4 (fun c_6 => ?_) (fun c_6 => ?_)
    · rw [t_le] at c_6
      refine cT_go b_M_below_13 ?_
      have t_7 : (nI 0).toInt = 0 := nI_toInt (by decide)
      exact cT_ret (b_M_below_14 (by decide)) hI hF ⟨_, rfl, (by decide), by omega⟩
    · rw [t_le] at c_6
      refine cT_go b_M_below_9 ?_
      have t_8 : (nI 1).toInt = 1 := nI_toInt (by decide)
      exact cT_ret (b_M_below_14 (by decide)) hI hF ⟨_, rfl, (by decide), by omega⟩
theorem c_M_isEntry {L : Nat} {f : cg_G} {e : Nat × Nat} {a0 : Nat} {x1 : Int32} (hI : cI L f) (s0 : sh_ a0 = 7)  : cE 90 [.ref a0, .int x1] L e (fun o => False) f (fun v f' => ∃ x : Int32, v = some (.int x) ∧ (x = 0 ∨ x = 1) ∧ (x.toInt ≠ 0 ↔ 0 ≤ x1.toInt ∧ x1.toInt < (f a0 8).toInt)) := by
  refine cE_of (ls := [.ref a0, .int x1]) rfl ?_
  have t0 := t_0
  have hF : cF (fun o => False) f f := cF_rf
  have hm := one_7 s0
  have t_1 := t_rng (x1)
  have t_2 : 0 ≤ (f a0 8).toInt ∧ (f a0 8).toInt ≤ 8 := (cI_at hI 8 s0).2.2.2.2.2.1 rfl
  refine cT_call (b_M_isEntry_0 s0) (c_M_below hI) hF (fun o ho => ho.elim) (fun v_3 f_4 hI_5 hG_6 hF_7 hQ_8 => ?_)
  obtain rfl := cF_no hG_6
  obtain ⟨y_9, rfl, hb_10, hQ_8⟩ := hQ_8
  have hb_10r := t_rng y_9
  show cT 90 8 [.ref a0, .int x1] [.int y_9] _ _ _ _ _ _
  exact cT_ret (b_M_isEntry_8 hb_10) hI hF ⟨_, rfl, hb_10, by omega⟩
theorem c_M_isLetter {L : Nat} {f : cg_G} {e : Nat × Nat} {x0 : Int32} (hI : cI L f)   : cE 49 [.int x0] L e (fun o => False) f (fun v f' => ∃ x : Int32, v = some (.int x) ∧ (x = 0 ∨ x = 1) ∧ (x.toInt ≠ 0 ↔ 97 ≤ x0.toInt ∧ x0.toInt ≤ 122)) := by
  refine cE_of (ls := [.int x0]) rfl ?_
  have t0 := t_0
  have hF : cF (fun o => False) f f := cF_rf
  have t_1 := t_rng (x0)
  have t_3 : (nI 97).toInt = 97 := nI_toInt (by decide)
  refine cT_if b_M_isLetter_0 (fun c_2 => ?_) (fun c_2 => ?_)
  · rw [t_lt] at c_2
    refine cT_go b_M_isLetter_16 ?_
    have t_4 : (nI 0).toInt = 0 := nI_toInt (by decide)
    exact cT_ret (b_M_isLetter_17 (by decide)) hI hF ⟨_, rfl, (by decide), by omega⟩
  · rw [t_lt] at c_2
    have t_6 : (nI 122).toInt = 122 := nI_toInt (by decide)
    refine cT_if b_M_isLetter_6 (fun c_5 => ?_) (fun c_5 => ?_)
    · rw [t_lt] at c_5
      refine cT_go b_M_isLetter_16 ?_
      have t_7 : (nI 0).toInt = 0 := nI_toInt (by decide)
      exact cT_ret (b_M_isLetter_17 (by decide)) hI hF ⟨_, rfl, (by decide), by omega⟩
    · rw [t_lt] at c_5
      refine cT_go b_M_isLetter_12 ?_
      have t_8 : (nI 1).toInt = 1 := nI_toInt (by decide)
      exact cT_ret (b_M_isLetter_17 (by decide)) hI hF ⟨_, rfl, (by decide), by omega⟩
theorem l_M_signsOf_4 {L : Nat} {e : Nat × Nat} {f0 : cg_G} : ∀ (k : Nat) {f : cg_G} {x0 : Int32} {x1 : Int32} {x2 : Int32}, (4 - x2.toInt).toNat < k → cI L f → cF (fun o => False) f0 f → (0 ≤ x2.toInt ∧ x2.toInt ≤ 4) → (0 ≤ x1.toInt ∧ x1.toInt ≤ x2.toInt) → (x1.toInt = (cnz x0 x2.toNatClampNeg : Nat)) → cT 53 4 [.int x0, .int x1, .int x2] [] L e (fun o => False) f0 f (fun v f' => ∃ x : Int32, v = some (.int x) ∧ (x.toInt = (cnz x0 4 : Nat) ∧ x.toInt ≤ 4)) := by
  intro k
  induction k with
  | zero => intro f x0 x1 x2 hm; omega
  | succ k ih =>
    intro f x0 x1 x2 hm hI hF  i2 i0 i1
    have t0 := t_0
    have t_1 := t_rng (x0)
    have t_2 := t_rng (x1)
    have t_3 := t_rng (x2)
    have t_5 : (nI 4).toInt = 4 := nI_toInt (by decide)
    refine cT_if b_M_signsOf_4 (fun c_4 => ?_) (fun c_4 => ?_)
    · rw [t_le] at c_4
      exact cT_ret b_M_signsOf_36 hI hF ⟨_, rfl, ⟨by rw [← cl4 (show x2.toInt = 4 by omega)]; exact i1, by omega⟩⟩
    · rw [t_le] at c_4
      have t_7 := t_rng (((x0.toUInt32 >>> (((nI 8) * x2).toUInt32 &&& Int32.toUInt32 31)).toInt32) &&& (nI 255))
      refine cT_if b_M_signsOf_9 (fun c_6 => ?_) (fun c_6 => ?_)
      · rw [t_eq] at c_6
        refine cT_go b_M_signsOf_22 ?_
        refine cT_go b_M_signsOf_29 ?_
        have t_10 : (nI 1).toInt = 1 := nI_toInt (by decide)
        first | have t_9 : (x2 + (nI 1)).toInt = (x2).toInt + ((nI 1)).toInt := t_addn (by omega) | obtain ⟨kt_9, t_9⟩ := t_add x2 (nI 1)
        exact ih (by omega) hI hF (by omega) (by omega) (by first | (rw [cnz_0]; omega) | (rw [cnz_s (by omega)]; split <;> omega) | (rw [cnz_s (by omega)]; unfold byt; split <;> omega))
      · rw [t_eq] at c_6
        refine cT_go b_M_signsOf_26 ?_
        refine cT_go b_M_signsOf_29 ?_
        have t_12 : (nI 1).toInt = 1 := nI_toInt (by decide)
        first | have t_11 : (x1 + ((nI 1))).toInt = (x1).toInt + (((nI 1))).toInt := t_addn (by omega) | obtain ⟨kt_11, t_11⟩ := t_add x1 ((nI 1))
        first | have t_13 : (x2 + (nI 1)).toInt = (x2).toInt + ((nI 1)).toInt := t_addn (by omega) | obtain ⟨kt_13, t_13⟩ := t_add x2 (nI 1)
        exact ih (by omega) hI hF (by omega) (by omega) (by first | (rw [cnz_0]; omega) | (rw [cnz_s (by omega)]; split <;> omega) | (rw [cnz_s (by omega)]; unfold byt; split <;> omega))
theorem c_M_signsOf {L : Nat} {f : cg_G} {e : Nat × Nat} {x0 : Int32} (hI : cI L f)   : cE 53 [.int x0] L e (fun o => False) f (fun v f' => ∃ x : Int32, v = some (.int x) ∧ (x.toInt = (cnz x0 4 : Nat) ∧ x.toInt ≤ 4)) := by
  refine cE_of (ls := [.int x0, (.retAddr 0), (.retAddr 0)]) rfl ?_
  have t0 := t_0
  have hF : cF (fun o => False) f f := cF_rf
  have t_14 := t_rng (x0)
  refine cT_go b_M_signsOf_0 ?_
  have t_15 : (nI 0).toInt = 0 := nI_toInt (by decide)
  exact l_M_signsOf_4 ((4 - (nI 0).toInt).toNat + 1) (by omega) hI hF (by omega) (by omega) (by first | (rw [cnz_0]; omega) | (rw [cnz_s (by omega)]; split <;> omega) | (rw [cnz_s (by omega)]; unfold byt; split <;> omega))
theorem l_M_arePlain_4 {L : Nat} {e : Nat × Nat} {f0 : cg_G} : ∀ (k : Nat) {f : cg_G} {x0 : Int32} {x1 : Int32} {x2 : Int32} {u3 : Value}, (4 - x2.toInt).toNat < k → cI L f → cF (fun o => False) f0 f → (0 ≤ x2.toInt ∧ x2.toInt ≤ 4) → (0 ≤ x1.toInt ∧ x1.toInt ≤ 1) → (x1.toInt ≠ 0 ↔ cbd x0 x2.toNatClampNeg = 0) → cT 43 4 [.int x0, .int x1, .int x2, u3] [] L e (fun o => False) f0 f (fun v f' => ∃ x : Int32, v = some (.int x) ∧ (x = 0 ∨ x = 1) ∧ (x.toInt ≠ 0 ↔ cbd x0 4 = 0)) := by
  intro k
  induction k with
  | zero => intro f x0 x1 x2 u3 hm; omega
  | succ k ih =>
    intro f x0 x1 x2 u3 hm hI hF  i2 i1 i3
    have t0 := t_0
    have t_1 := t_rng (x0)
    have t_2 := t_rng (x1)
    have t_3 := t_rng (x2)
    have t_5 : (nI 4).toInt = 4 := nI_toInt (by decide)
    refine cT_if b_M_arePlain_4 (fun c_4 => ?_) (fun c_4 => ?_)
    · rw [t_le] at c_4
      exact cT_ret (b_M_arePlain_52 (t_bool (by omega) (by omega))) hI hF ⟨_, rfl, (t_bool (by omega) (by omega)), by rw [← cl4 (show x2.toInt = 4 by omega)]; omega⟩
    · rw [t_le] at c_4
      refine cT_if b_M_arePlain_9 (fun c_6 => ?_) (fun c_6 => ?_)
      · rw [t_eq] at c_6
        refine cT_go b_M_arePlain_44 ?_
        refine cT_go b_M_arePlain_45 ?_
        have t_8 : (nI 0).toInt = 0 := nI_toInt (by decide)
        have t_10 : (nI 1).toInt = 1 := nI_toInt (by decide)
        first | have t_9 : (x2 + (nI 1)).toInt = (x2).toInt + ((nI 1)).toInt := t_addn (by omega) | obtain ⟨kt_9, t_9⟩ := t_add x2 (nI 1)
        have t_11 := t_rng (((x0.toUInt32 >>> (((nI 8) * x2).toUInt32 &&& Int32.toUInt32 31)).toInt32) &&& (nI 255))
        exact ih (by omega) hI hF (by omega) (by omega) (by first | exact cbd_0 | (rw [cbd_0]; omega) | (rw [cbd_s (by omega)]; split <;> omega) | (rw [cbd_s (by omega)]; unfold byt; split <;> omega))
      · rw [t_eq] at c_6
        have t_13 := t_rng (((x0.toUInt32 >>> (((nI 8) * x2).toUInt32 &&& Int32.toUInt32 31)).toInt32) &&& (nI 255))
        refine cT_if b_M_arePlain_24 (fun c_12 => ?_) (fun c_12 => ?_)
        · rw [t_eq] at c_12
          refine cT_go b_M_arePlain_40 ?_
          refine cT_go b_M_arePlain_45 ?_
          have t_14 : (nI 1).toInt = 1 := nI_toInt (by decide)
          first | have t_15 : (x2 + (nI 1)).toInt = (x2).toInt + ((nI 1)).toInt := t_addn (by omega) | obtain ⟨kt_15, t_15⟩ := t_add x2 (nI 1)
          exact ih (by omega) hI hF (by omega) (by omega) (by first | exact cbd_0 | (rw [cbd_0]; omega) | (rw [cbd_s (by omega)]; split <;> omega) | (rw [cbd_s (by omega)]; unfold byt; split <;> omega))
        · rw [t_eq] at c_12
          have t_17 : (nI 32).toInt = 32 := nI_toInt (by decide)
          refine cT_if b_M_arePlain_28 (fun c_16 => ?_) (fun c_16 => ?_)
          · rw [t_lt] at c_16
            refine cT_go b_M_arePlain_44 ?_
            refine cT_go b_M_arePlain_45 ?_
            have t_18 : (nI 0).toInt = 0 := nI_toInt (by decide)
            have t_20 : (nI 1).toInt = 1 := nI_toInt (by decide)
            first | have t_19 : (x2 + (nI 1)).toInt = (x2).toInt + ((nI 1)).toInt := t_addn (by omega) | obtain ⟨kt_19, t_19⟩ := t_add x2 (nI 1)
            exact ih (by omega) hI hF (by omega) (by omega) (by first | exact cbd_0 | (rw [cbd_0]; omega) | (rw [cbd_s (by omega)]; split <;> omega) | (rw [cbd_s (by omega)]; unfold byt; split <;> omega))
          · rw [t_lt] at c_16
            have t_22 : (nI 126).toInt = 126 := nI_toInt (by decide)
            refine cT_if b_M_arePlain_34 (fun c_21 => ?_) (fun c_21 => ?_)
            · rw [t_lt] at c_21
              refine cT_go b_M_arePlain_44 ?_
              refine cT_go b_M_arePlain_45 ?_
              have t_23 : (nI 0).toInt = 0 := nI_toInt (by decide)
              have t_25 : (nI 1).toInt = 1 := nI_toInt (by decide)
              first | have t_24 : (x2 + (nI 1)).toInt = (x2).toInt + ((nI 1)).toInt := t_addn (by omega) | obtain ⟨kt_24, t_24⟩ := t_add x2 (nI 1)
              exact ih (by omega) hI hF (by omega) (by omega) (by first | exact cbd_0 | (rw [cbd_0]; omega) | (rw [cbd_s (by omega)]; split <;> omega) | (rw [cbd_s (by omega)]; unfold byt; split <;> omega))
            · rw [t_lt] at c_21
              refine cT_go b_M_arePlain_40 ?_
              refine cT_go b_M_arePlain_45 ?_
              have t_26 : (nI 1).toInt = 1 := nI_toInt (by decide)
              first | have t_27 : (x2 + (nI 1)).toInt = (x2).toInt + ((nI 1)).toInt := t_addn (by omega) | obtain ⟨kt_27, t_27⟩ := t_add x2 (nI 1)
              exact ih (by omega) hI hF (by omega) (by omega) (by first | exact cbd_0 | (rw [cbd_0]; omega) | (rw [cbd_s (by omega)]; split <;> omega) | (rw [cbd_s (by omega)]; unfold byt; split <;> omega))
theorem c_M_arePlain {L : Nat} {f : cg_G} {e : Nat × Nat} {x0 : Int32} (hI : cI L f)   : cE 43 [.int x0] L e (fun o => False) f (fun v f' => ∃ x : Int32, v = some (.int x) ∧ (x = 0 ∨ x = 1) ∧ (x.toInt ≠ 0 ↔ cbd x0 4 = 0)) := by
  refine cE_of (ls := [.int x0, (.retAddr 0), (.retAddr 0), (.retAddr 0)]) rfl ?_
  have t0 := t_0
  have hF : cF (fun o => False) f f := cF_rf
  have t_28 := t_rng (x0)
  refine cT_go b_M_arePlain_0 ?_
  have t_29 : (nI 1).toInt = 1 := nI_toInt (by decide)
  have t_30 : (nI 0).toInt = 0 := nI_toInt (by decide)
  exact l_M_arePlain_4 ((4 - (nI 0).toInt).toNat + 1) (by omega) hI hF (by omega) (by omega) (by first | exact cbd_0 | (rw [cbd_0]; omega) | (rw [cbd_s (by omega)]; split <;> omega) | (rw [cbd_s (by omega)]; unfold byt; split <;> omega))
theorem c_M_thrown {L : Nat} {f : cg_G} {e : Nat × Nat} {a0 : Nat} (hI : cI L f) (s0 : sh_ a0 = 7)  : cE 56 [.ref a0] L e (fun o => False) f (fun v f' => ∃ x : Int32, v = some (.int x) ∧ (True)) := by
  refine cE_of (ls := [.ref a0]) rfl ?_
  have t0 := t_0
  have hF : cF (fun o => False) f f := cF_rf
  have hm := one_7 s0
  have t_1 : 0 ≤ (f a0 2).toInt ∧ (f a0 2).toInt ≤ 2 := (cI_at hI 2 s0).2.2.1 rfl
  exact cT_ret (b_M_thrown_0 s0) hI hF ⟨_, rfl, trivial⟩
theorem c_M_entry {L : Nat} {f : cg_G} {e : Nat × Nat} {a0 : Nat} {x1 : Int32} (hI : cI L f) (s0 : sh_ a0 = 7)  : cE 87 [.ref a0, .int x1] L e (fun o => 190 ≤ o ∧ o < 220) f (fun v f' => ∃ x : Int32, v = some (.int x) ∧ (True)) := by
  refine cE_of (ls := [.ref a0, .int x1]) rfl ?_
  have t0 := t_0
  have hF : cF (fun o => 190 ≤ o ∧ o < 220) f f := cF_rf
  have hm := one_7 s0
  have t_1 := t_rng (x1)
  have t_2 : 0 ≤ (f a0 5).toInt ∧ (f a0 5).toInt ≤ 6 := (cI_at hI 5 s0).2.2.2.2.1 rfl
  refine cT_call (b_M_entry_0 s0) (c_M_below hI) hF (fun o ho => ho.elim) (fun v_3 f_4 hI_5 hG_6 hF_7 hQ_8 => ?_)
  obtain rfl := cF_no hG_6
  obtain ⟨y_9, rfl, hb_10, hQ_8⟩ := hQ_8
  have hb_10r := t_rng y_9
  show cT 87 9 [.ref a0, .int x1] [.int y_9, .ref a0] _ _ _ _ _ _
  have t_12 : (nI 8).toInt = 8 := nI_toInt (by decide)
  have t_13 : 0 ≤ (f a0 8).toInt ∧ (f a0 8).toInt ≤ 8 := (cI_at hI 8 s0).2.2.2.2.2.1 rfl
  refine cT_if (b_M_entry_9 s0) (fun c_11 => ?_) (fun c_11 => ?_)
  · rw [t_le] at c_11
    refine cT_go b_M_entry_22 ?_
    have t_14 : (nI 0).toInt = 0 := nI_toInt (by decide)
    refine cT_call (b_M_entry_23 s0) (c_M_goes hI s0) hF (fun o ho => by omega) (fun v_15 f_16 hI_17 hG_18 hF_19 hQ_20 => ?_)
    obtain ⟨y_21, rfl, hb_22, hQ_20⟩ := hQ_20
    have hb_22r := t_rng y_21
    have t_23 : 3 ≤ (f a0 1).toInt ∧ (f a0 1).toInt ≤ 30 := (cI_at hI 1 s0).2.1 rfl
    have t_24 : 0 ≤ (f a0 3).toInt ∧ (f a0 3).toInt ≤ 32 := (cI_at hI 3 s0).2.2.2.1 rfl
    have t_25 : 0 ≤ (f a0 14).toInt ∧ (f a0 14).toInt ≤ 26 := (cI_at hI 14 s0).2.2.2.2.2.2.1 rfl
    have t_26 : -1 ≤ (f a0 23).toInt ∧ (f a0 23).toInt ≤ 1 := (cI_at hI 23 s0).2.2.2.2.2.2.2.2.2 rfl
    have g_27 : (f_16 a0 1).toInt = (f a0 1).toInt := congrArg Int32.toInt (hQ_20.2.2.2.2 1 (by decide))
    have g_28 : (f_16 a0 3).toInt = (f a0 3).toInt := congrArg Int32.toInt (hQ_20.2.2.2.2 3 (by decide))
    have g_29 : (f_16 a0 5).toInt = (f a0 5).toInt := congrArg Int32.toInt (hQ_20.2.2.2.2 5 (by decide))
    have g_30 : (f_16 a0 8).toInt = (f a0 8).toInt := congrArg Int32.toInt (hQ_20.2.2.2.2 8 (by decide))
    have g_31 : (f_16 a0 14).toInt = (f a0 14).toInt := congrArg Int32.toInt (hQ_20.2.2.2.2 14 (by decide))
    have g_32 : (f_16 a0 23).toInt = (f a0 23).toInt := congrArg Int32.toInt (hQ_20.2.2.2.2 23 (by decide))
    show cT 87 26 [.ref a0, .int x1] [.int y_21] _ _ _ _ _ _
    refine cT_if b_M_entry_26 (fun c_33 => ?_) (fun c_33 => ?_)
    · rw [t_eq] at c_33
      exact cT_ret b_M_entry_29 hI_17 hF_19 ⟨_, rfl, trivial⟩
    · rw [t_eq] at c_33
      have hI_35 := cI_up (k := (f_16 a0 8).toNatClampNeg) (x := x1) hI_17 (sc_7_9 s0) ⟨(fun _ => by omega), (fun _ => by omega), (fun _ => by omega), (fun _ => by omega), (fun _ => by omega), (fun _ => by omega), (fun _ => by omega), (fun _ => by omega)⟩
      have hF_36 := cF_up (a := a0 + 4) (k := (f_16 a0 8).toNatClampNeg) (x := x1) hF_19 (by omega)
      have t_40 : ((cg_up f_16 (a0 + 4) (f_16 a0 8).toNatClampNeg x1) a0 8).toInt = (f_16 a0 8).toInt := by rw [cg_up_o (ne_sh s0 (sc_7_9 s0) (by decide))]
      have t_41 : 0 ≤ (f_16 a0 8).toInt ∧ (f_16 a0 8).toInt ≤ 8 := (cI_at hI_17 8 s0).2.2.2.2.2.1 rfl
      have t_42 : (nI 1).toInt = 1 := nI_toInt (by decide)
      first | have t_39 : ((((cg_up f_16 (a0 + 4) (f_16 a0 8).toNatClampNeg x1) a0 8)) + ((nI 1))).toInt = ((((cg_up f_16 (a0 + 4) (f_16 a0 8).toNatClampNeg x1) a0 8))).toInt + (((nI 1))).toInt := t_addn (by omega) | obtain ⟨kt_39, t_39⟩ := t_add (((cg_up f_16 (a0 + 4) (f_16 a0 8).toNatClampNeg x1) a0 8)) ((nI 1))
      have hI_37 := cI_up (k := 8) (x := ((cg_up f_16 (a0 + 4) (f_16 a0 8).toNatClampNeg x1) a0 8) + (nI 1)) hI_35 s0 ⟨(fun h => absurd h (by decide)), (fun h => absurd h (by decide)), (fun h => absurd h (by decide)), (fun h => absurd h (by decide)), (fun h => absurd h (by decide)), (fun _ => by omega), (fun h => absurd h (by decide)), (fun h => absurd h (by decide)), (fun h => absurd h (by decide)), (fun h => absurd h (by decide))⟩
      have hF_38 := cF_up (a := a0) (k := 8) (x := ((cg_up f_16 (a0 + 4) (f_16 a0 8).toNatClampNeg x1) a0 8) + (nI 1)) hF_36 (by omega)
      have t_44 : ((cg_up (cg_up f_16 (a0 + 4) (f_16 a0 8).toNatClampNeg x1) a0 8 (((cg_up f_16 (a0 + 4) (f_16 a0 8).toNatClampNeg x1) a0 8) + (nI 1))) a0 8).toInt = (((cg_up f_16 (a0 + 4) (f_16 a0 8).toNatClampNeg x1) a0 8) + (nI 1)).toInt := by rw [cg_up_s]
      first | have t_43 : ((((cg_up (cg_up f_16 (a0 + 4) (f_16 a0 8).toNatClampNeg x1) a0 8 (((cg_up f_16 (a0 + 4) (f_16 a0 8).toNatClampNeg x1) a0 8) + (nI 1))) a0 8)) - ((nI 1))).toInt = ((((cg_up (cg_up f_16 (a0 + 4) (f_16 a0 8).toNatClampNeg x1) a0 8 (((cg_up f_16 (a0 + 4) (f_16 a0 8).toNatClampNeg x1) a0 8) + (nI 1))) a0 8))).toInt - (((nI 1))).toInt := t_subn (by omega) | obtain ⟨kt_43, t_43⟩ := t_sub (((cg_up (cg_up f_16 (a0 + 4) (f_16 a0 8).toNatClampNeg x1) a0 8 (((cg_up f_16 (a0 + 4) (f_16 a0 8).toNatClampNeg x1) a0 8) + (nI 1))) a0 8)) ((nI 1))
      exact cT_ret (b_M_entry_31 s0 (by rw [t_in]; omega)) hI_37 hF_38 ⟨_, rfl, trivial⟩
  · rw [t_le] at c_11
    refine cT_go b_M_entry_18 ?_
    have t_45 : (nI 1).toInt = 1 := nI_toInt (by decide)
    refine cT_call (b_M_entry_23 s0) (c_M_goes hI s0) hF (fun o ho => by omega) (fun v_46 f_47 hI_48 hG_49 hF_50 hQ_51 => ?_)
    obtain ⟨y_52, rfl, hb_53, hQ_51⟩ := hQ_51
    have hb_53r := t_rng y_52
    have t_54 : 3 ≤ (f a0 1).toInt ∧ (f a0 1).toInt ≤ 30 := (cI_at hI 1 s0).2.1 rfl
    have t_55 : 0 ≤ (f a0 3).toInt ∧ (f a0 3).toInt ≤ 32 := (cI_at hI 3 s0).2.2.2.1 rfl
    have t_56 : 0 ≤ (f a0 14).toInt ∧ (f a0 14).toInt ≤ 26 := (cI_at hI 14 s0).2.2.2.2.2.2.1 rfl
    have t_57 : -1 ≤ (f a0 23).toInt ∧ (f a0 23).toInt ≤ 1 := (cI_at hI 23 s0).2.2.2.2.2.2.2.2.2 rfl
    have g_58 : (f_47 a0 1).toInt = (f a0 1).toInt := congrArg Int32.toInt (hQ_51.2.2.2.2 1 (by decide))
    have g_59 : (f_47 a0 3).toInt = (f a0 3).toInt := congrArg Int32.toInt (hQ_51.2.2.2.2 3 (by decide))
    have g_60 : (f_47 a0 5).toInt = (f a0 5).toInt := congrArg Int32.toInt (hQ_51.2.2.2.2 5 (by decide))
    have g_61 : (f_47 a0 8).toInt = (f a0 8).toInt := congrArg Int32.toInt (hQ_51.2.2.2.2 8 (by decide))
    have g_62 : (f_47 a0 14).toInt = (f a0 14).toInt := congrArg Int32.toInt (hQ_51.2.2.2.2 14 (by decide))
    have g_63 : (f_47 a0 23).toInt = (f a0 23).toInt := congrArg Int32.toInt (hQ_51.2.2.2.2 23 (by decide))
    show cT 87 26 [.ref a0, .int x1] [.int y_52] _ _ _ _ _ _
    refine cT_if b_M_entry_26 (fun c_64 => ?_) (fun c_64 => ?_)
    · rw [t_eq] at c_64
      have t_66 : (nI 0).toInt = 0 := nI_toInt (by decide)
      exact cT_ret b_M_entry_29 hI_48 hF_50 ⟨_, rfl, trivial⟩
    · rw [t_eq] at c_64
      have hI_67 := cI_up (k := (f_47 a0 8).toNatClampNeg) (x := x1) hI_48 (sc_7_9 s0) ⟨(fun _ => by omega), (fun _ => by omega), (fun _ => by omega), (fun _ => by omega), (fun _ => by omega), (fun _ => by omega), (fun _ => by omega), (fun _ => by omega)⟩
      have hF_68 := cF_up (a := a0 + 4) (k := (f_47 a0 8).toNatClampNeg) (x := x1) hF_50 (by omega)
      have t_72 : ((cg_up f_47 (a0 + 4) (f_47 a0 8).toNatClampNeg x1) a0 8).toInt = (f_47 a0 8).toInt := by rw [cg_up_o (ne_sh s0 (sc_7_9 s0) (by decide))]
      have t_73 : 0 ≤ (f_47 a0 8).toInt ∧ (f_47 a0 8).toInt ≤ 8 := (cI_at hI_48 8 s0).2.2.2.2.2.1 rfl
      first | have t_71 : ((((cg_up f_47 (a0 + 4) (f_47 a0 8).toNatClampNeg x1) a0 8)) + ((nI 1))).toInt = ((((cg_up f_47 (a0 + 4) (f_47 a0 8).toNatClampNeg x1) a0 8))).toInt + (((nI 1))).toInt := t_addn (by omega) | obtain ⟨kt_71, t_71⟩ := t_add (((cg_up f_47 (a0 + 4) (f_47 a0 8).toNatClampNeg x1) a0 8)) ((nI 1))
      have hI_69 := cI_up (k := 8) (x := ((cg_up f_47 (a0 + 4) (f_47 a0 8).toNatClampNeg x1) a0 8) + (nI 1)) hI_67 s0 ⟨(fun h => absurd h (by decide)), (fun h => absurd h (by decide)), (fun h => absurd h (by decide)), (fun h => absurd h (by decide)), (fun h => absurd h (by decide)), (fun _ => by omega), (fun h => absurd h (by decide)), (fun h => absurd h (by decide)), (fun h => absurd h (by decide)), (fun h => absurd h (by decide))⟩
      have hF_70 := cF_up (a := a0) (k := 8) (x := ((cg_up f_47 (a0 + 4) (f_47 a0 8).toNatClampNeg x1) a0 8) + (nI 1)) hF_68 (by omega)
      have t_75 : ((cg_up (cg_up f_47 (a0 + 4) (f_47 a0 8).toNatClampNeg x1) a0 8 (((cg_up f_47 (a0 + 4) (f_47 a0 8).toNatClampNeg x1) a0 8) + (nI 1))) a0 8).toInt = (((cg_up f_47 (a0 + 4) (f_47 a0 8).toNatClampNeg x1) a0 8) + (nI 1)).toInt := by rw [cg_up_s]
      first | have t_74 : ((((cg_up (cg_up f_47 (a0 + 4) (f_47 a0 8).toNatClampNeg x1) a0 8 (((cg_up f_47 (a0 + 4) (f_47 a0 8).toNatClampNeg x1) a0 8) + (nI 1))) a0 8)) - ((nI 1))).toInt = ((((cg_up (cg_up f_47 (a0 + 4) (f_47 a0 8).toNatClampNeg x1) a0 8 (((cg_up f_47 (a0 + 4) (f_47 a0 8).toNatClampNeg x1) a0 8) + (nI 1))) a0 8))).toInt - (((nI 1))).toInt := t_subn (by omega) | obtain ⟨kt_74, t_74⟩ := t_sub (((cg_up (cg_up f_47 (a0 + 4) (f_47 a0 8).toNatClampNeg x1) a0 8 (((cg_up f_47 (a0 + 4) (f_47 a0 8).toNatClampNeg x1) a0 8) + (nI 1))) a0 8)) ((nI 1))
      exact cT_ret (b_M_entry_31 s0 (by rw [t_in]; omega)) hI_69 hF_70 ⟨_, rfl, trivial⟩
theorem c_M_claim {L : Nat} {f : cg_G} {e : Nat × Nat} {a0 : Nat} {x1 : Int32} {x2 : Int32} {x3 : Int32} (hI : cI L f) (s0 : sh_ a0 = 7)  : cE 115 [.ref a0, .int x1, .int x2, .int x3] L e (fun o => 190 ≤ o ∧ o < 220) f (fun v f' => ∃ x : Int32, v = some (.int x) ∧ (True)) := by
  refine cE_of (ls := [.ref a0, .int x1, .int x2, .int x3, (.retAddr 0)]) rfl ?_
  have t0 := t_0
  have hF : cF (fun o => 190 ≤ o ∧ o < 220) f f := cF_rf
  have hm := one_7 s0
  have t_1 := t_rng (x1)
  have t_2 := t_rng (x2)
  have t_3 := t_rng (x3)
  refine cT_call (b_M_claim_0 s0) (c_M_isEntry hI s0) hF (fun o ho => ho.elim) (fun v_4 f_5 hI_6 hG_7 hF_8 hQ_9 => ?_)
  obtain rfl := cF_no hG_7
  obtain ⟨y_10, rfl, hb_11, hQ_9⟩ := hQ_9
  have hb_11r := t_rng y_10
  have t_12 : 0 ≤ (f a0 8).toInt ∧ (f a0 8).toInt ≤ 8 := (cI_at hI 8 s0).2.2.2.2.2.1 rfl
  show cT 115 6 [.ref a0, .int x1, .int x2, .int x3, ((.retAddr 0))] [.int y_10, .ref a0] _ _ _ _ _ _
  refine cT_if b_M_claim_6 (fun c_13 => ?_) (fun c_13 => ?_)
  · rw [t_eq] at c_13
    refine cT_go b_M_claim_21 ?_
    have t_16 := t_neg1
    refine cT_if b_M_claim_22 (fun c_15 => ?_) (fun c_15 => ?_)
    · rw [t_lt] at c_15
      refine cT_go b_M_claim_36 ?_
      have t_17 : (nI 0).toInt = 0 := nI_toInt (by decide)
      refine cT_call (b_M_claim_37 s0) (c_M_goes hI s0) hF (fun o ho => by omega) (fun v_18 f_19 hI_20 hG_21 hF_22 hQ_23 => ?_)
      obtain ⟨y_24, rfl, hb_25, hQ_23⟩ := hQ_23
      have hb_25r := t_rng y_24
      have t_26 : 3 ≤ (f a0 1).toInt ∧ (f a0 1).toInt ≤ 30 := (cI_at hI 1 s0).2.1 rfl
      have t_27 : 0 ≤ (f a0 3).toInt ∧ (f a0 3).toInt ≤ 32 := (cI_at hI 3 s0).2.2.2.1 rfl
      have t_28 : 0 ≤ (f a0 5).toInt ∧ (f a0 5).toInt ≤ 6 := (cI_at hI 5 s0).2.2.2.2.1 rfl
      have t_29 : 0 ≤ (f a0 14).toInt ∧ (f a0 14).toInt ≤ 26 := (cI_at hI 14 s0).2.2.2.2.2.2.1 rfl
      have t_30 : -1 ≤ (f a0 23).toInt ∧ (f a0 23).toInt ≤ 1 := (cI_at hI 23 s0).2.2.2.2.2.2.2.2.2 rfl
      have g_31 : (f_19 a0 1).toInt = (f a0 1).toInt := congrArg Int32.toInt (hQ_23.2.2.2.2 1 (by decide))
      have g_32 : (f_19 a0 3).toInt = (f a0 3).toInt := congrArg Int32.toInt (hQ_23.2.2.2.2 3 (by decide))
      have g_33 : (f_19 a0 5).toInt = (f a0 5).toInt := congrArg Int32.toInt (hQ_23.2.2.2.2 5 (by decide))
      have g_34 : (f_19 a0 8).toInt = (f a0 8).toInt := congrArg Int32.toInt (hQ_23.2.2.2.2 8 (by decide))
      have g_35 : (f_19 a0 14).toInt = (f a0 14).toInt := congrArg Int32.toInt (hQ_23.2.2.2.2 14 (by decide))
      have g_36 : (f_19 a0 23).toInt = (f a0 23).toInt := congrArg Int32.toInt (hQ_23.2.2.2.2 23 (by decide))
      show cT 115 40 [.ref a0, .int x1, .int x2, .int x3, (((((((.retAddr 0)))))))] [.int y_24] _ _ _ _ _ _
      refine cT_if b_M_claim_40 (fun c_37 => ?_) (fun c_37 => ?_)
      · rw [t_eq] at c_37
        exact cT_ret b_M_claim_43 hI_20 hF_22 ⟨_, rfl, trivial⟩
      · rw [t_eq] at c_37
        have hI_38 := cI_up (k := (((nI 4) * x1) + x2).toNatClampNeg) (x := x3) hI_20 (sc_7_13 s0) ⟨(fun _ => by omega), (fun _ => by omega), (fun _ => by omega), (fun _ => by omega), (fun _ => by omega), (fun _ => by omega), (fun _ => by omega), (fun _ => by omega)⟩
        have hF_39 := cF_up (a := a0 + 8) (k := (((nI 4) * x1) + x2).toNatClampNeg) (x := x3) hF_22 (by omega)
        have t_42 : (nI 4).toInt = 4 := nI_toInt (by decide)
        first | have t_41 : (((nI 4)) * x1).toInt = 4 * (x1).toInt := t_mulc (by decide) (by omega) | (obtain ⟨kt_41, t_41⟩ := t_mul ((nI 4)) x1; rw [nI_toInt (show 4 < 2 ^ 31 by decide)] at t_41)
        first | have t_40 : ((((nI 4) * x1)) + x2).toInt = ((((nI 4) * x1))).toInt + (x2).toInt := t_addn (by omega) | obtain ⟨kt_40, t_40⟩ := t_add (((nI 4) * x1)) x2
        have t_43 := t_rng (f_19 (a0 + 8) (((nI 4) * x1) + x2).toNatClampNeg)
        exact cT_ret (b_M_claim_45 s0 (by rw [t_in]; omega)) hI_38 hF_39 ⟨_, rfl, trivial⟩
    · rw [t_lt] at c_15
      have t_45 : (nI 1).toInt = 1 := nI_toInt (by decide)
      refine cT_if b_M_claim_27 (fun c_44 => ?_) (fun c_44 => ?_)
      · rw [t_lt] at c_44
        refine cT_go b_M_claim_36 ?_
        have t_46 : (nI 0).toInt = 0 := nI_toInt (by decide)
        refine cT_call (b_M_claim_37 s0) (c_M_goes hI s0) hF (fun o ho => by omega) (fun v_47 f_48 hI_49 hG_50 hF_51 hQ_52 => ?_)
        obtain ⟨y_53, rfl, hb_54, hQ_52⟩ := hQ_52
        have hb_54r := t_rng y_53
        have t_55 : 3 ≤ (f a0 1).toInt ∧ (f a0 1).toInt ≤ 30 := (cI_at hI 1 s0).2.1 rfl
        have t_56 : 0 ≤ (f a0 3).toInt ∧ (f a0 3).toInt ≤ 32 := (cI_at hI 3 s0).2.2.2.1 rfl
        have t_57 : 0 ≤ (f a0 5).toInt ∧ (f a0 5).toInt ≤ 6 := (cI_at hI 5 s0).2.2.2.2.1 rfl
        have t_58 : 0 ≤ (f a0 14).toInt ∧ (f a0 14).toInt ≤ 26 := (cI_at hI 14 s0).2.2.2.2.2.2.1 rfl
        have t_59 : -1 ≤ (f a0 23).toInt ∧ (f a0 23).toInt ≤ 1 := (cI_at hI 23 s0).2.2.2.2.2.2.2.2.2 rfl
        have g_60 : (f_48 a0 1).toInt = (f a0 1).toInt := congrArg Int32.toInt (hQ_52.2.2.2.2 1 (by decide))
        have g_61 : (f_48 a0 3).toInt = (f a0 3).toInt := congrArg Int32.toInt (hQ_52.2.2.2.2 3 (by decide))
        have g_62 : (f_48 a0 5).toInt = (f a0 5).toInt := congrArg Int32.toInt (hQ_52.2.2.2.2 5 (by decide))
        have g_63 : (f_48 a0 8).toInt = (f a0 8).toInt := congrArg Int32.toInt (hQ_52.2.2.2.2 8 (by decide))
        have g_64 : (f_48 a0 14).toInt = (f a0 14).toInt := congrArg Int32.toInt (hQ_52.2.2.2.2 14 (by decide))
        have g_65 : (f_48 a0 23).toInt = (f a0 23).toInt := congrArg Int32.toInt (hQ_52.2.2.2.2 23 (by decide))
        show cT 115 40 [.ref a0, .int x1, .int x2, .int x3, ((((((((.retAddr 0))))))))] [.int y_53] _ _ _ _ _ _
        refine cT_if b_M_claim_40 (fun c_66 => ?_) (fun c_66 => ?_)
        · rw [t_eq] at c_66
          exact cT_ret b_M_claim_43 hI_49 hF_51 ⟨_, rfl, trivial⟩
        · rw [t_eq] at c_66
          have hI_67 := cI_up (k := (((nI 4) * x1) + x2).toNatClampNeg) (x := x3) hI_49 (sc_7_13 s0) ⟨(fun _ => by omega), (fun _ => by omega), (fun _ => by omega), (fun _ => by omega), (fun _ => by omega), (fun _ => by omega), (fun _ => by omega), (fun _ => by omega)⟩
          have hF_68 := cF_up (a := a0 + 8) (k := (((nI 4) * x1) + x2).toNatClampNeg) (x := x3) hF_51 (by omega)
          have t_71 : (nI 4).toInt = 4 := nI_toInt (by decide)
          first | have t_70 : (((nI 4)) * x1).toInt = 4 * (x1).toInt := t_mulc (by decide) (by omega) | (obtain ⟨kt_70, t_70⟩ := t_mul ((nI 4)) x1; rw [nI_toInt (show 4 < 2 ^ 31 by decide)] at t_70)
          first | have t_69 : ((((nI 4) * x1)) + x2).toInt = ((((nI 4) * x1))).toInt + (x2).toInt := t_addn (by omega) | obtain ⟨kt_69, t_69⟩ := t_add (((nI 4) * x1)) x2
          have t_72 := t_rng (f_48 (a0 + 8) (((nI 4) * x1) + x2).toNatClampNeg)
          exact cT_ret (b_M_claim_45 s0 (by rw [t_in]; omega)) hI_67 hF_68 ⟨_, rfl, trivial⟩
      · rw [t_lt] at c_44
        refine cT_go b_M_claim_32 ?_
        have t_73 : (nI 0).toInt = 0 := nI_toInt (by decide)
        refine cT_call (b_M_claim_37 s0) (c_M_goes hI s0) hF (fun o ho => by omega) (fun v_74 f_75 hI_76 hG_77 hF_78 hQ_79 => ?_)
        obtain ⟨y_80, rfl, hb_81, hQ_79⟩ := hQ_79
        have hb_81r := t_rng y_80
        have t_82 : 3 ≤ (f a0 1).toInt ∧ (f a0 1).toInt ≤ 30 := (cI_at hI 1 s0).2.1 rfl
        have t_83 : 0 ≤ (f a0 3).toInt ∧ (f a0 3).toInt ≤ 32 := (cI_at hI 3 s0).2.2.2.1 rfl
        have t_84 : 0 ≤ (f a0 5).toInt ∧ (f a0 5).toInt ≤ 6 := (cI_at hI 5 s0).2.2.2.2.1 rfl
        have t_85 : 0 ≤ (f a0 14).toInt ∧ (f a0 14).toInt ≤ 26 := (cI_at hI 14 s0).2.2.2.2.2.2.1 rfl
        have t_86 : -1 ≤ (f a0 23).toInt ∧ (f a0 23).toInt ≤ 1 := (cI_at hI 23 s0).2.2.2.2.2.2.2.2.2 rfl
        have g_87 : (f_75 a0 1).toInt = (f a0 1).toInt := congrArg Int32.toInt (hQ_79.2.2.2.2 1 (by decide))
        have g_88 : (f_75 a0 3).toInt = (f a0 3).toInt := congrArg Int32.toInt (hQ_79.2.2.2.2 3 (by decide))
        have g_89 : (f_75 a0 5).toInt = (f a0 5).toInt := congrArg Int32.toInt (hQ_79.2.2.2.2 5 (by decide))
        have g_90 : (f_75 a0 8).toInt = (f a0 8).toInt := congrArg Int32.toInt (hQ_79.2.2.2.2 8 (by decide))
        have g_91 : (f_75 a0 14).toInt = (f a0 14).toInt := congrArg Int32.toInt (hQ_79.2.2.2.2 14 (by decide))
        have g_92 : (f_75 a0 23).toInt = (f a0 23).toInt := congrArg Int32.toInt (hQ_79.2.2.2.2 23 (by decide))
        show cT 115 40 [.ref a0, .int x1, .int x2, .int x3, ((((((((.retAddr 0))))))))] [.int y_80] _ _ _ _ _ _
        refine cT_if b_M_claim_40 (fun c_93 => ?_) (fun c_93 => ?_)
        · rw [t_eq] at c_93
          exact cT_ret b_M_claim_43 hI_76 hF_78 ⟨_, rfl, trivial⟩
        · rw [t_eq] at c_93
          have hI_94 := cI_up (k := (((nI 4) * x1) + x2).toNatClampNeg) (x := x3) hI_76 (sc_7_13 s0) ⟨(fun _ => by omega), (fun _ => by omega), (fun _ => by omega), (fun _ => by omega), (fun _ => by omega), (fun _ => by omega), (fun _ => by omega), (fun _ => by omega)⟩
          have hF_95 := cF_up (a := a0 + 8) (k := (((nI 4) * x1) + x2).toNatClampNeg) (x := x3) hF_78 (by omega)
          have t_98 : (nI 4).toInt = 4 := nI_toInt (by decide)
          first | have t_97 : (((nI 4)) * x1).toInt = 4 * (x1).toInt := t_mulc (by decide) (by omega) | (obtain ⟨kt_97, t_97⟩ := t_mul ((nI 4)) x1; rw [nI_toInt (show 4 < 2 ^ 31 by decide)] at t_97)
          first | have t_96 : ((((nI 4) * x1)) + x2).toInt = ((((nI 4) * x1))).toInt + (x2).toInt := t_addn (by omega) | obtain ⟨kt_96, t_96⟩ := t_add (((nI 4) * x1)) x2
          have t_99 := t_rng (f_75 (a0 + 8) (((nI 4) * x1) + x2).toNatClampNeg)
          exact cT_ret (b_M_claim_45 s0 (by rw [t_in]; omega)) hI_94 hF_95 ⟨_, rfl, trivial⟩
  · rw [t_eq] at c_13
    have t_100 : (nI 4).toInt = 4 := nI_toInt (by decide)
    refine cT_call b_M_claim_9 (c_M_below hI) hF (fun o ho => ho.elim) (fun v_101 f_102 hI_103 hG_104 hF_105 hQ_106 => ?_)
    obtain rfl := cF_no hG_104
    obtain ⟨y_107, rfl, hb_108, hQ_106⟩ := hQ_106
    have hb_108r := t_rng y_107
    show cT 115 14 [.ref a0, .int x1, .int x2, .int x3, ((((.retAddr 0))))] [.int y_107, .ref a0] _ _ _ _ _ _
    refine cT_if b_M_claim_14 (fun c_109 => ?_) (fun c_109 => ?_)
    · rw [t_eq] at c_109
      refine cT_go b_M_claim_21 ?_
      have t_111 := t_neg1
      refine cT_if b_M_claim_22 (fun c_110 => ?_) (fun c_110 => ?_)
      · rw [t_lt] at c_110
        refine cT_go b_M_claim_36 ?_
        have t_112 : (nI 0).toInt = 0 := nI_toInt (by decide)
        refine cT_call (b_M_claim_37 s0) (c_M_goes hI s0) hF (fun o ho => by omega) (fun v_113 f_114 hI_115 hG_116 hF_117 hQ_118 => ?_)
        obtain ⟨y_119, rfl, hb_120, hQ_118⟩ := hQ_118
        have hb_120r := t_rng y_119
        have t_121 : 3 ≤ (f a0 1).toInt ∧ (f a0 1).toInt ≤ 30 := (cI_at hI 1 s0).2.1 rfl
        have t_122 : 0 ≤ (f a0 3).toInt ∧ (f a0 3).toInt ≤ 32 := (cI_at hI 3 s0).2.2.2.1 rfl
        have t_123 : 0 ≤ (f a0 5).toInt ∧ (f a0 5).toInt ≤ 6 := (cI_at hI 5 s0).2.2.2.2.1 rfl
        have t_124 : 0 ≤ (f a0 14).toInt ∧ (f a0 14).toInt ≤ 26 := (cI_at hI 14 s0).2.2.2.2.2.2.1 rfl
        have t_125 : -1 ≤ (f a0 23).toInt ∧ (f a0 23).toInt ≤ 1 := (cI_at hI 23 s0).2.2.2.2.2.2.2.2.2 rfl
        have g_126 : (f_114 a0 1).toInt = (f a0 1).toInt := congrArg Int32.toInt (hQ_118.2.2.2.2 1 (by decide))
        have g_127 : (f_114 a0 3).toInt = (f a0 3).toInt := congrArg Int32.toInt (hQ_118.2.2.2.2 3 (by decide))
        have g_128 : (f_114 a0 5).toInt = (f a0 5).toInt := congrArg Int32.toInt (hQ_118.2.2.2.2 5 (by decide))
        have g_129 : (f_114 a0 8).toInt = (f a0 8).toInt := congrArg Int32.toInt (hQ_118.2.2.2.2 8 (by decide))
        have g_130 : (f_114 a0 14).toInt = (f a0 14).toInt := congrArg Int32.toInt (hQ_118.2.2.2.2 14 (by decide))
        have g_131 : (f_114 a0 23).toInt = (f a0 23).toInt := congrArg Int32.toInt (hQ_118.2.2.2.2 23 (by decide))
        show cT 115 40 [.ref a0, .int x1, .int x2, .int x3, (((((((((.retAddr 0)))))))))] [.int y_119] _ _ _ _ _ _
        refine cT_if b_M_claim_40 (fun c_132 => ?_) (fun c_132 => ?_)
        · rw [t_eq] at c_132
          exact cT_ret b_M_claim_43 hI_115 hF_117 ⟨_, rfl, trivial⟩
        · rw [t_eq] at c_132
          have hI_133 := cI_up (k := (((nI 4) * x1) + x2).toNatClampNeg) (x := x3) hI_115 (sc_7_13 s0) ⟨(fun _ => by omega), (fun _ => by omega), (fun _ => by omega), (fun _ => by omega), (fun _ => by omega), (fun _ => by omega), (fun _ => by omega), (fun _ => by omega)⟩
          have hF_134 := cF_up (a := a0 + 8) (k := (((nI 4) * x1) + x2).toNatClampNeg) (x := x3) hF_117 (by omega)
          first | have t_136 : (((nI 4)) * x1).toInt = 4 * (x1).toInt := t_mulc (by decide) (by omega) | (obtain ⟨kt_136, t_136⟩ := t_mul ((nI 4)) x1; rw [nI_toInt (show 4 < 2 ^ 31 by decide)] at t_136)
          first | have t_135 : ((((nI 4) * x1)) + x2).toInt = ((((nI 4) * x1))).toInt + (x2).toInt := t_addn (by omega) | obtain ⟨kt_135, t_135⟩ := t_add (((nI 4) * x1)) x2
          have t_137 := t_rng (f_114 (a0 + 8) (((nI 4) * x1) + x2).toNatClampNeg)
          exact cT_ret (b_M_claim_45 s0 (by rw [t_in]; omega)) hI_133 hF_134 ⟨_, rfl, trivial⟩
      · rw [t_lt] at c_110
        have t_139 : (nI 1).toInt = 1 := nI_toInt (by decide)
        refine cT_if b_M_claim_27 (fun c_138 => ?_) (fun c_138 => ?_)
        · rw [t_lt] at c_138
          refine cT_go b_M_claim_36 ?_
          have t_140 : (nI 0).toInt = 0 := nI_toInt (by decide)
          refine cT_call (b_M_claim_37 s0) (c_M_goes hI s0) hF (fun o ho => by omega) (fun v_141 f_142 hI_143 hG_144 hF_145 hQ_146 => ?_)
          obtain ⟨y_147, rfl, hb_148, hQ_146⟩ := hQ_146
          have hb_148r := t_rng y_147
          have t_149 : 3 ≤ (f a0 1).toInt ∧ (f a0 1).toInt ≤ 30 := (cI_at hI 1 s0).2.1 rfl
          have t_150 : 0 ≤ (f a0 3).toInt ∧ (f a0 3).toInt ≤ 32 := (cI_at hI 3 s0).2.2.2.1 rfl
          have t_151 : 0 ≤ (f a0 5).toInt ∧ (f a0 5).toInt ≤ 6 := (cI_at hI 5 s0).2.2.2.2.1 rfl
          have t_152 : 0 ≤ (f a0 14).toInt ∧ (f a0 14).toInt ≤ 26 := (cI_at hI 14 s0).2.2.2.2.2.2.1 rfl
          have t_153 : -1 ≤ (f a0 23).toInt ∧ (f a0 23).toInt ≤ 1 := (cI_at hI 23 s0).2.2.2.2.2.2.2.2.2 rfl
          have g_154 : (f_142 a0 1).toInt = (f a0 1).toInt := congrArg Int32.toInt (hQ_146.2.2.2.2 1 (by decide))
          have g_155 : (f_142 a0 3).toInt = (f a0 3).toInt := congrArg Int32.toInt (hQ_146.2.2.2.2 3 (by decide))
          have g_156 : (f_142 a0 5).toInt = (f a0 5).toInt := congrArg Int32.toInt (hQ_146.2.2.2.2 5 (by decide))
          have g_157 : (f_142 a0 8).toInt = (f a0 8).toInt := congrArg Int32.toInt (hQ_146.2.2.2.2 8 (by decide))
          have g_158 : (f_142 a0 14).toInt = (f a0 14).toInt := congrArg Int32.toInt (hQ_146.2.2.2.2 14 (by decide))
          have g_159 : (f_142 a0 23).toInt = (f a0 23).toInt := congrArg Int32.toInt (hQ_146.2.2.2.2 23 (by decide))
          show cT 115 40 [.ref a0, .int x1, .int x2, .int x3, ((((((((((.retAddr 0))))))))))] [.int y_147] _ _ _ _ _ _
          refine cT_if b_M_claim_40 (fun c_160 => ?_) (fun c_160 => ?_)
          · rw [t_eq] at c_160
            exact cT_ret b_M_claim_43 hI_143 hF_145 ⟨_, rfl, trivial⟩
          · rw [t_eq] at c_160
            have hI_161 := cI_up (k := (((nI 4) * x1) + x2).toNatClampNeg) (x := x3) hI_143 (sc_7_13 s0) ⟨(fun _ => by omega), (fun _ => by omega), (fun _ => by omega), (fun _ => by omega), (fun _ => by omega), (fun _ => by omega), (fun _ => by omega), (fun _ => by omega)⟩
            have hF_162 := cF_up (a := a0 + 8) (k := (((nI 4) * x1) + x2).toNatClampNeg) (x := x3) hF_145 (by omega)
            first | have t_164 : (((nI 4)) * x1).toInt = 4 * (x1).toInt := t_mulc (by decide) (by omega) | (obtain ⟨kt_164, t_164⟩ := t_mul ((nI 4)) x1; rw [nI_toInt (show 4 < 2 ^ 31 by decide)] at t_164)
            first | have t_163 : ((((nI 4) * x1)) + x2).toInt = ((((nI 4) * x1))).toInt + (x2).toInt := t_addn (by omega) | obtain ⟨kt_163, t_163⟩ := t_add (((nI 4) * x1)) x2
            have t_165 := t_rng (f_142 (a0 + 8) (((nI 4) * x1) + x2).toNatClampNeg)
            exact cT_ret (b_M_claim_45 s0 (by rw [t_in]; omega)) hI_161 hF_162 ⟨_, rfl, trivial⟩
        · rw [t_lt] at c_138
          refine cT_go b_M_claim_32 ?_
          have t_166 : (nI 0).toInt = 0 := nI_toInt (by decide)
          refine cT_call (b_M_claim_37 s0) (c_M_goes hI s0) hF (fun o ho => by omega) (fun v_167 f_168 hI_169 hG_170 hF_171 hQ_172 => ?_)
          obtain ⟨y_173, rfl, hb_174, hQ_172⟩ := hQ_172
          have hb_174r := t_rng y_173
          have t_175 : 3 ≤ (f a0 1).toInt ∧ (f a0 1).toInt ≤ 30 := (cI_at hI 1 s0).2.1 rfl
          have t_176 : 0 ≤ (f a0 3).toInt ∧ (f a0 3).toInt ≤ 32 := (cI_at hI 3 s0).2.2.2.1 rfl
          have t_177 : 0 ≤ (f a0 5).toInt ∧ (f a0 5).toInt ≤ 6 := (cI_at hI 5 s0).2.2.2.2.1 rfl
          have t_178 : 0 ≤ (f a0 14).toInt ∧ (f a0 14).toInt ≤ 26 := (cI_at hI 14 s0).2.2.2.2.2.2.1 rfl
          have t_179 : -1 ≤ (f a0 23).toInt ∧ (f a0 23).toInt ≤ 1 := (cI_at hI 23 s0).2.2.2.2.2.2.2.2.2 rfl
          have g_180 : (f_168 a0 1).toInt = (f a0 1).toInt := congrArg Int32.toInt (hQ_172.2.2.2.2 1 (by decide))
          have g_181 : (f_168 a0 3).toInt = (f a0 3).toInt := congrArg Int32.toInt (hQ_172.2.2.2.2 3 (by decide))
          have g_182 : (f_168 a0 5).toInt = (f a0 5).toInt := congrArg Int32.toInt (hQ_172.2.2.2.2 5 (by decide))
          have g_183 : (f_168 a0 8).toInt = (f a0 8).toInt := congrArg Int32.toInt (hQ_172.2.2.2.2 8 (by decide))
          have g_184 : (f_168 a0 14).toInt = (f a0 14).toInt := congrArg Int32.toInt (hQ_172.2.2.2.2 14 (by decide))
          have g_185 : (f_168 a0 23).toInt = (f a0 23).toInt := congrArg Int32.toInt (hQ_172.2.2.2.2 23 (by decide))
          show cT 115 40 [.ref a0, .int x1, .int x2, .int x3, ((((((((((.retAddr 0))))))))))] [.int y_173] _ _ _ _ _ _
          refine cT_if b_M_claim_40 (fun c_186 => ?_) (fun c_186 => ?_)
          · rw [t_eq] at c_186
            exact cT_ret b_M_claim_43 hI_169 hF_171 ⟨_, rfl, trivial⟩
          · rw [t_eq] at c_186
            have hI_187 := cI_up (k := (((nI 4) * x1) + x2).toNatClampNeg) (x := x3) hI_169 (sc_7_13 s0) ⟨(fun _ => by omega), (fun _ => by omega), (fun _ => by omega), (fun _ => by omega), (fun _ => by omega), (fun _ => by omega), (fun _ => by omega), (fun _ => by omega)⟩
            have hF_188 := cF_up (a := a0 + 8) (k := (((nI 4) * x1) + x2).toNatClampNeg) (x := x3) hF_171 (by omega)
            first | have t_190 : (((nI 4)) * x1).toInt = 4 * (x1).toInt := t_mulc (by decide) (by omega) | (obtain ⟨kt_190, t_190⟩ := t_mul ((nI 4)) x1; rw [nI_toInt (show 4 < 2 ^ 31 by decide)] at t_190)
            first | have t_189 : ((((nI 4) * x1)) + x2).toInt = ((((nI 4) * x1))).toInt + (x2).toInt := t_addn (by omega) | obtain ⟨kt_189, t_189⟩ := t_add (((nI 4) * x1)) x2
            have t_191 := t_rng (f_168 (a0 + 8) (((nI 4) * x1) + x2).toNatClampNeg)
            exact cT_ret (b_M_claim_45 s0 (by rw [t_in]; omega)) hI_187 hF_188 ⟨_, rfl, trivial⟩
    · rw [t_eq] at c_109
      refine cT_go b_M_claim_17 ?_
      have t_193 := t_neg1
      refine cT_if b_M_claim_22 (fun c_192 => ?_) (fun c_192 => ?_)
      · rw [t_lt] at c_192
        refine cT_go b_M_claim_36 ?_
        have t_194 : (nI 1).toInt = 1 := nI_toInt (by decide)
        have t_195 : (nI 0).toInt = 0 := nI_toInt (by decide)
        refine cT_call (b_M_claim_37 s0) (c_M_goes hI s0) hF (fun o ho => by omega) (fun v_196 f_197 hI_198 hG_199 hF_200 hQ_201 => ?_)
        obtain ⟨y_202, rfl, hb_203, hQ_201⟩ := hQ_201
        have hb_203r := t_rng y_202
        have t_204 : 3 ≤ (f a0 1).toInt ∧ (f a0 1).toInt ≤ 30 := (cI_at hI 1 s0).2.1 rfl
        have t_205 : 0 ≤ (f a0 3).toInt ∧ (f a0 3).toInt ≤ 32 := (cI_at hI 3 s0).2.2.2.1 rfl
        have t_206 : 0 ≤ (f a0 5).toInt ∧ (f a0 5).toInt ≤ 6 := (cI_at hI 5 s0).2.2.2.2.1 rfl
        have t_207 : 0 ≤ (f a0 14).toInt ∧ (f a0 14).toInt ≤ 26 := (cI_at hI 14 s0).2.2.2.2.2.2.1 rfl
        have t_208 : -1 ≤ (f a0 23).toInt ∧ (f a0 23).toInt ≤ 1 := (cI_at hI 23 s0).2.2.2.2.2.2.2.2.2 rfl
        have g_209 : (f_197 a0 1).toInt = (f a0 1).toInt := congrArg Int32.toInt (hQ_201.2.2.2.2 1 (by decide))
        have g_210 : (f_197 a0 3).toInt = (f a0 3).toInt := congrArg Int32.toInt (hQ_201.2.2.2.2 3 (by decide))
        have g_211 : (f_197 a0 5).toInt = (f a0 5).toInt := congrArg Int32.toInt (hQ_201.2.2.2.2 5 (by decide))
        have g_212 : (f_197 a0 8).toInt = (f a0 8).toInt := congrArg Int32.toInt (hQ_201.2.2.2.2 8 (by decide))
        have g_213 : (f_197 a0 14).toInt = (f a0 14).toInt := congrArg Int32.toInt (hQ_201.2.2.2.2 14 (by decide))
        have g_214 : (f_197 a0 23).toInt = (f a0 23).toInt := congrArg Int32.toInt (hQ_201.2.2.2.2 23 (by decide))
        show cT 115 40 [.ref a0, .int x1, .int x2, .int x3, (((((((((.retAddr 0)))))))))] [.int y_202] _ _ _ _ _ _
        refine cT_if b_M_claim_40 (fun c_215 => ?_) (fun c_215 => ?_)
        · rw [t_eq] at c_215
          exact cT_ret b_M_claim_43 hI_198 hF_200 ⟨_, rfl, trivial⟩
        · rw [t_eq] at c_215
          have hI_216 := cI_up (k := (((nI 4) * x1) + x2).toNatClampNeg) (x := x3) hI_198 (sc_7_13 s0) ⟨(fun _ => by omega), (fun _ => by omega), (fun _ => by omega), (fun _ => by omega), (fun _ => by omega), (fun _ => by omega), (fun _ => by omega), (fun _ => by omega)⟩
          have hF_217 := cF_up (a := a0 + 8) (k := (((nI 4) * x1) + x2).toNatClampNeg) (x := x3) hF_200 (by omega)
          first | have t_219 : (((nI 4)) * x1).toInt = 4 * (x1).toInt := t_mulc (by decide) (by omega) | (obtain ⟨kt_219, t_219⟩ := t_mul ((nI 4)) x1; rw [nI_toInt (show 4 < 2 ^ 31 by decide)] at t_219)
          first | have t_218 : ((((nI 4) * x1)) + x2).toInt = ((((nI 4) * x1))).toInt + (x2).toInt := t_addn (by omega) | obtain ⟨kt_218, t_218⟩ := t_add (((nI 4) * x1)) x2
          have t_220 := t_rng (f_197 (a0 + 8) (((nI 4) * x1) + x2).toNatClampNeg)
          exact cT_ret (b_M_claim_45 s0 (by rw [t_in]; omega)) hI_216 hF_217 ⟨_, rfl, trivial⟩
      · rw [t_lt] at c_192
        have t_222 : (nI 1).toInt = 1 := nI_toInt (by decide)
        refine cT_if b_M_claim_27 (fun c_221 => ?_) (fun c_221 => ?_)
        · rw [t_lt] at c_221
          refine cT_go b_M_claim_36 ?_
          have t_223 : (nI 0).toInt = 0 := nI_toInt (by decide)
          refine cT_call (b_M_claim_37 s0) (c_M_goes hI s0) hF (fun o ho => by omega) (fun v_224 f_225 hI_226 hG_227 hF_228 hQ_229 => ?_)
          obtain ⟨y_230, rfl, hb_231, hQ_229⟩ := hQ_229
          have hb_231r := t_rng y_230
          have t_232 : 3 ≤ (f a0 1).toInt ∧ (f a0 1).toInt ≤ 30 := (cI_at hI 1 s0).2.1 rfl
          have t_233 : 0 ≤ (f a0 3).toInt ∧ (f a0 3).toInt ≤ 32 := (cI_at hI 3 s0).2.2.2.1 rfl
          have t_234 : 0 ≤ (f a0 5).toInt ∧ (f a0 5).toInt ≤ 6 := (cI_at hI 5 s0).2.2.2.2.1 rfl
          have t_235 : 0 ≤ (f a0 14).toInt ∧ (f a0 14).toInt ≤ 26 := (cI_at hI 14 s0).2.2.2.2.2.2.1 rfl
          have t_236 : -1 ≤ (f a0 23).toInt ∧ (f a0 23).toInt ≤ 1 := (cI_at hI 23 s0).2.2.2.2.2.2.2.2.2 rfl
          have g_237 : (f_225 a0 1).toInt = (f a0 1).toInt := congrArg Int32.toInt (hQ_229.2.2.2.2 1 (by decide))
          have g_238 : (f_225 a0 3).toInt = (f a0 3).toInt := congrArg Int32.toInt (hQ_229.2.2.2.2 3 (by decide))
          have g_239 : (f_225 a0 5).toInt = (f a0 5).toInt := congrArg Int32.toInt (hQ_229.2.2.2.2 5 (by decide))
          have g_240 : (f_225 a0 8).toInt = (f a0 8).toInt := congrArg Int32.toInt (hQ_229.2.2.2.2 8 (by decide))
          have g_241 : (f_225 a0 14).toInt = (f a0 14).toInt := congrArg Int32.toInt (hQ_229.2.2.2.2 14 (by decide))
          have g_242 : (f_225 a0 23).toInt = (f a0 23).toInt := congrArg Int32.toInt (hQ_229.2.2.2.2 23 (by decide))
          show cT 115 40 [.ref a0, .int x1, .int x2, .int x3, ((((((((((.retAddr 0))))))))))] [.int y_230] _ _ _ _ _ _
          refine cT_if b_M_claim_40 (fun c_243 => ?_) (fun c_243 => ?_)
          · rw [t_eq] at c_243
            exact cT_ret b_M_claim_43 hI_226 hF_228 ⟨_, rfl, trivial⟩
          · rw [t_eq] at c_243
            have hI_244 := cI_up (k := (((nI 4) * x1) + x2).toNatClampNeg) (x := x3) hI_226 (sc_7_13 s0) ⟨(fun _ => by omega), (fun _ => by omega), (fun _ => by omega), (fun _ => by omega), (fun _ => by omega), (fun _ => by omega), (fun _ => by omega), (fun _ => by omega)⟩
            have hF_245 := cF_up (a := a0 + 8) (k := (((nI 4) * x1) + x2).toNatClampNeg) (x := x3) hF_228 (by omega)
            first | have t_247 : (((nI 4)) * x1).toInt = 4 * (x1).toInt := t_mulc (by decide) (by omega) | (obtain ⟨kt_247, t_247⟩ := t_mul ((nI 4)) x1; rw [nI_toInt (show 4 < 2 ^ 31 by decide)] at t_247)
            first | have t_246 : ((((nI 4) * x1)) + x2).toInt = ((((nI 4) * x1))).toInt + (x2).toInt := t_addn (by omega) | obtain ⟨kt_246, t_246⟩ := t_add (((nI 4) * x1)) x2
            have t_248 := t_rng (f_225 (a0 + 8) (((nI 4) * x1) + x2).toNatClampNeg)
            exact cT_ret (b_M_claim_45 s0 (by rw [t_in]; omega)) hI_244 hF_245 ⟨_, rfl, trivial⟩
        · rw [t_lt] at c_221
          refine cT_go b_M_claim_32 ?_
          refine cT_call (b_M_claim_37 s0) (c_M_goes hI s0) hF (fun o ho => by omega) (fun v_249 f_250 hI_251 hG_252 hF_253 hQ_254 => ?_)
          obtain ⟨y_255, rfl, hb_256, hQ_254⟩ := hQ_254
          have hb_256r := t_rng y_255
          have t_257 : 3 ≤ (f a0 1).toInt ∧ (f a0 1).toInt ≤ 30 := (cI_at hI 1 s0).2.1 rfl
          have t_258 : 0 ≤ (f a0 3).toInt ∧ (f a0 3).toInt ≤ 32 := (cI_at hI 3 s0).2.2.2.1 rfl
          have t_259 : 0 ≤ (f a0 5).toInt ∧ (f a0 5).toInt ≤ 6 := (cI_at hI 5 s0).2.2.2.2.1 rfl
          have t_260 : 0 ≤ (f a0 14).toInt ∧ (f a0 14).toInt ≤ 26 := (cI_at hI 14 s0).2.2.2.2.2.2.1 rfl
          have t_261 : -1 ≤ (f a0 23).toInt ∧ (f a0 23).toInt ≤ 1 := (cI_at hI 23 s0).2.2.2.2.2.2.2.2.2 rfl
          have g_262 : (f_250 a0 1).toInt = (f a0 1).toInt := congrArg Int32.toInt (hQ_254.2.2.2.2 1 (by decide))
          have g_263 : (f_250 a0 3).toInt = (f a0 3).toInt := congrArg Int32.toInt (hQ_254.2.2.2.2 3 (by decide))
          have g_264 : (f_250 a0 5).toInt = (f a0 5).toInt := congrArg Int32.toInt (hQ_254.2.2.2.2 5 (by decide))
          have g_265 : (f_250 a0 8).toInt = (f a0 8).toInt := congrArg Int32.toInt (hQ_254.2.2.2.2 8 (by decide))
          have g_266 : (f_250 a0 14).toInt = (f a0 14).toInt := congrArg Int32.toInt (hQ_254.2.2.2.2 14 (by decide))
          have g_267 : (f_250 a0 23).toInt = (f a0 23).toInt := congrArg Int32.toInt (hQ_254.2.2.2.2 23 (by decide))
          show cT 115 40 [.ref a0, .int x1, .int x2, .int x3, ((((((((((.retAddr 0))))))))))] [.int y_255] _ _ _ _ _ _
          refine cT_if b_M_claim_40 (fun c_268 => ?_) (fun c_268 => ?_)
          · rw [t_eq] at c_268
            have t_269 : (nI 0).toInt = 0 := nI_toInt (by decide)
            exact cT_ret b_M_claim_43 hI_251 hF_253 ⟨_, rfl, trivial⟩
          · rw [t_eq] at c_268
            have hI_270 := cI_up (k := (((nI 4) * x1) + x2).toNatClampNeg) (x := x3) hI_251 (sc_7_13 s0) ⟨(fun _ => by omega), (fun _ => by omega), (fun _ => by omega), (fun _ => by omega), (fun _ => by omega), (fun _ => by omega), (fun _ => by omega), (fun _ => by omega)⟩
            have hF_271 := cF_up (a := a0 + 8) (k := (((nI 4) * x1) + x2).toNatClampNeg) (x := x3) hF_253 (by omega)
            first | have t_273 : (((nI 4)) * x1).toInt = 4 * (x1).toInt := t_mulc (by decide) (by omega) | (obtain ⟨kt_273, t_273⟩ := t_mul ((nI 4)) x1; rw [nI_toInt (show 4 < 2 ^ 31 by decide)] at t_273)
            first | have t_272 : ((((nI 4) * x1)) + x2).toInt = ((((nI 4) * x1))).toInt + (x2).toInt := t_addn (by omega) | obtain ⟨kt_272, t_272⟩ := t_add (((nI 4) * x1)) x2
            have t_274 := t_rng (f_250 (a0 + 8) (((nI 4) * x1) + x2).toNatClampNeg)
            exact cT_ret (b_M_claim_45 s0 (by rw [t_in]; omega)) hI_270 hF_271 ⟨_, rfl, trivial⟩
theorem c_M_picture {L : Nat} {f : cg_G} {e : Nat × Nat} {a0 : Nat} {x1 : Int32} {x2 : Int32} (hI : cI L f) (s0 : sh_ a0 = 7)  : cE 119 [.ref a0, .int x1, .int x2] L e (fun o => 190 ≤ o ∧ o < 220) f (fun v f' => ∃ x : Int32, v = some (.int x) ∧ (True)) := by
  refine cE_of (ls := [.ref a0, .int x1, .int x2, (.retAddr 0)]) rfl ?_
  have t0 := t_0
  have hF : cF (fun o => 190 ≤ o ∧ o < 220) f f := cF_rf
  have hm := one_7 s0
  have t_1 := t_rng (x1)
  have t_2 := t_rng (x2)
  refine cT_call (b_M_picture_0 s0) (c_M_isEntry hI s0) hF (fun o ho => ho.elim) (fun v_3 f_4 hI_5 hG_6 hF_7 hQ_8 => ?_)
  obtain rfl := cF_no hG_6
  obtain ⟨y_9, rfl, hb_10, hQ_8⟩ := hQ_8
  have hb_10r := t_rng y_9
  have t_11 : 0 ≤ (f a0 8).toInt ∧ (f a0 8).toInt ≤ 8 := (cI_at hI 8 s0).2.2.2.2.2.1 rfl
  show cT 119 6 [.ref a0, .int x1, .int x2, ((.retAddr 0))] [.int y_9, .ref a0] _ _ _ _ _ _
  refine cT_if b_M_picture_6 (fun c_12 => ?_) (fun c_12 => ?_)
  · rw [t_lt] at c_12
    refine cT_go b_M_picture_20 ?_
    have t_14 : (nI 0).toInt = 0 := nI_toInt (by decide)
    refine cT_call (b_M_picture_21 s0) (c_M_goes hI s0) hF (fun o ho => by omega) (fun v_15 f_16 hI_17 hG_18 hF_19 hQ_20 => ?_)
    obtain ⟨y_21, rfl, hb_22, hQ_20⟩ := hQ_20
    have hb_22r := t_rng y_21
    have t_23 : 3 ≤ (f a0 1).toInt ∧ (f a0 1).toInt ≤ 30 := (cI_at hI 1 s0).2.1 rfl
    have t_24 : 0 ≤ (f a0 3).toInt ∧ (f a0 3).toInt ≤ 32 := (cI_at hI 3 s0).2.2.2.1 rfl
    have t_25 : 0 ≤ (f a0 5).toInt ∧ (f a0 5).toInt ≤ 6 := (cI_at hI 5 s0).2.2.2.2.1 rfl
    have t_26 : 0 ≤ (f a0 14).toInt ∧ (f a0 14).toInt ≤ 26 := (cI_at hI 14 s0).2.2.2.2.2.2.1 rfl
    have t_27 : -1 ≤ (f a0 23).toInt ∧ (f a0 23).toInt ≤ 1 := (cI_at hI 23 s0).2.2.2.2.2.2.2.2.2 rfl
    have g_28 : (f_16 a0 1).toInt = (f a0 1).toInt := congrArg Int32.toInt (hQ_20.2.2.2.2 1 (by decide))
    have g_29 : (f_16 a0 3).toInt = (f a0 3).toInt := congrArg Int32.toInt (hQ_20.2.2.2.2 3 (by decide))
    have g_30 : (f_16 a0 5).toInt = (f a0 5).toInt := congrArg Int32.toInt (hQ_20.2.2.2.2 5 (by decide))
    have g_31 : (f_16 a0 8).toInt = (f a0 8).toInt := congrArg Int32.toInt (hQ_20.2.2.2.2 8 (by decide))
    have g_32 : (f_16 a0 14).toInt = (f a0 14).toInt := congrArg Int32.toInt (hQ_20.2.2.2.2 14 (by decide))
    have g_33 : (f_16 a0 23).toInt = (f a0 23).toInt := congrArg Int32.toInt (hQ_20.2.2.2.2 23 (by decide))
    show cT 119 24 [.ref a0, .int x1, .int x2, (((((.retAddr 0)))))] [.int y_21] _ _ _ _ _ _
    refine cT_if b_M_picture_24 (fun c_34 => ?_) (fun c_34 => ?_)
    · rw [t_eq] at c_34
      exact cT_ret b_M_picture_27 hI_17 hF_19 ⟨_, rfl, trivial⟩
    · rw [t_eq] at c_34
      have hI_35 := cI_up (k := x1.toNatClampNeg) (x := x2) hI_17 (sc_7_12 s0) ⟨(fun _ => by omega), (fun _ => by omega), (fun _ => by omega), (fun _ => by omega), (fun _ => by omega), (fun _ => by omega), (fun _ => by omega), (fun _ => by omega)⟩
      have hF_36 := cF_up (a := a0 + 7) (k := x1.toNatClampNeg) (x := x2) hF_19 (by omega)
      have t_37 : 0 ≤ (f_16 (a0 + 7) x1.toNatClampNeg).toInt ∧ (f_16 (a0 + 7) x1.toNatClampNeg).toInt ≤ 30 := (cI_at hI_17 x1.toNatClampNeg (sc_7_12 s0)).2.2.2.1 (by omega)
      exact cT_ret (b_M_picture_29 s0 (by rw [t_in]; omega)) hI_35 hF_36 ⟨_, rfl, trivial⟩
  · rw [t_lt] at c_12
    have t_39 : (nI 30).toInt = 30 := nI_toInt (by decide)
    refine cT_if b_M_picture_10 (fun c_38 => ?_) (fun c_38 => ?_)
    · rw [t_lt] at c_38
      refine cT_go b_M_picture_20 ?_
      have t_40 : (nI 0).toInt = 0 := nI_toInt (by decide)
      refine cT_call (b_M_picture_21 s0) (c_M_goes hI s0) hF (fun o ho => by omega) (fun v_41 f_42 hI_43 hG_44 hF_45 hQ_46 => ?_)
      obtain ⟨y_47, rfl, hb_48, hQ_46⟩ := hQ_46
      have hb_48r := t_rng y_47
      have t_49 : 3 ≤ (f a0 1).toInt ∧ (f a0 1).toInt ≤ 30 := (cI_at hI 1 s0).2.1 rfl
      have t_50 : 0 ≤ (f a0 3).toInt ∧ (f a0 3).toInt ≤ 32 := (cI_at hI 3 s0).2.2.2.1 rfl
      have t_51 : 0 ≤ (f a0 5).toInt ∧ (f a0 5).toInt ≤ 6 := (cI_at hI 5 s0).2.2.2.2.1 rfl
      have t_52 : 0 ≤ (f a0 14).toInt ∧ (f a0 14).toInt ≤ 26 := (cI_at hI 14 s0).2.2.2.2.2.2.1 rfl
      have t_53 : -1 ≤ (f a0 23).toInt ∧ (f a0 23).toInt ≤ 1 := (cI_at hI 23 s0).2.2.2.2.2.2.2.2.2 rfl
      have g_54 : (f_42 a0 1).toInt = (f a0 1).toInt := congrArg Int32.toInt (hQ_46.2.2.2.2 1 (by decide))
      have g_55 : (f_42 a0 3).toInt = (f a0 3).toInt := congrArg Int32.toInt (hQ_46.2.2.2.2 3 (by decide))
      have g_56 : (f_42 a0 5).toInt = (f a0 5).toInt := congrArg Int32.toInt (hQ_46.2.2.2.2 5 (by decide))
      have g_57 : (f_42 a0 8).toInt = (f a0 8).toInt := congrArg Int32.toInt (hQ_46.2.2.2.2 8 (by decide))
      have g_58 : (f_42 a0 14).toInt = (f a0 14).toInt := congrArg Int32.toInt (hQ_46.2.2.2.2 14 (by decide))
      have g_59 : (f_42 a0 23).toInt = (f a0 23).toInt := congrArg Int32.toInt (hQ_46.2.2.2.2 23 (by decide))
      show cT 119 24 [.ref a0, .int x1, .int x2, ((((((.retAddr 0))))))] [.int y_47] _ _ _ _ _ _
      refine cT_if b_M_picture_24 (fun c_60 => ?_) (fun c_60 => ?_)
      · rw [t_eq] at c_60
        exact cT_ret b_M_picture_27 hI_43 hF_45 ⟨_, rfl, trivial⟩
      · rw [t_eq] at c_60
        have hI_61 := cI_up (k := x1.toNatClampNeg) (x := x2) hI_43 (sc_7_12 s0) ⟨(fun _ => by omega), (fun _ => by omega), (fun _ => by omega), (fun _ => by omega), (fun _ => by omega), (fun _ => by omega), (fun _ => by omega), (fun _ => by omega)⟩
        have hF_62 := cF_up (a := a0 + 7) (k := x1.toNatClampNeg) (x := x2) hF_45 (by omega)
        have t_63 : 0 ≤ (f_42 (a0 + 7) x1.toNatClampNeg).toInt ∧ (f_42 (a0 + 7) x1.toNatClampNeg).toInt ≤ 30 := (cI_at hI_43 x1.toNatClampNeg (sc_7_12 s0)).2.2.2.1 (by omega)
        exact cT_ret (b_M_picture_29 s0 (by rw [t_in]; omega)) hI_61 hF_62 ⟨_, rfl, trivial⟩
    · rw [t_lt] at c_38
      refine cT_go b_M_picture_16 ?_
      have t_64 : (nI 1).toInt = 1 := nI_toInt (by decide)
      refine cT_call (b_M_picture_21 s0) (c_M_goes hI s0) hF (fun o ho => by omega) (fun v_65 f_66 hI_67 hG_68 hF_69 hQ_70 => ?_)
      obtain ⟨y_71, rfl, hb_72, hQ_70⟩ := hQ_70
      have hb_72r := t_rng y_71
      have t_73 : 3 ≤ (f a0 1).toInt ∧ (f a0 1).toInt ≤ 30 := (cI_at hI 1 s0).2.1 rfl
      have t_74 : 0 ≤ (f a0 3).toInt ∧ (f a0 3).toInt ≤ 32 := (cI_at hI 3 s0).2.2.2.1 rfl
      have t_75 : 0 ≤ (f a0 5).toInt ∧ (f a0 5).toInt ≤ 6 := (cI_at hI 5 s0).2.2.2.2.1 rfl
      have t_76 : 0 ≤ (f a0 14).toInt ∧ (f a0 14).toInt ≤ 26 := (cI_at hI 14 s0).2.2.2.2.2.2.1 rfl
      have t_77 : -1 ≤ (f a0 23).toInt ∧ (f a0 23).toInt ≤ 1 := (cI_at hI 23 s0).2.2.2.2.2.2.2.2.2 rfl
      have g_78 : (f_66 a0 1).toInt = (f a0 1).toInt := congrArg Int32.toInt (hQ_70.2.2.2.2 1 (by decide))
      have g_79 : (f_66 a0 3).toInt = (f a0 3).toInt := congrArg Int32.toInt (hQ_70.2.2.2.2 3 (by decide))
      have g_80 : (f_66 a0 5).toInt = (f a0 5).toInt := congrArg Int32.toInt (hQ_70.2.2.2.2 5 (by decide))
      have g_81 : (f_66 a0 8).toInt = (f a0 8).toInt := congrArg Int32.toInt (hQ_70.2.2.2.2 8 (by decide))
      have g_82 : (f_66 a0 14).toInt = (f a0 14).toInt := congrArg Int32.toInt (hQ_70.2.2.2.2 14 (by decide))
      have g_83 : (f_66 a0 23).toInt = (f a0 23).toInt := congrArg Int32.toInt (hQ_70.2.2.2.2 23 (by decide))
      show cT 119 24 [.ref a0, .int x1, .int x2, ((((((.retAddr 0))))))] [.int y_71] _ _ _ _ _ _
      refine cT_if b_M_picture_24 (fun c_84 => ?_) (fun c_84 => ?_)
      · rw [t_eq] at c_84
        have t_85 : (nI 0).toInt = 0 := nI_toInt (by decide)
        exact cT_ret b_M_picture_27 hI_67 hF_69 ⟨_, rfl, trivial⟩
      · rw [t_eq] at c_84
        have hI_86 := cI_up (k := x1.toNatClampNeg) (x := x2) hI_67 (sc_7_12 s0) ⟨(fun _ => by omega), (fun _ => by omega), (fun _ => by omega), (fun _ => by omega), (fun _ => by omega), (fun _ => by omega), (fun _ => by omega), (fun _ => by omega)⟩
        have hF_87 := cF_up (a := a0 + 7) (k := x1.toNatClampNeg) (x := x2) hF_69 (by omega)
        have t_88 : 0 ≤ (f_66 (a0 + 7) x1.toNatClampNeg).toInt ∧ (f_66 (a0 + 7) x1.toNatClampNeg).toInt ≤ 30 := (cI_at hI_67 x1.toNatClampNeg (sc_7_12 s0)).2.2.2.1 (by omega)
        exact cT_ret (b_M_picture_29 s0 (by rw [t_in]; omega)) hI_86 hF_87 ⟨_, rfl, trivial⟩
