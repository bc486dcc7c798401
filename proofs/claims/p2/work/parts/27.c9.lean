theorem c_C_byteOf {L : Nat} {f : cg_G} {e : Nat × Nat} {x0 : Int32} {x1 : Int32} (hI : cI L f)   : cE 0 [.int x0, .int x1] L e (fun o => False) f (fun v f' => ∃ x : Int32, v = some (.int x) ∧ (x = byt x0 x1 ∧ x.toInt = (byt x0 x1).toInt)) := by
  refine cE_of (ls := [.int x0, .int x1]) rfl ?_
  have t0 := t_0
  have hF : cF (fun o => False) f f := cF_rf
  have t_1 := t_rng (x0)
  have t_2 := t_rng (x1)
  have t_3 := t_rng (((x0.toUInt32 >>> (((nI 8) * x1).toUInt32 &&& Int32.toUInt32 31)).toInt32) &&& (nI 255))
  exact cT_ret b_C_byteOf_0 hI hF ⟨_, rfl, ⟨rfl, rfl⟩⟩
theorem l_C_signsIn_4 {L : Nat} {e : Nat × Nat} {f0 : cg_G} : ∀ (k : Nat) {f : cg_G} {x0 : Int32} {x1 : Int32} {x2 : Int32}, (4 - x2.toInt).toNat < k → cI L f → cF (fun o => False) f0 f → (0 ≤ x2.toInt ∧ x2.toInt ≤ 4) → (0 ≤ x1.toInt ∧ x1.toInt ≤ x2.toInt) → (x1.toInt = (cnz x0 x2.toNatClampNeg : Nat)) → cT 69 4 [.int x0, .int x1, .int x2] [] L e (fun o => False) f0 f (fun v f' => ∃ x : Int32, v = some (.int x) ∧ (x.toInt = (cnz x0 4 : Nat) ∧ x.toInt ≤ 4)) := by
  intro k
  induction k with
  | zero => intro f x0 x1 x2 hm; omega
  | succ k ih =>
    intro f x0 x1 x2 hme hI hF  i2 i0 i1
    have t0 := t_0
    have t_1 := t_rng (x0)
    have t_2 := t_rng (x1)
    have t_3 := t_rng (x2)
    have t_5 : (nI 4).toInt = 4 := nI_toInt (by decide)
    refine cT_if b_C_signsIn_4 (fun c_4 => ?_) (fun c_4 => ?_)
    · rw [t_le] at c_4
      exact cT_ret b_C_signsIn_26 hI hF ⟨_, rfl, ⟨by rw [← cl4 (show x2.toInt = 4 by omega)]; exact i1, by omega⟩⟩
    · rw [t_le] at c_4
      refine cT_call b_C_signsIn_9 (c_C_byteOf hI) hF (fun o ho => ho.elim) (fun v_6 f_7 hI_8 hG_9 hF_10 hQ_11 => ?_)
      obtain rfl := cF_no hG_9
      obtain ⟨y_12, rfl, hQ_11⟩ := hQ_11
      have hQ_11r := t_rng y_12
      have g_13 : y_12 = byt x0 x2 := hQ_11.1
      show cT 69 14 [.int x0, .int x1, .int x2] [.int y_12] _ _ _ _ _ _
      refine cT_if b_C_signsIn_14 (fun c_14 => ?_) (fun c_14 => ?_)
      · rw [t_eq] at c_14
        refine cT_go b_C_signsIn_20 ?_
        have t_17 : (nI 1).toInt = 1 := nI_toInt (by decide)
        first | have t_16 : (x2 + (nI 1)).toInt = (x2).toInt + ((nI 1)).toInt := t_addn (by omega) | obtain ⟨kt_16, t_16⟩ := t_add x2 (nI 1)
        exact ih (by omega) hI hF (by omega) (by omega) (by first | (rw [cnz_0]; omega) | (rw [cnz_s (by omega)]; split <;> omega) | (rw [cnz_s (by omega)]; unfold byt; split <;> omega))
      · rw [t_eq] at c_14
        refine cT_go b_C_signsIn_17 ?_
        refine cT_go b_C_signsIn_20 ?_
        have t_19 : (nI 1).toInt = 1 := nI_toInt (by decide)
        first | have t_18 : (x1 + (nI 1)).toInt = (x1).toInt + ((nI 1)).toInt := t_addn (by omega) | obtain ⟨kt_18, t_18⟩ := t_add x1 (nI 1)
        first | have t_20 : (x2 + (nI 1)).toInt = (x2).toInt + ((nI 1)).toInt := t_addn (by omega) | obtain ⟨kt_20, t_20⟩ := t_add x2 (nI 1)
        exact ih (by omega) hI hF (by omega) (by omega) (by first | (rw [cnz_0]; omega) | (rw [cnz_s (by omega)]; split <;> omega) | (rw [cnz_s (by omega)]; unfold byt; split <;> omega))
theorem c_C_signsIn {L : Nat} {f : cg_G} {e : Nat × Nat} {x0 : Int32} (hI : cI L f)   : cE 69 [.int x0] L e (fun o => False) f (fun v f' => ∃ x : Int32, v = some (.int x) ∧ (x.toInt = (cnz x0 4 : Nat) ∧ x.toInt ≤ 4)) := by
  refine cE_of (ls := [.int x0, (.retAddr 0), (.retAddr 0)]) rfl ?_
  have t0 := t_0
  have hF : cF (fun o => False) f f := cF_rf
  have t_21 := t_rng (x0)
  refine cT_go b_C_signsIn_0 ?_
  have t_22 : (nI 0).toInt = 0 := nI_toInt (by decide)
  exact l_C_signsIn_4 ((4 - (nI 0).toInt).toNat + 1) (by omega) hI hF (by omega) (by omega) (by first | (rw [cnz_0]; omega) | (rw [cnz_s (by omega)]; split <;> omega) | (rw [cnz_s (by omega)]; unfold byt; split <;> omega))
theorem l_C_hasGoodSigns_2 {L : Nat} {e : Nat × Nat} {f0 : cg_G} : ∀ (k : Nat) {f : cg_G} {x0 : Int32} {x1 : Int32} {u2 : Value}, (4 - x1.toInt).toNat < k → cI L f → cF (fun o => False) f0 f → (0 ≤ x1.toInt ∧ x1.toInt ≤ 4) → (cbd x0 x1.toNatClampNeg = 0) → cT 64 2 [.int x0, .int x1, u2] [] L e (fun o => False) f0 f (fun v f' => ∃ x : Int32, v = some (.int x) ∧ (x = 0 ∨ x = 1) ∧ (x.toInt ≠ 0 ↔ cbd x0 4 = 0)) := by
  intro k
  induction k with
  | zero => intro f x0 x1 u2 hm; omega
  | succ k ih =>
    intro f x0 x1 u2 hme hI hF  i2 i1
    have t0 := t_0
    have t_1 := t_rng (x0)
    have t_2 := t_rng (x1)
    have t_4 : (nI 4).toInt = 4 := nI_toInt (by decide)
    refine cT_if b_C_hasGoodSigns_2 (fun c_3 => ?_) (fun c_3 => ?_)
    · rw [t_le] at c_3
      have t_5 : (nI 1).toInt = 1 := nI_toInt (by decide)
      exact cT_ret b_C_hasGoodSigns_37 hI hF ⟨_, rfl, (by decide), by first | (rw [← cl4 (show x1.toInt = 4 by omega)]; omega) | (have hb := cbd_4 (w := x0) (x := x1) (by omega); split at hb <;> omega)⟩
    · rw [t_le] at c_3
      refine cT_call b_C_hasGoodSigns_7 (c_C_byteOf hI) hF (fun o ho => ho.elim) (fun v_6 f_7 hI_8 hG_9 hF_10 hQ_11 => ?_)
      obtain rfl := cF_no hG_9
      obtain ⟨y_12, rfl, hQ_11⟩ := hQ_11
      have hQ_11r := t_rng y_12
      have g_13 : y_12 = byt x0 x1 := hQ_11.1
      show cT 64 12 [.int x0, .int x1, u2] [.int y_12] _ _ _ _ _ _
      refine cT_if b_C_hasGoodSigns_12 (fun c_14 => ?_) (fun c_14 => ?_)
      · rw [t_eq] at c_14
        refine cT_go b_C_hasGoodSigns_31 ?_
        have t_17 : (nI 1).toInt = 1 := nI_toInt (by decide)
        first | have t_16 : (x1 + (nI 1)).toInt = (x1).toInt + ((nI 1)).toInt := t_addn (by omega) | obtain ⟨kt_16, t_16⟩ := t_add x1 (nI 1)
        exact ih (by omega) hI hF (by omega) (by first | exact cbd_0 | (rw [cbd_0]; omega) | (rw [cbd_s (by omega)]; split <;> omega) | (rw [cbd_s (by omega)]; unfold byt; split <;> omega))
      · rw [t_eq] at c_14
        have t_19 : (nI 32).toInt = 32 := nI_toInt (by decide)
        refine cT_if b_C_hasGoodSigns_17 (fun c_18 => ?_) (fun c_18 => ?_)
        · rw [t_lt] at c_18
          have t_20 : (nI 0).toInt = 0 := nI_toInt (by decide)
          exact cT_ret b_C_hasGoodSigns_29 hI hF ⟨_, rfl, (by decide), by first | (rw [← cl4 (show x1.toInt = 4 by omega)]; omega) | (have hb := cbd_4 (w := x0) (x := x1) (by omega); split at hb <;> omega)⟩
        · rw [t_lt] at c_18
          have t_22 : (nI 126).toInt = 126 := nI_toInt (by decide)
          refine cT_if b_C_hasGoodSigns_23 (fun c_21 => ?_) (fun c_21 => ?_)
          · rw [t_le] at c_21
            refine cT_go b_C_hasGoodSigns_31 ?_
            have t_24 : (nI 1).toInt = 1 := nI_toInt (by decide)
            first | have t_23 : (x1 + (nI 1)).toInt = (x1).toInt + ((nI 1)).toInt := t_addn (by omega) | obtain ⟨kt_23, t_23⟩ := t_add x1 (nI 1)
            exact ih (by omega) hI hF (by omega) (by first | exact cbd_0 | (rw [cbd_0]; omega) | (rw [cbd_s (by omega)]; split <;> omega) | (rw [cbd_s (by omega)]; unfold byt; split <;> omega))
          · rw [t_le] at c_21
            have t_25 : (nI 0).toInt = 0 := nI_toInt (by decide)
            exact cT_ret b_C_hasGoodSigns_29 hI hF ⟨_, rfl, (by decide), by first | (rw [← cl4 (show x1.toInt = 4 by omega)]; omega) | (have hb := cbd_4 (w := x0) (x := x1) (by omega); split at hb <;> omega)⟩
theorem c_C_hasGoodSigns {L : Nat} {f : cg_G} {e : Nat × Nat} {x0 : Int32} (hI : cI L f)   : cE 64 [.int x0] L e (fun o => False) f (fun v f' => ∃ x : Int32, v = some (.int x) ∧ (x = 0 ∨ x = 1) ∧ (x.toInt ≠ 0 ↔ cbd x0 4 = 0)) := by
  refine cE_of (ls := [.int x0, (.retAddr 0), (.retAddr 0)]) rfl ?_
  have t0 := t_0
  have hF : cF (fun o => False) f f := cF_rf
  have t_26 := t_rng (x0)
  refine cT_go b_C_hasGoodSigns_0 ?_
  have t_27 : (nI 0).toInt = 0 := nI_toInt (by decide)
  exact l_C_hasGoodSigns_2 ((4 - (nI 0).toInt).toNat + 1) (by omega) hI hF (by omega) (by first | exact cbd_0 | (rw [cbd_0]; omega) | (rw [cbd_s (by omega)]; split <;> omega) | (rw [cbd_s (by omega)]; unfold byt; split <;> omega))
