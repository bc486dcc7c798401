theorem l_C_addSignsOf_2 {L : Nat} {e : Nat × Nat} {f0 : cg_G} : ∀ (k : Nat) {f : cg_G} {a0 : Nat} {x1 : Int32} {x2 : Int32} {u3 : Value}, (4 - x2.toInt).toNat < k → cI L f → cF (fun o => o = a0 + 1 ∨ o = a0 + 1 + 1) f0 f → sh_ a0 = 0 → (0 ≤ x2.toInt ∧ x2.toInt ≤ 4) → ((f0 (a0 + 1) 1).toInt + (cnz x1 4 : Nat) ≤ 32) → (0 ≤ (f0 (a0 + 1) 1).toInt) → ((f (a0 + 1) 1).toInt = (f0 (a0 + 1) 1).toInt + (cnz x1 x2.toNatClampNeg : Nat)) → (padI (f0 (a0 + 1 + 1)) (f (a0 + 1 + 1)) (f0 (a0 + 1) 1).toNatClampNeg x1 x2.toNatClampNeg) → cT 58 2 [.ref a0, .int x1, .int x2, u3] [] L e (fun o => o = a0 + 1 ∨ o = a0 + 1 + 1) f0 f (fun v f' => v = none ∧ (padI (f0 (a0 + 1 + 1)) (f' (a0 + 1 + 1)) (f0 (a0 + 1) 1).toNatClampNeg x1 4 ∧ (f' (a0 + 1) 1).toInt = (f0 (a0 + 1) 1).toInt + (cnz x1 4 : Nat))) := by
  intro k
  induction k with
  | zero => intro f a0 x1 x2 u3 hm; omega
  | succ k ih =>
    intro f a0 x1 x2 u3 hme hI hF s0 i2 p1 i0 i3 i5
    have t0 := t_0
    have hx1 := one_0 s0
    have hp := pad_ln (L := L) s0
    have hb0 := (cI_at hI 1 (sc_0_1 s0)) rfl
    have n1 : (nI 1).toInt = 1 := nI_toInt (by decide)
    have hz := cnz_4 (w := x1) (x := x2)
    have hz0 := cnz_0 (w := x1)
    have t_1 := t_rng (x1)
    have t_2 := t_rng (x2)
    have t_4 : (nI 4).toInt = 4 := nI_toInt (by decide)
    refine cT_if b_C_addSignsOf_2 (fun c_3 => ?_) (fun c_3 => ?_)
    · rw [t_le] at c_3
      exact cT_ret b_C_addSignsOf_31 hI hF ⟨rfl, by rw [← cl4 (show x2.toInt = 4 by omega)]; exact ⟨i5, i3⟩⟩
    · rw [t_le] at c_3
      refine cT_call b_C_addSignsOf_7 (c_C_byteOf hI) hF (fun o ho => ho.elim) (fun v_5 f_6 hI_7 hG_8 hF_9 hQ_10 => ?_)
      obtain rfl := cF_no hG_8
      obtain ⟨y_11, rfl, hQ_10⟩ := hQ_10
      have hQ_10r := t_rng y_11
      have g_12 : y_11 = byt x1 x2 := hQ_10.1
      show cT 58 12 [.ref a0, .int x1, .int x2, u3] [.int y_11] _ _ _ _ _ _
      refine cT_if b_C_addSignsOf_12 (fun c_13 => ?_) (fun c_13 => ?_)
      · rw [t_eq] at c_13
        refine cT_go b_C_addSignsOf_25 ?_
        have t_16 : (nI 1).toInt = 1 := nI_toInt (by decide)
        first | have t_15 : (x2 + (nI 1)).toInt = (x2).toInt + ((nI 1)).toInt := t_addn (by omega) | obtain ⟨kt_15, t_15⟩ := t_add x2 (nI 1)
        have t_17 := t_rng (f (a0 + 1) 1)
        exact ih (by omega) hI hF s0 (by omega) (by omega) (by omega) (by first | (rw [cnz_0]; omega) | (rw [cnz_s (by omega)]; split <;> omega)) (by first | exact padI_00 | exact padI_skip i5 (by omega) (by omega) | assumption)
      · rw [t_eq] at c_13
        refine cT_call (b_C_addSignsOf_17 s0) (c_Signs_add hI (sc_0_1 s0)) hF (fun o ho => by omega) (fun v_18 f_19 hI_20 hG_21 hF_22 hQ_23 => ?_)
        obtain ⟨rfl, hQ_23⟩ := hQ_23
        have g_25 : (f_19 (a0 + 1) 1).toInt = (f (a0 + 1) 1).toInt + 1 := by rw [hQ_23.1 (by omega), cg_up_s, t_addn (by omega)]; omega
        have g_26 : padI (f0 (a0 + 1 + 1)) (f_19 (a0 + 1 + 1)) (f0 (a0 + 1) 1).toNatClampNeg x1 (x2 + nI 1).toNatClampNeg := by rw [hQ_23.1 (by omega), cg_up_o (by omega), cg_up_row]; exact padI_putc (by assumption) i5 (by omega) (by rw [t_cl, t_cl]; omega) (by omega)
        show cT 58 25 [.ref a0, .int x1, .int x2, .int y_11] [] _ _ _ _ _ _
        refine cT_go b_C_addSignsOf_25 ?_
        have t_28 : (nI 1).toInt = 1 := nI_toInt (by decide)
        first | have t_27 : (x2 + (nI 1)).toInt = (x2).toInt + ((nI 1)).toInt := t_addn (by omega) | obtain ⟨kt_27, t_27⟩ := t_add x2 (nI 1)
        have t_29 : 0 ≤ (f_19 (a0 + 1) 1).toInt ∧ (f_19 (a0 + 1) 1).toInt ≤ (ln_ L (a0 + 1 + 1) : Int) := (cI_at hI_20 1 (sc_0_1 s0)) rfl
        exact ih (by omega) hI_20 hF_22 s0 (by omega) (by omega) (by omega) (by first | (rw [cnz_0]; omega) | (rw [cnz_s (by omega)]; split <;> omega)) (by first | exact padI_00 | exact padI_skip i5 (by omega) (by omega) | assumption)
theorem c_C_addSignsOf {L : Nat} {f : cg_G} {e : Nat × Nat} {a0 : Nat} {x1 : Int32} (hI : cI L f) (s0 : sh_ a0 = 0) (p1 : (f (a0 + 1) 1).toInt + (cnz x1 4 : Nat) ≤ 32) : cE 58 [.ref a0, .int x1] L e (fun o => o = a0 + 1 ∨ o = a0 + 1 + 1) f (fun v f' => v = none ∧ (padI (f (a0 + 1 + 1)) (f' (a0 + 1 + 1)) (f (a0 + 1) 1).toNatClampNeg x1 4 ∧ (f' (a0 + 1) 1).toInt = (f (a0 + 1) 1).toInt + (cnz x1 4 : Nat))) := by
  refine cE_of (ls := [.ref a0, .int x1, (.retAddr 0), (.retAddr 0)]) rfl ?_
  have t0 := t_0
  have hF : cF (fun o => o = a0 + 1 ∨ o = a0 + 1 + 1) f f := cF_rf
  have hx1 := one_0 s0
  have hp := pad_ln (L := L) s0
  have hb0 := (cI_at hI 1 (sc_0_1 s0)) rfl
  have n1 : (nI 1).toInt = 1 := nI_toInt (by decide)
  have t_30 := t_rng (x1)
  refine cT_go b_C_addSignsOf_0 ?_
  have t_31 : (nI 0).toInt = 0 := nI_toInt (by decide)
  have t_32 := t_rng (f (a0 + 1) 1)
  exact l_C_addSignsOf_2 ((4 - (nI 0).toInt).toNat + 1) (by omega) hI hF s0 (by omega) (by omega) (by omega) (by first | (rw [cnz_0]; omega) | (rw [cnz_s (by omega)]; split <;> omega)) (by first | exact padI_00 | exact padI_skip i5 (by omega) (by omega) | assumption)
