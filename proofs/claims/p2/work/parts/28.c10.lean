theorem l_M_take_2 {L : Nat} {e : Nat × Nat} {f0 : cg_G} : ∀ (k : Nat) {f : cg_G} {a0 : Nat} {x1 : Int32} {x2 : Int32}, (4 - x2.toInt).toNat < k → cI L f → cF (fun o => o = a0 ∨ o = a0 + 1) f0 f → sh_ a0 = 7 → (0 ≤ x2.toInt ∧ x2.toInt ≤ 4) → ((f0 a0 3).toInt + (cnz x1 4 : Nat) ≤ 32) → (0 ≤ (f0 a0 3).toInt) → ((f a0 3).toInt = (f0 a0 3).toInt + (cnz x1 x2.toNatClampNeg : Nat)) → (padI (f0 (a0 + 1)) (f (a0 + 1)) (f0 a0 3).toNatClampNeg x1 x2.toNatClampNeg) → (∀ k, k ≠ 3 → f a0 k = f0 a0 k) → cT 55 2 [.ref a0, .int x1, .int x2] [] L e (fun o => o = a0 ∨ o = a0 + 1) f0 f (fun v f' => v = none ∧ (padI (f0 (a0 + 1)) (f' (a0 + 1)) (f0 a0 3).toNatClampNeg x1 4 ∧ (f' a0 3).toInt = (f0 a0 3).toInt + (cnz x1 4 : Nat) ∧ ∀ k, k ≠ 3 → f' a0 k = f0 a0 k)) := by
  intro k
  induction k with
  | zero => intro f a0 x1 x2 hm; omega
  | succ k ih =>
    intro f a0 x1 x2 hme hI hF s0 i2 p1 i0 i3 i5 i6
    have t0 := t_0
    have hm := one_7 s0
    have hz := cnz_4 (w := x1) (x := x2)
    unfold byt at hz
    have hz0 := cnz_0 (w := x1)
    have t_1 := t_rng (x1)
    have t_2 := t_rng (x2)
    have t_4 : (nI 4).toInt = 4 := nI_toInt (by decide)
    refine cT_if b_M_take_2 (fun c_3 => ?_) (fun c_3 => ?_)
    · rw [t_le] at c_3
      exact cT_ret b_M_take_55 hI hF ⟨rfl, by rw [← cl4 (show x2.toInt = 4 by omega)]; exact ⟨i5, i3, i6⟩⟩
    · rw [t_le] at c_3
      have t_6 := t_rng (((x1.toUInt32 >>> (((nI 8) * x2).toUInt32 &&& Int32.toUInt32 31)).toInt32) &&& (nI 255))
      refine cT_if b_M_take_7 (fun c_5 => ?_) (fun c_5 => ?_)
      · rw [t_eq] at c_5
        refine cT_go b_M_take_49 ?_
        have t_9 : (nI 1).toInt = 1 := nI_toInt (by decide)
        first | have t_8 : (x2 + (nI 1)).toInt = (x2).toInt + ((nI 1)).toInt := t_addn (by omega) | obtain ⟨kt_8, t_8⟩ := t_add x2 (nI 1)
        have t_10 : 0 ≤ (f a0 3).toInt ∧ (f a0 3).toInt ≤ 32 := (cI_at hI 3 s0).2.2.2.1 rfl
        exact ih (by omega) hI hF s0 (by omega) (by omega) (by omega) (by first | (rw [cnz_0]; omega) | (rw [cnz_s (by omega)]; unfold byt; split <;> omega)) (by first | exact padI_00 | exact padI_skip i5 (by omega) (by unfold byt; omega) | (rw [cg_up_o (by omega), cg_up_row]; exact padI_put i5 (by omega) (by rw [t_cl, t_cl]; omega) (by unfold byt; omega))) (by first | exact fun k hk => rfl | exact i6 | exact fun k hk => by rw [cg_up_k hk, cg_up_o (by omega)]; exact i6 k hk)
      · rw [t_eq] at c_5
        have hI_11 := cI_up (k := (f a0 3).toNatClampNeg) (x := ((x1.toUInt32 >>> (((nI 8) * x2).toUInt32 &&& Int32.toUInt32 31)).toInt32) &&& (nI 255)) hI (sc_7_4 s0) ⟨(fun _ => by omega), (fun _ => by omega), (fun _ => by omega), (fun _ => by omega), (fun _ => by omega), (fun _ => by omega), (fun _ => by omega), (fun _ => by omega), (fun _ => by omega), (fun _ => by omega), (fun _ => by omega), (fun _ => by omega), (fun _ => by omega)⟩
        have hF_12 := cF_up (a := a0 + 1) (k := (f a0 3).toNatClampNeg) (x := ((x1.toUInt32 >>> (((nI 8) * x2).toUInt32 &&& Int32.toUInt32 31)).toInt32) &&& (nI 255)) hF (by omega)
        have t_16 : ((cg_up f (a0 + 1) (f a0 3).toNatClampNeg (((x1.toUInt32 >>> (((nI 8) * x2).toUInt32 &&& Int32.toUInt32 31)).toInt32) &&& (nI 255))) a0 3).toInt = (f a0 3).toInt := by rw [cg_up_o (ne_sh s0 (sc_7_4 s0) (by decide))]
        have t_17 : 0 ≤ (f a0 3).toInt ∧ (f a0 3).toInt ≤ 32 := (cI_at hI 3 s0).2.2.2.1 rfl
        have t_18 : (nI 1).toInt = 1 := nI_toInt (by decide)
        first | have t_15 : ((((cg_up f (a0 + 1) (f a0 3).toNatClampNeg (((x1.toUInt32 >>> (((nI 8) * x2).toUInt32 &&& Int32.toUInt32 31)).toInt32) &&& (nI 255))) a0 3)) + ((nI 1))).toInt = ((((cg_up f (a0 + 1) (f a0 3).toNatClampNeg (((x1.toUInt32 >>> (((nI 8) * x2).toUInt32 &&& Int32.toUInt32 31)).toInt32) &&& (nI 255))) a0 3))).toInt + (((nI 1))).toInt := t_addn (by omega) | obtain ⟨kt_15, t_15⟩ := t_add (((cg_up f (a0 + 1) (f a0 3).toNatClampNeg (((x1.toUInt32 >>> (((nI 8) * x2).toUInt32 &&& Int32.toUInt32 31)).toInt32) &&& (nI 255))) a0 3)) ((nI 1))
        have hI_13 := cI_up (k := 3) (x := ((cg_up f (a0 + 1) (f a0 3).toNatClampNeg (((x1.toUInt32 >>> (((nI 8) * x2).toUInt32 &&& Int32.toUInt32 31)).toInt32) &&& (nI 255))) a0 3) + (nI 1)) hI_11 s0 ⟨(fun h => absurd h (by decide)), (fun h => absurd h (by decide)), (fun h => absurd h (by decide)), (fun _ => by omega), (fun h => absurd h (by decide)), (fun h => absurd h (by decide)), (fun h => absurd h (by decide)), (fun h => absurd h (by decide)), (fun h => absurd h (by decide)), (fun h => absurd h (by decide))⟩
        have hF_14 := cF_up (a := a0) (k := 3) (x := ((cg_up f (a0 + 1) (f a0 3).toNatClampNeg (((x1.toUInt32 >>> (((nI 8) * x2).toUInt32 &&& Int32.toUInt32 31)).toInt32) &&& (nI 255))) a0 3) + (nI 1)) hF_12 (by omega)
        refine cT_go (b_M_take_20 s0 (by rw [t_in]; omega)) ?_
        refine cT_go b_M_take_49 ?_
        first | have t_19 : (x2 + (nI 1)).toInt = (x2).toInt + ((nI 1)).toInt := t_addn (by omega) | obtain ⟨kt_19, t_19⟩ := t_add x2 (nI 1)
        have t_20 : ((cg_up (cg_up f (a0 + 1) (f a0 3).toNatClampNeg (((x1.toUInt32 >>> (((nI 8) * x2).toUInt32 &&& Int32.toUInt32 31)).toInt32) &&& (nI 255))) a0 3 (((cg_up f (a0 + 1) (f a0 3).toNatClampNeg (((x1.toUInt32 >>> (((nI 8) * x2).toUInt32 &&& Int32.toUInt32 31)).toInt32) &&& (nI 255))) a0 3) + (nI 1))) a0 3).toInt = (((cg_up f (a0 + 1) (f a0 3).toNatClampNeg (((x1.toUInt32 >>> (((nI 8) * x2).toUInt32 &&& Int32.toUInt32 31)).toInt32) &&& (nI 255))) a0 3) + (nI 1)).toInt := by rw [cg_up_s]
        exact ih (by omega) hI_13 hF_14 s0 (by omega) (by omega) (by omega) (by first | (rw [cnz_0]; omega) | (rw [cnz_s (by omega)]; unfold byt; split <;> omega)) (by first | exact padI_00 | exact padI_skip i5 (by omega) (by unfold byt; omega) | (rw [cg_up_o (by omega), cg_up_row]; exact padI_put i5 (by omega) (by rw [t_cl, t_cl]; omega) (by unfold byt; omega))) (by first | exact fun k hk => rfl | exact i6 | exact fun k hk => by rw [cg_up_k hk, cg_up_o (by omega)]; exact i6 k hk)
theorem c_M_take {L : Nat} {f : cg_G} {e : Nat × Nat} {a0 : Nat} {x1 : Int32} (hI : cI L f) (s0 : sh_ a0 = 7) (p1 : (f a0 3).toInt + (cnz x1 4 : Nat) ≤ 32) : cE 55 [.ref a0, .int x1] L e (fun o => o = a0 ∨ o = a0 + 1) f (fun v f' => v = none ∧ (padI (f (a0 + 1)) (f' (a0 + 1)) (f a0 3).toNatClampNeg x1 4 ∧ (f' a0 3).toInt = (f a0 3).toInt + (cnz x1 4 : Nat) ∧ ∀ k, k ≠ 3 → f' a0 k = f a0 k)) := by
  refine cE_of (ls := [.ref a0, .int x1, (.retAddr 0)]) rfl ?_
  have t0 := t_0
  have hF : cF (fun o => o = a0 ∨ o = a0 + 1) f f := cF_rf
  have hm := one_7 s0
  have t_21 := t_rng (x1)
  refine cT_go b_M_take_0 ?_
  have t_22 : (nI 0).toInt = 0 := nI_toInt (by decide)
  have t_23 : 0 ≤ (f a0 3).toInt ∧ (f a0 3).toInt ≤ 32 := (cI_at hI 3 s0).2.2.2.1 rfl
  exact l_M_take_2 ((4 - (nI 0).toInt).toNat + 1) (by omega) hI hF s0 (by omega) (by omega) (by omega) (by first | (rw [cnz_0]; omega) | (rw [cnz_s (by omega)]; unfold byt; split <;> omega)) (by first | exact padI_00 | exact padI_skip i5 (by omega) (by unfold byt; omega) | (rw [cg_up_o (by omega), cg_up_row]; exact padI_put i5 (by omega) (by rw [t_cl, t_cl]; omega) (by unfold byt; omega))) (by first | exact fun k hk => rfl | exact i6 | exact fun k hk => by rw [cg_up_k hk, cg_up_o (by omega)]; exact i6 k hk)
