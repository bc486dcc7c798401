theorem c_M_put {L : Nat} {f : cg_G} {e : Nat × Nat} {a0 : Nat} {x1 : Int32} (hI : cI L f) (s0 : sh_ a0 = 7) (p : (f a0 16).toInt < 256) : cE 50 [.ref a0, .int x1] L e (fun o => o = a0 ∨ o = a0 + 10) f (fun v f' => v = none ∧ ((f' a0 16).toInt = (f a0 16).toInt + 1 ∧ ∀ k, k ≠ 16 → f' a0 k = f a0 k)) := by
  refine cE_of (ls := [.ref a0, .int x1]) rfl ?_
  have t0 := t_0
  have hF : cF (fun o => o = a0 ∨ o = a0 + 10) f f := cF_rf
  have hm := one_7 s0
  have t_1 := t_rng (x1)
  have hI_2 := cI_up (k := (f a0 16).toNatClampNeg) (x := x1) hI (sc_7_17 s0) ⟨(fun _ => by omega), (fun _ => by omega), (fun _ => by omega), (fun _ => by omega), (fun _ => by omega), (fun _ => by omega), (fun _ => by omega), (fun _ => by omega), (fun _ => by omega), (fun _ => by omega), (fun _ => by omega), (fun _ => by omega), (fun _ => by omega)⟩
  have hF_3 := cF_up (a := a0 + 10) (k := (f a0 16).toNatClampNeg) (x := x1) hF (by omega)
  have t_7 : ((cg_up f (a0 + 10) (f a0 16).toNatClampNeg x1) a0 16).toInt = (f a0 16).toInt := by rw [cg_up_o (ne_sh s0 (sc_7_17 s0) (by decide))]
  have t_8 : 0 ≤ (f a0 16).toInt ∧ (f a0 16).toInt ≤ 256 := (cI_at hI 16 s0).2.2.2.2.2.2.2.1 rfl
  have t_9 : (nI 1).toInt = 1 := nI_toInt (by decide)
  first | have t_6 : ((((cg_up f (a0 + 10) (f a0 16).toNatClampNeg x1) a0 16)) + ((nI 1))).toInt = ((((cg_up f (a0 + 10) (f a0 16).toNatClampNeg x1) a0 16))).toInt + (((nI 1))).toInt := t_addn (by omega) | obtain ⟨kt_6, t_6⟩ := t_add (((cg_up f (a0 + 10) (f a0 16).toNatClampNeg x1) a0 16)) ((nI 1))
  have hI_4 := cI_up (k := 16) (x := ((cg_up f (a0 + 10) (f a0 16).toNatClampNeg x1) a0 16) + (nI 1)) hI_2 s0 ⟨(fun h => absurd h (by decide)), (fun h => absurd h (by decide)), (fun h => absurd h (by decide)), (fun h => absurd h (by decide)), (fun h => absurd h (by decide)), (fun h => absurd h (by decide)), (fun h => absurd h (by decide)), (fun _ => by omega), (fun h => absurd h (by decide)), (fun h => absurd h (by decide))⟩
  have hF_5 := cF_up (a := a0) (k := 16) (x := ((cg_up f (a0 + 10) (f a0 16).toNatClampNeg x1) a0 16) + (nI 1)) hF_3 (by omega)
  have t_10 : ((cg_up (cg_up f (a0 + 10) (f a0 16).toNatClampNeg x1) a0 16 (((cg_up f (a0 + 10) (f a0 16).toNatClampNeg x1) a0 16) + (nI 1))) a0 16).toInt = (((cg_up f (a0 + 10) (f a0 16).toNatClampNeg x1) a0 16) + (nI 1)).toInt := by rw [cg_up_s]
  exact cT_ret (b_M_put_0 s0 (by rw [t_in]; omega)) hI_4 hF_5 ⟨rfl, ⟨by omega, fun k hk => by rw [cg_up_k hk, cg_up_o (by omega)]⟩⟩
theorem l_M_putField_2 {L : Nat} {e : Nat × Nat} {f0 : cg_G} : ∀ (k : Nat) {f : cg_G} {a0 : Nat} {x1 : Int32} {x2 : Int32}, (32 - x2.toInt).toNat < k → cI L f → cF (fun o => o = a0 ∨ o = a0 + 10) f0 f → sh_ a0 = 7 → (0 ≤ x1.toInt ∧ x1.toInt < 32) → (0 ≤ x2.toInt ∧ x2.toInt ≤ 32) → ((f0 a0 16).toInt + 32 ≤ 256) → ((f a0 16).toInt = (f0 a0 16).toInt + x2.toInt) → (∀ k, k ≠ 16 → f a0 k = f0 a0 k) → cT 95 2 [.ref a0, .int x1, .int x2] [] L e (fun o => o = a0 ∨ o = a0 + 10) f0 f (fun v f' => v = none ∧ (((f0 a0 16).toInt ≤ (f' a0 16).toInt ∧ (f' a0 16).toInt ≤ (f0 a0 16).toInt + 32) ∧ ∀ k, k ≠ 16 → f' a0 k = f0 a0 k)) := by
  intro k
  induction k with
  | zero => intro f a0 x1 x2 hm; omega
  | succ k ih =>
    intro f a0 x1 x2 hme hI hF s0 i1 i2 p2 i3 i6
    have t0 := t_0
    have hm := one_7 s0
    have t_1 := t_rng (x1)
    have t_2 := t_rng (x2)
    have t_4 : 0 ≤ (f (a0 + 5) x1.toNatClampNeg).toInt ∧ (f (a0 + 5) x1.toNatClampNeg).toInt ≤ 32 := (cI_at hI x1.toNatClampNeg (sc_7_10 s0)).2.2.1 (by omega)
    refine cT_if (b_M_putField_2 s0 (by rw [t_in]; omega)) (fun c_3 => ?_) (fun c_3 => ?_)
    · rw [t_le] at c_3
      exact cT_ret b_M_putField_33 hI hF ⟨rfl, ⟨by omega, i6⟩⟩
    · rw [t_le] at c_3
      have t_7 : (nI 32).toInt = 32 := nI_toInt (by decide)
      first | have t_6 : (((nI 32)) * x1).toInt = 32 * (x1).toInt := t_mulc (by decide) (by omega) | (obtain ⟨kt_6, t_6⟩ := t_mul ((nI 32)) x1; rw [nI_toInt (show 32 < 2 ^ 31 by decide)] at t_6)
      first | have t_5 : ((((nI 32) * x1)) + x2).toInt = ((((nI 32) * x1))).toInt + (x2).toInt := t_addn (by omega) | obtain ⟨kt_5, t_5⟩ := t_add (((nI 32) * x1)) x2
      have t_8 := t_rng (f (a0 + 6) (((nI 32) * x1) + x2).toNatClampNeg)
      refine cT_call (b_M_putField_12 s0 (by rw [t_in]; omega)) (c_M_put hI s0 (by first | omega | assumption | exact sl_4_4 (by assumption))) hF (fun o ho => by omega) (fun v_9 f_10 hI_11 hG_12 hF_13 hQ_14 => ?_)
      obtain ⟨rfl, hQ_14⟩ := hQ_14
      have i6n : ∀ k, k ≠ 16 → f_10 a0 k = f0 a0 k := fun k hk => (hQ_14.2 k hk).trans (i6 k hk)
      show cT 95 27 [.ref a0, .int x1, .int x2] [] _ _ _ _ _ _
      refine cT_go b_M_putField_27 ?_
      have t_17 : (nI 1).toInt = 1 := nI_toInt (by decide)
      first | have t_16 : (x2 + (nI 1)).toInt = (x2).toInt + ((nI 1)).toInt := t_addn (by omega) | obtain ⟨kt_16, t_16⟩ := t_add x2 (nI 1)
      have t_18 : 0 ≤ (f_10 a0 16).toInt ∧ (f_10 a0 16).toInt ≤ 256 := (cI_at hI_11 16 s0).2.2.2.2.2.2.2.1 rfl
      exact ih (by omega) hI_11 hF_13 s0 (by omega) (by omega) (by omega) (by omega) (by first | exact i6n | exact i6 | exact fun k hk => rfl | exact fun k hk => cg_up_k hk)
theorem c_M_putField {L : Nat} {f : cg_G} {e : Nat × Nat} {a0 : Nat} {x1 : Int32} (hI : cI L f) (s0 : sh_ a0 = 7) (p1 : 0 ≤ x1.toInt ∧ x1.toInt < 32) (p2 : (f a0 16).toInt + 32 ≤ 256) : cE 95 [.ref a0, .int x1] L e (fun o => o = a0 ∨ o = a0 + 10) f (fun v f' => v = none ∧ (((f a0 16).toInt ≤ (f' a0 16).toInt ∧ (f' a0 16).toInt ≤ (f a0 16).toInt + 32) ∧ ∀ k, k ≠ 16 → f' a0 k = f a0 k)) := by
  refine cE_of (ls := [.ref a0, .int x1, (.retAddr 0)]) rfl ?_
  have t0 := t_0
  have hF : cF (fun o => o = a0 ∨ o = a0 + 10) f f := cF_rf
  have hm := one_7 s0
  have t_19 := t_rng (x1)
  refine cT_go b_M_putField_0 ?_
  have t_20 : (nI 0).toInt = 0 := nI_toInt (by decide)
  have t_21 : 0 ≤ (f a0 16).toInt ∧ (f a0 16).toInt ≤ 256 := (cI_at hI 16 s0).2.2.2.2.2.2.2.1 rfl
  exact l_M_putField_2 ((32 - (nI 0).toInt).toNat + 1) (by omega) hI hF s0 (by omega) (by omega) (by omega) (by omega) (by first | exact i6n | exact i6 | exact fun k hk => rfl | exact fun k hk => cg_up_k hk)
theorem c_M_putNumber {L : Nat} {f : cg_G} {e : Nat × Nat} {a0 : Nat} {x1 : Int32} (hI : cI L f) (s0 : sh_ a0 = 7) (p2 : (f a0 16).toInt + 3 ≤ 256) : cE 96 [.ref a0, .int x1] L e (fun o => o = a0 ∨ o = a0 + 10) f (fun v f' => v = none ∧ (((f a0 16).toInt ≤ (f' a0 16).toInt ∧ (f' a0 16).toInt ≤ (f a0 16).toInt + 3) ∧ ∀ k, k ≠ 16 → f' a0 k = f a0 k)) := by
  refine cE_of (ls := [.ref a0, .int x1]) rfl ?_
  have t0 := t_0
  have hF : cF (fun o => o = a0 ∨ o = a0 + 10) f f := cF_rf
  have hm := one_7 s0
  obtain ⟨fo, hfo⟩ : ∃ g : cg_G, g = f := ⟨_, rfl⟩
  have i6 : ∀ k, k ≠ 16 → f a0 k = fo a0 k := fun k _ => by rw [hfo]
  have t_1 := t_rng (x1)
  have t_3 : (nI 99).toInt = 99 := nI_toInt (by decide)
  refine cT_if b_M_putNumber_0 (fun c_2 => ?_) (fun c_2 => ?_)
  · rw [t_le] at c_2
    have t_5 : (nI 9).toInt = 9 := nI_toInt (by decide)
    refine cT_if b_M_putNumber_17 (fun c_4 => ?_) (fun c_4 => ?_)
    · rw [t_le] at c_4
      have t_7 : (nI 48).toInt = 48 := nI_toInt (by decide)
      have t_10 := t_rng (x1 / (nI 10))
      have t_11 : (nI 10).toInt = 10 := nI_toInt (by decide)
      first | have t_9 : ((x1 / (nI 10)) * ((nI 10))).toInt = ((x1 / (nI 10))).toInt * 10 := t_mulc' (by decide) (by omega) | (obtain ⟨kt_9, t_9⟩ := t_mul (x1 / (nI 10)) ((nI 10)); rw [nI_toInt (show 10 < 2 ^ 31 by decide)] at t_9)
      first | have t_8 : (x1 - (x1 / (nI 10) * (nI 10))).toInt = (x1).toInt - ((x1 / (nI 10) * (nI 10))).toInt := t_subn (by omega) | obtain ⟨kt_8, t_8⟩ := t_sub x1 (x1 / (nI 10) * (nI 10))
      first | have t_6 : (((nI 48)) + ((x1 - x1 / (nI 10) * (nI 10)))).toInt = (((nI 48))).toInt + (((x1 - x1 / (nI 10) * (nI 10)))).toInt := t_addn (by omega) | obtain ⟨kt_6, t_6⟩ := t_add ((nI 48)) ((x1 - x1 / (nI 10) * (nI 10)))
      refine cT_call (b_M_putNumber_37 s0) (c_M_put hI s0 (by first | omega | assumption | exact sl_4_4 (by assumption))) hF (fun o ho => by omega) (fun v_12 f_13 hI_14 hG_15 hF_16 hQ_17 => ?_)
      obtain ⟨rfl, hQ_17⟩ := hQ_17
      have i6 : ∀ k, k ≠ 16 → f_13 a0 k = fo a0 k := fun k hk => (hQ_17.2 k hk).trans (i6 k hk)
      show cT 96 48 [.ref a0, .int x1] [] _ _ _ _ _ _
      exact cT_ret b_M_putNumber_48 hI_14 hF_16 ⟨rfl, ⟨by omega, fun k hk => by rw [i6 k hk, hfo]⟩⟩
    · rw [t_le] at c_4
      have t_20 : (nI 48).toInt = 48 := nI_toInt (by decide)
      have t_22 := t_rng (x1 / (nI 10))
      have t_24 := t_rng ((x1 / (nI 10)) / (nI 10))
      have t_25 : (nI 10).toInt = 10 := nI_toInt (by decide)
      first | have t_23 : (((x1 / (nI 10)) / (nI 10)) * ((nI 10))).toInt = (((x1 / (nI 10)) / (nI 10))).toInt * 10 := t_mulc' (by decide) (by omega) | (obtain ⟨kt_23, t_23⟩ := t_mul ((x1 / (nI 10)) / (nI 10)) ((nI 10)); rw [nI_toInt (show 10 < 2 ^ 31 by decide)] at t_23)
      first | have t_21 : (((x1 / (nI 10))) - ((x1 / (nI 10)) / (nI 10) * (nI 10))).toInt = (((x1 / (nI 10)))).toInt - (((x1 / (nI 10)) / (nI 10) * (nI 10))).toInt := t_subn (by omega) | obtain ⟨kt_21, t_21⟩ := t_sub ((x1 / (nI 10))) ((x1 / (nI 10)) / (nI 10) * (nI 10))
      first | have t_19 : (((nI 48)) + (((x1 / (nI 10)) - (x1 / (nI 10)) / (nI 10) * (nI 10)))).toInt = (((nI 48))).toInt + ((((x1 / (nI 10)) - (x1 / (nI 10)) / (nI 10) * (nI 10)))).toInt := t_addn (by omega) | obtain ⟨kt_19, t_19⟩ := t_add ((nI 48)) (((x1 / (nI 10)) - (x1 / (nI 10)) / (nI 10) * (nI 10)))
      refine cT_call (b_M_putNumber_23 s0) (c_M_put hI s0 (by first | omega | assumption | exact sl_4_4 (by assumption))) hF (fun o ho => by omega) (fun v_26 f_27 hI_28 hG_29 hF_30 hQ_31 => ?_)
      obtain ⟨rfl, hQ_31⟩ := hQ_31
      have i6 : ∀ k, k ≠ 16 → f_27 a0 k = fo a0 k := fun k hk => (hQ_31.2 k hk).trans (i6 k hk)
      show cT 96 37 [.ref a0, .int x1] [] _ _ _ _ _ _
      first | have t_35 : ((x1 / (nI 10)) * ((nI 10))).toInt = ((x1 / (nI 10))).toInt * 10 := t_mulc' (by decide) (by omega) | (obtain ⟨kt_35, t_35⟩ := t_mul (x1 / (nI 10)) ((nI 10)); rw [nI_toInt (show 10 < 2 ^ 31 by decide)] at t_35)
      first | have t_34 : (x1 - (x1 / (nI 10) * (nI 10))).toInt = (x1).toInt - ((x1 / (nI 10) * (nI 10))).toInt := t_subn (by omega) | obtain ⟨kt_34, t_34⟩ := t_sub x1 (x1 / (nI 10) * (nI 10))
      first | have t_33 : (((nI 48)) + ((x1 - x1 / (nI 10) * (nI 10)))).toInt = (((nI 48))).toInt + (((x1 - x1 / (nI 10) * (nI 10)))).toInt := t_addn (by omega) | obtain ⟨kt_33, t_33⟩ := t_add ((nI 48)) ((x1 - x1 / (nI 10) * (nI 10)))
      refine cT_call (b_M_putNumber_37 s0) (c_M_put hI_28 s0 (by first | omega | assumption | exact sl_4_4 (by assumption))) hF_30 (fun o ho => by omega) (fun v_36 f_37 hI_38 hG_39 hF_40 hQ_41 => ?_)
      obtain ⟨rfl, hQ_41⟩ := hQ_41
      have i6 : ∀ k, k ≠ 16 → f_37 a0 k = fo a0 k := fun k hk => (hQ_41.2 k hk).trans (i6 k hk)
      show cT 96 48 [.ref a0, .int x1] [] _ _ _ _ _ _
      exact cT_ret b_M_putNumber_48 hI_38 hF_40 ⟨rfl, ⟨by omega, fun k hk => by rw [i6 k hk, hfo]⟩⟩
  · rw [t_le] at c_2
    have t_44 : (nI 48).toInt = 48 := nI_toInt (by decide)
    have t_45 := t_rng (x1 / (nI 100))
    first | have t_43 : (((nI 48)) + ((x1 / (nI 100)))).toInt = (((nI 48))).toInt + (((x1 / (nI 100)))).toInt := t_addn (by omega) | obtain ⟨kt_43, t_43⟩ := t_add ((nI 48)) ((x1 / (nI 100)))
    refine cT_call (b_M_putNumber_6 s0) (c_M_put hI s0 (by first | omega | assumption | exact sl_4_4 (by assumption))) hF (fun o ho => by omega) (fun v_46 f_47 hI_48 hG_49 hF_50 hQ_51 => ?_)
    obtain ⟨rfl, hQ_51⟩ := hQ_51
    have i6 : ∀ k, k ≠ 16 → f_47 a0 k = fo a0 k := fun k hk => (hQ_51.2 k hk).trans (i6 k hk)
    show cT 96 17 [.ref a0, .int x1] [] _ _ _ _ _ _
    have t_54 : (nI 9).toInt = 9 := nI_toInt (by decide)
    refine cT_if b_M_putNumber_17 (fun c_53 => ?_) (fun c_53 => ?_)
    · rw [t_le] at c_53
      have t_58 := t_rng (x1 / (nI 10))
      have t_59 : (nI 10).toInt = 10 := nI_toInt (by decide)
      first | have t_57 : ((x1 / (nI 10)) * ((nI 10))).toInt = ((x1 / (nI 10))).toInt * 10 := t_mulc' (by decide) (by omega) | (obtain ⟨kt_57, t_57⟩ := t_mul (x1 / (nI 10)) ((nI 10)); rw [nI_toInt (show 10 < 2 ^ 31 by decide)] at t_57)
      first | have t_56 : (x1 - (x1 / (nI 10) * (nI 10))).toInt = (x1).toInt - ((x1 / (nI 10) * (nI 10))).toInt := t_subn (by omega) | obtain ⟨kt_56, t_56⟩ := t_sub x1 (x1 / (nI 10) * (nI 10))
      first | have t_55 : (((nI 48)) + ((x1 - x1 / (nI 10) * (nI 10)))).toInt = (((nI 48))).toInt + (((x1 - x1 / (nI 10) * (nI 10)))).toInt := t_addn (by omega) | obtain ⟨kt_55, t_55⟩ := t_add ((nI 48)) ((x1 - x1 / (nI 10) * (nI 10)))
      refine cT_call (b_M_putNumber_37 s0) (c_M_put hI_48 s0 (by first | omega | assumption | exact sl_4_4 (by assumption))) hF_50 (fun o ho => by omega) (fun v_60 f_61 hI_62 hG_63 hF_64 hQ_65 => ?_)
      obtain ⟨rfl, hQ_65⟩ := hQ_65
      have i6 : ∀ k, k ≠ 16 → f_61 a0 k = fo a0 k := fun k hk => (hQ_65.2 k hk).trans (i6 k hk)
      show cT 96 48 [.ref a0, .int x1] [] _ _ _ _ _ _
      exact cT_ret b_M_putNumber_48 hI_62 hF_64 ⟨rfl, ⟨by omega, fun k hk => by rw [i6 k hk, hfo]⟩⟩
    · rw [t_le] at c_53
      have t_69 := t_rng (x1 / (nI 10))
      have t_71 := t_rng ((x1 / (nI 10)) / (nI 10))
      have t_72 : (nI 10).toInt = 10 := nI_toInt (by decide)
      first | have t_70 : (((x1 / (nI 10)) / (nI 10)) * ((nI 10))).toInt = (((x1 / (nI 10)) / (nI 10))).toInt * 10 := t_mulc' (by decide) (by omega) | (obtain ⟨kt_70, t_70⟩ := t_mul ((x1 / (nI 10)) / (nI 10)) ((nI 10)); rw [nI_toInt (show 10 < 2 ^ 31 by decide)] at t_70)
      first | have t_68 : (((x1 / (nI 10))) - ((x1 / (nI 10)) / (nI 10) * (nI 10))).toInt = (((x1 / (nI 10)))).toInt - (((x1 / (nI 10)) / (nI 10) * (nI 10))).toInt := t_subn (by omega) | obtain ⟨kt_68, t_68⟩ := t_sub ((x1 / (nI 10))) ((x1 / (nI 10)) / (nI 10) * (nI 10))
      first | have t_67 : (((nI 48)) + (((x1 / (nI 10)) - (x1 / (nI 10)) / (nI 10) * (nI 10)))).toInt = (((nI 48))).toInt + ((((x1 / (nI 10)) - (x1 / (nI 10)) / (nI 10) * (nI 10)))).toInt := t_addn (by omega) | obtain ⟨kt_67, t_67⟩ := t_add ((nI 48)) (((x1 / (nI 10)) - (x1 / (nI 10)) / (nI 10) * (nI 10)))
      refine cT_call (b_M_putNumber_23 s0) (c_M_put hI_48 s0 (by first | omega | assumption | exact sl_4_4 (by assumption))) hF_50 (fun o ho => by omega) (fun v_73 f_74 hI_75 hG_76 hF_77 hQ_78 => ?_)
      obtain ⟨rfl, hQ_78⟩ := hQ_78
      have i6 : ∀ k, k ≠ 16 → f_74 a0 k = fo a0 k := fun k hk => (hQ_78.2 k hk).trans (i6 k hk)
      show cT 96 37 [.ref a0, .int x1] [] _ _ _ _ _ _
      first | have t_82 : ((x1 / (nI 10)) * ((nI 10))).toInt = ((x1 / (nI 10))).toInt * 10 := t_mulc' (by decide) (by omega) | (obtain ⟨kt_82, t_82⟩ := t_mul (x1 / (nI 10)) ((nI 10)); rw [nI_toInt (show 10 < 2 ^ 31 by decide)] at t_82)
      first | have t_81 : (x1 - (x1 / (nI 10) * (nI 10))).toInt = (x1).toInt - ((x1 / (nI 10) * (nI 10))).toInt := t_subn (by omega) | obtain ⟨kt_81, t_81⟩ := t_sub x1 (x1 / (nI 10) * (nI 10))
      first | have t_80 : (((nI 48)) + ((x1 - x1 / (nI 10) * (nI 10)))).toInt = (((nI 48))).toInt + (((x1 - x1 / (nI 10) * (nI 10)))).toInt := t_addn (by omega) | obtain ⟨kt_80, t_80⟩ := t_add ((nI 48)) ((x1 - x1 / (nI 10) * (nI 10)))
      refine cT_call (b_M_putNumber_37 s0) (c_M_put hI_75 s0 (by first | omega | assumption | exact sl_4_4 (by assumption))) hF_77 (fun o ho => by omega) (fun v_83 f_84 hI_85 hG_86 hF_87 hQ_88 => ?_)
      obtain ⟨rfl, hQ_88⟩ := hQ_88
      have i6 : ∀ k, k ≠ 16 → f_84 a0 k = fo a0 k := fun k hk => (hQ_88.2 k hk).trans (i6 k hk)
      show cT 96 48 [.ref a0, .int x1] [] _ _ _ _ _ _
      exact cT_ret b_M_putNumber_48 hI_85 hF_87 ⟨rfl, ⟨by omega, fun k hk => by rw [i6 k hk, hfo]⟩⟩
theorem l_M_endOf_2 {L : Nat} {e : Nat × Nat} {f0 : cg_G} : ∀ (k : Nat) {f : cg_G} {a0 : Nat} {x1 : Int32} {x2 : Int32} {x3 : Int32}, (32 - x3.toInt).toNat < k → cI L f → cF (fun o => False) f0 f → sh_ a0 = 7 → (0 ≤ x1.toInt ∧ x1.toInt ≤ 5) → (0 ≤ x2.toInt ∧ x2.toInt ≤ x3.toInt) → (∃ j : Nat, x2.toInt ≤ j ∧ j < 32 ∧ sg f0 x1.toNatClampNeg j = 93) → (∀ j : Nat, x2.toInt ≤ j → sg f0 x1.toNatClampNeg j = 93 → x3.toInt ≤ j) → cT 45 2 [.ref a0, .int x1, .int x2, .int x3] [] L e (fun o => False) f0 f (fun v f' => ∃ x : Int32, v = some (.int x) ∧ (x2.toInt ≤ x.toInt ∧ x.toInt < 32 ∧ ∀ j : Nat, x2.toInt ≤ j → sg f0 x1.toNatClampNeg j = 93 → x.toInt ≤ j)) := by
  intro k
  induction k with
  | zero => intro f a0 x1 x2 x3 hm; omega
  | succ k ih =>
    intro f a0 x1 x2 x3 hme hI hF s0 i1 i2 p3 i4
    have t0 := t_0
    have hm := one_7 s0
    have h3 := hF (a0 + 3) (fun q => q)
    obtain ⟨j0, j1, j2, j3⟩ := p3
    have j4 := i4 j0 j1 j3
    have eS := sg_at (y := x3) (K := x3.toInt.toNat) hm h3 i1 (by omega) (by omega)
    have t_1 := t_rng (x1)
    have t_2 := t_rng (x2)
    have t_3 := t_rng (x3)
    have t_6 : (nI 32).toInt = 32 := nI_toInt (by decide)
    first | have t_5 : (((nI 32)) * x1).toInt = 32 * (x1).toInt := t_mulc (by decide) (by omega) | (obtain ⟨kt_5, t_5⟩ := t_mul ((nI 32)) x1; rw [nI_toInt (show 32 < 2 ^ 31 by decide)] at t_5)
    first | have t_4 : ((((nI 32) * x1)) + x3).toInt = ((((nI 32) * x1))).toInt + (x3).toInt := t_addn (by omega) | obtain ⟨kt_4, t_4⟩ := t_add (((nI 32) * x1)) x3
    have t_8 := t_rng (f (a0 + 3) (((nI 32) * x1) + x3).toNatClampNeg)
    have t_9 : (nI 93).toInt = 93 := nI_toInt (by decide)
    refine cT_if (b_M_endOf_2 s0 (by rw [t_in]; omega)) (fun c_7 => ?_) (fun c_7 => ?_)
    · rw [t_eq] at c_7
      exact cT_ret b_M_endOf_24 hI hF ⟨_, rfl, ⟨by omega, by omega, i4⟩⟩
    · rw [t_eq] at c_7
      refine cT_go b_M_endOf_18 ?_
      have t_11 : (nI 1).toInt = 1 := nI_toInt (by decide)
      first | have t_10 : (x3 + (nI 1)).toInt = (x3).toInt + ((nI 1)).toInt := t_addn (by omega) | obtain ⟨kt_10, t_10⟩ := t_add x3 (nI 1)
      exact ih (by omega) hI hF s0 (by omega) (by omega) (by first | exact p3 | exact ⟨j0, j1, j2, j3⟩) (fun j q1 q2 => by first | exact q1 | (have q3 := i4 j q1 q2; have q4 : ¬ j = x3.toInt.toNat := (fun h => by subst h; omega); omega))
theorem c_M_endOf {L : Nat} {f : cg_G} {e : Nat × Nat} {a0 : Nat} {x1 : Int32} {x2 : Int32} (hI : cI L f) (s0 : sh_ a0 = 7) (p1 : 0 ≤ x1.toInt ∧ x1.toInt ≤ 5) (p2 : 0 ≤ x2.toInt) (p3 : ∃ j : Nat, x2.toInt ≤ j ∧ j < 32 ∧ sg f x1.toNatClampNeg j = 93) : cE 45 [.ref a0, .int x1, .int x2] L e (fun o => False) f (fun v f' => ∃ x : Int32, v = some (.int x) ∧ (x2.toInt ≤ x.toInt ∧ x.toInt < 32 ∧ ∀ j : Nat, x2.toInt ≤ j → sg f x1.toNatClampNeg j = 93 → x.toInt ≤ j)) := by
  refine cE_of (ls := [.ref a0, .int x1, .int x2, (.retAddr 0)]) rfl ?_
  have t0 := t_0
  have hF : cF (fun o => False) f f := cF_rf
  have hm := one_7 s0
  have t_12 := t_rng (x1)
  have t_13 := t_rng (x2)
  refine cT_go b_M_endOf_0 ?_
  exact l_M_endOf_2 ((32 - x2.toInt).toNat + 1) (by omega) hI hF s0 (by omega) (by omega) (by first | exact p3 | exact ⟨j0, j1, j2, j3⟩) (fun j q1 q2 => by first | exact q1 | (have q3 := i4 j q1 q2; have q4 : ¬ j = x3.toInt.toNat := (fun h => by subst h; omega); omega))
theorem l_M_hasEmpty_6 {L : Nat} {e : Nat × Nat} {f0 : cg_G} : ∀ (k : Nat) {f : cg_G} {a0 : Nat} {x1 : Int32} {x2 : Int32} {x3 : Int32} {x4 : Int32} {x5 : Int32} {x6 : Int32}, (32 - x6.toInt).toNat < k → cI L f → cF (fun o => False) f0 f → sh_ a0 = 7 → (0 ≤ x1.toInt ∧ x1.toInt < 8) → (0 ≤ x2.toInt ∧ x2.toInt ≤ 5) → (0 ≤ x5.toInt ∧ x5.toInt ≤ 1) → (0 ≤ x6.toInt) → (x4.toInt ≤ 32) → (∀ k : Nat, k < x4.toInt → sg f0 x2.toNatClampNeg k = 35 → (k : Int) + 1 < 32 ∧ 48 ≤ sg f0 x2.toNatClampNeg (k + 1) ∧ sg f0 x2.toNatClampNeg (k + 1) ≤ 51) → cT 47 6 [.ref a0, .int x1, .int x2, .int x3, .int x4, .int x5, .int x6] [] L e (fun o => False) f0 f (fun v f' => ∃ x : Int32, v = some (.int x) ∧ (x = 0 ∨ x = 1) ∧ (True)) := by
  intro k
  induction k with
  | zero => intro f a0 x1 x2 x3 x4 x5 x6 hm; omega
  | succ k ih =>
    intro f a0 x1 x2 x3 x4 x5 x6 hme hI hF s0 i1 i2 i5 i6 p4 p5
    have t0 := t_0
    have hm := one_7 s0
    have h3 := hF (a0 + 3) (fun q => q)
    have w5 := p5 x6.toInt.toNat
    have eS : x6.toInt < 40 → (f (a0 + 3) (nI 32 * x2 + x6).toNatClampNeg).toInt = sg f0 x2.toNatClampNeg x6.toInt.toNat := fun h => sg_at (y := x6) hm h3 i2 (by omega) (by omega)
    have eS1 : x6.toInt < 40 → (f (a0 + 3) (nI 32 * x2 + x6 + nI 1).toNatClampNeg).toInt = sg f0 x2.toNatClampNeg (x6.toInt.toNat + 1) := fun h => sg_at1 (y := x6) hm h3 i2 (by omega) (by omega)
    have t_1 := t_rng (x1)
    have t_2 := t_rng (x2)
    have t_3 := t_rng (x3)
    have t_4 := t_rng (x4)
    have t_5 := t_rng (x5)
    have t_6 := t_rng (x6)
    refine cT_if b_M_hasEmpty_6 (fun c_7 => ?_) (fun c_7 => ?_)
    · rw [t_le] at c_7
      exact cT_ret (b_M_hasEmpty_77 (t_bool (by omega) (by omega))) hI hF ⟨_, rfl, (t_bool (by omega) (by omega)), trivial⟩
    · rw [t_le] at c_7
      refine cT_if b_M_hasEmpty_13 (fun c_8 => ?_) (fun c_8 => ?_)
      · rw [t_eq] at c_8
        have t_12 : (nI 32).toInt = 32 := nI_toInt (by decide)
        first | have t_11 : (((nI 32)) * x2).toInt = 32 * (x2).toInt := t_mulc (by decide) (by omega) | (obtain ⟨kt_11, t_11⟩ := t_mul ((nI 32)) x2; rw [nI_toInt (show 32 < 2 ^ 31 by decide)] at t_11)
        first | have t_10 : ((((nI 32) * x2)) + x6).toInt = ((((nI 32) * x2))).toInt + (x6).toInt := t_addn (by omega) | obtain ⟨kt_10, t_10⟩ := t_add (((nI 32) * x2)) x6
        have t_14 := t_rng (f (a0 + 3) (((nI 32) * x2) + x6).toNatClampNeg)
        have t_15 : (nI 35).toInt = 35 := nI_toInt (by decide)
        refine cT_if (b_M_hasEmpty_18 s0 (by rw [t_in]; omega)) (fun c_13 => ?_) (fun c_13 => ?_)
        · rw [t_eq] at c_13
          have t_17 : (nI 1).toInt = 1 := nI_toInt (by decide)
          first | have t_16 : (((((nI 32) * x2) + x6)) + ((nI 1))).toInt = (((((nI 32) * x2) + x6))).toInt + (((nI 1))).toInt := t_addn (by omega) | obtain ⟨kt_16, t_16⟩ := t_add ((((nI 32) * x2) + x6)) ((nI 1))
          have t_21 : (nI 4).toInt = 4 := nI_toInt (by decide)
          first | have t_20 : (((nI 4)) * x1).toInt = 4 * (x1).toInt := t_mulc (by decide) (by omega) | (obtain ⟨kt_20, t_20⟩ := t_mul ((nI 4)) x1; rw [nI_toInt (show 4 < 2 ^ 31 by decide)] at t_20)
          have t_22 := t_rng (f (a0 + 3) ((((nI 32) * x2) + x6) + (nI 1)).toNatClampNeg)
          first | have t_19 : ((((nI 4) * x1)) + ((f (a0 + 3) ((((nI 32) * x2) + x6) + (nI 1)).toNatClampNeg))).toInt = ((((nI 4) * x1))).toInt + (((f (a0 + 3) ((((nI 32) * x2) + x6) + (nI 1)).toNatClampNeg))).toInt := t_addn (by omega) | obtain ⟨kt_19, t_19⟩ := t_add (((nI 4) * x1)) ((f (a0 + 3) ((((nI 32) * x2) + x6) + (nI 1)).toNatClampNeg))
          have t_23 : (nI 48).toInt = 48 := nI_toInt (by decide)
          first | have t_18 : (((((nI 4) * x1) + (f (a0 + 3) ((((nI 32) * x2) + x6) + (nI 1)).toNatClampNeg))) - ((nI 48))).toInt = (((((nI 4) * x1) + (f (a0 + 3) ((((nI 32) * x2) + x6) + (nI 1)).toNatClampNeg)))).toInt - (((nI 48))).toInt := t_subn (by omega) | obtain ⟨kt_18, t_18⟩ := t_sub ((((nI 4) * x1) + (f (a0 + 3) ((((nI 32) * x2) + x6) + (nI 1)).toNatClampNeg))) ((nI 48))
          have t_25 : 0 ≤ (f (a0 + 5) ((((nI 4) * x1) + (f (a0 + 3) ((((nI 32) * x2) + x6) + (nI 1)).toNatClampNeg)) - (nI 48)).toNatClampNeg).toInt ∧ (f (a0 + 5) ((((nI 4) * x1) + (f (a0 + 3) ((((nI 32) * x2) + x6) + (nI 1)).toNatClampNeg)) - (nI 48)).toNatClampNeg).toInt ≤ 32 := (cI_at hI ((((nI 4) * x1) + (f (a0 + 3) ((((nI 32) * x2) + x6) + (nI 1)).toNatClampNeg)) - (nI 48)).toNatClampNeg (sc_7_10 s0)).2.2.1 (by omega)
          refine cT_if (b_M_hasEmpty_35 s0 (by rw [t_in]; omega) (by rw [t_in]; omega)) (fun c_24 => ?_) (fun c_24 => ?_)
          · rw [t_eq] at c_24
            refine cT_go b_M_hasEmpty_64 ?_
            refine cT_go b_M_hasEmpty_69 ?_
            first | have t_26 : (x6 + (nI 1)).toInt = (x6).toInt + ((nI 1)).toInt := t_addn (by omega) | obtain ⟨kt_26, t_26⟩ := t_add x6 (nI 1)
            exact ih (by omega) hI hF s0 (by omega) (by omega) (by omega) (by omega) (by omega) p5
          · rw [t_eq] at c_24
            refine cT_go b_M_hasEmpty_68 ?_
            refine cT_go b_M_hasEmpty_69 ?_
            have t_27 : (nI 0).toInt = 0 := nI_toInt (by decide)
            first | have t_28 : (x6 + (nI 1)).toInt = (x6).toInt + ((nI 1)).toInt := t_addn (by omega) | obtain ⟨kt_28, t_28⟩ := t_add x6 (nI 1)
            exact ih (by omega) hI hF s0 (by omega) (by omega) (by omega) (by omega) (by omega) p5
        · rw [t_eq] at c_13
          refine cT_go b_M_hasEmpty_68 ?_
          refine cT_go b_M_hasEmpty_69 ?_
          have t_29 : (nI 0).toInt = 0 := nI_toInt (by decide)
          have t_31 : (nI 1).toInt = 1 := nI_toInt (by decide)
          first | have t_30 : (x6 + (nI 1)).toInt = (x6).toInt + ((nI 1)).toInt := t_addn (by omega) | obtain ⟨kt_30, t_30⟩ := t_add x6 (nI 1)
          exact ih (by omega) hI hF s0 (by omega) (by omega) (by omega) (by omega) (by omega) p5
      · rw [t_eq] at c_8
        refine cT_go b_M_hasEmpty_64 ?_
        refine cT_go b_M_hasEmpty_69 ?_
        have t_32 : (nI 1).toInt = 1 := nI_toInt (by decide)
        first | have t_33 : (x6 + (nI 1)).toInt = (x6).toInt + ((nI 1)).toInt := t_addn (by omega) | obtain ⟨kt_33, t_33⟩ := t_add x6 (nI 1)
        exact ih (by omega) hI hF s0 (by omega) (by omega) (by omega) (by omega) (by omega) p5
theorem c_M_hasEmpty {L : Nat} {f : cg_G} {e : Nat × Nat} {a0 : Nat} {x1 : Int32} {x2 : Int32} {x3 : Int32} {x4 : Int32} (hI : cI L f) (s0 : sh_ a0 = 7) (p1 : 0 ≤ x1.toInt ∧ x1.toInt < 8) (p2 : 0 ≤ x2.toInt ∧ x2.toInt ≤ 5) (p3 : 0 ≤ x3.toInt) (p4 : x4.toInt ≤ 32) (p5 : ∀ k : Nat, k < x4.toInt → sg f x2.toNatClampNeg k = 35 → (k : Int) + 1 < 32 ∧ 48 ≤ sg f x2.toNatClampNeg (k + 1) ∧ sg f x2.toNatClampNeg (k + 1) ≤ 51) : cE 47 [.ref a0, .int x1, .int x2, .int x3, .int x4] L e (fun o => False) f (fun v f' => ∃ x : Int32, v = some (.int x) ∧ (x = 0 ∨ x = 1) ∧ (True)) := by
  refine cE_of (ls := [.ref a0, .int x1, .int x2, .int x3, .int x4, (.retAddr 0), (.retAddr 0)]) rfl ?_
  have t0 := t_0
  have hF : cF (fun o => False) f f := cF_rf
  have hm := one_7 s0
  have t_34 := t_rng (x1)
  have t_35 := t_rng (x2)
  have t_36 := t_rng (x3)
  have t_37 := t_rng (x4)
  refine cT_go b_M_hasEmpty_0 ?_
  have t_38 : (nI 0).toInt = 0 := nI_toInt (by decide)
  exact l_M_hasEmpty_6 ((32 - x3.toInt).toNat + 1) (by omega) hI hF s0 (by omega) (by omega) (by omega) (by omega) (by omega) p5
