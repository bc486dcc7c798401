set_option maxHeartbeats 8000000 in
theorem c_M_addUnit {L : Nat} {f : cg_G} {e : Nat × Nat} {a0 : Nat} {x1 : Int32} {x2 : Int32} {x3 : Int32} {x4 : Int32} {x5 : Int32} (hI : cI L f) (s0 : sh_ a0 = 7) (c1 : 0 ≤ x1.toInt ∧ x1.toInt ≤ 1) (c2 : 0 ≤ x2.toInt ∧ x2.toInt ≤ 7) (c3 : 0 ≤ x3.toInt ∧ x3.toInt ≤ 30) (c5 : 0 ≤ x5.toInt ∧ x5.toInt ≤ 2) (pu : (f (a0 + 23) x1.toNatClampNeg).toInt < 900) : cE 42 [.ref a0, .int x1, .int x2, .int x3, .int x4, .int x5] L e (fun o => a0 + 23 ≤ o ∧ o ≤ a0 + 27) f (fun v f' => v = none ∧ ((f' (a0 + 23) x1.toNatClampNeg).toInt = (f (a0 + 23) x1.toNatClampNeg).toInt + 1 ∧ ∀ H, hok (f (a0 + 25)) (f (a0 + 27)) (900 * x1.toInt) (f (a0 + 23) x1.toNatClampNeg).toInt H → x3.toInt + x5.toInt ≤ H → hok (f' (a0 + 25)) (f' (a0 + 27)) (900 * x1.toInt) (f' (a0 + 23) x1.toNatClampNeg).toInt H)) := by
  refine cE_of (ls := [.ref a0, .int x1, .int x2, .int x3, .int x4, .int x5, (.retAddr 0)]) rfl ?_
  have hF : cF (fun o => a0 + 23 ≤ o ∧ o ≤ a0 + 27) f f := cF_rf
  have hm := one_7 s0
  have t_1 := t_rng (x1)
  have t_2 := t_rng (x2)
  have t_3 := t_rng (x3)
  have t_4 := t_rng (x4)
  have t_5 := t_rng (x5)
  have hI_6 := cI_up (k := (((nI 900) * x1) + (f (a0 + 23) x1.toNatClampNeg)).toNatClampNeg) (x := x2) hI (sc_7_33 s0) ⟨(fun _ => by omega), (fun _ => by omega), (fun _ => by omega), (fun _ => by omega), (fun _ => by omega), (fun _ => by omega), (fun _ => by omega), (fun _ => by omega), (fun _ => by omega), (fun _ => by omega), (fun _ => by omega), (fun _ => by omega), (fun _ => by omega)⟩
  have hF_7 := cF_up (a := a0 + 24) (k := (((nI 900) * x1) + (f (a0 + 23) x1.toNatClampNeg)).toNatClampNeg) (x := x2) hF (by omega)
  have hI_8 := cI_up (k := (((nI 900) * x1) + (f (a0 + 23) x1.toNatClampNeg)).toNatClampNeg) (x := x3) hI_6 (sc_7_34 s0) ⟨(fun _ => by omega), (fun _ => by omega), (fun _ => by omega), (fun _ => by omega), (fun _ => by omega), (fun _ => by omega), (fun _ => by omega), (fun _ => by omega), (fun _ => by omega), (fun _ => by omega), (fun _ => by omega), (fun _ => by omega), (fun _ => by omega)⟩
  have hF_9 := cF_up (a := a0 + 25) (k := (((nI 900) * x1) + (f (a0 + 23) x1.toNatClampNeg)).toNatClampNeg) (x := x3) hF_7 (by omega)
  have hI_10 := cI_up (k := (((nI 900) * x1) + (f (a0 + 23) x1.toNatClampNeg)).toNatClampNeg) (x := x4) hI_8 (sc_7_35 s0) ⟨(fun _ => by omega), (fun _ => by omega), (fun _ => by omega), (fun _ => by omega), (fun _ => by omega), (fun _ => by omega), (fun _ => by omega), (fun _ => by omega), (fun _ => by omega), (fun _ => by omega), (fun _ => by omega), (fun _ => by omega), (fun _ => by omega)⟩
  have hF_11 := cF_up (a := a0 + 26) (k := (((nI 900) * x1) + (f (a0 + 23) x1.toNatClampNeg)).toNatClampNeg) (x := x4) hF_9 (by omega)
  have hI_12 := cI_up (k := (((nI 900) * x1) + (f (a0 + 23) x1.toNatClampNeg)).toNatClampNeg) (x := x5) hI_10 (sc_7_36 s0) ⟨(fun _ => by omega), (fun _ => by omega), (fun _ => by omega), (fun _ => by omega), (fun _ => by omega), (fun _ => by omega), (fun _ => by omega), (fun _ => by omega), (fun _ => by omega), (fun _ => by omega), (fun _ => by omega), (fun _ => by omega), (fun _ => by omega)⟩
  have hF_13 := cF_up (a := a0 + 27) (k := (((nI 900) * x1) + (f (a0 + 23) x1.toNatClampNeg)).toNatClampNeg) (x := x5) hF_11 (by omega)
  have t_17 : ((cg_up (cg_up (cg_up (cg_up f (a0 + 24) (((nI 900) * x1) + (f (a0 + 23) x1.toNatClampNeg)).toNatClampNeg x2) (a0 + 25) (((nI 900) * x1) + (f (a0 + 23) x1.toNatClampNeg)).toNatClampNeg x3) (a0 + 26) (((nI 900) * x1) + (f (a0 + 23) x1.toNatClampNeg)).toNatClampNeg x4) (a0 + 27) (((nI 900) * x1) + (f (a0 + 23) x1.toNatClampNeg)).toNatClampNeg x5) (a0 + 23) x1.toNatClampNeg).toInt = ((cg_up (cg_up (cg_up f (a0 + 24) (((nI 900) * x1) + (f (a0 + 23) x1.toNatClampNeg)).toNatClampNeg x2) (a0 + 25) (((nI 900) * x1) + (f (a0 + 23) x1.toNatClampNeg)).toNatClampNeg x3) (a0 + 26) (((nI 900) * x1) + (f (a0 + 23) x1.toNatClampNeg)).toNatClampNeg x4) (a0 + 23) x1.toNatClampNeg).toInt := by rw [cg_up_o (by omega)]
  have t_18 : ((cg_up (cg_up (cg_up f (a0 + 24) (((nI 900) * x1) + (f (a0 + 23) x1.toNatClampNeg)).toNatClampNeg x2) (a0 + 25) (((nI 900) * x1) + (f (a0 + 23) x1.toNatClampNeg)).toNatClampNeg x3) (a0 + 26) (((nI 900) * x1) + (f (a0 + 23) x1.toNatClampNeg)).toNatClampNeg x4) (a0 + 23) x1.toNatClampNeg).toInt = ((cg_up (cg_up f (a0 + 24) (((nI 900) * x1) + (f (a0 + 23) x1.toNatClampNeg)).toNatClampNeg x2) (a0 + 25) (((nI 900) * x1) + (f (a0 + 23) x1.toNatClampNeg)).toNatClampNeg x3) (a0 + 23) x1.toNatClampNeg).toInt := by rw [cg_up_o (by omega)]
  have t_19 : ((cg_up (cg_up f (a0 + 24) (((nI 900) * x1) + (f (a0 + 23) x1.toNatClampNeg)).toNatClampNeg x2) (a0 + 25) (((nI 900) * x1) + (f (a0 + 23) x1.toNatClampNeg)).toNatClampNeg x3) (a0 + 23) x1.toNatClampNeg).toInt = ((cg_up f (a0 + 24) (((nI 900) * x1) + (f (a0 + 23) x1.toNatClampNeg)).toNatClampNeg x2) (a0 + 23) x1.toNatClampNeg).toInt := by rw [cg_up_o (by omega)]
  have t_20 : ((cg_up f (a0 + 24) (((nI 900) * x1) + (f (a0 + 23) x1.toNatClampNeg)).toNatClampNeg x2) (a0 + 23) x1.toNatClampNeg).toInt = (f (a0 + 23) x1.toNatClampNeg).toInt := by rw [cg_up_o (by omega)]
  have t_21 : 0 ≤ (f (a0 + 23) x1.toNatClampNeg).toInt ∧ (f (a0 + 23) x1.toNatClampNeg).toInt ≤ 900 := (cI_at hI x1.toNatClampNeg (sc_7_32 s0)).2.2.2.2.2.2.1 (by omega)
  have t_22 : (nI 1).toInt = 1 := nI_toInt (by decide)
  first | have t_16 : ((((cg_up (cg_up (cg_up (cg_up f (a0 + 24) (((nI 900) * x1) + (f (a0 + 23) x1.toNatClampNeg)).toNatClampNeg x2) (a0 + 25) (((nI 900) * x1) + (f (a0 + 23) x1.toNatClampNeg)).toNatClampNeg x3) (a0 + 26) (((nI 900) * x1) + (f (a0 + 23) x1.toNatClampNeg)).toNatClampNeg x4) (a0 + 27) (((nI 900) * x1) + (f (a0 + 23) x1.toNatClampNeg)).toNatClampNeg x5) (a0 + 23) x1.toNatClampNeg)) + ((nI 1))).toInt = ((((cg_up (cg_up (cg_up (cg_up f (a0 + 24) (((nI 900) * x1) + (f (a0 + 23) x1.toNatClampNeg)).toNatClampNeg x2) (a0 + 25) (((nI 900) * x1) + (f (a0 + 23) x1.toNatClampNeg)).toNatClampNeg x3) (a0 + 26) (((nI 900) * x1) + (f (a0 + 23) x1.toNatClampNeg)).toNatClampNeg x4) (a0 + 27) (((nI 900) * x1) + (f (a0 + 23) x1.toNatClampNeg)).toNatClampNeg x5) (a0 + 23) x1.toNatClampNeg))).toInt + (((nI 1))).toInt := t_addn (by omega) | obtain ⟨kt_16, t_16⟩ := t_add (((cg_up (cg_up (cg_up (cg_up f (a0 + 24) (((nI 900) * x1) + (f (a0 + 23) x1.toNatClampNeg)).toNatClampNeg x2) (a0 + 25) (((nI 900) * x1) + (f (a0 + 23) x1.toNatClampNeg)).toNatClampNeg x3) (a0 + 26) (((nI 900) * x1) + (f (a0 + 23) x1.toNatClampNeg)).toNatClampNeg x4) (a0 + 27) (((nI 900) * x1) + (f (a0 + 23) x1.toNatClampNeg)).toNatClampNeg x5) (a0 + 23) x1.toNatClampNeg)) ((nI 1))
  have hI_14 := cI_up (k := x1.toNatClampNeg) (x := ((cg_up (cg_up (cg_up (cg_up f (a0 + 24) (((nI 900) * x1) + (f (a0 + 23) x1.toNatClampNeg)).toNatClampNeg x2) (a0 + 25) (((nI 900) * x1) + (f (a0 + 23) x1.toNatClampNeg)).toNatClampNeg x3) (a0 + 26) (((nI 900) * x1) + (f (a0 + 23) x1.toNatClampNeg)).toNatClampNeg x4) (a0 + 27) (((nI 900) * x1) + (f (a0 + 23) x1.toNatClampNeg)).toNatClampNeg x5) (a0 + 23) x1.toNatClampNeg) + (nI 1)) hI_12 (sc_7_32 s0) ⟨(fun _ => by omega), (fun _ => by omega), (fun _ => by omega), (fun _ => by omega), (fun _ => by omega), (fun _ => by omega), (fun _ => by omega), (fun _ => by omega), (fun _ => by omega), (fun _ => by omega), (fun _ => by omega), (fun _ => by omega), (fun _ => by omega)⟩
  have hF_15 := cF_up (a := a0 + 23) (k := x1.toNatClampNeg) (x := ((cg_up (cg_up (cg_up (cg_up f (a0 + 24) (((nI 900) * x1) + (f (a0 + 23) x1.toNatClampNeg)).toNatClampNeg x2) (a0 + 25) (((nI 900) * x1) + (f (a0 + 23) x1.toNatClampNeg)).toNatClampNeg x3) (a0 + 26) (((nI 900) * x1) + (f (a0 + 23) x1.toNatClampNeg)).toNatClampNeg x4) (a0 + 27) (((nI 900) * x1) + (f (a0 + 23) x1.toNatClampNeg)).toNatClampNeg x5) (a0 + 23) x1.toNatClampNeg) + (nI 1)) hF_13 (by omega)
  have t_25 : (nI 900).toInt = 900 := nI_toInt (by decide)
  first | have t_24 : (((nI 900)) * x1).toInt = 900 * (x1).toInt := t_mulc (by decide) (by omega) | (obtain ⟨kt_24, t_24⟩ := t_mul ((nI 900)) x1; rw [nI_toInt (show 900 < 2 ^ 31 by decide)] at t_24)
  first | have t_23 : ((((nI 900) * x1)) + ((f (a0 + 23) x1.toNatClampNeg))).toInt = ((((nI 900) * x1))).toInt + (((f (a0 + 23) x1.toNatClampNeg))).toInt := t_addn (by omega) | obtain ⟨kt_23, t_23⟩ := t_add (((nI 900) * x1)) ((f (a0 + 23) x1.toNatClampNeg))
  have t_26 : ((cg_up (cg_up (cg_up (cg_up (cg_up f (a0 + 24) (((nI 900) * x1) + (f (a0 + 23) x1.toNatClampNeg)).toNatClampNeg x2) (a0 + 25) (((nI 900) * x1) + (f (a0 + 23) x1.toNatClampNeg)).toNatClampNeg x3) (a0 + 26) (((nI 900) * x1) + (f (a0 + 23) x1.toNatClampNeg)).toNatClampNeg x4) (a0 + 27) (((nI 900) * x1) + (f (a0 + 23) x1.toNatClampNeg)).toNatClampNeg x5) (a0 + 23) x1.toNatClampNeg (((cg_up (cg_up (cg_up (cg_up f (a0 + 24) (((nI 900) * x1) + (f (a0 + 23) x1.toNatClampNeg)).toNatClampNeg x2) (a0 + 25) (((nI 900) * x1) + (f (a0 + 23) x1.toNatClampNeg)).toNatClampNeg x3) (a0 + 26) (((nI 900) * x1) + (f (a0 + 23) x1.toNatClampNeg)).toNatClampNeg x4) (a0 + 27) (((nI 900) * x1) + (f (a0 + 23) x1.toNatClampNeg)).toNatClampNeg x5) (a0 + 23) x1.toNatClampNeg) + (nI 1))) (a0 + 23) x1.toNatClampNeg).toInt = (((cg_up (cg_up (cg_up (cg_up f (a0 + 24) (((nI 900) * x1) + (f (a0 + 23) x1.toNatClampNeg)).toNatClampNeg x2) (a0 + 25) (((nI 900) * x1) + (f (a0 + 23) x1.toNatClampNeg)).toNatClampNeg x3) (a0 + 26) (((nI 900) * x1) + (f (a0 + 23) x1.toNatClampNeg)).toNatClampNeg x4) (a0 + 27) (((nI 900) * x1) + (f (a0 + 23) x1.toNatClampNeg)).toNatClampNeg x5) (a0 + 23) x1.toNatClampNeg) + (nI 1)).toInt := by rw [cg_up_s]
  exact cT_ret (b_M_addUnit_0 s0 (by rw [t_in]; omega) (by rw [t_in]; omega)) hI_14 hF_15 ⟨rfl, ⟨by omega, fun H h1 h2 => by simp (disch := omega) only [cg_up_row, cg_up_o, cj_up_s]; exact hok_up h1 (by rw [t_cl]; omega) (by rw [t_addn (by omega)]; omega) h2⟩⟩
set_option maxHeartbeats 8000000 in
theorem l_M_part_55 {L : Nat} {e : Nat × Nat} {f0 : cg_G} : ∀ (k : Nat) {f : cg_G} {a0 : Nat} {x1 : Int32} {x2 : Int32} {x3 : Int32} {x4 : Int32} {x5 : Int32}, (112 - x5.toInt).toNat < k → cI L f → cF (fun o => a0 + 23 ≤ o ∧ o ≤ a0 + 27) f0 f → sh_ a0 = 7 → (0 ≤ x1.toInt ∧ x1.toInt ≤ 1) → (0 ≤ x2.toInt ∧ x2.toInt < 8) → (0 ≤ x3.toInt ∧ x3.toInt ≤ 112) → (0 ≤ x4.toInt ∧ x4.toInt ≤ 2) → (2 ≤ x5.toInt ∧ x5.toInt ≤ 112) → ((f (a0 + 23) x1.toNatClampNeg).toInt ≤ 112 * x2.toInt + x5.toInt - 1) → (3 ≤ (f0 a0 1).toInt) → ((f0 (a0 + 7) x2.toNatClampNeg).toInt + x4.toInt ≤ (f0 a0 1).toInt → hok (f (a0 + 25)) (f (a0 + 27)) (900 * x1.toInt) (f (a0 + 23) x1.toNatClampNeg).toInt (f0 a0 1).toInt) → cT 94 55 [.ref a0, .int x1, .int x2, .int x3, .int x4, .int x5] [] L e (fun o => a0 + 23 ≤ o ∧ o ≤ a0 + 27) f0 f (fun v f' => ∃ x : Int32, v = some (.int x) ∧ (x = 0 ∨ x = 1) ∧ ((f' (a0 + 23) x1.toNatClampNeg).toInt ≤ 112 * x2.toInt + 112 ∧ (x.toInt ≠ 0 → hok (f' (a0 + 25)) (f' (a0 + 27)) (900 * x1.toInt) (f' (a0 + 23) x1.toNatClampNeg).toInt (f0 a0 1).toInt))) := by
  intro k
  induction k with
  | zero => intro f a0 x1 x2 x3 x4 x5 hm; omega
  | succ k ih =>
    intro f a0 x1 x2 x3 x4 x5 hme hI hF s0 c1 c2 c3 c4 c5 ku kh hh
    have hm := one_7 s0
    have e01 : (f a0 1).toInt = (f0 a0 1).toInt := by rw [hF a0 (by omega)]
    have e07 : (f (a0 + 7) x2.toNatClampNeg).toInt = (f0 (a0 + 7) x2.toNatClampNeg).toInt := by rw [hF (a0 + 7) (by omega)]
    have t_1 := t_rng (x1)
    have t_2 := t_rng (x2)
    have t_3 := t_rng (x3)
    have t_4 := t_rng (x4)
    have t_5 := t_rng (x5)
    refine cT_if b_M_part_55 (fun c_6 => ?_) (fun c_6 => ?_)
    · rw [t_le] at c_6; try rw [t_0] at c_6
      have t_8 : 3 ≤ (f a0 1).toInt ∧ (f a0 1).toInt ≤ 30 := (cI_at hI 1 s0).2.1 rfl
      have t_10 : 0 ≤ (f (a0 + 7) x2.toNatClampNeg).toInt ∧ (f (a0 + 7) x2.toNatClampNeg).toInt ≤ 30 := (cI_at hI x2.toNatClampNeg (sc_7_12 s0)).2.2.2.1 (by omega)
      first | have t_9 : (((f (a0 + 7) x2.toNatClampNeg)) + x4).toInt = (((f (a0 + 7) x2.toNatClampNeg))).toInt + (x4).toInt := t_addn (by omega) | obtain ⟨kt_9, t_9⟩ := t_add ((f (a0 + 7) x2.toNatClampNeg)) x4
      refine cT_if (b_M_part_77 s0 (by rw [t_in]; omega)) (fun c_7 => ?_) (fun c_7 => ?_)
      · rw [t_lt] at c_7; try rw [t_0] at c_7
        refine cT_go b_M_part_97 ?_
        have t_11 : (nI 0).toInt = 0 := nI_toInt (by decide)
        exact cT_ret (b_M_part_98 (by decide)) hI hF ⟨_, rfl, (by decide), ⟨by omega, fun hx => hh (by omega)⟩⟩
      · rw [t_lt] at c_7; try rw [t_0] at c_7
        refine cT_go b_M_part_93 ?_
        have t_12 : (nI 1).toInt = 1 := nI_toInt (by decide)
        exact cT_ret (b_M_part_98 (by decide)) hI hF ⟨_, rfl, (by decide), ⟨by omega, fun hx => hh (by omega)⟩⟩
    · rw [t_le] at c_6; try rw [t_0] at c_6
      have t_13 : (nI 0).toInt = 0 := nI_toInt (by decide)
      have t_14 : (nI 1).toInt = 1 := nI_toInt (by decide)
      refine cT_call (b_M_part_61 s0) (c_M_addUnit hI s0 (by first | omega | assumption | exact sl_4_4 (by assumption)) (by first | omega | assumption | exact sl_4_4 (by assumption)) (by first | omega | assumption | exact sl_4_4 (by assumption)) (by first | omega | assumption | exact sl_4_4 (by assumption)) (by first | omega | assumption | exact sl_4_4 (by assumption))) hF (fun o ho => by omega) (fun v_15 f_16 hI_17 hG_18 hF_19 hQ_20 => ?_)
      obtain ⟨rfl, hQ_20⟩ := hQ_20
      have g_22 : (f_16 (a0 + 23) x1.toNatClampNeg).toInt = (f (a0 + 23) x1.toNatClampNeg).toInt + 1 := hQ_20.1
      have hq : _ := hQ_20.2
      show cT 94 71 [.ref a0, .int x1, .int x2, .int x3, .int x4, .int x5] [] _ _ _ _ _ _
      refine cT_go b_M_part_71 ?_
      first | have t_23 : (x5 + (nI 1)).toInt = (x5).toInt + ((nI 1)).toInt := t_addn (by omega) | obtain ⟨kt_23, t_23⟩ := t_add x5 (nI 1)
      have t_24 : 0 ≤ (f_16 (a0 + 23) x1.toNatClampNeg).toInt ∧ (f_16 (a0 + 23) x1.toNatClampNeg).toInt ≤ 900 := (cI_at hI_17 x1.toNatClampNeg (sc_7_32 s0)).2.2.2.2.2.2.1 (by omega)
      exact ih (by omega) hI_17 hF_19 s0 (by omega) (by omega) (by omega) (by omega) (by omega) (by omega) (by omega) (fun h => by first | exact hq _ (hh h) (by omega) | exact hq _ ph (by omega) | exact ph)
set_option maxHeartbeats 8000000 in
theorem c_M_part {L : Nat} {f : cg_G} {e : Nat × Nat} {a0 : Nat} {x1 : Int32} {x2 : Int32} (hI : cI L f) (s0 : sh_ a0 = 7) (c1 : 0 ≤ x1.toInt ∧ x1.toInt ≤ 1) (c2 : 0 ≤ x2.toInt ∧ x2.toInt < 8) (pu : (f (a0 + 23) x1.toNatClampNeg).toInt ≤ 112 * x2.toInt) (ph : hok (f (a0 + 25)) (f (a0 + 27)) (900 * x1.toInt) (f (a0 + 23) x1.toNatClampNeg).toInt (f a0 1).toInt) : cE 94 [.ref a0, .int x1, .int x2] L e (fun o => a0 + 23 ≤ o ∧ o ≤ a0 + 27) f (fun v f' => ∃ x : Int32, v = some (.int x) ∧ (x = 0 ∨ x = 1) ∧ ((f' (a0 + 23) x1.toNatClampNeg).toInt ≤ 112 * x2.toInt + 112 ∧ (x.toInt ≠ 0 → hok (f' (a0 + 25)) (f' (a0 + 27)) (900 * x1.toInt) (f' (a0 + 23) x1.toNatClampNeg).toInt (f a0 1).toInt))) := by
  refine cE_of (ls := [.ref a0, .int x1, .int x2, (.retAddr 0), (.retAddr 0), (.retAddr 0)]) rfl ?_
  have hF : cF (fun o => a0 + 23 ≤ o ∧ o ≤ a0 + 27) f f := cF_rf
  have hm := one_7 s0
  have t_25 := t_rng (x1)
  have t_26 := t_rng (x2)
  have t_27 : 3 ≤ (f a0 1).toInt ∧ (f a0 1).toInt ≤ 30 := (cI_at hI 1 s0).2.1 rfl
  have t_28 : 0 ≤ (f (a0 + 7) x2.toNatClampNeg).toInt ∧ (f (a0 + 7) x2.toNatClampNeg).toInt ≤ 30 := (cI_at hI x2.toNatClampNeg (sc_7_12 s0)).2.2.2.1 (by omega)
  have t_31 : (nI 8).toInt = 8 := nI_toInt (by decide)
  first | have t_30 : (((nI 8)) * x1).toInt = 8 * (x1).toInt := t_mulc (by decide) (by omega) | (obtain ⟨kt_30, t_30⟩ := t_mul ((nI 8)) x1; rw [nI_toInt (show 8 < 2 ^ 31 by decide)] at t_30)
  first | have t_29 : ((((nI 8) * x1)) + x2).toInt = ((((nI 8) * x1))).toInt + (x2).toInt := t_addn (by omega) | obtain ⟨kt_29, t_29⟩ := t_add (((nI 8) * x1)) x2
  have t_33 : (nI 2).toInt = 2 := nI_toInt (by decide)
  have t_34 : 0 ≤ (f (a0 + 19) (((nI 8) * x1) + x2).toNatClampNeg).toInt ∧ (f (a0 + 19) (((nI 8) * x1) + x2).toNatClampNeg).toInt ≤ 112 := (cI_at hI (((nI 8) * x1) + x2).toNatClampNeg (sc_7_28 s0)).2.2.2.2.2.1 (by omega)
  refine cT_if (b_M_part_0 s0 (by rw [t_in]; omega)) (fun c_32 => ?_) (fun c_32 => ?_)
  · rw [t_le] at c_32; try rw [t_0] at c_32
    refine cT_go b_M_part_21 ?_
    refine cT_if b_M_part_22 (fun c_35 => ?_) (fun c_35 => ?_)
    · rw [t_lt] at c_35; try rw [t_0] at c_35
      have t_37 : (nI 0).toInt = 0 := nI_toInt (by decide)
      refine cT_call (b_M_part_37 s0 (by rw [t_in]; omega)) (c_M_addUnit hI s0 (by first | omega | assumption | exact sl_4_4 (by assumption)) (by first | omega | assumption | exact sl_4_4 (by assumption)) (by first | omega | assumption | exact sl_4_4 (by assumption)) (by first | omega | assumption | exact sl_4_4 (by assumption)) (by first | omega | assumption | exact sl_4_4 (by assumption))) hF (fun o ho => by omega) (fun v_38 f_39 hI_40 hG_41 hF_42 hQ_43 => ?_)
      obtain ⟨rfl, hQ_43⟩ := hQ_43
      have g_45 : (f_39 (a0 + 23) x1.toNatClampNeg).toInt = (f (a0 + 23) x1.toNatClampNeg).toInt + 1 := hQ_43.1
      have hq : _ := hQ_43.2
      show cT 94 52 [.ref a0, .int x1, .int x2, .int (f (a0 + 19) (((nI 8) * x1) + x2).toNatClampNeg), .int (nI 2), (((((.retAddr 0)))))] [] _ _ _ _ _ _
      refine cT_go b_M_part_52 ?_
      have t_46 : 0 ≤ (f_39 (a0 + 23) x1.toNatClampNeg).toInt ∧ (f_39 (a0 + 23) x1.toNatClampNeg).toInt ≤ 900 := (cI_at hI_40 x1.toNatClampNeg (sc_7_32 s0)).2.2.2.2.2.2.1 (by omega)
      exact l_M_part_55 ((112 - (nI 2).toInt).toNat + 1) (by omega) hI_40 hF_42 s0 (by omega) (by omega) (by omega) (by omega) (by omega) (by omega) (by omega) (fun h => by first | exact hq _ (hh h) (by omega) | exact hq _ ph (by omega) | exact ph)
    · rw [t_lt] at c_35; try rw [t_0] at c_35
      refine cT_if (b_M_part_28 s0 (by rw [t_in]; omega)) (fun c_47 => ?_) (fun c_47 => ?_)
      · rw [t_le] at c_47; try rw [t_0] at c_47
        refine cT_go b_M_part_52 ?_
        have t_48 : 0 ≤ (f (a0 + 23) x1.toNatClampNeg).toInt ∧ (f (a0 + 23) x1.toNatClampNeg).toInt ≤ 900 := (cI_at hI x1.toNatClampNeg (sc_7_32 s0)).2.2.2.2.2.2.1 (by omega)
        exact l_M_part_55 ((112 - (nI 2).toInt).toNat + 1) (by omega) hI hF s0 (by omega) (by omega) (by omega) (by omega) (by omega) (by omega) (by omega) (fun h => by first | exact hq _ (hh h) (by omega) | exact hq _ ph (by omega) | exact ph)
      · rw [t_le] at c_47; try rw [t_0] at c_47
        have t_49 : (nI 0).toInt = 0 := nI_toInt (by decide)
        refine cT_call (b_M_part_37 s0 (by rw [t_in]; omega)) (c_M_addUnit hI s0 (by first | omega | assumption | exact sl_4_4 (by assumption)) (by first | omega | assumption | exact sl_4_4 (by assumption)) (by first | omega | assumption | exact sl_4_4 (by assumption)) (by first | omega | assumption | exact sl_4_4 (by assumption)) (by first | omega | assumption | exact sl_4_4 (by assumption))) hF (fun o ho => by omega) (fun v_50 f_51 hI_52 hG_53 hF_54 hQ_55 => ?_)
        obtain ⟨rfl, hQ_55⟩ := hQ_55
        have g_57 : (f_51 (a0 + 23) x1.toNatClampNeg).toInt = (f (a0 + 23) x1.toNatClampNeg).toInt + 1 := hQ_55.1
        have hq : _ := hQ_55.2
        show cT 94 52 [.ref a0, .int x1, .int x2, .int (f (a0 + 19) (((nI 8) * x1) + x2).toNatClampNeg), .int (nI 2), ((((((.retAddr 0))))))] [] _ _ _ _ _ _
        refine cT_go b_M_part_52 ?_
        have t_58 : 0 ≤ (f_51 (a0 + 23) x1.toNatClampNeg).toInt ∧ (f_51 (a0 + 23) x1.toNatClampNeg).toInt ≤ 900 := (cI_at hI_52 x1.toNatClampNeg (sc_7_32 s0)).2.2.2.2.2.2.1 (by omega)
        exact l_M_part_55 ((112 - (nI 2).toInt).toNat + 1) (by omega) hI_52 hF_54 s0 (by omega) (by omega) (by omega) (by omega) (by omega) (by omega) (by omega) (fun h => by first | exact hq _ (hh h) (by omega) | exact hq _ ph (by omega) | exact ph)
  · rw [t_le] at c_32; try rw [t_0] at c_32
    refine cT_go b_M_part_17 ?_
    refine cT_if b_M_part_22 (fun c_59 => ?_) (fun c_59 => ?_)
    · rw [t_lt] at c_59; try rw [t_0] at c_59
      have t_61 : (nI 0).toInt = 0 := nI_toInt (by decide)
      refine cT_call (b_M_part_37 s0 (by rw [t_in]; omega)) (c_M_addUnit hI s0 (by first | omega | assumption | exact sl_4_4 (by assumption)) (by first | omega | assumption | exact sl_4_4 (by assumption)) (by first | omega | assumption | exact sl_4_4 (by assumption)) (by first | omega | assumption | exact sl_4_4 (by assumption)) (by first | omega | assumption | exact sl_4_4 (by assumption))) hF (fun o ho => by omega) (fun v_62 f_63 hI_64 hG_65 hF_66 hQ_67 => ?_)
      obtain ⟨rfl, hQ_67⟩ := hQ_67
      have g_69 : (f_63 (a0 + 23) x1.toNatClampNeg).toInt = (f (a0 + 23) x1.toNatClampNeg).toInt + 1 := hQ_67.1
      have hq : _ := hQ_67.2
      show cT 94 52 [.ref a0, .int x1, .int x2, .int (f (a0 + 19) (((nI 8) * x1) + x2).toNatClampNeg), .int (f (a0 + 19) (((nI 8) * x1) + x2).toNatClampNeg), (((((.retAddr 0)))))] [] _ _ _ _ _ _
      refine cT_go b_M_part_52 ?_
      have t_70 : 0 ≤ (f_63 (a0 + 23) x1.toNatClampNeg).toInt ∧ (f_63 (a0 + 23) x1.toNatClampNeg).toInt ≤ 900 := (cI_at hI_64 x1.toNatClampNeg (sc_7_32 s0)).2.2.2.2.2.2.1 (by omega)
      exact l_M_part_55 ((112 - (nI 2).toInt).toNat + 1) (by omega) hI_64 hF_66 s0 (by omega) (by omega) (by omega) (by omega) (by omega) (by omega) (by omega) (fun h => by first | exact hq _ (hh h) (by omega) | exact hq _ ph (by omega) | exact ph)
    · rw [t_lt] at c_59; try rw [t_0] at c_59
      refine cT_if (b_M_part_28 s0 (by rw [t_in]; omega)) (fun c_71 => ?_) (fun c_71 => ?_)
      · rw [t_le] at c_71; try rw [t_0] at c_71
        refine cT_go b_M_part_52 ?_
        have t_72 : 0 ≤ (f (a0 + 23) x1.toNatClampNeg).toInt ∧ (f (a0 + 23) x1.toNatClampNeg).toInt ≤ 900 := (cI_at hI x1.toNatClampNeg (sc_7_32 s0)).2.2.2.2.2.2.1 (by omega)
        exact l_M_part_55 ((112 - (nI 2).toInt).toNat + 1) (by omega) hI hF s0 (by omega) (by omega) (by omega) (by omega) (by omega) (by omega) (by omega) (fun h => by first | exact hq _ (hh h) (by omega) | exact hq _ ph (by omega) | exact ph)
      · rw [t_le] at c_71; try rw [t_0] at c_71
        have t_73 : (nI 0).toInt = 0 := nI_toInt (by decide)
        refine cT_call (b_M_part_37 s0 (by rw [t_in]; omega)) (c_M_addUnit hI s0 (by first | omega | assumption | exact sl_4_4 (by assumption)) (by first | omega | assumption | exact sl_4_4 (by assumption)) (by first | omega | assumption | exact sl_4_4 (by assumption)) (by first | omega | assumption | exact sl_4_4 (by assumption)) (by first | omega | assumption | exact sl_4_4 (by assumption))) hF (fun o ho => by omega) (fun v_74 f_75 hI_76 hG_77 hF_78 hQ_79 => ?_)
        obtain ⟨rfl, hQ_79⟩ := hQ_79
        have g_81 : (f_75 (a0 + 23) x1.toNatClampNeg).toInt = (f (a0 + 23) x1.toNatClampNeg).toInt + 1 := hQ_79.1
        have hq : _ := hQ_79.2
        show cT 94 52 [.ref a0, .int x1, .int x2, .int (f (a0 + 19) (((nI 8) * x1) + x2).toNatClampNeg), .int (f (a0 + 19) (((nI 8) * x1) + x2).toNatClampNeg), ((((((.retAddr 0))))))] [] _ _ _ _ _ _
        refine cT_go b_M_part_52 ?_
        have t_82 : 0 ≤ (f_75 (a0 + 23) x1.toNatClampNeg).toInt ∧ (f_75 (a0 + 23) x1.toNatClampNeg).toInt ≤ 900 := (cI_at hI_76 x1.toNatClampNeg (sc_7_32 s0)).2.2.2.2.2.2.1 (by omega)
        exact l_M_part_55 ((112 - (nI 2).toInt).toNat + 1) (by omega) hI_76 hF_78 s0 (by omega) (by omega) (by omega) (by omega) (by omega) (by omega) (by omega) (fun h => by first | exact hq _ (hh h) (by omega) | exact hq _ ph (by omega) | exact ph)
set_option maxHeartbeats 8000000 in
theorem l_M_solvePages_12 {L : Nat} {e : Nat × Nat} {f0 : cg_G} : ∀ (k : Nat) {f : cg_G} {a0 : Nat} {x1 : Int32} {x2 : Int32} {x3 : Int32} {x4 : Int32} {u5 : Value} {u6 : Value}, (910 - x4.toInt).toNat < k → cI L f → cF (fun o => o = a0 + 13 ∨ o = a0 + 14) f0 f → sh_ a0 = 7 → (0 ≤ x1.toInt ∧ x1.toInt ≤ 1) → (0 ≤ x2.toInt ∧ x2.toInt < (f0 (a0 + 23) x1.toNatClampNeg).toInt) → ((f0 (a0 + 23) x1.toNatClampNeg).toInt ≤ 900) → (1 ≤ x4.toInt ∧ x2.toInt + x4.toInt ≤ (f0 (a0 + 23) x1.toNatClampNeg).toInt + 1) → (0 ≤ x3.toInt ∧ x3.toInt ≤ 32 * (x4.toInt - 1)) → (3 ≤ (f0 a0 1).toInt ∧ (f0 a0 1).toInt ≤ 30) → (solved (f0 (a0 + 13)) (f0 (a0 + 14)) x2.toInt (f0 (a0 + 23) x1.toNatClampNeg).toInt) → (hok (f0 (a0 + 25)) (f0 (a0 + 27)) (900 * x1.toInt) (f0 (a0 + 23) x1.toNatClampNeg).toInt (f0 a0 1).toInt) → (∀ j, j ≠ x2.toNatClampNeg → f (a0 + 13) j = f0 (a0 + 13) j) → (∀ j, j ≠ x2.toNatClampNeg → f (a0 + 14) j = f0 (a0 + 14) j) → ((x4.toInt = 1 ∧ x3.toInt = 0 ∧ (f (a0 + 13) x2.toNatClampNeg).toInt = -1) ∨ (2 ≤ x4.toInt ∧ 0 ≤ (f (a0 + 13) x2.toNatClampNeg).toInt ∧ 1 ≤ (f (a0 + 14) x2.toNatClampNeg).toInt ∧ x2.toInt + (f (a0 + 14) x2.toNatClampNeg).toInt ≤ (f0 (a0 + 23) x1.toNatClampNeg).toInt)) → cT 97 12 [.ref a0, .int x1, .int x2, .int x3, .int x4, u5, u6] [] L e (fun o => o = a0 + 13 ∨ o = a0 + 14) f0 f (fun v f' => v = none ∧ (solved (f' (a0 + 13)) (f' (a0 + 14)) (x2.toInt - 1) (f0 (a0 + 23) x1.toNatClampNeg).toInt)) := by
  intro k
  induction k with
  | zero => intro f a0 x1 x2 x3 x4 u5 u6 hm; omega
  | succ k ih =>
    intro f a0 x1 x2 x3 x4 u5 u6 hme hI hF s0 c1 i2 iu i3 is kh p3 p4 i4 i5 i6
    have hm := one_7 s0
    have e01 : (f a0 1).toInt = (f0 a0 1).toInt := by rw [hF a0 (by omega)]
    have eu : (f (a0 + 23) x1.toNatClampNeg).toInt = (f0 (a0 + 23) x1.toNatClampNeg).toInt := by rw [hF (a0 + 23) (by omega)]
    have t_1 := t_rng (x1)
    have t_2 := t_rng (x2)
    have t_3 := t_rng (x3)
    have t_4 := t_rng (x4)
    have t_6 : 0 ≤ (f (a0 + 23) x1.toNatClampNeg).toInt ∧ (f (a0 + 23) x1.toNatClampNeg).toInt ≤ 900 := (cI_at hI x1.toNatClampNeg (sc_7_32 s0)).2.2.2.2.2.2.1 (by omega)
    first | have t_7 : (x2 + x4).toInt = (x2).toInt + (x4).toInt := t_addn (by omega) | obtain ⟨kt_7, t_7⟩ := t_add x2 x4
    refine cT_if (b_M_solvePages_12 s0 (by rw [t_in]; omega)) (fun c_5 => ?_) (fun c_5 => ?_)
    · rw [t_lt] at c_5; try rw [t_0] at c_5
      exact cT_ret b_M_solvePages_149 hI hF ⟨rfl, solved_fr (K := x2.toNatClampNeg) p3 (by rw [t_cl]; omega) rfl i4 i5 (by omega) (by omega) (by have := t_cl x2; omega)⟩
    · rw [t_lt] at c_5; try rw [t_0] at c_5
      have t_12 : (nI 900).toInt = 900 := nI_toInt (by decide)
      first | have t_11 : (((nI 900)) * x1).toInt = 900 * (x1).toInt := t_mulc (by decide) (by omega) | (obtain ⟨kt_11, t_11⟩ := t_mul ((nI 900)) x1; rw [nI_toInt (show 900 < 2 ^ 31 by decide)] at t_11)
      first | have t_10 : ((((nI 900) * x1)) + x2).toInt = ((((nI 900) * x1))).toInt + (x2).toInt := t_addn (by omega) | obtain ⟨kt_10, t_10⟩ := t_add (((nI 900) * x1)) x2
      first | have t_9 : (((((nI 900) * x1) + x2)) + x4).toInt = (((((nI 900) * x1) + x2))).toInt + (x4).toInt := t_addn (by omega) | obtain ⟨kt_9, t_9⟩ := t_add ((((nI 900) * x1) + x2)) x4
      have t_13 : (nI 1).toInt = 1 := nI_toInt (by decide)
      first | have t_8 : ((((((nI 900) * x1) + x2) + x4)) - ((nI 1))).toInt = ((((((nI 900) * x1) + x2) + x4))).toInt - (((nI 1))).toInt := t_subn (by omega) | obtain ⟨kt_8, t_8⟩ := t_sub (((((nI 900) * x1) + x2) + x4)) ((nI 1))
      refine cT_call (b_M_solvePages_25 s0) (c_M_high hI s0 (by first | omega | assumption | exact sl_4_4 (by assumption))) hF (fun o ho => ho.elim) (fun v_14 f_15 hI_16 hG_17 hF_18 hQ_19 => ?_)
      obtain rfl := cF_no hG_17
      obtain ⟨y_20, rfl, hQ_19⟩ := hQ_19
      have hQ_19r := t_rng y_20
      have g_21 : y_20.toInt ≤ (f0 a0 1).toInt := by have h := p4 (nI 900 * x1 + x2 + x4 - nI 1).toNatClampNeg (by rw [t_cl]; omega) (by rw [t_cl]; omega); rw [← hF (a0 + 25) (by omega), ← hF (a0 + 27) (by omega)] at h; have := hQ_19.1; omega
      show cT 97 42 [.ref a0, .int x1, .int x2, .int x3, .int x4, u5, u6] [.int y_20, .int x3] _ _ _ _ _ _
      refine cT_if (b_M_solvePages_42 s0 (by rw [t_in]; omega)) (fun c_22 => ?_) (fun c_22 => ?_)
      · rw [t_eq] at c_22; try rw [t_0] at c_22
        refine cT_go b_M_solvePages_57 ?_
        refine cT_if b_M_solvePages_62 (fun c_23 => ?_) (fun c_23 => ?_)
        · rw [t_eq] at c_23; try rw [t_0] at c_23
          have q3 : 0 ≤ (f (a0 + 13) (x2 + x4).toNatClampNeg).toInt := by rw [i4 (x2 + x4).toNatClampNeg (by rw [t_cl, t_cl]; omega)]; exact (p3 _ (by rw [t_cl]; omega) (by rw [t_cl]; omega)).1
          refine cT_go (b_M_solvePages_73 s0 (by rw [t_in]; omega)) ?_
          have t_26 : 3 ≤ (f a0 1).toInt ∧ (f a0 1).toInt ≤ 30 := (cI_at hI 1 s0).2.1 rfl
          first | have t_27 : (x3 + y_20).toInt = (x3).toInt + (y_20).toInt := t_addn (by omega) | obtain ⟨kt_27, t_27⟩ := t_add x3 y_20
          refine cT_if (b_M_solvePages_96 s0) (fun c_25 => ?_) (fun c_25 => ?_)
          · rw [t_lt] at c_25; try rw [t_0] at c_25
            refine cT_go b_M_solvePages_143 ?_
            first | have t_28 : (x4 + (nI 1)).toInt = (x4).toInt + ((nI 1)).toInt := t_addn (by omega) | obtain ⟨kt_28, t_28⟩ := t_add x4 (nI 1)
            first | have t_31 : (((f a0 1)) - ((x3 + y_20))).toInt = (((f a0 1))).toInt - (((x3 + y_20))).toInt := t_subn (by omega) | obtain ⟨kt_31, t_31⟩ := t_sub ((f a0 1)) ((x3 + y_20))
            have t_30 := t_rng (((f a0 1) - (x3 + y_20)) * ((f a0 1) - (x3 + y_20)))
            have t_30s := t_sq ((f a0 1) - (x3 + y_20))
            have tc_33 := t_cl (x2 + x4)
            have t_32 : -1 ≤ (f (a0 + 13) (x2 + x4).toNatClampNeg).toInt ∧ (f (a0 + 13) (x2 + x4).toNatClampNeg).toInt ≤ 78400 * ((901 - ((x2 + x4).toNatClampNeg) : Nat) : Int) := (cI_at hI (x2 + x4).toNatClampNeg (sc_7_21 s0)).2.2.2.2.2.2.2.2.2.2.1 (by omega)
            first | have t_29 : (((((f a0 1) - (x3 + y_20)) * ((f a0 1) - (x3 + y_20)))) + ((f (a0 + 13) (x2 + x4).toNatClampNeg))).toInt = (((((f a0 1) - (x3 + y_20)) * ((f a0 1) - (x3 + y_20))))).toInt + (((f (a0 + 13) (x2 + x4).toNatClampNeg))).toInt := t_addn (by omega) | obtain ⟨kt_29, t_29⟩ := t_add ((((f a0 1) - (x3 + y_20)) * ((f a0 1) - (x3 + y_20)))) ((f (a0 + 13) (x2 + x4).toNatClampNeg))
            have tc_35 := t_cl x2
            have t_34 : -1 ≤ (f (a0 + 13) x2.toNatClampNeg).toInt ∧ (f (a0 + 13) x2.toNatClampNeg).toInt ≤ 78400 * ((901 - x2.toNatClampNeg : Nat) : Int) := (cI_at hI x2.toNatClampNeg (sc_7_21 s0)).2.2.2.2.2.2.2.2.2.2.1 (by omega)
            have t_36 := t_rng (f (a0 + 14) x2.toNatClampNeg)
            exact ih (by omega) hI hF s0 (by omega) (by omega) (by omega) (by omega) (by omega) (by omega) p3 p4 (fun j hj => by first | exact i4 j hj | (rw [cg_up_o (by omega), cg_up_k hj]; exact i4 j hj) | rw [cg_up_k hj]) (fun j hj => by first | exact i5 j hj | (rw [cg_up_k hj, cg_up_o (by omega)]; exact i5 j hj) | rw [cg_up_o (by omega)]) (by omega)
          · rw [t_lt] at c_25; try rw [t_0] at c_25
            have tc_39 := t_cl x2
            have t_38 : -1 ≤ (f (a0 + 13) x2.toNatClampNeg).toInt ∧ (f (a0 + 13) x2.toNatClampNeg).toInt ≤ 78400 * ((901 - x2.toNatClampNeg : Nat) : Int) := (cI_at hI x2.toNatClampNeg (sc_7_21 s0)).2.2.2.2.2.2.2.2.2.2.1 (by omega)
            have t_40 := t_neg1
            refine cT_if (b_M_solvePages_106 s0 (by rw [t_in]; omega)) (fun c_37 => ?_) (fun c_37 => ?_)
            · rw [t_eq] at c_37; try rw [t_0] at c_37
              first | have t_45 : (((f a0 1)) - ((x3 + y_20))).toInt = (((f a0 1))).toInt - (((x3 + y_20))).toInt := t_subn (by omega) | obtain ⟨kt_45, t_45⟩ := t_sub ((f a0 1)) ((x3 + y_20))
              have t_44 := t_rng (((f a0 1) - (x3 + y_20)) * ((f a0 1) - (x3 + y_20)))
              have t_44s := t_sq ((f a0 1) - (x3 + y_20))
              have tc_47 := t_cl (x2 + x4)
              have t_46 : -1 ≤ (f (a0 + 13) (x2 + x4).toNatClampNeg).toInt ∧ (f (a0 + 13) (x2 + x4).toNatClampNeg).toInt ≤ 78400 * ((901 - ((x2 + x4).toNatClampNeg) : Nat) : Int) := (cI_at hI (x2 + x4).toNatClampNeg (sc_7_21 s0)).2.2.2.2.2.2.2.2.2.2.1 (by omega)
              first | have t_43 : (((((f a0 1) - (x3 + y_20)) * ((f a0 1) - (x3 + y_20)))) + ((f (a0 + 13) (x2 + x4).toNatClampNeg))).toInt = (((((f a0 1) - (x3 + y_20)) * ((f a0 1) - (x3 + y_20))))).toInt + (((f (a0 + 13) (x2 + x4).toNatClampNeg))).toInt := t_addn (by omega) | obtain ⟨kt_43, t_43⟩ := t_add ((((f a0 1) - (x3 + y_20)) * ((f a0 1) - (x3 + y_20)))) ((f (a0 + 13) (x2 + x4).toNatClampNeg))
              have hI_41 := cI_up (k := x2.toNatClampNeg) (x := (((f a0 1) - (x3 + y_20)) * ((f a0 1) - (x3 + y_20))) + (f (a0 + 13) (x2 + x4).toNatClampNeg)) hI (sc_7_21 s0) ⟨(fun _ => by omega), (fun _ => by omega), (fun _ => by omega), (fun _ => by omega), (fun _ => by omega), (fun _ => by omega), (fun _ => by omega), (fun _ => by omega), (fun _ => by omega), (fun _ => by omega), (fun _ => by omega), (fun _ => by omega), (fun _ => by omega)⟩
              have hF_42 := cF_up (a := a0 + 13) (k := x2.toNatClampNeg) (x := (((f a0 1) - (x3 + y_20)) * ((f a0 1) - (x3 + y_20))) + (f (a0 + 13) (x2 + x4).toNatClampNeg)) hF (by omega)
              have hI_48 := cI_up (k := x2.toNatClampNeg) (x := x4) hI_41 (sc_7_22 s0) ⟨(fun _ => by omega), (fun _ => by omega), (fun _ => by omega), (fun _ => by omega), (fun _ => by omega), (fun _ => by omega), (fun _ => by omega), (fun _ => by omega), (fun _ => by omega), (fun _ => by omega), (fun _ => by omega), (fun _ => by omega), (fun _ => by omega)⟩
              have hF_49 := cF_up (a := a0 + 14) (k := x2.toNatClampNeg) (x := x4) hF_42 (by omega)
              refine cT_go (b_M_solvePages_127 s0 (by rw [t_in]; omega)) ?_
              refine cT_go b_M_solvePages_143 ?_
              first | have t_50 : (x4 + (nI 1)).toInt = (x4).toInt + ((nI 1)).toInt := t_addn (by omega) | obtain ⟨kt_50, t_50⟩ := t_add x4 (nI 1)
              have t_51 : ((cg_up (cg_up f (a0 + 13) x2.toNatClampNeg ((((f a0 1) - (x3 + y_20)) * ((f a0 1) - (x3 + y_20))) + (f (a0 + 13) (x2 + x4).toNatClampNeg))) (a0 + 14) x2.toNatClampNeg x4) (a0 + 13) x2.toNatClampNeg).toInt = ((cg_up f (a0 + 13) x2.toNatClampNeg ((((f a0 1) - (x3 + y_20)) * ((f a0 1) - (x3 + y_20))) + (f (a0 + 13) (x2 + x4).toNatClampNeg))) (a0 + 13) x2.toNatClampNeg).toInt := by rw [cg_up_o (by omega)]
              have t_52 : ((cg_up f (a0 + 13) x2.toNatClampNeg ((((f a0 1) - (x3 + y_20)) * ((f a0 1) - (x3 + y_20))) + (f (a0 + 13) (x2 + x4).toNatClampNeg))) (a0 + 13) x2.toNatClampNeg).toInt = ((((f a0 1) - (x3 + y_20)) * ((f a0 1) - (x3 + y_20))) + (f (a0 + 13) (x2 + x4).toNatClampNeg)).toInt := by rw [cg_up_s]
              have t_53 : ((cg_up (cg_up f (a0 + 13) x2.toNatClampNeg ((((f a0 1) - (x3 + y_20)) * ((f a0 1) - (x3 + y_20))) + (f (a0 + 13) (x2 + x4).toNatClampNeg))) (a0 + 14) x2.toNatClampNeg x4) (a0 + 14) x2.toNatClampNeg).toInt = (x4).toInt := by rw [cg_up_s]
              exact ih (by omega) hI_48 hF_49 s0 (by omega) (by omega) (by omega) (by omega) (by omega) (by omega) p3 p4 (fun j hj => by first | exact i4 j hj | (rw [cg_up_o (by omega), cg_up_k hj]; exact i4 j hj) | rw [cg_up_k hj]) (fun j hj => by first | exact i5 j hj | (rw [cg_up_k hj, cg_up_o (by omega)]; exact i5 j hj) | rw [cg_up_o (by omega)]) (by omega)
            · rw [t_eq] at c_37; try rw [t_0] at c_37
              first | have t_57 : (((f a0 1)) - ((x3 + y_20))).toInt = (((f a0 1))).toInt - (((x3 + y_20))).toInt := t_subn (by omega) | obtain ⟨kt_57, t_57⟩ := t_sub ((f a0 1)) ((x3 + y_20))
              have t_56 := t_rng (((f a0 1) - (x3 + y_20)) * ((f a0 1) - (x3 + y_20)))
              have t_56s := t_sq ((f a0 1) - (x3 + y_20))
              have tc_59 := t_cl (x2 + x4)
              have t_58 : -1 ≤ (f (a0 + 13) (x2 + x4).toNatClampNeg).toInt ∧ (f (a0 + 13) (x2 + x4).toNatClampNeg).toInt ≤ 78400 * ((901 - ((x2 + x4).toNatClampNeg) : Nat) : Int) := (cI_at hI (x2 + x4).toNatClampNeg (sc_7_21 s0)).2.2.2.2.2.2.2.2.2.2.1 (by omega)
              first | have t_55 : (((((f a0 1) - (x3 + y_20)) * ((f a0 1) - (x3 + y_20)))) + ((f (a0 + 13) (x2 + x4).toNatClampNeg))).toInt = (((((f a0 1) - (x3 + y_20)) * ((f a0 1) - (x3 + y_20))))).toInt + (((f (a0 + 13) (x2 + x4).toNatClampNeg))).toInt := t_addn (by omega) | obtain ⟨kt_55, t_55⟩ := t_add ((((f a0 1) - (x3 + y_20)) * ((f a0 1) - (x3 + y_20)))) ((f (a0 + 13) (x2 + x4).toNatClampNeg))
              refine cT_if (b_M_solvePages_116 s0 (by rw [t_in]; omega)) (fun c_54 => ?_) (fun c_54 => ?_)
              · rw [t_le] at c_54; try rw [t_0] at c_54
                refine cT_go b_M_solvePages_143 ?_
                first | have t_60 : (x4 + (nI 1)).toInt = (x4).toInt + ((nI 1)).toInt := t_addn (by omega) | obtain ⟨kt_60, t_60⟩ := t_add x4 (nI 1)
                have t_61 := t_rng (f (a0 + 14) x2.toNatClampNeg)
                exact ih (by omega) hI hF s0 (by omega) (by omega) (by omega) (by omega) (by omega) (by omega) p3 p4 (fun j hj => by first | exact i4 j hj | (rw [cg_up_o (by omega), cg_up_k hj]; exact i4 j hj) | rw [cg_up_k hj]) (fun j hj => by first | exact i5 j hj | (rw [cg_up_k hj, cg_up_o (by omega)]; exact i5 j hj) | rw [cg_up_o (by omega)]) (by omega)
              · rw [t_le] at c_54; try rw [t_0] at c_54
                have hI_62 := cI_up (k := x2.toNatClampNeg) (x := (((f a0 1) - (x3 + y_20)) * ((f a0 1) - (x3 + y_20))) + (f (a0 + 13) (x2 + x4).toNatClampNeg)) hI (sc_7_21 s0) ⟨(fun _ => by omega), (fun _ => by omega), (fun _ => by omega), (fun _ => by omega), (fun _ => by omega), (fun _ => by omega), (fun _ => by omega), (fun _ => by omega), (fun _ => by omega), (fun _ => by omega), (fun _ => by omega), (fun _ => by omega), (fun _ => by omega)⟩
                have hF_63 := cF_up (a := a0 + 13) (k := x2.toNatClampNeg) (x := (((f a0 1) - (x3 + y_20)) * ((f a0 1) - (x3 + y_20))) + (f (a0 + 13) (x2 + x4).toNatClampNeg)) hF (by omega)
                have hI_64 := cI_up (k := x2.toNatClampNeg) (x := x4) hI_62 (sc_7_22 s0) ⟨(fun _ => by omega), (fun _ => by omega), (fun _ => by omega), (fun _ => by omega), (fun _ => by omega), (fun _ => by omega), (fun _ => by omega), (fun _ => by omega), (fun _ => by omega), (fun _ => by omega), (fun _ => by omega), (fun _ => by omega), (fun _ => by omega)⟩
                have hF_65 := cF_up (a := a0 + 14) (k := x2.toNatClampNeg) (x := x4) hF_63 (by omega)
                refine cT_go (b_M_solvePages_127 s0 (by rw [t_in]; omega)) ?_
                refine cT_go b_M_solvePages_143 ?_
                first | have t_66 : (x4 + (nI 1)).toInt = (x4).toInt + ((nI 1)).toInt := t_addn (by omega) | obtain ⟨kt_66, t_66⟩ := t_add x4 (nI 1)
                have t_67 : ((cg_up (cg_up f (a0 + 13) x2.toNatClampNeg ((((f a0 1) - (x3 + y_20)) * ((f a0 1) - (x3 + y_20))) + (f (a0 + 13) (x2 + x4).toNatClampNeg))) (a0 + 14) x2.toNatClampNeg x4) (a0 + 13) x2.toNatClampNeg).toInt = ((cg_up f (a0 + 13) x2.toNatClampNeg ((((f a0 1) - (x3 + y_20)) * ((f a0 1) - (x3 + y_20))) + (f (a0 + 13) (x2 + x4).toNatClampNeg))) (a0 + 13) x2.toNatClampNeg).toInt := by rw [cg_up_o (by omega)]
                have t_68 : ((cg_up f (a0 + 13) x2.toNatClampNeg ((((f a0 1) - (x3 + y_20)) * ((f a0 1) - (x3 + y_20))) + (f (a0 + 13) (x2 + x4).toNatClampNeg))) (a0 + 13) x2.toNatClampNeg).toInt = ((((f a0 1) - (x3 + y_20)) * ((f a0 1) - (x3 + y_20))) + (f (a0 + 13) (x2 + x4).toNatClampNeg)).toInt := by rw [cg_up_s]
                have t_69 : ((cg_up (cg_up f (a0 + 13) x2.toNatClampNeg ((((f a0 1) - (x3 + y_20)) * ((f a0 1) - (x3 + y_20))) + (f (a0 + 13) (x2 + x4).toNatClampNeg))) (a0 + 14) x2.toNatClampNeg x4) (a0 + 14) x2.toNatClampNeg).toInt = (x4).toInt := by rw [cg_up_s]
                exact ih (by omega) hI_64 hF_65 s0 (by omega) (by omega) (by omega) (by omega) (by omega) (by omega) p3 p4 (fun j hj => by first | exact i4 j hj | (rw [cg_up_o (by omega), cg_up_k hj]; exact i4 j hj) | rw [cg_up_k hj]) (fun j hj => by first | exact i5 j hj | (rw [cg_up_k hj, cg_up_o (by omega)]; exact i5 j hj) | rw [cg_up_o (by omega)]) (by omega)
        · rw [t_eq] at c_23; try rw [t_0] at c_23
          refine cT_go b_M_solvePages_69 ?_
          have t_71 : 3 ≤ (f a0 1).toInt ∧ (f a0 1).toInt ≤ 30 := (cI_at hI 1 s0).2.1 rfl
          first | have t_72 : (x3 + y_20).toInt = (x3).toInt + (y_20).toInt := t_addn (by omega) | obtain ⟨kt_72, t_72⟩ := t_add x3 y_20
          refine cT_if (b_M_solvePages_96 s0) (fun c_70 => ?_) (fun c_70 => ?_)
          · rw [t_lt] at c_70; try rw [t_0] at c_70
            refine cT_go b_M_solvePages_143 ?_
            first | have t_73 : (x4 + (nI 1)).toInt = (x4).toInt + ((nI 1)).toInt := t_addn (by omega) | obtain ⟨kt_73, t_73⟩ := t_add x4 (nI 1)
            have t_74 : (nI 0).toInt = 0 := nI_toInt (by decide)
            have tc_76 := t_cl x2
            have t_75 : -1 ≤ (f (a0 + 13) x2.toNatClampNeg).toInt ∧ (f (a0 + 13) x2.toNatClampNeg).toInt ≤ 78400 * ((901 - x2.toNatClampNeg : Nat) : Int) := (cI_at hI x2.toNatClampNeg (sc_7_21 s0)).2.2.2.2.2.2.2.2.2.2.1 (by omega)
            have t_77 := t_rng (f (a0 + 14) x2.toNatClampNeg)
            exact ih (by omega) hI hF s0 (by omega) (by omega) (by omega) (by omega) (by omega) (by omega) p3 p4 (fun j hj => by first | exact i4 j hj | (rw [cg_up_o (by omega), cg_up_k hj]; exact i4 j hj) | rw [cg_up_k hj]) (fun j hj => by first | exact i5 j hj | (rw [cg_up_k hj, cg_up_o (by omega)]; exact i5 j hj) | rw [cg_up_o (by omega)]) (by omega)
          · rw [t_lt] at c_70; try rw [t_0] at c_70
            have tc_80 := t_cl x2
            have t_79 : -1 ≤ (f (a0 + 13) x2.toNatClampNeg).toInt ∧ (f (a0 + 13) x2.toNatClampNeg).toInt ≤ 78400 * ((901 - x2.toNatClampNeg : Nat) : Int) := (cI_at hI x2.toNatClampNeg (sc_7_21 s0)).2.2.2.2.2.2.2.2.2.2.1 (by omega)
            have t_81 := t_neg1
            refine cT_if (b_M_solvePages_106 s0 (by rw [t_in]; omega)) (fun c_78 => ?_) (fun c_78 => ?_)
            · rw [t_eq] at c_78; try rw [t_0] at c_78
              have t_84 : (nI 0).toInt = 0 := nI_toInt (by decide)
              have hI_82 := cI_up (k := x2.toNatClampNeg) (x := nI 0) hI (sc_7_21 s0) ⟨(fun _ => by omega), (fun _ => by omega), (fun _ => by omega), (fun _ => by omega), (fun _ => by omega), (fun _ => by omega), (fun _ => by omega), (fun _ => by omega), (fun _ => by omega), (fun _ => by omega), (fun _ => by omega), (fun _ => by omega), (fun _ => by omega)⟩
              have hF_83 := cF_up (a := a0 + 13) (k := x2.toNatClampNeg) (x := nI 0) hF (by omega)
              have hI_85 := cI_up (k := x2.toNatClampNeg) (x := x4) hI_82 (sc_7_22 s0) ⟨(fun _ => by omega), (fun _ => by omega), (fun _ => by omega), (fun _ => by omega), (fun _ => by omega), (fun _ => by omega), (fun _ => by omega), (fun _ => by omega), (fun _ => by omega), (fun _ => by omega), (fun _ => by omega), (fun _ => by omega), (fun _ => by omega)⟩
              have hF_86 := cF_up (a := a0 + 14) (k := x2.toNatClampNeg) (x := x4) hF_83 (by omega)
              refine cT_go (b_M_solvePages_127 s0 (by rw [t_in]; omega)) ?_
              refine cT_go b_M_solvePages_143 ?_
              first | have t_87 : (x4 + (nI 1)).toInt = (x4).toInt + ((nI 1)).toInt := t_addn (by omega) | obtain ⟨kt_87, t_87⟩ := t_add x4 (nI 1)
              have t_88 : ((cg_up (cg_up f (a0 + 13) x2.toNatClampNeg (nI 0)) (a0 + 14) x2.toNatClampNeg x4) (a0 + 13) x2.toNatClampNeg).toInt = ((cg_up f (a0 + 13) x2.toNatClampNeg (nI 0)) (a0 + 13) x2.toNatClampNeg).toInt := by rw [cg_up_o (by omega)]
              have t_89 : ((cg_up f (a0 + 13) x2.toNatClampNeg (nI 0)) (a0 + 13) x2.toNatClampNeg).toInt = (nI 0).toInt := by rw [cg_up_s]
              have t_90 : ((cg_up (cg_up f (a0 + 13) x2.toNatClampNeg (nI 0)) (a0 + 14) x2.toNatClampNeg x4) (a0 + 14) x2.toNatClampNeg).toInt = (x4).toInt := by rw [cg_up_s]
              exact ih (by omega) hI_85 hF_86 s0 (by omega) (by omega) (by omega) (by omega) (by omega) (by omega) p3 p4 (fun j hj => by first | exact i4 j hj | (rw [cg_up_o (by omega), cg_up_k hj]; exact i4 j hj) | rw [cg_up_k hj]) (fun j hj => by first | exact i5 j hj | (rw [cg_up_k hj, cg_up_o (by omega)]; exact i5 j hj) | rw [cg_up_o (by omega)]) (by omega)
            · rw [t_eq] at c_78; try rw [t_0] at c_78
              have t_92 : (nI 0).toInt = 0 := nI_toInt (by decide)
              refine cT_if (b_M_solvePages_116 s0 (by rw [t_in]; omega)) (fun c_91 => ?_) (fun c_91 => ?_)
              · rw [t_le] at c_91; try rw [t_0] at c_91
                refine cT_go b_M_solvePages_143 ?_
                first | have t_93 : (x4 + (nI 1)).toInt = (x4).toInt + ((nI 1)).toInt := t_addn (by omega) | obtain ⟨kt_93, t_93⟩ := t_add x4 (nI 1)
                have t_94 := t_rng (f (a0 + 14) x2.toNatClampNeg)
                exact ih (by omega) hI hF s0 (by omega) (by omega) (by omega) (by omega) (by omega) (by omega) p3 p4 (fun j hj => by first | exact i4 j hj | (rw [cg_up_o (by omega), cg_up_k hj]; exact i4 j hj) | rw [cg_up_k hj]) (fun j hj => by first | exact i5 j hj | (rw [cg_up_k hj, cg_up_o (by omega)]; exact i5 j hj) | rw [cg_up_o (by omega)]) (by omega)
              · rw [t_le] at c_91; try rw [t_0] at c_91
                have hI_95 := cI_up (k := x2.toNatClampNeg) (x := nI 0) hI (sc_7_21 s0) ⟨(fun _ => by omega), (fun _ => by omega), (fun _ => by omega), (fun _ => by omega), (fun _ => by omega), (fun _ => by omega), (fun _ => by omega), (fun _ => by omega), (fun _ => by omega), (fun _ => by omega), (fun _ => by omega), (fun _ => by omega), (fun _ => by omega)⟩
                have hF_96 := cF_up (a := a0 + 13) (k := x2.toNatClampNeg) (x := nI 0) hF (by omega)
                have hI_97 := cI_up (k := x2.toNatClampNeg) (x := x4) hI_95 (sc_7_22 s0) ⟨(fun _ => by omega), (fun _ => by omega), (fun _ => by omega), (fun _ => by omega), (fun _ => by omega), (fun _ => by omega), (fun _ => by omega), (fun _ => by omega), (fun _ => by omega), (fun _ => by omega), (fun _ => by omega), (fun _ => by omega), (fun _ => by omega)⟩
                have hF_98 := cF_up (a := a0 + 14) (k := x2.toNatClampNeg) (x := x4) hF_96 (by omega)
                refine cT_go (b_M_solvePages_127 s0 (by rw [t_in]; omega)) ?_
                refine cT_go b_M_solvePages_143 ?_
                first | have t_99 : (x4 + (nI 1)).toInt = (x4).toInt + ((nI 1)).toInt := t_addn (by omega) | obtain ⟨kt_99, t_99⟩ := t_add x4 (nI 1)
                have t_100 : ((cg_up (cg_up f (a0 + 13) x2.toNatClampNeg (nI 0)) (a0 + 14) x2.toNatClampNeg x4) (a0 + 13) x2.toNatClampNeg).toInt = ((cg_up f (a0 + 13) x2.toNatClampNeg (nI 0)) (a0 + 13) x2.toNatClampNeg).toInt := by rw [cg_up_o (by omega)]
                have t_101 : ((cg_up f (a0 + 13) x2.toNatClampNeg (nI 0)) (a0 + 13) x2.toNatClampNeg).toInt = (nI 0).toInt := by rw [cg_up_s]
                have t_102 : ((cg_up (cg_up f (a0 + 13) x2.toNatClampNeg (nI 0)) (a0 + 14) x2.toNatClampNeg x4) (a0 + 14) x2.toNatClampNeg).toInt = (x4).toInt := by rw [cg_up_s]
                exact ih (by omega) hI_97 hF_98 s0 (by omega) (by omega) (by omega) (by omega) (by omega) (by omega) p3 p4 (fun j hj => by first | exact i4 j hj | (rw [cg_up_o (by omega), cg_up_k hj]; exact i4 j hj) | rw [cg_up_k hj]) (fun j hj => by first | exact i5 j hj | (rw [cg_up_k hj, cg_up_o (by omega)]; exact i5 j hj) | rw [cg_up_o (by omega)]) (by omega)
      · rw [t_eq] at c_22; try rw [t_0] at c_22
        refine cT_go b_M_solvePages_61 ?_
        have t_104 : (nI 0).toInt = 0 := nI_toInt (by decide)
        refine cT_if b_M_solvePages_62 (fun c_103 => ?_) (fun c_103 => ?_)
        · rw [t_eq] at c_103; try rw [t_0] at c_103
          have q3 : 0 ≤ (f (a0 + 13) (x2 + x4).toNatClampNeg).toInt := by rw [i4 (x2 + x4).toNatClampNeg (by rw [t_cl, t_cl]; omega)]; exact (p3 _ (by rw [t_cl]; omega) (by rw [t_cl]; omega)).1
          refine cT_go (b_M_solvePages_73 s0 (by rw [t_in]; omega)) ?_
          have t_107 : 3 ≤ (f a0 1).toInt ∧ (f a0 1).toInt ≤ 30 := (cI_at hI 1 s0).2.1 rfl
          first | have t_108 : (x3 + y_20).toInt = (x3).toInt + (y_20).toInt := t_addn (by omega) | obtain ⟨kt_108, t_108⟩ := t_add x3 y_20
          refine cT_if (b_M_solvePages_96 s0) (fun c_106 => ?_) (fun c_106 => ?_)
          · rw [t_lt] at c_106; try rw [t_0] at c_106
            refine cT_go b_M_solvePages_143 ?_
            first | have t_109 : (x4 + (nI 1)).toInt = (x4).toInt + ((nI 1)).toInt := t_addn (by omega) | obtain ⟨kt_109, t_109⟩ := t_add x4 (nI 1)
            first | have t_112 : (((f a0 1)) - ((x3 + y_20))).toInt = (((f a0 1))).toInt - (((x3 + y_20))).toInt := t_subn (by omega) | obtain ⟨kt_112, t_112⟩ := t_sub ((f a0 1)) ((x3 + y_20))
            have t_111 := t_rng (((f a0 1) - (x3 + y_20)) * ((f a0 1) - (x3 + y_20)))
            have t_111s := t_sq ((f a0 1) - (x3 + y_20))
            have tc_114 := t_cl (x2 + x4)
            have t_113 : -1 ≤ (f (a0 + 13) (x2 + x4).toNatClampNeg).toInt ∧ (f (a0 + 13) (x2 + x4).toNatClampNeg).toInt ≤ 78400 * ((901 - ((x2 + x4).toNatClampNeg) : Nat) : Int) := (cI_at hI (x2 + x4).toNatClampNeg (sc_7_21 s0)).2.2.2.2.2.2.2.2.2.2.1 (by omega)
            first | have t_110 : (((((f a0 1) - (x3 + y_20)) * ((f a0 1) - (x3 + y_20)))) + ((f (a0 + 13) (x2 + x4).toNatClampNeg))).toInt = (((((f a0 1) - (x3 + y_20)) * ((f a0 1) - (x3 + y_20))))).toInt + (((f (a0 + 13) (x2 + x4).toNatClampNeg))).toInt := t_addn (by omega) | obtain ⟨kt_110, t_110⟩ := t_add ((((f a0 1) - (x3 + y_20)) * ((f a0 1) - (x3 + y_20)))) ((f (a0 + 13) (x2 + x4).toNatClampNeg))
            have tc_116 := t_cl x2
            have t_115 : -1 ≤ (f (a0 + 13) x2.toNatClampNeg).toInt ∧ (f (a0 + 13) x2.toNatClampNeg).toInt ≤ 78400 * ((901 - x2.toNatClampNeg : Nat) : Int) := (cI_at hI x2.toNatClampNeg (sc_7_21 s0)).2.2.2.2.2.2.2.2.2.2.1 (by omega)
            have t_117 := t_rng (f (a0 + 14) x2.toNatClampNeg)
            exact ih (by omega) hI hF s0 (by omega) (by omega) (by omega) (by omega) (by omega) (by omega) p3 p4 (fun j hj => by first | exact i4 j hj | (rw [cg_up_o (by omega), cg_up_k hj]; exact i4 j hj) | rw [cg_up_k hj]) (fun j hj => by first | exact i5 j hj | (rw [cg_up_k hj, cg_up_o (by omega)]; exact i5 j hj) | rw [cg_up_o (by omega)]) (by omega)
          · rw [t_lt] at c_106; try rw [t_0] at c_106
            have tc_120 := t_cl x2
            have t_119 : -1 ≤ (f (a0 + 13) x2.toNatClampNeg).toInt ∧ (f (a0 + 13) x2.toNatClampNeg).toInt ≤ 78400 * ((901 - x2.toNatClampNeg : Nat) : Int) := (cI_at hI x2.toNatClampNeg (sc_7_21 s0)).2.2.2.2.2.2.2.2.2.2.1 (by omega)
            have t_121 := t_neg1
            refine cT_if (b_M_solvePages_106 s0 (by rw [t_in]; omega)) (fun c_118 => ?_) (fun c_118 => ?_)
            · rw [t_eq] at c_118; try rw [t_0] at c_118
              first | have t_126 : (((f a0 1)) - ((x3 + y_20))).toInt = (((f a0 1))).toInt - (((x3 + y_20))).toInt := t_subn (by omega) | obtain ⟨kt_126, t_126⟩ := t_sub ((f a0 1)) ((x3 + y_20))
              have t_125 := t_rng (((f a0 1) - (x3 + y_20)) * ((f a0 1) - (x3 + y_20)))
              have t_125s := t_sq ((f a0 1) - (x3 + y_20))
              have tc_128 := t_cl (x2 + x4)
              have t_127 : -1 ≤ (f (a0 + 13) (x2 + x4).toNatClampNeg).toInt ∧ (f (a0 + 13) (x2 + x4).toNatClampNeg).toInt ≤ 78400 * ((901 - ((x2 + x4).toNatClampNeg) : Nat) : Int) := (cI_at hI (x2 + x4).toNatClampNeg (sc_7_21 s0)).2.2.2.2.2.2.2.2.2.2.1 (by omega)
              first | have t_124 : (((((f a0 1) - (x3 + y_20)) * ((f a0 1) - (x3 + y_20)))) + ((f (a0 + 13) (x2 + x4).toNatClampNeg))).toInt = (((((f a0 1) - (x3 + y_20)) * ((f a0 1) - (x3 + y_20))))).toInt + (((f (a0 + 13) (x2 + x4).toNatClampNeg))).toInt := t_addn (by omega) | obtain ⟨kt_124, t_124⟩ := t_add ((((f a0 1) - (x3 + y_20)) * ((f a0 1) - (x3 + y_20)))) ((f (a0 + 13) (x2 + x4).toNatClampNeg))
              have hI_122 := cI_up (k := x2.toNatClampNeg) (x := (((f a0 1) - (x3 + y_20)) * ((f a0 1) - (x3 + y_20))) + (f (a0 + 13) (x2 + x4).toNatClampNeg)) hI (sc_7_21 s0) ⟨(fun _ => by omega), (fun _ => by omega), (fun _ => by omega), (fun _ => by omega), (fun _ => by omega), (fun _ => by omega), (fun _ => by omega), (fun _ => by omega), (fun _ => by omega), (fun _ => by omega), (fun _ => by omega), (fun _ => by omega), (fun _ => by omega)⟩
              have hF_123 := cF_up (a := a0 + 13) (k := x2.toNatClampNeg) (x := (((f a0 1) - (x3 + y_20)) * ((f a0 1) - (x3 + y_20))) + (f (a0 + 13) (x2 + x4).toNatClampNeg)) hF (by omega)
              have hI_129 := cI_up (k := x2.toNatClampNeg) (x := x4) hI_122 (sc_7_22 s0) ⟨(fun _ => by omega), (fun _ => by omega), (fun _ => by omega), (fun _ => by omega), (fun _ => by omega), (fun _ => by omega), (fun _ => by omega), (fun _ => by omega), (fun _ => by omega), (fun _ => by omega), (fun _ => by omega), (fun _ => by omega), (fun _ => by omega)⟩
              have hF_130 := cF_up (a := a0 + 14) (k := x2.toNatClampNeg) (x := x4) hF_123 (by omega)
              refine cT_go (b_M_solvePages_127 s0 (by rw [t_in]; omega)) ?_
              refine cT_go b_M_solvePages_143 ?_
              first | have t_131 : (x4 + (nI 1)).toInt = (x4).toInt + ((nI 1)).toInt := t_addn (by omega) | obtain ⟨kt_131, t_131⟩ := t_add x4 (nI 1)
              have t_132 : ((cg_up (cg_up f (a0 + 13) x2.toNatClampNeg ((((f a0 1) - (x3 + y_20)) * ((f a0 1) - (x3 + y_20))) + (f (a0 + 13) (x2 + x4).toNatClampNeg))) (a0 + 14) x2.toNatClampNeg x4) (a0 + 13) x2.toNatClampNeg).toInt = ((cg_up f (a0 + 13) x2.toNatClampNeg ((((f a0 1) - (x3 + y_20)) * ((f a0 1) - (x3 + y_20))) + (f (a0 + 13) (x2 + x4).toNatClampNeg))) (a0 + 13) x2.toNatClampNeg).toInt := by rw [cg_up_o (by omega)]
              have t_133 : ((cg_up f (a0 + 13) x2.toNatClampNeg ((((f a0 1) - (x3 + y_20)) * ((f a0 1) - (x3 + y_20))) + (f (a0 + 13) (x2 + x4).toNatClampNeg))) (a0 + 13) x2.toNatClampNeg).toInt = ((((f a0 1) - (x3 + y_20)) * ((f a0 1) - (x3 + y_20))) + (f (a0 + 13) (x2 + x4).toNatClampNeg)).toInt := by rw [cg_up_s]
              have t_134 : ((cg_up (cg_up f (a0 + 13) x2.toNatClampNeg ((((f a0 1) - (x3 + y_20)) * ((f a0 1) - (x3 + y_20))) + (f (a0 + 13) (x2 + x4).toNatClampNeg))) (a0 + 14) x2.toNatClampNeg x4) (a0 + 14) x2.toNatClampNeg).toInt = (x4).toInt := by rw [cg_up_s]
              exact ih (by omega) hI_129 hF_130 s0 (by omega) (by omega) (by omega) (by omega) (by omega) (by omega) p3 p4 (fun j hj => by first | exact i4 j hj | (rw [cg_up_o (by omega), cg_up_k hj]; exact i4 j hj) | rw [cg_up_k hj]) (fun j hj => by first | exact i5 j hj | (rw [cg_up_k hj, cg_up_o (by omega)]; exact i5 j hj) | rw [cg_up_o (by omega)]) (by omega)
            · rw [t_eq] at c_118; try rw [t_0] at c_118
              first | have t_138 : (((f a0 1)) - ((x3 + y_20))).toInt = (((f a0 1))).toInt - (((x3 + y_20))).toInt := t_subn (by omega) | obtain ⟨kt_138, t_138⟩ := t_sub ((f a0 1)) ((x3 + y_20))
              have t_137 := t_rng (((f a0 1) - (x3 + y_20)) * ((f a0 1) - (x3 + y_20)))
              have t_137s := t_sq ((f a0 1) - (x3 + y_20))
              have tc_140 := t_cl (x2 + x4)
              have t_139 : -1 ≤ (f (a0 + 13) (x2 + x4).toNatClampNeg).toInt ∧ (f (a0 + 13) (x2 + x4).toNatClampNeg).toInt ≤ 78400 * ((901 - ((x2 + x4).toNatClampNeg) : Nat) : Int) := (cI_at hI (x2 + x4).toNatClampNeg (sc_7_21 s0)).2.2.2.2.2.2.2.2.2.2.1 (by omega)
              first | have t_136 : (((((f a0 1) - (x3 + y_20)) * ((f a0 1) - (x3 + y_20)))) + ((f (a0 + 13) (x2 + x4).toNatClampNeg))).toInt = (((((f a0 1) - (x3 + y_20)) * ((f a0 1) - (x3 + y_20))))).toInt + (((f (a0 + 13) (x2 + x4).toNatClampNeg))).toInt := t_addn (by omega) | obtain ⟨kt_136, t_136⟩ := t_add ((((f a0 1) - (x3 + y_20)) * ((f a0 1) - (x3 + y_20)))) ((f (a0 + 13) (x2 + x4).toNatClampNeg))
              refine cT_if (b_M_solvePages_116 s0 (by rw [t_in]; omega)) (fun c_135 => ?_) (fun c_135 => ?_)
              · rw [t_le] at c_135; try rw [t_0] at c_135
                refine cT_go b_M_solvePages_143 ?_
                first | have t_141 : (x4 + (nI 1)).toInt = (x4).toInt + ((nI 1)).toInt := t_addn (by omega) | obtain ⟨kt_141, t_141⟩ := t_add x4 (nI 1)
                have t_142 := t_rng (f (a0 + 14) x2.toNatClampNeg)
                exact ih (by omega) hI hF s0 (by omega) (by omega) (by omega) (by omega) (by omega) (by omega) p3 p4 (fun j hj => by first | exact i4 j hj | (rw [cg_up_o (by omega), cg_up_k hj]; exact i4 j hj) | rw [cg_up_k hj]) (fun j hj => by first | exact i5 j hj | (rw [cg_up_k hj, cg_up_o (by omega)]; exact i5 j hj) | rw [cg_up_o (by omega)]) (by omega)
              · rw [t_le] at c_135; try rw [t_0] at c_135
                have hI_143 := cI_up (k := x2.toNatClampNeg) (x := (((f a0 1) - (x3 + y_20)) * ((f a0 1) - (x3 + y_20))) + (f (a0 + 13) (x2 + x4).toNatClampNeg)) hI (sc_7_21 s0) ⟨(fun _ => by omega), (fun _ => by omega), (fun _ => by omega), (fun _ => by omega), (fun _ => by omega), (fun _ => by omega), (fun _ => by omega), (fun _ => by omega), (fun _ => by omega), (fun _ => by omega), (fun _ => by omega), (fun _ => by omega), (fun _ => by omega)⟩
                have hF_144 := cF_up (a := a0 + 13) (k := x2.toNatClampNeg) (x := (((f a0 1) - (x3 + y_20)) * ((f a0 1) - (x3 + y_20))) + (f (a0 + 13) (x2 + x4).toNatClampNeg)) hF (by omega)
                have hI_145 := cI_up (k := x2.toNatClampNeg) (x := x4) hI_143 (sc_7_22 s0) ⟨(fun _ => by omega), (fun _ => by omega), (fun _ => by omega), (fun _ => by omega), (fun _ => by omega), (fun _ => by omega), (fun _ => by omega), (fun _ => by omega), (fun _ => by omega), (fun _ => by omega), (fun _ => by omega), (fun _ => by omega), (fun _ => by omega)⟩
                have hF_146 := cF_up (a := a0 + 14) (k := x2.toNatClampNeg) (x := x4) hF_144 (by omega)
                refine cT_go (b_M_solvePages_127 s0 (by rw [t_in]; omega)) ?_
                refine cT_go b_M_solvePages_143 ?_
                first | have t_147 : (x4 + (nI 1)).toInt = (x4).toInt + ((nI 1)).toInt := t_addn (by omega) | obtain ⟨kt_147, t_147⟩ := t_add x4 (nI 1)
                have t_148 : ((cg_up (cg_up f (a0 + 13) x2.toNatClampNeg ((((f a0 1) - (x3 + y_20)) * ((f a0 1) - (x3 + y_20))) + (f (a0 + 13) (x2 + x4).toNatClampNeg))) (a0 + 14) x2.toNatClampNeg x4) (a0 + 13) x2.toNatClampNeg).toInt = ((cg_up f (a0 + 13) x2.toNatClampNeg ((((f a0 1) - (x3 + y_20)) * ((f a0 1) - (x3 + y_20))) + (f (a0 + 13) (x2 + x4).toNatClampNeg))) (a0 + 13) x2.toNatClampNeg).toInt := by rw [cg_up_o (by omega)]
                have t_149 : ((cg_up f (a0 + 13) x2.toNatClampNeg ((((f a0 1) - (x3 + y_20)) * ((f a0 1) - (x3 + y_20))) + (f (a0 + 13) (x2 + x4).toNatClampNeg))) (a0 + 13) x2.toNatClampNeg).toInt = ((((f a0 1) - (x3 + y_20)) * ((f a0 1) - (x3 + y_20))) + (f (a0 + 13) (x2 + x4).toNatClampNeg)).toInt := by rw [cg_up_s]
                have t_150 : ((cg_up (cg_up f (a0 + 13) x2.toNatClampNeg ((((f a0 1) - (x3 + y_20)) * ((f a0 1) - (x3 + y_20))) + (f (a0 + 13) (x2 + x4).toNatClampNeg))) (a0 + 14) x2.toNatClampNeg x4) (a0 + 14) x2.toNatClampNeg).toInt = (x4).toInt := by rw [cg_up_s]
                exact ih (by omega) hI_145 hF_146 s0 (by omega) (by omega) (by omega) (by omega) (by omega) (by omega) p3 p4 (fun j hj => by first | exact i4 j hj | (rw [cg_up_o (by omega), cg_up_k hj]; exact i4 j hj) | rw [cg_up_k hj]) (fun j hj => by first | exact i5 j hj | (rw [cg_up_k hj, cg_up_o (by omega)]; exact i5 j hj) | rw [cg_up_o (by omega)]) (by omega)
        · rw [t_eq] at c_103; try rw [t_0] at c_103
          refine cT_go b_M_solvePages_69 ?_
          have t_152 : 3 ≤ (f a0 1).toInt ∧ (f a0 1).toInt ≤ 30 := (cI_at hI 1 s0).2.1 rfl
          first | have t_153 : (x3 + y_20).toInt = (x3).toInt + (y_20).toInt := t_addn (by omega) | obtain ⟨kt_153, t_153⟩ := t_add x3 y_20
          refine cT_if (b_M_solvePages_96 s0) (fun c_151 => ?_) (fun c_151 => ?_)
          · rw [t_lt] at c_151; try rw [t_0] at c_151
            refine cT_go b_M_solvePages_143 ?_
            first | have t_154 : (x4 + (nI 1)).toInt = (x4).toInt + ((nI 1)).toInt := t_addn (by omega) | obtain ⟨kt_154, t_154⟩ := t_add x4 (nI 1)
            have tc_156 := t_cl x2
            have t_155 : -1 ≤ (f (a0 + 13) x2.toNatClampNeg).toInt ∧ (f (a0 + 13) x2.toNatClampNeg).toInt ≤ 78400 * ((901 - x2.toNatClampNeg : Nat) : Int) := (cI_at hI x2.toNatClampNeg (sc_7_21 s0)).2.2.2.2.2.2.2.2.2.2.1 (by omega)
            have t_157 := t_rng (f (a0 + 14) x2.toNatClampNeg)
            exact ih (by omega) hI hF s0 (by omega) (by omega) (by omega) (by omega) (by omega) (by omega) p3 p4 (fun j hj => by first | exact i4 j hj | (rw [cg_up_o (by omega), cg_up_k hj]; exact i4 j hj) | rw [cg_up_k hj]) (fun j hj => by first | exact i5 j hj | (rw [cg_up_k hj, cg_up_o (by omega)]; exact i5 j hj) | rw [cg_up_o (by omega)]) (by omega)
          · rw [t_lt] at c_151; try rw [t_0] at c_151
            have tc_160 := t_cl x2
            have t_159 : -1 ≤ (f (a0 + 13) x2.toNatClampNeg).toInt ∧ (f (a0 + 13) x2.toNatClampNeg).toInt ≤ 78400 * ((901 - x2.toNatClampNeg : Nat) : Int) := (cI_at hI x2.toNatClampNeg (sc_7_21 s0)).2.2.2.2.2.2.2.2.2.2.1 (by omega)
            have t_161 := t_neg1
            refine cT_if (b_M_solvePages_106 s0 (by rw [t_in]; omega)) (fun c_158 => ?_) (fun c_158 => ?_)
            · rw [t_eq] at c_158; try rw [t_0] at c_158
              have hI_162 := cI_up (k := x2.toNatClampNeg) (x := nI 0) hI (sc_7_21 s0) ⟨(fun _ => by omega), (fun _ => by omega), (fun _ => by omega), (fun _ => by omega), (fun _ => by omega), (fun _ => by omega), (fun _ => by omega), (fun _ => by omega), (fun _ => by omega), (fun _ => by omega), (fun _ => by omega), (fun _ => by omega), (fun _ => by omega)⟩
              have hF_163 := cF_up (a := a0 + 13) (k := x2.toNatClampNeg) (x := nI 0) hF (by omega)
              have hI_164 := cI_up (k := x2.toNatClampNeg) (x := x4) hI_162 (sc_7_22 s0) ⟨(fun _ => by omega), (fun _ => by omega), (fun _ => by omega), (fun _ => by omega), (fun _ => by omega), (fun _ => by omega), (fun _ => by omega), (fun _ => by omega), (fun _ => by omega), (fun _ => by omega), (fun _ => by omega), (fun _ => by omega), (fun _ => by omega)⟩
              have hF_165 := cF_up (a := a0 + 14) (k := x2.toNatClampNeg) (x := x4) hF_163 (by omega)
              refine cT_go (b_M_solvePages_127 s0 (by rw [t_in]; omega)) ?_
              refine cT_go b_M_solvePages_143 ?_
              first | have t_166 : (x4 + (nI 1)).toInt = (x4).toInt + ((nI 1)).toInt := t_addn (by omega) | obtain ⟨kt_166, t_166⟩ := t_add x4 (nI 1)
              have t_167 : ((cg_up (cg_up f (a0 + 13) x2.toNatClampNeg (nI 0)) (a0 + 14) x2.toNatClampNeg x4) (a0 + 13) x2.toNatClampNeg).toInt = ((cg_up f (a0 + 13) x2.toNatClampNeg (nI 0)) (a0 + 13) x2.toNatClampNeg).toInt := by rw [cg_up_o (by omega)]
              have t_168 : ((cg_up f (a0 + 13) x2.toNatClampNeg (nI 0)) (a0 + 13) x2.toNatClampNeg).toInt = (nI 0).toInt := by rw [cg_up_s]
              have t_169 : ((cg_up (cg_up f (a0 + 13) x2.toNatClampNeg (nI 0)) (a0 + 14) x2.toNatClampNeg x4) (a0 + 14) x2.toNatClampNeg).toInt = (x4).toInt := by rw [cg_up_s]
              exact ih (by omega) hI_164 hF_165 s0 (by omega) (by omega) (by omega) (by omega) (by omega) (by omega) p3 p4 (fun j hj => by first | exact i4 j hj | (rw [cg_up_o (by omega), cg_up_k hj]; exact i4 j hj) | rw [cg_up_k hj]) (fun j hj => by first | exact i5 j hj | (rw [cg_up_k hj, cg_up_o (by omega)]; exact i5 j hj) | rw [cg_up_o (by omega)]) (by omega)
            · rw [t_eq] at c_158; try rw [t_0] at c_158
              refine cT_if (b_M_solvePages_116 s0 (by rw [t_in]; omega)) (fun c_170 => ?_) (fun c_170 => ?_)
              · rw [t_le] at c_170; try rw [t_0] at c_170
                refine cT_go b_M_solvePages_143 ?_
                first | have t_171 : (x4 + (nI 1)).toInt = (x4).toInt + ((nI 1)).toInt := t_addn (by omega) | obtain ⟨kt_171, t_171⟩ := t_add x4 (nI 1)
                have t_172 := t_rng (f (a0 + 14) x2.toNatClampNeg)
                exact ih (by omega) hI hF s0 (by omega) (by omega) (by omega) (by omega) (by omega) (by omega) p3 p4 (fun j hj => by first | exact i4 j hj | (rw [cg_up_o (by omega), cg_up_k hj]; exact i4 j hj) | rw [cg_up_k hj]) (fun j hj => by first | exact i5 j hj | (rw [cg_up_k hj, cg_up_o (by omega)]; exact i5 j hj) | rw [cg_up_o (by omega)]) (by omega)
              · rw [t_le] at c_170; try rw [t_0] at c_170
                have hI_173 := cI_up (k := x2.toNatClampNeg) (x := nI 0) hI (sc_7_21 s0) ⟨(fun _ => by omega), (fun _ => by omega), (fun _ => by omega), (fun _ => by omega), (fun _ => by omega), (fun _ => by omega), (fun _ => by omega), (fun _ => by omega), (fun _ => by omega), (fun _ => by omega), (fun _ => by omega), (fun _ => by omega), (fun _ => by omega)⟩
                have hF_174 := cF_up (a := a0 + 13) (k := x2.toNatClampNeg) (x := nI 0) hF (by omega)
                have hI_175 := cI_up (k := x2.toNatClampNeg) (x := x4) hI_173 (sc_7_22 s0) ⟨(fun _ => by omega), (fun _ => by omega), (fun _ => by omega), (fun _ => by omega), (fun _ => by omega), (fun _ => by omega), (fun _ => by omega), (fun _ => by omega), (fun _ => by omega), (fun _ => by omega), (fun _ => by omega), (fun _ => by omega), (fun _ => by omega)⟩
                have hF_176 := cF_up (a := a0 + 14) (k := x2.toNatClampNeg) (x := x4) hF_174 (by omega)
                refine cT_go (b_M_solvePages_127 s0 (by rw [t_in]; omega)) ?_
                refine cT_go b_M_solvePages_143 ?_
                first | have t_177 : (x4 + (nI 1)).toInt = (x4).toInt + ((nI 1)).toInt := t_addn (by omega) | obtain ⟨kt_177, t_177⟩ := t_add x4 (nI 1)
                have t_178 : ((cg_up (cg_up f (a0 + 13) x2.toNatClampNeg (nI 0)) (a0 + 14) x2.toNatClampNeg x4) (a0 + 13) x2.toNatClampNeg).toInt = ((cg_up f (a0 + 13) x2.toNatClampNeg (nI 0)) (a0 + 13) x2.toNatClampNeg).toInt := by rw [cg_up_o (by omega)]
                have t_179 : ((cg_up f (a0 + 13) x2.toNatClampNeg (nI 0)) (a0 + 13) x2.toNatClampNeg).toInt = (nI 0).toInt := by rw [cg_up_s]
                have t_180 : ((cg_up (cg_up f (a0 + 13) x2.toNatClampNeg (nI 0)) (a0 + 14) x2.toNatClampNeg x4) (a0 + 14) x2.toNatClampNeg).toInt = (x4).toInt := by rw [cg_up_s]
                exact ih (by omega) hI_175 hF_176 s0 (by omega) (by omega) (by omega) (by omega) (by omega) (by omega) p3 p4 (fun j hj => by first | exact i4 j hj | (rw [cg_up_o (by omega), cg_up_k hj]; exact i4 j hj) | rw [cg_up_k hj]) (fun j hj => by first | exact i5 j hj | (rw [cg_up_k hj, cg_up_o (by omega)]; exact i5 j hj) | rw [cg_up_o (by omega)]) (by omega)
set_option maxHeartbeats 8000000 in
theorem c_M_solvePages {L : Nat} {f : cg_G} {e : Nat × Nat} {a0 : Nat} {x1 : Int32} {x2 : Int32} (hI : cI L f) (s0 : sh_ a0 = 7) (c1 : 0 ≤ x1.toInt ∧ x1.toInt ≤ 1) (p2 : 0 ≤ x2.toInt ∧ x2.toInt < (f (a0 + 23) x1.toNatClampNeg).toInt) (p3 : solved (f (a0 + 13)) (f (a0 + 14)) x2.toInt (f (a0 + 23) x1.toNatClampNeg).toInt) (p4 : hok (f (a0 + 25)) (f (a0 + 27)) (900 * x1.toInt) (f (a0 + 23) x1.toNatClampNeg).toInt (f a0 1).toInt) : cE 97 [.ref a0, .int x1, .int x2] L e (fun o => o = a0 + 13 ∨ o = a0 + 14) f (fun v f' => v = none ∧ (solved (f' (a0 + 13)) (f' (a0 + 14)) (x2.toInt - 1) (f (a0 + 23) x1.toNatClampNeg).toInt)) := by
  refine cE_of (ls := [.ref a0, .int x1, .int x2, (.retAddr 0), (.retAddr 0), (.retAddr 0), (.retAddr 0)]) rfl ?_
  have hF : cF (fun o => o = a0 + 13 ∨ o = a0 + 14) f f := cF_rf
  have hm := one_7 s0
  have t_181 := t_rng (x1)
  have t_182 := t_rng (x2)
  have t_183 : 3 ≤ (f a0 1).toInt ∧ (f a0 1).toInt ≤ 30 := (cI_at hI 1 s0).2.1 rfl
  have t_184 : 0 ≤ (f (a0 + 23) x1.toNatClampNeg).toInt ∧ (f (a0 + 23) x1.toNatClampNeg).toInt ≤ 900 := (cI_at hI x1.toNatClampNeg (sc_7_32 s0)).2.2.2.2.2.2.1 (by omega)
  have t_187 := t_neg1
  have tc_188 := t_cl x2
  have hI_185 := cI_up (k := x2.toNatClampNeg) (x := - nI 1) hI (sc_7_21 s0) ⟨(fun _ => by omega), (fun _ => by omega), (fun _ => by omega), (fun _ => by omega), (fun _ => by omega), (fun _ => by omega), (fun _ => by omega), (fun _ => by omega), (fun _ => by omega), (fun _ => by omega), (fun _ => by omega), (fun _ => by omega), (fun _ => by omega)⟩
  have hF_186 := cF_up (a := a0 + 13) (k := x2.toNatClampNeg) (x := - nI 1) hF (by omega)
  refine cT_go (b_M_solvePages_0 s0 (by rw [t_in]; omega)) ?_
  have t_189 : (nI 0).toInt = 0 := nI_toInt (by decide)
  have t_190 : (nI 1).toInt = 1 := nI_toInt (by decide)
  have t_191 : ((cg_up f (a0 + 13) x2.toNatClampNeg (- nI 1)) (a0 + 13) x2.toNatClampNeg).toInt = (- nI 1).toInt := by rw [cg_up_s]
  have t_192 : ((cg_up f (a0 + 13) x2.toNatClampNeg (- nI 1)) (a0 + 14) x2.toNatClampNeg).toInt = (f (a0 + 14) x2.toNatClampNeg).toInt := by rw [cg_up_o (by omega)]
  have t_193 := t_rng (f (a0 + 14) x2.toNatClampNeg)
  exact l_M_solvePages_12 ((910 - (nI 1).toInt).toNat + 1) (by omega) hI_185 hF_186 s0 (by omega) (by omega) (by omega) (by omega) (by omega) (by omega) p3 p4 (fun j hj => by first | exact i4 j hj | (rw [cg_up_o (by omega), cg_up_k hj]; exact i4 j hj) | rw [cg_up_k hj]) (fun j hj => by first | exact i5 j hj | (rw [cg_up_k hj, cg_up_o (by omega)]; exact i5 j hj) | rw [cg_up_o (by omega)]) (by omega)
