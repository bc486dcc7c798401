set_option maxHeartbeats 8000000 in
theorem l_M_pass_20 {L : Nat} {e : Nat × Nat} {f0 : cg_G} : ∀ (k : Nat) {f : cg_G} {a0 : Nat} {x1 : Int32} {x2 : Int32}, (8 - x2.toInt).toNat < k → cI L f → cF (fun o => o = a0 ∨ (a0 + 10 ≤ o ∧ o ≤ a0 + 14) ∨ o = a0 + 16 ∨ o = a0 + 17 ∨ (a0 + 19 ≤ o ∧ o ≤ a0 + 29)) f0 f → sh_ a0 = 7 → (0 ≤ x1.toInt ∧ x1.toInt ≤ 1) → (0 ≤ x2.toInt ∧ x2.toInt ≤ 8) → ((f (a0 + 23) x1.toNatClampNeg).toInt ≤ 112 * x2.toInt) → (WF f0) → (JL (f (a0 + 20)) (f (a0 + 21))) → (∀ k, k ≠ 16 → k ≠ 18 → f a0 k = f0 a0 k) → (hok (f (a0 + 25)) (f (a0 + 27)) (900 * x1.toInt) (f (a0 + 23) x1.toNatClampNeg).toInt (f0 a0 1).toInt) → cT 136 20 [.ref a0, .int x1, .int x2] [] L e (fun o => o = a0 ∨ (a0 + 10 ≤ o ∧ o ≤ a0 + 14) ∨ o = a0 + 16 ∨ o = a0 + 17 ∨ (a0 + 19 ≤ o ∧ o ≤ a0 + 29)) f0 f (fun v f' => ∃ x : Int32, v = some (.int x) ∧ (JL (f' (a0 + 20)) (f' (a0 + 21)) ∧ ∀ k, k ≠ 16 → k ≠ 18 → f' a0 k = f0 a0 k)) := by
  intro k
  induction k with
  | zero => intro f a0 x1 x2 hm; omega
  | succ k ih =>
    intro f a0 x1 x2 hme hI hF s0 c1 i2 ku wf jl ik hk
    have hm := one_7 s0
    have e8 : (f a0 8).toInt = (f0 a0 8).toInt := by rw [ik 8 (by decide) (by decide)]
    have e1 : f a0 1 = f0 a0 1 := ik 1 (by decide) (by decide)
    have t_1 := t_rng (x1)
    have t_2 := t_rng (x2)
    have t_4 : 0 ≤ (f a0 8).toInt ∧ (f a0 8).toInt ≤ 8 := (cI_at hI 8 s0).2.2.2.2.2.1 rfl
    refine cT_if (b_M_pass_20 s0) (fun c_3 => ?_) (fun c_3 => ?_)
    · rw [t_le] at c_3; try rw [t_0] at c_3
      refine cT_call (b_M_pass_59 s0) (c_M_turn hI s0 (by first | omega | assumption | exact sl_4_4 (by assumption)) (by rw [e1]; exact hk)) hF (fun o ho => by omega) (fun v_5 f_6 hI_7 hG_8 hF_9 hQ_10 => ?_)
      obtain ⟨rfl, hQ_10⟩ := hQ_10
      have jl1 : JL (f_6 (a0 + 20)) (f_6 (a0 + 21)) := by rw [hG_8 (a0 + 20) (by omega), hG_8 (a0 + 21) (by omega)]; exact jl
      have ik1 : ∀ k, k ≠ 16 → k ≠ 18 → f_6 a0 k = f0 a0 k := fun k h1 h2 => (congrFun (hG_8 a0 (by omega)) k).trans (ik k h1 h2)
      show cT 136 64 [.ref a0, .int x1, .int x2] [] _ _ _ _ _ _
      have t_12 := t_neg1
      exact cT_ret b_M_pass_64 hI_7 hF_9 ⟨_, rfl, ⟨by first | exact jl3 | exact jl2 | exact jl1 | exact jl, by first | exact ik3 | exact ik2 | exact ik1 | exact ik⟩⟩
    · rw [t_le] at c_3; try rw [t_0] at c_3
      refine cT_call (b_M_pass_28 s0) (c_M_printAll hI s0 (by first | omega | assumption | exact sl_4_4 (by assumption)) (WF_at wf hm (hF (a0 + 2) (by omega)) (hF (a0 + 3) (by omega)) (hF (a0 + 4) (by omega)) (by omega) (by omega))) hF (fun o ho => by omega) (fun v_13 f_14 hI_15 hG_16 hF_17 hQ_18 => ?_)
      obtain ⟨rfl, hQ_18⟩ := hQ_18
      have jl1 : JL (f_14 (a0 + 20)) (f_14 (a0 + 21)) := by rw [hG_16 (a0 + 20) (by omega), hG_16 (a0 + 21) (by omega)]; exact jl
      have ik1 : ∀ k, k ≠ 16 → k ≠ 18 → f_14 a0 k = f0 a0 k := fun k h1 h2 => (hQ_18.2 k h1).trans (ik k h1 h2)
      have hk1 : hok (f_14 (a0 + 25)) (f_14 (a0 + 27)) (900 * x1.toInt) (f_14 (a0 + 23) x1.toNatClampNeg).toInt (f0 a0 1).toInt := hok_fr hk (hG_16 (a0 + 25) (by omega)) (hG_16 (a0 + 27) (by omega)) (by rw [hG_16 (a0 + 23) (by omega)])
      have g_20 : (f_14 (a0 + 23) x1.toNatClampNeg).toInt = (f (a0 + 23) x1.toNatClampNeg).toInt := by rw [hG_16 (a0 + 23) (by omega)]
      have g_21 : (f_14 a0 8).toInt = (f0 a0 8).toInt := by rw [ik1 8 (by decide) (by decide)]
      show cT 136 33 [.ref a0, .int x1, .int x2] [] _ _ _ _ _ _
      refine cT_call (b_M_pass_33 s0) (c_M_lay hI_15 s0 (by first | omega | assumption | exact sl_4_4 (by assumption)) (by first | omega | assumption | exact sl_4_4 (by assumption)) (by first | omega | assumption | exact sl_4_4 (by assumption)) (by first | exact jl1 | exact jl)) hF_17 (fun o ho => by omega) (fun v_22 f_23 hI_24 hG_25 hF_26 hQ_27 => ?_)
      obtain ⟨y_28, rfl, hb_29, hQ_27⟩ := hQ_27
      have hb_29r := t_b01 hb_29
      have jl2 : JL (f_23 (a0 + 20)) (f_23 (a0 + 21)) := hQ_27.1
      have ik2 : ∀ k, k ≠ 16 → k ≠ 18 → f_23 a0 k = f0 a0 k := fun k h1 h2 => (hQ_27.2 k h2).trans (ik1 k h1 h2)
      have hk1 : hok (f_23 (a0 + 25)) (f_23 (a0 + 27)) (900 * x1.toInt) (f_23 (a0 + 23) x1.toNatClampNeg).toInt (f0 a0 1).toInt := hok_fr hk1 (hG_25 (a0 + 25) (by omega)) (hG_25 (a0 + 27) (by omega)) (by rw [hG_25 (a0 + 23) (by omega)])
      have g_30 : (f_23 (a0 + 23) x1.toNatClampNeg).toInt = (f_14 (a0 + 23) x1.toNatClampNeg).toInt := by rw [hG_25 (a0 + 23) (by omega)]
      have e1b : f_23 a0 1 = f0 a0 1 := ik2 1 (by decide) (by decide)
      show cT 136 39 [.ref a0, .int x1, .int x2] [.int y_28] _ _ _ _ _ _
      refine cT_if b_M_pass_39 (fun c_31 => ?_) (fun c_31 => ?_)
      · rw [t_eq] at c_31; try rw [t_0] at c_31
        exact cT_ret b_M_pass_51 hI_24 hF_26 ⟨_, rfl, ⟨by first | exact jl3 | exact jl2 | exact jl1 | exact jl, by first | exact ik3 | exact ik2 | exact ik1 | exact ik⟩⟩
      · rw [t_eq] at c_31; try rw [t_0] at c_31
        refine cT_call (b_M_pass_42 s0) (c_M_part hI_24 s0 (by first | omega | assumption | exact sl_4_4 (by assumption)) (by first | omega | assumption | exact sl_4_4 (by assumption)) (by first | omega | assumption | exact sl_4_4 (by assumption)) (by rw [e1b]; exact hk1)) hF_26 (fun o ho => by omega) (fun v_33 f_34 hI_35 hG_36 hF_37 hQ_38 => ?_)
        obtain ⟨y_39, rfl, hb_40, hQ_38⟩ := hQ_38
        have hb_40r := t_b01 hb_40
        have jl3 : JL (f_34 (a0 + 20)) (f_34 (a0 + 21)) := by rw [hG_36 (a0 + 20) (by omega), hG_36 (a0 + 21) (by omega)]; exact jl2
        have ik3 : ∀ k, k ≠ 16 → k ≠ 18 → f_34 a0 k = f0 a0 k := fun k h1 h2 => (congrFun (hG_36 a0 (by omega)) k).trans (ik2 k h1 h2)
        have hq : _ := hQ_38
        have g_41 : (f_34 (a0 + 23) x1.toNatClampNeg).toInt ≤ 112 * x2.toInt + 112 := hq.1
        show cT 136 48 [.ref a0, .int x1, .int x2] [.int y_39] _ _ _ _ _ _
        refine cT_if b_M_pass_48 (fun c_42 => ?_) (fun c_42 => ?_)
        · rw [t_eq] at c_42; try rw [t_0] at c_42
          exact cT_ret b_M_pass_51 hI_35 hF_37 ⟨_, rfl, ⟨by first | exact jl3 | exact jl2 | exact jl1 | exact jl, by first | exact ik3 | exact ik2 | exact ik1 | exact ik⟩⟩
        · rw [t_eq] at c_42; try rw [t_0] at c_42
          refine cT_go b_M_pass_53 ?_
          have t_44 : (nI 1).toInt = 1 := nI_toInt (by decide)
          first | have t_43 : (x2 + (nI 1)).toInt = (x2).toInt + ((nI 1)).toInt := t_addn (by omega) | obtain ⟨kt_43, t_43⟩ := t_add x2 (nI 1)
          have t_45 : 0 ≤ (f_34 (a0 + 23) x1.toNatClampNeg).toInt ∧ (f_34 (a0 + 23) x1.toNatClampNeg).toInt ≤ 900 := (cI_at hI_35 x1.toNatClampNeg (sc_7_32 s0)).2.2.2.2.2.2.1 (by omega)
          exact ih (by omega) hI_35 hF_37 s0 (by omega) (by omega) (by omega) wf jl3 ik3 (by rw [← e1b]; exact hq.2 (by omega))
set_option maxHeartbeats 8000000 in
theorem c_M_pass {L : Nat} {f : cg_G} {e : Nat × Nat} {a0 : Nat} {x1 : Int32} (hI : cI L f) (s0 : sh_ a0 = 7) (c1 : 0 ≤ x1.toInt ∧ x1.toInt ≤ 1) (wf : WF f) (jl : JL (f (a0 + 20)) (f (a0 + 21))) : cE 136 [.ref a0, .int x1] L e (fun o => o = a0 ∨ (a0 + 10 ≤ o ∧ o ≤ a0 + 14) ∨ o = a0 + 16 ∨ o = a0 + 17 ∨ (a0 + 19 ≤ o ∧ o ≤ a0 + 29)) f (fun v f' => ∃ x : Int32, v = some (.int x) ∧ (JL (f' (a0 + 20)) (f' (a0 + 21)) ∧ ∀ k, k ≠ 16 → k ≠ 18 → f' a0 k = f a0 k)) := by
  refine cE_of (ls := [.ref a0, .int x1, (.retAddr 0)]) rfl ?_
  have hF : cF (fun o => o = a0 ∨ (a0 + 10 ≤ o ∧ o ≤ a0 + 14) ∨ o = a0 + 16 ∨ o = a0 + 17 ∨ (a0 + 19 ≤ o ∧ o ≤ a0 + 29)) f f := cF_rf
  have hm := one_7 s0
  have t_46 := t_rng (x1)
  have t_47 : 0 ≤ (f a0 8).toInt ∧ (f a0 8).toInt ≤ 8 := (cI_at hI 8 s0).2.2.2.2.2.1 rfl
  have t_50 : (nI 0).toInt = 0 := nI_toInt (by decide)
  have hI_48 := cI_up (k := x1.toNatClampNeg) (x := nI 0) hI (sc_7_32 s0) ⟨(fun _ => by omega), (fun _ => by omega), (fun _ => by omega), (fun _ => by omega), (fun _ => by omega), (fun _ => by omega), (fun _ => by omega), (fun _ => by omega), (fun _ => by omega), (fun _ => by omega), (fun _ => by omega), (fun _ => by omega), (fun _ => by omega)⟩
  have hF_49 := cF_up (a := a0 + 23) (k := x1.toNatClampNeg) (x := nI 0) hF (by omega)
  have hI_51 := cI_up (k := (((nI 5) * x1) + (nI 3)).toNatClampNeg) (x := nI 0) hI_48 (sc_7_25 s0) ⟨(fun _ => by omega), (fun _ => by omega), (fun _ => by omega), (fun _ => by omega), (fun _ => by omega), (fun _ => by omega), (fun _ => by omega), (fun _ => by omega), (fun _ => by omega), (fun _ => by omega), (fun _ => by omega), (fun _ => by omega), (fun _ => by omega)⟩
  have hF_52 := cF_up (a := a0 + 16) (k := (((nI 5) * x1) + (nI 3)).toNatClampNeg) (x := nI 0) hF_49 (by omega)
  have t_55 : (nI 5).toInt = 5 := nI_toInt (by decide)
  first | have t_54 : (((nI 5)) * x1).toInt = 5 * (x1).toInt := t_mulc (by decide) (by omega) | (obtain ⟨kt_54, t_54⟩ := t_mul ((nI 5)) x1; rw [nI_toInt (show 5 < 2 ^ 31 by decide)] at t_54)
  have t_56 : (nI 3).toInt = 3 := nI_toInt (by decide)
  first | have t_53 : ((((nI 5) * x1)) + ((nI 3))).toInt = ((((nI 5) * x1))).toInt + (((nI 3))).toInt := t_addn (by omega) | obtain ⟨kt_53, t_53⟩ := t_add (((nI 5) * x1)) ((nI 3))
  refine cT_go (b_M_pass_0 s0 (by rw [t_in]; omega) (by rw [t_in]; omega)) ?_
  have t_57 : ((cg_up (cg_up f (a0 + 23) x1.toNatClampNeg (nI 0)) (a0 + 16) (((nI 5) * x1) + (nI 3)).toNatClampNeg (nI 0)) (a0 + 23) x1.toNatClampNeg).toInt = ((cg_up f (a0 + 23) x1.toNatClampNeg (nI 0)) (a0 + 23) x1.toNatClampNeg).toInt := by rw [cg_up_o (by omega)]
  have t_58 : ((cg_up f (a0 + 23) x1.toNatClampNeg (nI 0)) (a0 + 23) x1.toNatClampNeg).toInt = (nI 0).toInt := by rw [cg_up_s]
  exact l_M_pass_20 ((8 - (nI 0).toInt).toNat + 1) (by omega) hI_51 hF_52 s0 (by omega) (by omega) (by omega) wf (by simp (disch := omega) only [cg_up_o]; exact jl) (fun k h1 h2 => by rw [cg_up_o (by omega), cg_up_o (by omega)]) (fun u h1 h2 => by omega)
set_option maxHeartbeats 8000000 in
theorem l_M_run_76 {L : Nat} {e : Nat × Nat} {f0 : cg_G} : ∀ (k : Nat) {f : cg_G} {a0 : Nat} {x1 : Int32} {x2 : Int32} {x3 : Int32} {u4 : Value}, (5 - x2.toInt).toNat < k → cI L f → cF (fun o => o = a0 ∨ (a0 + 10 ≤ o ∧ o ≤ a0 + 29)) f0 f → sh_ a0 = 7 → (0 ≤ x1.toInt ∧ x1.toInt ≤ 1) → (0 ≤ x2.toInt) → (0 ≤ x3.toInt ∧ x3.toInt ≤ 1) → (WF f0) → (JL (f (a0 + 20)) (f (a0 + 21))) → (∀ k, k ≠ 2 → k ≠ 16 → k ≠ 18 → k ≠ 23 → f a0 k = f0 a0 k) → cT 142 76 [.ref a0, .int x1, .int x2, .int x3, u4] [] L e (fun o => o = a0 ∨ (a0 + 10 ≤ o ∧ o ≤ a0 + 29)) f0 f (fun v f' => ∃ x : Int32, v = some (.int x) ∧ (JL (f' (a0 + 20)) (f' (a0 + 21)) ∧ ∀ k, k ≠ 2 → k ≠ 16 → k ≠ 18 → k ≠ 23 → f' a0 k = f0 a0 k)) := by
  intro k
  induction k with
  | zero => intro f a0 x1 x2 x3 u4 hm; omega
  | succ k ih =>
    intro f a0 x1 x2 x3 u4 hme hI hF s0 c1 i2 i3 wf jl ik
    have hm := one_7 s0
    have t_1 := t_rng (x1)
    have t_2 := t_rng (x2)
    have t_3 := t_rng (x3)
    have t_5 : (nI 5).toInt = 5 := nI_toInt (by decide)
    refine cT_if b_M_run_76 (fun c_4 => ?_) (fun c_4 => ?_)
    · rw [t_le] at c_4; try rw [t_0] at c_4
      have hI_6 := cI_up (k := (((nI 5) * x1) + (nI 1)).toNatClampNeg) (x := x2) hI (sc_7_25 s0) ⟨(fun _ => by omega), (fun _ => by omega), (fun _ => by omega), (fun _ => by omega), (fun _ => by omega), (fun _ => by omega), (fun _ => by omega), (fun _ => by omega), (fun _ => by omega), (fun _ => by omega), (fun _ => by omega), (fun _ => by omega), (fun _ => by omega)⟩
      have hF_7 := cF_up (a := a0 + 16) (k := (((nI 5) * x1) + (nI 1)).toNatClampNeg) (x := x2) hF (by omega)
      first | have t_9 : (((nI 5)) * x1).toInt = 5 * (x1).toInt := t_mulc (by decide) (by omega) | (obtain ⟨kt_9, t_9⟩ := t_mul ((nI 5)) x1; rw [nI_toInt (show 5 < 2 ^ 31 by decide)] at t_9)
      have t_10 : (nI 1).toInt = 1 := nI_toInt (by decide)
      first | have t_8 : ((((nI 5) * x1)) + ((nI 1))).toInt = ((((nI 5) * x1))).toInt + (((nI 1))).toInt := t_addn (by omega) | obtain ⟨kt_8, t_8⟩ := t_add (((nI 5) * x1)) ((nI 1))
      refine cT_if (b_M_run_116 s0 (by rw [t_in]; omega)) (fun c_11 => ?_) (fun c_11 => ?_)
      · rw [t_eq] at c_11; try rw [t_0] at c_11
        refine cT_go b_M_run_144 ?_
        have hI_13 := cI_up (k := (((nI 5) * x1) + (nI 2)).toNatClampNeg) (x := nI 0) hI_6 (sc_7_25 s0) ⟨(fun _ => by omega), (fun _ => by omega), (fun _ => by omega), (fun _ => by omega), (fun _ => by omega), (fun _ => by omega), (fun _ => by omega), (fun _ => by omega), (fun _ => by omega), (fun _ => by omega), (fun _ => by omega), (fun _ => by omega), (fun _ => by omega)⟩
        have hF_14 := cF_up (a := a0 + 16) (k := (((nI 5) * x1) + (nI 2)).toNatClampNeg) (x := nI 0) hF_7 (by omega)
        have t_17 : ((cg_up (cg_up f (a0 + 16) (((nI 5) * x1) + (nI 1)).toNatClampNeg x2) (a0 + 16) (((nI 5) * x1) + (nI 2)).toNatClampNeg (nI 0)) a0 8).toInt = ((cg_up f (a0 + 16) (((nI 5) * x1) + (nI 1)).toNatClampNeg x2) a0 8).toInt := by rw [cg_up_o (ne_sh s0 (sc_7_25 s0) (by decide))]
        have t_18 : ((cg_up f (a0 + 16) (((nI 5) * x1) + (nI 1)).toNatClampNeg x2) a0 8).toInt = (f a0 8).toInt := by rw [cg_up_o (ne_sh s0 (sc_7_25 s0) (by decide))]
        have t_19 : 0 ≤ (f a0 8).toInt ∧ (f a0 8).toInt ≤ 8 := (cI_at hI 8 s0).2.2.2.2.2.1 rfl
        have hI_15 := cI_up (k := x1.toNatClampNeg) (x := (cg_up (cg_up f (a0 + 16) (((nI 5) * x1) + (nI 1)).toNatClampNeg x2) (a0 + 16) (((nI 5) * x1) + (nI 2)).toNatClampNeg (nI 0)) a0 8) hI_13 (sc_7_24 s0) ⟨(fun _ => by omega), (fun _ => by omega), (fun _ => by omega), (fun _ => by omega), (fun _ => by omega), (fun _ => by omega), (fun _ => by omega), (fun _ => by omega), (fun _ => by omega), (fun _ => by omega), (fun _ => by omega), (fun _ => by omega), (fun _ => by omega)⟩
        have hF_16 := cF_up (a := a0 + 15) (k := x1.toNatClampNeg) (x := (cg_up (cg_up f (a0 + 16) (((nI 5) * x1) + (nI 1)).toNatClampNeg x2) (a0 + 16) (((nI 5) * x1) + (nI 2)).toNatClampNeg (nI 0)) a0 8) hF_14 (by omega)
        have hI_20 := cI_up (k := 23) (x := x1) hI_15 s0 ⟨(fun h => absurd h (by decide)), (fun h => absurd h (by decide)), (fun h => absurd h (by decide)), (fun h => absurd h (by decide)), (fun h => absurd h (by decide)), (fun h => absurd h (by decide)), (fun h => absurd h (by decide)), (fun h => absurd h (by decide)), (fun h => absurd h (by decide)), (fun _ => by omega)⟩
        have hF_21 := cF_up (a := a0) (k := 23) (x := x1) hF_16 (by omega)
        have t_23 : (nI 2).toInt = 2 := nI_toInt (by decide)
        first | have t_22 : ((((nI 5) * x1)) + ((nI 2))).toInt = ((((nI 5) * x1))).toInt + (((nI 2))).toInt := t_addn (by omega) | obtain ⟨kt_22, t_22⟩ := t_add (((nI 5) * x1)) ((nI 2))
        have t_24 : ((cg_up (cg_up (cg_up (cg_up f (a0 + 16) (((nI 5) * x1) + (nI 1)).toNatClampNeg x2) (a0 + 16) (((nI 5) * x1) + (nI 2)).toNatClampNeg (nI 0)) (a0 + 15) x1.toNatClampNeg ((cg_up (cg_up f (a0 + 16) (((nI 5) * x1) + (nI 1)).toNatClampNeg x2) (a0 + 16) (((nI 5) * x1) + (nI 2)).toNatClampNeg (nI 0)) a0 8)) a0 23 x1) (a0 + 16) ((nI 5) * x1).toNatClampNeg).toInt = ((cg_up (cg_up (cg_up f (a0 + 16) (((nI 5) * x1) + (nI 1)).toNatClampNeg x2) (a0 + 16) (((nI 5) * x1) + (nI 2)).toNatClampNeg (nI 0)) (a0 + 15) x1.toNatClampNeg ((cg_up (cg_up f (a0 + 16) (((nI 5) * x1) + (nI 1)).toNatClampNeg x2) (a0 + 16) (((nI 5) * x1) + (nI 2)).toNatClampNeg (nI 0)) a0 8)) (a0 + 16) ((nI 5) * x1).toNatClampNeg).toInt := by rw [cg_up_o (ne_sh (sc_7_25 s0) s0 (by decide))]
        have t_25 : ((cg_up (cg_up (cg_up f (a0 + 16) (((nI 5) * x1) + (nI 1)).toNatClampNeg x2) (a0 + 16) (((nI 5) * x1) + (nI 2)).toNatClampNeg (nI 0)) (a0 + 15) x1.toNatClampNeg ((cg_up (cg_up f (a0 + 16) (((nI 5) * x1) + (nI 1)).toNatClampNeg x2) (a0 + 16) (((nI 5) * x1) + (nI 2)).toNatClampNeg (nI 0)) a0 8)) (a0 + 16) ((nI 5) * x1).toNatClampNeg).toInt = ((cg_up (cg_up f (a0 + 16) (((nI 5) * x1) + (nI 1)).toNatClampNeg x2) (a0 + 16) (((nI 5) * x1) + (nI 2)).toNatClampNeg (nI 0)) (a0 + 16) ((nI 5) * x1).toNatClampNeg).toInt := by rw [cg_up_o (by omega)]
        have tc_27 := t_cl ((nI 5) * x1)
        have tc_28 := t_cl (((nI 5) * x1) + (nI 2))
        have t_29 : (nI 0).toInt = 0 := nI_toInt (by decide)
        have tc_31 := t_cl (((nI 5) * x1) + (nI 1))
        have t_32 := t_rng (f (a0 + 16) ((nI 5) * x1).toNatClampNeg)
        have t_30 := t_upc (f := f) (a := (a0 + 16)) (K := (((nI 5) * x1) + (nI 1)).toNatClampNeg) (k := ((nI 5) * x1).toNatClampNeg) (x := x2)
        have t_26 := t_upc (f := (cg_up f (a0 + 16) (((nI 5) * x1) + (nI 1)).toNatClampNeg x2)) (a := (a0 + 16)) (K := (((nI 5) * x1) + (nI 2)).toNatClampNeg) (k := ((nI 5) * x1).toNatClampNeg) (x := (nI 0))
        exact cT_ret (b_M_run_145 (sc_7_25 s0) (by rw [sl_7_25 s0, t_in]; omega) (by omega) s0 (by rw [t_in]; omega) (by rw [t_in]; omega)) hI_20 hF_21 ⟨_, rfl, ⟨by first | exact jl1 | exact jl | (simp (disch := omega) only [cg_up_o]; exact jl), by first | exact ik1 | exact ik | exact fun k h1 h2 h3 h4 => by repeat (first | exact ik k h1 h2 h3 h4 | rw [cg_up_k h4] | rw [cg_up_o (by omega)])⟩⟩
      · rw [t_eq] at c_11; try rw [t_0] at c_11
        refine cT_go b_M_run_140 ?_
        have hI_33 := cI_up (k := (((nI 5) * x1) + (nI 2)).toNatClampNeg) (x := nI 1) hI_6 (sc_7_25 s0) ⟨(fun _ => by omega), (fun _ => by omega), (fun _ => by omega), (fun _ => by omega), (fun _ => by omega), (fun _ => by omega), (fun _ => by omega), (fun _ => by omega), (fun _ => by omega), (fun _ => by omega), (fun _ => by omega), (fun _ => by omega), (fun _ => by omega)⟩
        have hF_34 := cF_up (a := a0 + 16) (k := (((nI 5) * x1) + (nI 2)).toNatClampNeg) (x := nI 1) hF_7 (by omega)
        have t_37 : ((cg_up (cg_up f (a0 + 16) (((nI 5) * x1) + (nI 1)).toNatClampNeg x2) (a0 + 16) (((nI 5) * x1) + (nI 2)).toNatClampNeg (nI 1)) a0 8).toInt = ((cg_up f (a0 + 16) (((nI 5) * x1) + (nI 1)).toNatClampNeg x2) a0 8).toInt := by rw [cg_up_o (ne_sh s0 (sc_7_25 s0) (by decide))]
        have t_38 : ((cg_up f (a0 + 16) (((nI 5) * x1) + (nI 1)).toNatClampNeg x2) a0 8).toInt = (f a0 8).toInt := by rw [cg_up_o (ne_sh s0 (sc_7_25 s0) (by decide))]
        have t_39 : 0 ≤ (f a0 8).toInt ∧ (f a0 8).toInt ≤ 8 := (cI_at hI 8 s0).2.2.2.2.2.1 rfl
        have hI_35 := cI_up (k := x1.toNatClampNeg) (x := (cg_up (cg_up f (a0 + 16) (((nI 5) * x1) + (nI 1)).toNatClampNeg x2) (a0 + 16) (((nI 5) * x1) + (nI 2)).toNatClampNeg (nI 1)) a0 8) hI_33 (sc_7_24 s0) ⟨(fun _ => by omega), (fun _ => by omega), (fun _ => by omega), (fun _ => by omega), (fun _ => by omega), (fun _ => by omega), (fun _ => by omega), (fun _ => by omega), (fun _ => by omega), (fun _ => by omega), (fun _ => by omega), (fun _ => by omega), (fun _ => by omega)⟩
        have hF_36 := cF_up (a := a0 + 15) (k := x1.toNatClampNeg) (x := (cg_up (cg_up f (a0 + 16) (((nI 5) * x1) + (nI 1)).toNatClampNeg x2) (a0 + 16) (((nI 5) * x1) + (nI 2)).toNatClampNeg (nI 1)) a0 8) hF_34 (by omega)
        have hI_40 := cI_up (k := 23) (x := x1) hI_35 s0 ⟨(fun h => absurd h (by decide)), (fun h => absurd h (by decide)), (fun h => absurd h (by decide)), (fun h => absurd h (by decide)), (fun h => absurd h (by decide)), (fun h => absurd h (by decide)), (fun h => absurd h (by decide)), (fun h => absurd h (by decide)), (fun h => absurd h (by decide)), (fun _ => by omega)⟩
        have hF_41 := cF_up (a := a0) (k := 23) (x := x1) hF_36 (by omega)
        have t_43 : (nI 2).toInt = 2 := nI_toInt (by decide)
        first | have t_42 : ((((nI 5) * x1)) + ((nI 2))).toInt = ((((nI 5) * x1))).toInt + (((nI 2))).toInt := t_addn (by omega) | obtain ⟨kt_42, t_42⟩ := t_add (((nI 5) * x1)) ((nI 2))
        have t_44 : ((cg_up (cg_up (cg_up (cg_up f (a0 + 16) (((nI 5) * x1) + (nI 1)).toNatClampNeg x2) (a0 + 16) (((nI 5) * x1) + (nI 2)).toNatClampNeg (nI 1)) (a0 + 15) x1.toNatClampNeg ((cg_up (cg_up f (a0 + 16) (((nI 5) * x1) + (nI 1)).toNatClampNeg x2) (a0 + 16) (((nI 5) * x1) + (nI 2)).toNatClampNeg (nI 1)) a0 8)) a0 23 x1) (a0 + 16) ((nI 5) * x1).toNatClampNeg).toInt = ((cg_up (cg_up (cg_up f (a0 + 16) (((nI 5) * x1) + (nI 1)).toNatClampNeg x2) (a0 + 16) (((nI 5) * x1) + (nI 2)).toNatClampNeg (nI 1)) (a0 + 15) x1.toNatClampNeg ((cg_up (cg_up f (a0 + 16) (((nI 5) * x1) + (nI 1)).toNatClampNeg x2) (a0 + 16) (((nI 5) * x1) + (nI 2)).toNatClampNeg (nI 1)) a0 8)) (a0 + 16) ((nI 5) * x1).toNatClampNeg).toInt := by rw [cg_up_o (ne_sh (sc_7_25 s0) s0 (by decide))]
        have t_45 : ((cg_up (cg_up (cg_up f (a0 + 16) (((nI 5) * x1) + (nI 1)).toNatClampNeg x2) (a0 + 16) (((nI 5) * x1) + (nI 2)).toNatClampNeg (nI 1)) (a0 + 15) x1.toNatClampNeg ((cg_up (cg_up f (a0 + 16) (((nI 5) * x1) + (nI 1)).toNatClampNeg x2) (a0 + 16) (((nI 5) * x1) + (nI 2)).toNatClampNeg (nI 1)) a0 8)) (a0 + 16) ((nI 5) * x1).toNatClampNeg).toInt = ((cg_up (cg_up f (a0 + 16) (((nI 5) * x1) + (nI 1)).toNatClampNeg x2) (a0 + 16) (((nI 5) * x1) + (nI 2)).toNatClampNeg (nI 1)) (a0 + 16) ((nI 5) * x1).toNatClampNeg).toInt := by rw [cg_up_o (by omega)]
        have tc_47 := t_cl ((nI 5) * x1)
        have tc_48 := t_cl (((nI 5) * x1) + (nI 2))
        have tc_50 := t_cl (((nI 5) * x1) + (nI 1))
        have t_51 := t_rng (f (a0 + 16) ((nI 5) * x1).toNatClampNeg)
        have t_49 := t_upc (f := f) (a := (a0 + 16)) (K := (((nI 5) * x1) + (nI 1)).toNatClampNeg) (k := ((nI 5) * x1).toNatClampNeg) (x := x2)
        have t_46 := t_upc (f := (cg_up f (a0 + 16) (((nI 5) * x1) + (nI 1)).toNatClampNeg x2)) (a := (a0 + 16)) (K := (((nI 5) * x1) + (nI 2)).toNatClampNeg) (k := ((nI 5) * x1).toNatClampNeg) (x := (nI 1))
        exact cT_ret (b_M_run_145 (sc_7_25 s0) (by rw [sl_7_25 s0, t_in]; omega) (by omega) s0 (by rw [t_in]; omega) (by rw [t_in]; omega)) hI_40 hF_41 ⟨_, rfl, ⟨by first | exact jl1 | exact jl | (simp (disch := omega) only [cg_up_o]; exact jl), by first | exact ik1 | exact ik | exact fun k h1 h2 h3 h4 => by repeat (first | exact ik k h1 h2 h3 h4 | rw [cg_up_k h4] | rw [cg_up_o (by omega)])⟩⟩
    · rw [t_le] at c_4; try rw [t_0] at c_4
      refine cT_if b_M_run_81 (fun c_52 => ?_) (fun c_52 => ?_)
      · rw [t_eq] at c_52; try rw [t_0] at c_52
        refine cT_call (b_M_run_85 s0) (c_M_pass hI s0 (by first | omega | assumption | exact sl_4_4 (by assumption)) (WF_fr wf (by subst hm; exact ik 8 (by decide) (by decide) (by decide) (by decide)) (by subst hm; exact hF 208 (by omega)) (by subst hm; exact hF 209 (by omega)) (by subst hm; exact hF 210 (by omega))) jl) hF (fun o ho => by omega) (fun v_54 f_55 hI_56 hG_57 hF_58 hQ_59 => ?_)
        obtain ⟨y_60, rfl, hQ_59⟩ := hQ_59
        have hQ_59r := t_rng y_60
        have jl1 : JL (f_55 (a0 + 20)) (f_55 (a0 + 21)) := hQ_59.1
        have ik1 : ∀ k, k ≠ 2 → k ≠ 16 → k ≠ 18 → k ≠ 23 → f_55 a0 k = f0 a0 k := fun k h1 h2 h3 h4 => (hQ_59.2 k h2 h3).trans (ik k h1 h2 h3 h4)
        show cT 142 90 [.ref a0, .int x1, .int x2, .int x3, u4] [.int y_60] _ _ _ _ _ _
        have t_62 := t_neg1
        refine cT_if b_M_run_90 (fun c_61 => ?_) (fun c_61 => ?_)
        · rw [t_eq] at c_61; try rw [t_0] at c_61
          refine cT_call (b_M_run_104 s0) (c_M_settles hI_56 s0 (by first | omega | assumption | exact sl_4_4 (by assumption))) hF_58 (fun o ho => by omega) (fun v_63 f_64 hI_65 hG_66 hF_67 hQ_68 => ?_)
          obtain ⟨y_69, rfl, hb_70, hQ_68⟩ := hQ_68
          have hb_70r := t_b01 hb_70
          have jl2 : JL (f_64 (a0 + 20)) (f_64 (a0 + 21)) := by rw [hG_66 (a0 + 20) (by omega), hG_66 (a0 + 21) (by omega)]; exact jl1
          have ik2 : ∀ k, k ≠ 2 → k ≠ 16 → k ≠ 18 → k ≠ 23 → f_64 a0 k = f0 a0 k := fun k h1 h2 h3 h4 => (congrFun (hG_66 a0 (by omega)) k).trans (ik1 k h1 h2 h3 h4)
          show cT 142 109 [.ref a0, .int x1, .int x2, .int x3, .int y_60] [.int y_69] _ _ _ _ _ _
          refine cT_go b_M_run_109 ?_
          have t_72 : (nI 1).toInt = 1 := nI_toInt (by decide)
          first | have t_71 : (x2 + (nI 1)).toInt = (x2).toInt + ((nI 1)).toInt := t_addn (by omega) | obtain ⟨kt_71, t_71⟩ := t_add x2 (nI 1)
          exact ih (by omega) hI_65 hF_67 s0 (by omega) (by omega) (by omega) wf (by first | exact jl2 | exact jl | (simp (disch := omega) only [cg_up_o]; exact jl)) (fun k h1 h2 h3 h4 => by first | exact ik2 k h1 h2 h3 h4 | exact ik k h1 h2 h3 h4 | exact cg_up_k h1 | (rw [cg_up_o (by omega)]; exact ik k h1 h2 h3 h4))
        · rw [t_eq] at c_61; try rw [t_0] at c_61
          have t_74 := t_rng (- nI 101)
          first | have t_73 : (((- nI 101)) - y_60).toInt = (((- nI 101))).toInt - (y_60).toInt := t_subn (by omega) | obtain ⟨kt_73, t_73⟩ := t_sub ((- nI 101)) y_60
          exact cT_ret b_M_run_98 hI_56 hF_58 ⟨_, rfl, ⟨by first | exact jl1 | exact jl | (simp (disch := omega) only [cg_up_o]; exact jl), by first | exact ik1 | exact ik | exact fun k h1 h2 h3 h4 => by repeat (first | exact ik k h1 h2 h3 h4 | rw [cg_up_k h4] | rw [cg_up_o (by omega)])⟩⟩
      · rw [t_eq] at c_52; try rw [t_0] at c_52
        have hI_75 := cI_up (k := (((nI 5) * x1) + (nI 1)).toNatClampNeg) (x := x2) hI (sc_7_25 s0) ⟨(fun _ => by omega), (fun _ => by omega), (fun _ => by omega), (fun _ => by omega), (fun _ => by omega), (fun _ => by omega), (fun _ => by omega), (fun _ => by omega), (fun _ => by omega), (fun _ => by omega), (fun _ => by omega), (fun _ => by omega), (fun _ => by omega)⟩
        have hF_76 := cF_up (a := a0 + 16) (k := (((nI 5) * x1) + (nI 1)).toNatClampNeg) (x := x2) hF (by omega)
        first | have t_78 : (((nI 5)) * x1).toInt = 5 * (x1).toInt := t_mulc (by decide) (by omega) | (obtain ⟨kt_78, t_78⟩ := t_mul ((nI 5)) x1; rw [nI_toInt (show 5 < 2 ^ 31 by decide)] at t_78)
        have t_79 : (nI 1).toInt = 1 := nI_toInt (by decide)
        first | have t_77 : ((((nI 5) * x1)) + ((nI 1))).toInt = ((((nI 5) * x1))).toInt + (((nI 1))).toInt := t_addn (by omega) | obtain ⟨kt_77, t_77⟩ := t_add (((nI 5) * x1)) ((nI 1))
        refine cT_if (b_M_run_116 s0 (by rw [t_in]; omega)) (fun c_80 => ?_) (fun c_80 => ?_)
        · rw [t_eq] at c_80; try rw [t_0] at c_80
          refine cT_go b_M_run_144 ?_
          have hI_81 := cI_up (k := (((nI 5) * x1) + (nI 2)).toNatClampNeg) (x := nI 0) hI_75 (sc_7_25 s0) ⟨(fun _ => by omega), (fun _ => by omega), (fun _ => by omega), (fun _ => by omega), (fun _ => by omega), (fun _ => by omega), (fun _ => by omega), (fun _ => by omega), (fun _ => by omega), (fun _ => by omega), (fun _ => by omega), (fun _ => by omega), (fun _ => by omega)⟩
          have hF_82 := cF_up (a := a0 + 16) (k := (((nI 5) * x1) + (nI 2)).toNatClampNeg) (x := nI 0) hF_76 (by omega)
          have t_85 : ((cg_up (cg_up f (a0 + 16) (((nI 5) * x1) + (nI 1)).toNatClampNeg x2) (a0 + 16) (((nI 5) * x1) + (nI 2)).toNatClampNeg (nI 0)) a0 8).toInt = ((cg_up f (a0 + 16) (((nI 5) * x1) + (nI 1)).toNatClampNeg x2) a0 8).toInt := by rw [cg_up_o (ne_sh s0 (sc_7_25 s0) (by decide))]
          have t_86 : ((cg_up f (a0 + 16) (((nI 5) * x1) + (nI 1)).toNatClampNeg x2) a0 8).toInt = (f a0 8).toInt := by rw [cg_up_o (ne_sh s0 (sc_7_25 s0) (by decide))]
          have t_87 : 0 ≤ (f a0 8).toInt ∧ (f a0 8).toInt ≤ 8 := (cI_at hI 8 s0).2.2.2.2.2.1 rfl
          have hI_83 := cI_up (k := x1.toNatClampNeg) (x := (cg_up (cg_up f (a0 + 16) (((nI 5) * x1) + (nI 1)).toNatClampNeg x2) (a0 + 16) (((nI 5) * x1) + (nI 2)).toNatClampNeg (nI 0)) a0 8) hI_81 (sc_7_24 s0) ⟨(fun _ => by omega), (fun _ => by omega), (fun _ => by omega), (fun _ => by omega), (fun _ => by omega), (fun _ => by omega), (fun _ => by omega), (fun _ => by omega), (fun _ => by omega), (fun _ => by omega), (fun _ => by omega), (fun _ => by omega), (fun _ => by omega)⟩
          have hF_84 := cF_up (a := a0 + 15) (k := x1.toNatClampNeg) (x := (cg_up (cg_up f (a0 + 16) (((nI 5) * x1) + (nI 1)).toNatClampNeg x2) (a0 + 16) (((nI 5) * x1) + (nI 2)).toNatClampNeg (nI 0)) a0 8) hF_82 (by omega)
          have hI_88 := cI_up (k := 23) (x := x1) hI_83 s0 ⟨(fun h => absurd h (by decide)), (fun h => absurd h (by decide)), (fun h => absurd h (by decide)), (fun h => absurd h (by decide)), (fun h => absurd h (by decide)), (fun h => absurd h (by decide)), (fun h => absurd h (by decide)), (fun h => absurd h (by decide)), (fun h => absurd h (by decide)), (fun _ => by omega)⟩
          have hF_89 := cF_up (a := a0) (k := 23) (x := x1) hF_84 (by omega)
          have t_91 : (nI 2).toInt = 2 := nI_toInt (by decide)
          first | have t_90 : ((((nI 5) * x1)) + ((nI 2))).toInt = ((((nI 5) * x1))).toInt + (((nI 2))).toInt := t_addn (by omega) | obtain ⟨kt_90, t_90⟩ := t_add (((nI 5) * x1)) ((nI 2))
          have t_92 : ((cg_up (cg_up (cg_up (cg_up f (a0 + 16) (((nI 5) * x1) + (nI 1)).toNatClampNeg x2) (a0 + 16) (((nI 5) * x1) + (nI 2)).toNatClampNeg (nI 0)) (a0 + 15) x1.toNatClampNeg ((cg_up (cg_up f (a0 + 16) (((nI 5) * x1) + (nI 1)).toNatClampNeg x2) (a0 + 16) (((nI 5) * x1) + (nI 2)).toNatClampNeg (nI 0)) a0 8)) a0 23 x1) (a0 + 16) ((nI 5) * x1).toNatClampNeg).toInt = ((cg_up (cg_up (cg_up f (a0 + 16) (((nI 5) * x1) + (nI 1)).toNatClampNeg x2) (a0 + 16) (((nI 5) * x1) + (nI 2)).toNatClampNeg (nI 0)) (a0 + 15) x1.toNatClampNeg ((cg_up (cg_up f (a0 + 16) (((nI 5) * x1) + (nI 1)).toNatClampNeg x2) (a0 + 16) (((nI 5) * x1) + (nI 2)).toNatClampNeg (nI 0)) a0 8)) (a0 + 16) ((nI 5) * x1).toNatClampNeg).toInt := by rw [cg_up_o (ne_sh (sc_7_25 s0) s0 (by decide))]
          have t_93 : ((cg_up (cg_up (cg_up f (a0 + 16) (((nI 5) * x1) + (nI 1)).toNatClampNeg x2) (a0 + 16) (((nI 5) * x1) + (nI 2)).toNatClampNeg (nI 0)) (a0 + 15) x1.toNatClampNeg ((cg_up (cg_up f (a0 + 16) (((nI 5) * x1) + (nI 1)).toNatClampNeg x2) (a0 + 16) (((nI 5) * x1) + (nI 2)).toNatClampNeg (nI 0)) a0 8)) (a0 + 16) ((nI 5) * x1).toNatClampNeg).toInt = ((cg_up (cg_up f (a0 + 16) (((nI 5) * x1) + (nI 1)).toNatClampNeg x2) (a0 + 16) (((nI 5) * x1) + (nI 2)).toNatClampNeg (nI 0)) (a0 + 16) ((nI 5) * x1).toNatClampNeg).toInt := by rw [cg_up_o (by omega)]
          have tc_95 := t_cl ((nI 5) * x1)
          have tc_96 := t_cl (((nI 5) * x1) + (nI 2))
          have t_97 : (nI 0).toInt = 0 := nI_toInt (by decide)
          have tc_99 := t_cl (((nI 5) * x1) + (nI 1))
          have t_100 := t_rng (f (a0 + 16) ((nI 5) * x1).toNatClampNeg)
          have t_98 := t_upc (f := f) (a := (a0 + 16)) (K := (((nI 5) * x1) + (nI 1)).toNatClampNeg) (k := ((nI 5) * x1).toNatClampNeg) (x := x2)
          have t_94 := t_upc (f := (cg_up f (a0 + 16) (((nI 5) * x1) + (nI 1)).toNatClampNeg x2)) (a := (a0 + 16)) (K := (((nI 5) * x1) + (nI 2)).toNatClampNeg) (k := ((nI 5) * x1).toNatClampNeg) (x := (nI 0))
          exact cT_ret (b_M_run_145 (sc_7_25 s0) (by rw [sl_7_25 s0, t_in]; omega) (by omega) s0 (by rw [t_in]; omega) (by rw [t_in]; omega)) hI_88 hF_89 ⟨_, rfl, ⟨by first | exact jl1 | exact jl | (simp (disch := omega) only [cg_up_o]; exact jl), by first | exact ik1 | exact ik | exact fun k h1 h2 h3 h4 => by repeat (first | exact ik k h1 h2 h3 h4 | rw [cg_up_k h4] | rw [cg_up_o (by omega)])⟩⟩
        · rw [t_eq] at c_80; try rw [t_0] at c_80
          refine cT_go b_M_run_140 ?_
          have hI_101 := cI_up (k := (((nI 5) * x1) + (nI 2)).toNatClampNeg) (x := nI 1) hI_75 (sc_7_25 s0) ⟨(fun _ => by omega), (fun _ => by omega), (fun _ => by omega), (fun _ => by omega), (fun _ => by omega), (fun _ => by omega), (fun _ => by omega), (fun _ => by omega), (fun _ => by omega), (fun _ => by omega), (fun _ => by omega), (fun _ => by omega), (fun _ => by omega)⟩
          have hF_102 := cF_up (a := a0 + 16) (k := (((nI 5) * x1) + (nI 2)).toNatClampNeg) (x := nI 1) hF_76 (by omega)
          have t_105 : ((cg_up (cg_up f (a0 + 16) (((nI 5) * x1) + (nI 1)).toNatClampNeg x2) (a0 + 16) (((nI 5) * x1) + (nI 2)).toNatClampNeg (nI 1)) a0 8).toInt = ((cg_up f (a0 + 16) (((nI 5) * x1) + (nI 1)).toNatClampNeg x2) a0 8).toInt := by rw [cg_up_o (ne_sh s0 (sc_7_25 s0) (by decide))]
          have t_106 : ((cg_up f (a0 + 16) (((nI 5) * x1) + (nI 1)).toNatClampNeg x2) a0 8).toInt = (f a0 8).toInt := by rw [cg_up_o (ne_sh s0 (sc_7_25 s0) (by decide))]
          have t_107 : 0 ≤ (f a0 8).toInt ∧ (f a0 8).toInt ≤ 8 := (cI_at hI 8 s0).2.2.2.2.2.1 rfl
          have hI_103 := cI_up (k := x1.toNatClampNeg) (x := (cg_up (cg_up f (a0 + 16) (((nI 5) * x1) + (nI 1)).toNatClampNeg x2) (a0 + 16) (((nI 5) * x1) + (nI 2)).toNatClampNeg (nI 1)) a0 8) hI_101 (sc_7_24 s0) ⟨(fun _ => by omega), (fun _ => by omega), (fun _ => by omega), (fun _ => by omega), (fun _ => by omega), (fun _ => by omega), (fun _ => by omega), (fun _ => by omega), (fun _ => by omega), (fun _ => by omega), (fun _ => by omega), (fun _ => by omega), (fun _ => by omega)⟩
          have hF_104 := cF_up (a := a0 + 15) (k := x1.toNatClampNeg) (x := (cg_up (cg_up f (a0 + 16) (((nI 5) * x1) + (nI 1)).toNatClampNeg x2) (a0 + 16) (((nI 5) * x1) + (nI 2)).toNatClampNeg (nI 1)) a0 8) hF_102 (by omega)
          have hI_108 := cI_up (k := 23) (x := x1) hI_103 s0 ⟨(fun h => absurd h (by decide)), (fun h => absurd h (by decide)), (fun h => absurd h (by decide)), (fun h => absurd h (by decide)), (fun h => absurd h (by decide)), (fun h => absurd h (by decide)), (fun h => absurd h (by decide)), (fun h => absurd h (by decide)), (fun h => absurd h (by decide)), (fun _ => by omega)⟩
          have hF_109 := cF_up (a := a0) (k := 23) (x := x1) hF_104 (by omega)
          have t_111 : (nI 2).toInt = 2 := nI_toInt (by decide)
          first | have t_110 : ((((nI 5) * x1)) + ((nI 2))).toInt = ((((nI 5) * x1))).toInt + (((nI 2))).toInt := t_addn (by omega) | obtain ⟨kt_110, t_110⟩ := t_add (((nI 5) * x1)) ((nI 2))
          have t_112 : ((cg_up (cg_up (cg_up (cg_up f (a0 + 16) (((nI 5) * x1) + (nI 1)).toNatClampNeg x2) (a0 + 16) (((nI 5) * x1) + (nI 2)).toNatClampNeg (nI 1)) (a0 + 15) x1.toNatClampNeg ((cg_up (cg_up f (a0 + 16) (((nI 5) * x1) + (nI 1)).toNatClampNeg x2) (a0 + 16) (((nI 5) * x1) + (nI 2)).toNatClampNeg (nI 1)) a0 8)) a0 23 x1) (a0 + 16) ((nI 5) * x1).toNatClampNeg).toInt = ((cg_up (cg_up (cg_up f (a0 + 16) (((nI 5) * x1) + (nI 1)).toNatClampNeg x2) (a0 + 16) (((nI 5) * x1) + (nI 2)).toNatClampNeg (nI 1)) (a0 + 15) x1.toNatClampNeg ((cg_up (cg_up f (a0 + 16) (((nI 5) * x1) + (nI 1)).toNatClampNeg x2) (a0 + 16) (((nI 5) * x1) + (nI 2)).toNatClampNeg (nI 1)) a0 8)) (a0 + 16) ((nI 5) * x1).toNatClampNeg).toInt := by rw [cg_up_o (ne_sh (sc_7_25 s0) s0 (by decide))]
          have t_113 : ((cg_up (cg_up (cg_up f (a0 + 16) (((nI 5) * x1) + (nI 1)).toNatClampNeg x2) (a0 + 16) (((nI 5) * x1) + (nI 2)).toNatClampNeg (nI 1)) (a0 + 15) x1.toNatClampNeg ((cg_up (cg_up f (a0 + 16) (((nI 5) * x1) + (nI 1)).toNatClampNeg x2) (a0 + 16) (((nI 5) * x1) + (nI 2)).toNatClampNeg (nI 1)) a0 8)) (a0 + 16) ((nI 5) * x1).toNatClampNeg).toInt = ((cg_up (cg_up f (a0 + 16) (((nI 5) * x1) + (nI 1)).toNatClampNeg x2) (a0 + 16) (((nI 5) * x1) + (nI 2)).toNatClampNeg (nI 1)) (a0 + 16) ((nI 5) * x1).toNatClampNeg).toInt := by rw [cg_up_o (by omega)]
          have tc_115 := t_cl ((nI 5) * x1)
          have tc_116 := t_cl (((nI 5) * x1) + (nI 2))
          have tc_118 := t_cl (((nI 5) * x1) + (nI 1))
          have t_119 := t_rng (f (a0 + 16) ((nI 5) * x1).toNatClampNeg)
          have t_117 := t_upc (f := f) (a := (a0 + 16)) (K := (((nI 5) * x1) + (nI 1)).toNatClampNeg) (k := ((nI 5) * x1).toNatClampNeg) (x := x2)
          have t_114 := t_upc (f := (cg_up f (a0 + 16) (((nI 5) * x1) + (nI 1)).toNatClampNeg x2)) (a := (a0 + 16)) (K := (((nI 5) * x1) + (nI 2)).toNatClampNeg) (k := ((nI 5) * x1).toNatClampNeg) (x := (nI 1))
          exact cT_ret (b_M_run_145 (sc_7_25 s0) (by rw [sl_7_25 s0, t_in]; omega) (by omega) s0 (by rw [t_in]; omega) (by rw [t_in]; omega)) hI_108 hF_109 ⟨_, rfl, ⟨by first | exact jl1 | exact jl | (simp (disch := omega) only [cg_up_o]; exact jl), by first | exact ik1 | exact ik | exact fun k h1 h2 h3 h4 => by repeat (first | exact ik k h1 h2 h3 h4 | rw [cg_up_k h4] | rw [cg_up_o (by omega)])⟩⟩
set_option maxHeartbeats 8000000 in
theorem l_M_run_53 {L : Nat} {e : Nat × Nat} {f0 : cg_G} : ∀ (k : Nat) {f : cg_G} {a0 : Nat} {x1 : Int32} {x2 : Int32} {u3 : Value} {u4 : Value}, (8 - x2.toInt).toNat < k → cI L f → cF (fun o => o = a0 ∨ (a0 + 10 ≤ o ∧ o ≤ a0 + 29)) f0 f → sh_ a0 = 7 → (0 ≤ x1.toInt ∧ x1.toInt ≤ 1) → (0 ≤ x2.toInt) → (WF f0) → (JL (f (a0 + 20)) (f (a0 + 21))) → (∀ k, k ≠ 2 → k ≠ 16 → k ≠ 18 → k ≠ 23 → f a0 k = f0 a0 k) → cT 142 53 [.ref a0, .int x1, .int x2, u3, u4] [] L e (fun o => o = a0 ∨ (a0 + 10 ≤ o ∧ o ≤ a0 + 29)) f0 f (fun v f' => ∃ x : Int32, v = some (.int x) ∧ (JL (f' (a0 + 20)) (f' (a0 + 21)) ∧ ∀ k, k ≠ 2 → k ≠ 16 → k ≠ 18 → k ≠ 23 → f' a0 k = f0 a0 k)) := by
  intro k
  induction k with
  | zero => intro f a0 x1 x2 u3 u4 hm; omega
  | succ k ih =>
    intro f a0 x1 x2 u3 u4 hme hI hF s0 c1 i2 wf jl ik
    have hm := one_7 s0
    have t_120 := t_rng (x1)
    have t_121 := t_rng (x2)
    have t_123 : (nI 8).toInt = 8 := nI_toInt (by decide)
    refine cT_if b_M_run_53 (fun c_122 => ?_) (fun c_122 => ?_)
    · rw [t_le] at c_122; try rw [t_0] at c_122
      refine cT_go b_M_run_72 ?_
      have t_124 : (nI 0).toInt = 0 := nI_toInt (by decide)
      exact l_M_run_76 ((5 - (nI 0).toInt).toNat + 1) (by omega) hI hF s0 (by omega) (by omega) (by omega) wf (by first | exact jl2 | exact jl | (simp (disch := omega) only [cg_up_o]; exact jl)) (fun k h1 h2 h3 h4 => by first | exact ik2 k h1 h2 h3 h4 | exact ik k h1 h2 h3 h4 | exact cg_up_k h1 | (rw [cg_up_o (by omega)]; exact ik k h1 h2 h3 h4))
    · rw [t_le] at c_122; try rw [t_0] at c_122
      have hI_125 := cI_up (k := x2.toNatClampNeg) (x := nI 0) hI (sc_7_27 s0) ⟨(fun _ => by omega), (fun _ => by omega), (fun _ => by omega), (fun _ => by omega), (fun _ => by omega), (fun _ => by omega), (fun _ => by omega), (fun _ => by omega), (fun _ => by omega), (fun _ => by omega), (fun _ => by omega), (fun _ => by omega), (fun _ => by omega)⟩
      have hF_126 := cF_up (a := a0 + 18) (k := x2.toNatClampNeg) (x := nI 0) hF (by omega)
      refine cT_go (b_M_run_59 s0 (by rw [t_in]; omega)) ?_
      have t_128 : (nI 1).toInt = 1 := nI_toInt (by decide)
      first | have t_127 : (x2 + (nI 1)).toInt = (x2).toInt + ((nI 1)).toInt := t_addn (by omega) | obtain ⟨kt_127, t_127⟩ := t_add x2 (nI 1)
      exact ih (by omega) hI_125 hF_126 s0 (by omega) (by omega) wf (by first | exact jl2 | exact jl | (simp (disch := omega) only [cg_up_o]; exact jl)) (fun k h1 h2 h3 h4 => by first | exact ik2 k h1 h2 h3 h4 | exact ik k h1 h2 h3 h4 | exact cg_up_k h1 | (rw [cg_up_o (by omega)]; exact ik k h1 h2 h3 h4))
set_option maxHeartbeats 8000000 in
theorem l_M_run_7 {L : Nat} {e : Nat × Nat} {f0 : cg_G} : ∀ (k : Nat) {f : cg_G} {a0 : Nat} {x1 : Int32} {u2 : Value} {u3 : Value} {u4 : Value}, (32 - x1.toInt).toNat < k → cI L f → cF (fun o => o = a0 ∨ (a0 + 10 ≤ o ∧ o ≤ a0 + 29)) f0 f → sh_ a0 = 7 → (0 ≤ x1.toInt) → (WF f0) → (JL (f (a0 + 20)) (f (a0 + 21))) → (∀ k, k ≠ 2 → k ≠ 16 → k ≠ 18 → k ≠ 23 → f a0 k = f0 a0 k) → cT 142 7 [.ref a0, .int x1, u2, u3, u4] [] L e (fun o => o = a0 ∨ (a0 + 10 ≤ o ∧ o ≤ a0 + 29)) f0 f (fun v f' => ∃ x : Int32, v = some (.int x) ∧ (JL (f' (a0 + 20)) (f' (a0 + 21)) ∧ ∀ k, k ≠ 2 → k ≠ 16 → k ≠ 18 → k ≠ 23 → f' a0 k = f0 a0 k)) := by
  intro k
  induction k with
  | zero => intro f a0 x1 u2 u3 u4 hm; omega
  | succ k ih =>
    intro f a0 x1 u2 u3 u4 hme hI hF s0 i1 wf jl ik
    have hm := one_7 s0
    have t_129 := t_rng (x1)
    have t_132 : (nI 4).toInt = 4 := nI_toInt (by decide)
    have t_133 : 0 ≤ (f a0 8).toInt ∧ (f a0 8).toInt ≤ 8 := (cI_at hI 8 s0).2.2.2.2.2.1 rfl
    first | have t_131 : (((nI 4)) * ((f a0 8))).toInt = 4 * (((f a0 8))).toInt := t_mulc (by decide) (by omega) | (obtain ⟨kt_131, t_131⟩ := t_mul ((nI 4)) ((f a0 8)); rw [nI_toInt (show 4 < 2 ^ 31 by decide)] at t_131)
    refine cT_if (b_M_run_7 s0) (fun c_130 => ?_) (fun c_130 => ?_)
    · rw [t_le] at c_130; try rw [t_0] at c_130
      have t_135 : -1 ≤ (f a0 23).toInt ∧ (f a0 23).toInt ≤ 1 := (cI_at hI 23 s0).2.2.2.2.2.2.2.2.2 rfl
      refine cT_if (b_M_run_38 s0) (fun c_134 => ?_) (fun c_134 => ?_)
      · rw [t_eq] at c_134; try rw [t_0] at c_134
        refine cT_go b_M_run_45 ?_
        refine cT_go b_M_run_50 ?_
        have t_137 : (nI 1).toInt = 1 := nI_toInt (by decide)
        have t_138 : (nI 0).toInt = 0 := nI_toInt (by decide)
        exact l_M_run_53 ((8 - (nI 0).toInt).toNat + 1) (by omega) hI hF s0 (by omega) (by omega) wf (by first | exact jl2 | exact jl | (simp (disch := omega) only [cg_up_o]; exact jl)) (fun k h1 h2 h3 h4 => by first | exact ik2 k h1 h2 h3 h4 | exact ik k h1 h2 h3 h4 | exact cg_up_k h1 | (rw [cg_up_o (by omega)]; exact ik k h1 h2 h3 h4))
      · rw [t_eq] at c_134; try rw [t_0] at c_134
        refine cT_go b_M_run_49 ?_
        refine cT_go b_M_run_50 ?_
        have t_139 : (nI 0).toInt = 0 := nI_toInt (by decide)
        exact l_M_run_53 ((8 - (nI 0).toInt).toNat + 1) (by omega) hI hF s0 (by omega) (by omega) wf (by first | exact jl2 | exact jl | (simp (disch := omega) only [cg_up_o]; exact jl)) (fun k h1 h2 h3 h4 => by first | exact ik2 k h1 h2 h3 h4 | exact ik k h1 h2 h3 h4 | exact cg_up_k h1 | (rw [cg_up_o (by omega)]; exact ik k h1 h2 h3 h4))
    · rw [t_le] at c_130; try rw [t_0] at c_130
      have t_141 := t_rng (f (a0 + 8) x1.toNatClampNeg)
      refine cT_if (b_M_run_17 s0 (by rw [t_in]; omega)) (fun c_140 => ?_) (fun c_140 => ?_)
      · rw [t_eq] at c_140; try rw [t_0] at c_140
        have t_144 := t_neg1
        have t_145 := t_rng (x1 / (nI 4))
        first | have t_143 : (((- nI 1)) - ((x1 / (nI 4)))).toInt = (((- nI 1))).toInt - (((x1 / (nI 4)))).toInt := t_subn (by omega) | obtain ⟨kt_143, t_143⟩ := t_sub ((- nI 1)) ((x1 / (nI 4)))
        exact cT_ret b_M_run_26 hI hF ⟨_, rfl, ⟨by first | exact jl1 | exact jl | (simp (disch := omega) only [cg_up_o]; exact jl), by first | exact ik1 | exact ik | exact fun k h1 h2 h3 h4 => by repeat (first | exact ik k h1 h2 h3 h4 | rw [cg_up_k h4] | rw [cg_up_o (by omega)])⟩⟩
      · rw [t_eq] at c_140; try rw [t_0] at c_140
        refine cT_go b_M_run_32 ?_
        have t_147 : (nI 1).toInt = 1 := nI_toInt (by decide)
        first | have t_146 : (x1 + (nI 1)).toInt = (x1).toInt + ((nI 1)).toInt := t_addn (by omega) | obtain ⟨kt_146, t_146⟩ := t_add x1 (nI 1)
        exact ih (by omega) hI hF s0 (by omega) wf (by first | exact jl2 | exact jl | (simp (disch := omega) only [cg_up_o]; exact jl)) (fun k h1 h2 h3 h4 => by first | exact ik2 k h1 h2 h3 h4 | exact ik k h1 h2 h3 h4 | exact cg_up_k h1 | (rw [cg_up_o (by omega)]; exact ik k h1 h2 h3 h4))
set_option maxHeartbeats 8000000 in
theorem c_M_run {L : Nat} {f : cg_G} {e : Nat × Nat} {a0 : Nat} (hI : cI L f) (s0 : sh_ a0 = 7) (wf : WF f) (jl : JL (f (a0 + 20)) (f (a0 + 21))) : cE 142 [.ref a0] L e (fun o => o = a0 ∨ (a0 + 10 ≤ o ∧ o ≤ a0 + 29)) f (fun v f' => ∃ x : Int32, v = some (.int x) ∧ (JL (f' (a0 + 20)) (f' (a0 + 21)) ∧ ∀ k, k ≠ 2 → k ≠ 16 → k ≠ 18 → k ≠ 23 → f' a0 k = f a0 k)) := by
  refine cE_of (ls := [.ref a0, (.retAddr 0), (.retAddr 0), (.retAddr 0), (.retAddr 0)]) rfl ?_
  have hF : cF (fun o => o = a0 ∨ (a0 + 10 ≤ o ∧ o ≤ a0 + 29)) f f := cF_rf
  have hm := one_7 s0
  have t_150 : (nI 0).toInt = 0 := nI_toInt (by decide)
  have hI_148 := cI_up (k := 2) (x := nI 0) hI s0 ⟨(fun h => absurd h (by decide)), (fun h => absurd h (by decide)), (fun _ => by omega), (fun h => absurd h (by decide)), (fun h => absurd h (by decide)), (fun h => absurd h (by decide)), (fun h => absurd h (by decide)), (fun h => absurd h (by decide)), (fun h => absurd h (by decide)), (fun h => absurd h (by decide))⟩
  have hF_149 := cF_up (a := a0) (k := 2) (x := nI 0) hF (by omega)
  refine cT_go (b_M_run_0 s0) ?_
  have t_151 : ((cg_up f a0 2 (nI 0)) a0 8).toInt = (f a0 8).toInt := by rw [cg_up_k (by decide)]
  have t_152 : 0 ≤ (f a0 8).toInt ∧ (f a0 8).toInt ≤ 8 := (cI_at hI 8 s0).2.2.2.2.2.1 rfl
  exact l_M_run_7 ((32 - (nI 0).toInt).toNat + 1) (by omega) hI_148 hF_149 s0 (by omega) wf (by first | exact jl2 | exact jl | (simp (disch := omega) only [cg_up_o]; exact jl)) (fun k h1 h2 h3 h4 => by first | exact ik2 k h1 h2 h3 h4 | exact ik k h1 h2 h3 h4 | exact cg_up_k h1 | (rw [cg_up_o (by omega)]; exact ik k h1 h2 h3 h4))
