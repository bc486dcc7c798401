set_option maxHeartbeats 8000000 in
theorem l_M_solveLines_9 {L : Nat} {e : Nat × Nat} {f0 : cg_G} : ∀ (k : Nat) {f : cg_G} {a0 : Nat} {x1 : Int32} {x2 : Int32} {u3 : Value} {u4 : Value} {u5 : Value}, (140 - x2.toInt).toNat < k → cI L f → cF (fun o => o = a0 + 13 ∨ o = a0 + 14) f0 f → sh_ a0 = 7 → (0 ≤ x1.toInt ∧ x1.toInt < (f0 a0 18).toInt) → (1 ≤ x2.toInt ∧ x1.toInt + x2.toInt ≤ (f0 a0 18).toInt + 1) → ((f0 a0 18).toInt ≤ 130) → ((f0 (a0 + 12) x1.toNatClampNeg).toInt - (f0 (a0 + 11) x1.toNatClampNeg).toInt ≤ (f0 a0 0).toInt) → (solved (f0 (a0 + 13)) (f0 (a0 + 14)) x1.toInt (f0 a0 18).toInt) → (∀ j, j ≠ x1.toNatClampNeg → f (a0 + 13) j = f0 (a0 + 13) j) → (∀ j, j ≠ x1.toNatClampNeg → f (a0 + 14) j = f0 (a0 + 14) j) → ((x2.toInt = 1 ∧ (f (a0 + 13) x1.toNatClampNeg).toInt = -1) ∨ (2 ≤ x2.toInt ∧ 0 ≤ (f (a0 + 13) x1.toNatClampNeg).toInt ∧ 1 ≤ (f (a0 + 14) x1.toNatClampNeg).toInt ∧ x1.toInt + (f (a0 + 14) x1.toNatClampNeg).toInt ≤ (f0 a0 18).toInt)) → cT 54 9 [.ref a0, .int x1, .int x2, u3, u4, u5] [] L e (fun o => o = a0 + 13 ∨ o = a0 + 14) f0 f (fun v f' => v = none ∧ (solved (f' (a0 + 13)) (f' (a0 + 14)) (x1.toInt - 1) (f0 a0 18).toInt)) := by
  intro k
  induction k with
  | zero => intro f a0 x1 x2 u3 u4 u5 hm; omega
  | succ k ih =>
    intro f a0 x1 x2 u3 u4 u5 hme hI hF s0 i1 i2 i0 p2 p3 i4 i5 i6
    have t0 := t_0
    have hm := one_7 s0
    have h18 : (f a0 18).toInt = (f0 a0 18).toInt := by rw [hF a0 (by omega)]
    have h00 : (f a0 0).toInt = (f0 a0 0).toInt := by rw [hF a0 (by omega)]
    have h12 : (f (a0 + 12) x1.toNatClampNeg).toInt = (f0 (a0 + 12) x1.toNatClampNeg).toInt := by rw [hF (a0 + 12) (by omega)]
    have h11 : (f (a0 + 11) x1.toNatClampNeg).toInt = (f0 (a0 + 11) x1.toNatClampNeg).toInt := by rw [hF (a0 + 11) (by omega)]
    have t_1 := t_rng (x1)
    have t_2 := t_rng (x2)
    have t_4 : 0 ≤ (f a0 18).toInt ∧ (f a0 18).toInt ≤ 130 := (cI_at hI 18 s0).2.2.2.2.2.2.2.2.1 rfl
    first | have t_5 : (x1 + x2).toInt = (x1).toInt + (x2).toInt := t_addn (by omega) | obtain ⟨kt_5, t_5⟩ := t_add x1 x2
    refine cT_if (b_M_solveLines_9 s0) (fun c_3 => ?_) (fun c_3 => ?_)
    · rw [t_lt] at c_3
      exact cT_ret b_M_solveLines_145 hI hF ⟨rfl, solved_fr (K := x1.toNatClampNeg) p3 (by rw [t_cl]; omega) rfl i4 i5 (by omega) (by omega) (by have := t_cl x1; omega)⟩
    · rw [t_lt] at c_3
      have ek : x2.toInt = 1 → (f (a0 + 12) (x1 + x2 - nI 1).toNatClampNeg).toInt = (f (a0 + 12) x1.toNatClampNeg).toInt := fun h => at_1 h
      have t_7 : (nI 1).toInt = 1 := nI_toInt (by decide)
      first | have t_6 : (((x1 + x2)) - ((nI 1))).toInt = (((x1 + x2))).toInt - (((nI 1))).toInt := t_subn (by omega) | obtain ⟨kt_6, t_6⟩ := t_sub ((x1 + x2)) ((nI 1))
      refine cT_if (b_M_solveLines_19 s0 (by rw [t_in]; omega) (by rw [t_in]; omega)) (fun c_8 => ?_) (fun c_8 => ?_)
      · rw [t_eq] at c_8
        refine cT_go b_M_solveLines_52 ?_
        refine cT_if b_M_solveLines_57 (fun c_9 => ?_) (fun c_9 => ?_)
        · rw [t_eq] at c_9
          have q3 : 0 ≤ (f (a0 + 13) (x1 + x2).toNatClampNeg).toInt := by rw [i4 (x1 + x2).toNatClampNeg (by rw [t_cl, t_cl]; omega)]; exact (p3 _ (by rw [t_cl]; omega) (by rw [t_cl]; omega)).1
          refine cT_go (b_M_solveLines_68 s0 (by rw [t_in]; omega)) ?_
          have t_13 : 6 ≤ (f a0 0).toInt ∧ (f a0 0).toInt ≤ 40 := (cI_at hI 0 s0).1 rfl
          have t_15 : 0 ≤ (f (a0 + 12) ((x1 + x2) - (nI 1)).toNatClampNeg).toInt ∧ (f (a0 + 12) ((x1 + x2) - (nI 1)).toNatClampNeg).toInt ≤ 240 := (cI_at hI ((x1 + x2) - (nI 1)).toNatClampNeg (sc_7_20 s0)).2.2.2.2.2.2.2.2.2.1 (by omega)
          have t_16 : 0 ≤ (f (a0 + 11) x1.toNatClampNeg).toInt ∧ (f (a0 + 11) x1.toNatClampNeg).toInt ≤ 240 := (cI_at hI x1.toNatClampNeg (sc_7_19 s0)).2.2.2.2.2.2.2.2.1 (by omega)
          first | have t_14 : (((f (a0 + 12) ((x1 + x2) - (nI 1)).toNatClampNeg)) - ((f (a0 + 11) x1.toNatClampNeg))).toInt = (((f (a0 + 12) ((x1 + x2) - (nI 1)).toNatClampNeg))).toInt - (((f (a0 + 11) x1.toNatClampNeg))).toInt := t_subn (by omega) | obtain ⟨kt_14, t_14⟩ := t_sub ((f (a0 + 12) ((x1 + x2) - (nI 1)).toNatClampNeg)) ((f (a0 + 11) x1.toNatClampNeg))
          first | have t_12 : (((f a0 0)) - (((f (a0 + 12) ((x1 + x2) - (nI 1)).toNatClampNeg) - (f (a0 + 11) x1.toNatClampNeg)))).toInt = (((f a0 0))).toInt - ((((f (a0 + 12) ((x1 + x2) - (nI 1)).toNatClampNeg) - (f (a0 + 11) x1.toNatClampNeg)))).toInt := t_subn (by omega) | obtain ⟨kt_12, t_12⟩ := t_sub ((f a0 0)) (((f (a0 + 12) ((x1 + x2) - (nI 1)).toNatClampNeg) - (f (a0 + 11) x1.toNatClampNeg)))
          refine cT_if b_M_solveLines_80 (fun c_11 => ?_) (fun c_11 => ?_)
          · rw [t_lt] at c_11
            refine cT_go b_M_solveLines_139 ?_
            first | have t_17 : (x2 + (nI 1)).toInt = (x2).toInt + ((nI 1)).toInt := t_addn (by omega) | obtain ⟨kt_17, t_17⟩ := t_add x2 (nI 1)
            have t_19 := t_rng (((f a0 0) - ((f (a0 + 12) ((x1 + x2) - (nI 1)).toNatClampNeg) - (f (a0 + 11) x1.toNatClampNeg))) * ((f a0 0) - ((f (a0 + 12) ((x1 + x2) - (nI 1)).toNatClampNeg) - (f (a0 + 11) x1.toNatClampNeg))))
            have t_19s := t_sq ((f a0 0) - ((f (a0 + 12) ((x1 + x2) - (nI 1)).toNatClampNeg) - (f (a0 + 11) x1.toNatClampNeg)))
            have tc_21 := t_cl (x1 + x2)
            have t_20 : -1 ≤ (f (a0 + 13) (x1 + x2).toNatClampNeg).toInt ∧ (f (a0 + 13) (x1 + x2).toNatClampNeg).toInt ≤ 78400 * ((901 - ((x1 + x2).toNatClampNeg) : Nat) : Int) := (cI_at hI (x1 + x2).toNatClampNeg (sc_7_21 s0)).2.2.2.2.2.2.2.2.2.2.1 (by omega)
            first | have t_18 : (((((f a0 0) - ((f (a0 + 12) ((x1 + x2) - (nI 1)).toNatClampNeg) - (f (a0 + 11) x1.toNatClampNeg))) * ((f a0 0) - ((f (a0 + 12) ((x1 + x2) - (nI 1)).toNatClampNeg) - (f (a0 + 11) x1.toNatClampNeg))))) + ((f (a0 + 13) (x1 + x2).toNatClampNeg))).toInt = (((((f a0 0) - ((f (a0 + 12) ((x1 + x2) - (nI 1)).toNatClampNeg) - (f (a0 + 11) x1.toNatClampNeg))) * ((f a0 0) - ((f (a0 + 12) ((x1 + x2) - (nI 1)).toNatClampNeg) - (f (a0 + 11) x1.toNatClampNeg)))))).toInt + (((f (a0 + 13) (x1 + x2).toNatClampNeg))).toInt := t_addn (by omega) | obtain ⟨kt_18, t_18⟩ := t_add ((((f a0 0) - ((f (a0 + 12) ((x1 + x2) - (nI 1)).toNatClampNeg) - (f (a0 + 11) x1.toNatClampNeg))) * ((f a0 0) - ((f (a0 + 12) ((x1 + x2) - (nI 1)).toNatClampNeg) - (f (a0 + 11) x1.toNatClampNeg))))) ((f (a0 + 13) (x1 + x2).toNatClampNeg))
            have tc_23 := t_cl x1
            have t_22 : -1 ≤ (f (a0 + 13) x1.toNatClampNeg).toInt ∧ (f (a0 + 13) x1.toNatClampNeg).toInt ≤ 78400 * ((901 - x1.toNatClampNeg : Nat) : Int) := (cI_at hI x1.toNatClampNeg (sc_7_21 s0)).2.2.2.2.2.2.2.2.2.2.1 (by omega)
            have t_24 := t_rng (f (a0 + 14) x1.toNatClampNeg)
            exact ih (by omega) hI hF s0 (by omega) (by omega) (by omega) (by omega) p3 (fun j hj => by first | exact i4 j hj | (rw [cg_up_o (by omega), cg_up_k hj]; exact i4 j hj) | rw [cg_up_k hj]) (fun j hj => by first | exact i5 j hj | (rw [cg_up_k hj, cg_up_o (by omega)]; exact i5 j hj) | rw [cg_up_o (by omega)]) (by omega)
          · rw [t_lt] at c_11
            refine cT_if b_M_solveLines_86 (fun c_25 => ?_) (fun c_25 => ?_)
            · rw [t_eq] at c_25
              have tc_28 := t_cl (x1 + x2)
              have t_27 : -1 ≤ (f (a0 + 13) (x1 + x2).toNatClampNeg).toInt ∧ (f (a0 + 13) (x1 + x2).toNatClampNeg).toInt ≤ 78400 * ((901 - ((x1 + x2).toNatClampNeg) : Nat) : Int) := (cI_at hI (x1 + x2).toNatClampNeg (sc_7_21 s0)).2.2.2.2.2.2.2.2.2.2.1 (by omega)
              have t_29 := t_neg1
              refine cT_if (b_M_solveLines_91 s0 (by rw [t_in]; omega)) (fun c_26 => ?_) (fun c_26 => ?_)
              · rw [t_eq] at c_26
                refine cT_go b_M_solveLines_139 ?_
                first | have t_30 : (x2 + (nI 1)).toInt = (x2).toInt + ((nI 1)).toInt := t_addn (by omega) | obtain ⟨kt_30, t_30⟩ := t_add x2 (nI 1)
                have t_32 := t_rng (((f a0 0) - ((f (a0 + 12) ((x1 + x2) - (nI 1)).toNatClampNeg) - (f (a0 + 11) x1.toNatClampNeg))) * ((f a0 0) - ((f (a0 + 12) ((x1 + x2) - (nI 1)).toNatClampNeg) - (f (a0 + 11) x1.toNatClampNeg))))
                have t_32s := t_sq ((f a0 0) - ((f (a0 + 12) ((x1 + x2) - (nI 1)).toNatClampNeg) - (f (a0 + 11) x1.toNatClampNeg)))
                first | have t_31 : (((((f a0 0) - ((f (a0 + 12) ((x1 + x2) - (nI 1)).toNatClampNeg) - (f (a0 + 11) x1.toNatClampNeg))) * ((f a0 0) - ((f (a0 + 12) ((x1 + x2) - (nI 1)).toNatClampNeg) - (f (a0 + 11) x1.toNatClampNeg))))) + ((f (a0 + 13) (x1 + x2).toNatClampNeg))).toInt = (((((f a0 0) - ((f (a0 + 12) ((x1 + x2) - (nI 1)).toNatClampNeg) - (f (a0 + 11) x1.toNatClampNeg))) * ((f a0 0) - ((f (a0 + 12) ((x1 + x2) - (nI 1)).toNatClampNeg) - (f (a0 + 11) x1.toNatClampNeg)))))).toInt + (((f (a0 + 13) (x1 + x2).toNatClampNeg))).toInt := t_addn (by omega) | obtain ⟨kt_31, t_31⟩ := t_add ((((f a0 0) - ((f (a0 + 12) ((x1 + x2) - (nI 1)).toNatClampNeg) - (f (a0 + 11) x1.toNatClampNeg))) * ((f a0 0) - ((f (a0 + 12) ((x1 + x2) - (nI 1)).toNatClampNeg) - (f (a0 + 11) x1.toNatClampNeg))))) ((f (a0 + 13) (x1 + x2).toNatClampNeg))
                have tc_34 := t_cl x1
                have t_33 : -1 ≤ (f (a0 + 13) x1.toNatClampNeg).toInt ∧ (f (a0 + 13) x1.toNatClampNeg).toInt ≤ 78400 * ((901 - x1.toNatClampNeg : Nat) : Int) := (cI_at hI x1.toNatClampNeg (sc_7_21 s0)).2.2.2.2.2.2.2.2.2.2.1 (by omega)
                have t_35 := t_rng (f (a0 + 14) x1.toNatClampNeg)
                exact ih (by omega) hI hF s0 (by omega) (by omega) (by omega) (by omega) p3 (fun j hj => by first | exact i4 j hj | (rw [cg_up_o (by omega), cg_up_k hj]; exact i4 j hj) | rw [cg_up_k hj]) (fun j hj => by first | exact i5 j hj | (rw [cg_up_k hj, cg_up_o (by omega)]; exact i5 j hj) | rw [cg_up_o (by omega)]) (by omega)
              · rw [t_eq] at c_26
                have tc_38 := t_cl x1
                have t_37 : -1 ≤ (f (a0 + 13) x1.toNatClampNeg).toInt ∧ (f (a0 + 13) x1.toNatClampNeg).toInt ≤ 78400 * ((901 - x1.toNatClampNeg : Nat) : Int) := (cI_at hI x1.toNatClampNeg (sc_7_21 s0)).2.2.2.2.2.2.2.2.2.2.1 (by omega)
                refine cT_if (b_M_solveLines_103 s0 (by rw [t_in]; omega)) (fun c_36 => ?_) (fun c_36 => ?_)
                · rw [t_eq] at c_36
                  have t_42 := t_rng (((f a0 0) - ((f (a0 + 12) ((x1 + x2) - (nI 1)).toNatClampNeg) - (f (a0 + 11) x1.toNatClampNeg))) * ((f a0 0) - ((f (a0 + 12) ((x1 + x2) - (nI 1)).toNatClampNeg) - (f (a0 + 11) x1.toNatClampNeg))))
                  have t_42s := t_sq ((f a0 0) - ((f (a0 + 12) ((x1 + x2) - (nI 1)).toNatClampNeg) - (f (a0 + 11) x1.toNatClampNeg)))
                  first | have t_41 : (((((f a0 0) - ((f (a0 + 12) ((x1 + x2) - (nI 1)).toNatClampNeg) - (f (a0 + 11) x1.toNatClampNeg))) * ((f a0 0) - ((f (a0 + 12) ((x1 + x2) - (nI 1)).toNatClampNeg) - (f (a0 + 11) x1.toNatClampNeg))))) + ((f (a0 + 13) (x1 + x2).toNatClampNeg))).toInt = (((((f a0 0) - ((f (a0 + 12) ((x1 + x2) - (nI 1)).toNatClampNeg) - (f (a0 + 11) x1.toNatClampNeg))) * ((f a0 0) - ((f (a0 + 12) ((x1 + x2) - (nI 1)).toNatClampNeg) - (f (a0 + 11) x1.toNatClampNeg)))))).toInt + (((f (a0 + 13) (x1 + x2).toNatClampNeg))).toInt := t_addn (by omega) | obtain ⟨kt_41, t_41⟩ := t_add ((((f a0 0) - ((f (a0 + 12) ((x1 + x2) - (nI 1)).toNatClampNeg) - (f (a0 + 11) x1.toNatClampNeg))) * ((f a0 0) - ((f (a0 + 12) ((x1 + x2) - (nI 1)).toNatClampNeg) - (f (a0 + 11) x1.toNatClampNeg))))) ((f (a0 + 13) (x1 + x2).toNatClampNeg))
                  have hI_39 := cI_up (k := x1.toNatClampNeg) (x := (((f a0 0) - ((f (a0 + 12) ((x1 + x2) - (nI 1)).toNatClampNeg) - (f (a0 + 11) x1.toNatClampNeg))) * ((f a0 0) - ((f (a0 + 12) ((x1 + x2) - (nI 1)).toNatClampNeg) - (f (a0 + 11) x1.toNatClampNeg)))) + (f (a0 + 13) (x1 + x2).toNatClampNeg)) hI (sc_7_21 s0) ⟨(fun _ => by omega), (fun _ => by omega), (fun _ => by omega), (fun _ => by omega), (fun _ => by omega), (fun _ => by omega), (fun _ => by omega), (fun _ => by omega), (fun _ => by omega), (fun _ => by omega), (fun _ => by omega), (fun _ => by omega), (fun _ => by omega)⟩
                  have hF_40 := cF_up (a := a0 + 13) (k := x1.toNatClampNeg) (x := (((f a0 0) - ((f (a0 + 12) ((x1 + x2) - (nI 1)).toNatClampNeg) - (f (a0 + 11) x1.toNatClampNeg))) * ((f a0 0) - ((f (a0 + 12) ((x1 + x2) - (nI 1)).toNatClampNeg) - (f (a0 + 11) x1.toNatClampNeg)))) + (f (a0 + 13) (x1 + x2).toNatClampNeg)) hF (by omega)
                  have hI_43 := cI_up (k := x1.toNatClampNeg) (x := x2) hI_39 (sc_7_22 s0) ⟨(fun _ => by omega), (fun _ => by omega), (fun _ => by omega), (fun _ => by omega), (fun _ => by omega), (fun _ => by omega), (fun _ => by omega), (fun _ => by omega), (fun _ => by omega), (fun _ => by omega), (fun _ => by omega), (fun _ => by omega), (fun _ => by omega)⟩
                  have hF_44 := cF_up (a := a0 + 14) (k := x1.toNatClampNeg) (x := x2) hF_40 (by omega)
                  refine cT_go (b_M_solveLines_124 s0 (by rw [t_in]; omega)) ?_
                  refine cT_go b_M_solveLines_139 ?_
                  first | have t_45 : (x2 + (nI 1)).toInt = (x2).toInt + ((nI 1)).toInt := t_addn (by omega) | obtain ⟨kt_45, t_45⟩ := t_add x2 (nI 1)
                  have t_46 : ((cg_up (cg_up f (a0 + 13) x1.toNatClampNeg ((((f a0 0) - ((f (a0 + 12) ((x1 + x2) - (nI 1)).toNatClampNeg) - (f (a0 + 11) x1.toNatClampNeg))) * ((f a0 0) - ((f (a0 + 12) ((x1 + x2) - (nI 1)).toNatClampNeg) - (f (a0 + 11) x1.toNatClampNeg)))) + (f (a0 + 13) (x1 + x2).toNatClampNeg))) (a0 + 14) x1.toNatClampNeg x2) (a0 + 13) x1.toNatClampNeg).toInt = ((cg_up f (a0 + 13) x1.toNatClampNeg ((((f a0 0) - ((f (a0 + 12) ((x1 + x2) - (nI 1)).toNatClampNeg) - (f (a0 + 11) x1.toNatClampNeg))) * ((f a0 0) - ((f (a0 + 12) ((x1 + x2) - (nI 1)).toNatClampNeg) - (f (a0 + 11) x1.toNatClampNeg)))) + (f (a0 + 13) (x1 + x2).toNatClampNeg))) (a0 + 13) x1.toNatClampNeg).toInt := by rw [cg_up_o (by omega)]
                  have t_47 : ((cg_up f (a0 + 13) x1.toNatClampNeg ((((f a0 0) - ((f (a0 + 12) ((x1 + x2) - (nI 1)).toNatClampNeg) - (f (a0 + 11) x1.toNatClampNeg))) * ((f a0 0) - ((f (a0 + 12) ((x1 + x2) - (nI 1)).toNatClampNeg) - (f (a0 + 11) x1.toNatClampNeg)))) + (f (a0 + 13) (x1 + x2).toNatClampNeg))) (a0 + 13) x1.toNatClampNeg).toInt = ((((f a0 0) - ((f (a0 + 12) ((x1 + x2) - (nI 1)).toNatClampNeg) - (f (a0 + 11) x1.toNatClampNeg))) * ((f a0 0) - ((f (a0 + 12) ((x1 + x2) - (nI 1)).toNatClampNeg) - (f (a0 + 11) x1.toNatClampNeg)))) + (f (a0 + 13) (x1 + x2).toNatClampNeg)).toInt := by rw [cg_up_s]
                  have t_48 : ((cg_up (cg_up f (a0 + 13) x1.toNatClampNeg ((((f a0 0) - ((f (a0 + 12) ((x1 + x2) - (nI 1)).toNatClampNeg) - (f (a0 + 11) x1.toNatClampNeg))) * ((f a0 0) - ((f (a0 + 12) ((x1 + x2) - (nI 1)).toNatClampNeg) - (f (a0 + 11) x1.toNatClampNeg)))) + (f (a0 + 13) (x1 + x2).toNatClampNeg))) (a0 + 14) x1.toNatClampNeg x2) (a0 + 14) x1.toNatClampNeg).toInt = (x2).toInt := by rw [cg_up_s]
                  exact ih (by omega) hI_43 hF_44 s0 (by omega) (by omega) (by omega) (by omega) p3 (fun j hj => by first | exact i4 j hj | (rw [cg_up_o (by omega), cg_up_k hj]; exact i4 j hj) | rw [cg_up_k hj]) (fun j hj => by first | exact i5 j hj | (rw [cg_up_k hj, cg_up_o (by omega)]; exact i5 j hj) | rw [cg_up_o (by omega)]) (by omega)
                · rw [t_eq] at c_36
                  have t_51 := t_rng (((f a0 0) - ((f (a0 + 12) ((x1 + x2) - (nI 1)).toNatClampNeg) - (f (a0 + 11) x1.toNatClampNeg))) * ((f a0 0) - ((f (a0 + 12) ((x1 + x2) - (nI 1)).toNatClampNeg) - (f (a0 + 11) x1.toNatClampNeg))))
                  have t_51s := t_sq ((f a0 0) - ((f (a0 + 12) ((x1 + x2) - (nI 1)).toNatClampNeg) - (f (a0 + 11) x1.toNatClampNeg)))
                  first | have t_50 : (((((f a0 0) - ((f (a0 + 12) ((x1 + x2) - (nI 1)).toNatClampNeg) - (f (a0 + 11) x1.toNatClampNeg))) * ((f a0 0) - ((f (a0 + 12) ((x1 + x2) - (nI 1)).toNatClampNeg) - (f (a0 + 11) x1.toNatClampNeg))))) + ((f (a0 + 13) (x1 + x2).toNatClampNeg))).toInt = (((((f a0 0) - ((f (a0 + 12) ((x1 + x2) - (nI 1)).toNatClampNeg) - (f (a0 + 11) x1.toNatClampNeg))) * ((f a0 0) - ((f (a0 + 12) ((x1 + x2) - (nI 1)).toNatClampNeg) - (f (a0 + 11) x1.toNatClampNeg)))))).toInt + (((f (a0 + 13) (x1 + x2).toNatClampNeg))).toInt := t_addn (by omega) | obtain ⟨kt_50, t_50⟩ := t_add ((((f a0 0) - ((f (a0 + 12) ((x1 + x2) - (nI 1)).toNatClampNeg) - (f (a0 + 11) x1.toNatClampNeg))) * ((f a0 0) - ((f (a0 + 12) ((x1 + x2) - (nI 1)).toNatClampNeg) - (f (a0 + 11) x1.toNatClampNeg))))) ((f (a0 + 13) (x1 + x2).toNatClampNeg))
                  refine cT_if (b_M_solveLines_113 s0 (by rw [t_in]; omega)) (fun c_49 => ?_) (fun c_49 => ?_)
                  · rw [t_le] at c_49
                    refine cT_go b_M_solveLines_139 ?_
                    first | have t_52 : (x2 + (nI 1)).toInt = (x2).toInt + ((nI 1)).toInt := t_addn (by omega) | obtain ⟨kt_52, t_52⟩ := t_add x2 (nI 1)
                    have t_53 := t_rng (f (a0 + 14) x1.toNatClampNeg)
                    exact ih (by omega) hI hF s0 (by omega) (by omega) (by omega) (by omega) p3 (fun j hj => by first | exact i4 j hj | (rw [cg_up_o (by omega), cg_up_k hj]; exact i4 j hj) | rw [cg_up_k hj]) (fun j hj => by first | exact i5 j hj | (rw [cg_up_k hj, cg_up_o (by omega)]; exact i5 j hj) | rw [cg_up_o (by omega)]) (by omega)
                  · rw [t_le] at c_49
                    have hI_54 := cI_up (k := x1.toNatClampNeg) (x := (((f a0 0) - ((f (a0 + 12) ((x1 + x2) - (nI 1)).toNatClampNeg) - (f (a0 + 11) x1.toNatClampNeg))) * ((f a0 0) - ((f (a0 + 12) ((x1 + x2) - (nI 1)).toNatClampNeg) - (f (a0 + 11) x1.toNatClampNeg)))) + (f (a0 + 13) (x1 + x2).toNatClampNeg)) hI (sc_7_21 s0) ⟨(fun _ => by omega), (fun _ => by omega), (fun _ => by omega), (fun _ => by omega), (fun _ => by omega), (fun _ => by omega), (fun _ => by omega), (fun _ => by omega), (fun _ => by omega), (fun _ => by omega), (fun _ => by omega), (fun _ => by omega), (fun _ => by omega)⟩
                    have hF_55 := cF_up (a := a0 + 13) (k := x1.toNatClampNeg) (x := (((f a0 0) - ((f (a0 + 12) ((x1 + x2) - (nI 1)).toNatClampNeg) - (f (a0 + 11) x1.toNatClampNeg))) * ((f a0 0) - ((f (a0 + 12) ((x1 + x2) - (nI 1)).toNatClampNeg) - (f (a0 + 11) x1.toNatClampNeg)))) + (f (a0 + 13) (x1 + x2).toNatClampNeg)) hF (by omega)
                    have hI_56 := cI_up (k := x1.toNatClampNeg) (x := x2) hI_54 (sc_7_22 s0) ⟨(fun _ => by omega), (fun _ => by omega), (fun _ => by omega), (fun _ => by omega), (fun _ => by omega), (fun _ => by omega), (fun _ => by omega), (fun _ => by omega), (fun _ => by omega), (fun _ => by omega), (fun _ => by omega), (fun _ => by omega), (fun _ => by omega)⟩
                    have hF_57 := cF_up (a := a0 + 14) (k := x1.toNatClampNeg) (x := x2) hF_55 (by omega)
                    refine cT_go (b_M_solveLines_124 s0 (by rw [t_in]; omega)) ?_
                    refine cT_go b_M_solveLines_139 ?_
                    first | have t_58 : (x2 + (nI 1)).toInt = (x2).toInt + ((nI 1)).toInt := t_addn (by omega) | obtain ⟨kt_58, t_58⟩ := t_add x2 (nI 1)
                    have t_59 : ((cg_up (cg_up f (a0 + 13) x1.toNatClampNeg ((((f a0 0) - ((f (a0 + 12) ((x1 + x2) - (nI 1)).toNatClampNeg) - (f (a0 + 11) x1.toNatClampNeg))) * ((f a0 0) - ((f (a0 + 12) ((x1 + x2) - (nI 1)).toNatClampNeg) - (f (a0 + 11) x1.toNatClampNeg)))) + (f (a0 + 13) (x1 + x2).toNatClampNeg))) (a0 + 14) x1.toNatClampNeg x2) (a0 + 13) x1.toNatClampNeg).toInt = ((cg_up f (a0 + 13) x1.toNatClampNeg ((((f a0 0) - ((f (a0 + 12) ((x1 + x2) - (nI 1)).toNatClampNeg) - (f (a0 + 11) x1.toNatClampNeg))) * ((f a0 0) - ((f (a0 + 12) ((x1 + x2) - (nI 1)).toNatClampNeg) - (f (a0 + 11) x1.toNatClampNeg)))) + (f (a0 + 13) (x1 + x2).toNatClampNeg))) (a0 + 13) x1.toNatClampNeg).toInt := by rw [cg_up_o (by omega)]
                    have t_60 : ((cg_up f (a0 + 13) x1.toNatClampNeg ((((f a0 0) - ((f (a0 + 12) ((x1 + x2) - (nI 1)).toNatClampNeg) - (f (a0 + 11) x1.toNatClampNeg))) * ((f a0 0) - ((f (a0 + 12) ((x1 + x2) - (nI 1)).toNatClampNeg) - (f (a0 + 11) x1.toNatClampNeg)))) + (f (a0 + 13) (x1 + x2).toNatClampNeg))) (a0 + 13) x1.toNatClampNeg).toInt = ((((f a0 0) - ((f (a0 + 12) ((x1 + x2) - (nI 1)).toNatClampNeg) - (f (a0 + 11) x1.toNatClampNeg))) * ((f a0 0) - ((f (a0 + 12) ((x1 + x2) - (nI 1)).toNatClampNeg) - (f (a0 + 11) x1.toNatClampNeg)))) + (f (a0 + 13) (x1 + x2).toNatClampNeg)).toInt := by rw [cg_up_s]
                    have t_61 : ((cg_up (cg_up f (a0 + 13) x1.toNatClampNeg ((((f a0 0) - ((f (a0 + 12) ((x1 + x2) - (nI 1)).toNatClampNeg) - (f (a0 + 11) x1.toNatClampNeg))) * ((f a0 0) - ((f (a0 + 12) ((x1 + x2) - (nI 1)).toNatClampNeg) - (f (a0 + 11) x1.toNatClampNeg)))) + (f (a0 + 13) (x1 + x2).toNatClampNeg))) (a0 + 14) x1.toNatClampNeg x2) (a0 + 14) x1.toNatClampNeg).toInt = (x2).toInt := by rw [cg_up_s]
                    exact ih (by omega) hI_56 hF_57 s0 (by omega) (by omega) (by omega) (by omega) p3 (fun j hj => by first | exact i4 j hj | (rw [cg_up_o (by omega), cg_up_k hj]; exact i4 j hj) | rw [cg_up_k hj]) (fun j hj => by first | exact i5 j hj | (rw [cg_up_k hj, cg_up_o (by omega)]; exact i5 j hj) | rw [cg_up_o (by omega)]) (by omega)
            · rw [t_eq] at c_25
              have tc_64 := t_cl x1
              have t_63 : -1 ≤ (f (a0 + 13) x1.toNatClampNeg).toInt ∧ (f (a0 + 13) x1.toNatClampNeg).toInt ≤ 78400 * ((901 - x1.toNatClampNeg : Nat) : Int) := (cI_at hI x1.toNatClampNeg (sc_7_21 s0)).2.2.2.2.2.2.2.2.2.2.1 (by omega)
              have t_65 := t_neg1
              refine cT_if (b_M_solveLines_103 s0 (by rw [t_in]; omega)) (fun c_62 => ?_) (fun c_62 => ?_)
              · rw [t_eq] at c_62
                have t_69 := t_rng (((f a0 0) - ((f (a0 + 12) ((x1 + x2) - (nI 1)).toNatClampNeg) - (f (a0 + 11) x1.toNatClampNeg))) * ((f a0 0) - ((f (a0 + 12) ((x1 + x2) - (nI 1)).toNatClampNeg) - (f (a0 + 11) x1.toNatClampNeg))))
                have t_69s := t_sq ((f a0 0) - ((f (a0 + 12) ((x1 + x2) - (nI 1)).toNatClampNeg) - (f (a0 + 11) x1.toNatClampNeg)))
                have tc_71 := t_cl (x1 + x2)
                have t_70 : -1 ≤ (f (a0 + 13) (x1 + x2).toNatClampNeg).toInt ∧ (f (a0 + 13) (x1 + x2).toNatClampNeg).toInt ≤ 78400 * ((901 - ((x1 + x2).toNatClampNeg) : Nat) : Int) := (cI_at hI (x1 + x2).toNatClampNeg (sc_7_21 s0)).2.2.2.2.2.2.2.2.2.2.1 (by omega)
                first | have t_68 : (((((f a0 0) - ((f (a0 + 12) ((x1 + x2) - (nI 1)).toNatClampNeg) - (f (a0 + 11) x1.toNatClampNeg))) * ((f a0 0) - ((f (a0 + 12) ((x1 + x2) - (nI 1)).toNatClampNeg) - (f (a0 + 11) x1.toNatClampNeg))))) + ((f (a0 + 13) (x1 + x2).toNatClampNeg))).toInt = (((((f a0 0) - ((f (a0 + 12) ((x1 + x2) - (nI 1)).toNatClampNeg) - (f (a0 + 11) x1.toNatClampNeg))) * ((f a0 0) - ((f (a0 + 12) ((x1 + x2) - (nI 1)).toNatClampNeg) - (f (a0 + 11) x1.toNatClampNeg)))))).toInt + (((f (a0 + 13) (x1 + x2).toNatClampNeg))).toInt := t_addn (by omega) | obtain ⟨kt_68, t_68⟩ := t_add ((((f a0 0) - ((f (a0 + 12) ((x1 + x2) - (nI 1)).toNatClampNeg) - (f (a0 + 11) x1.toNatClampNeg))) * ((f a0 0) - ((f (a0 + 12) ((x1 + x2) - (nI 1)).toNatClampNeg) - (f (a0 + 11) x1.toNatClampNeg))))) ((f (a0 + 13) (x1 + x2).toNatClampNeg))
                have hI_66 := cI_up (k := x1.toNatClampNeg) (x := (((f a0 0) - ((f (a0 + 12) ((x1 + x2) - (nI 1)).toNatClampNeg) - (f (a0 + 11) x1.toNatClampNeg))) * ((f a0 0) - ((f (a0 + 12) ((x1 + x2) - (nI 1)).toNatClampNeg) - (f (a0 + 11) x1.toNatClampNeg)))) + (f (a0 + 13) (x1 + x2).toNatClampNeg)) hI (sc_7_21 s0) ⟨(fun _ => by omega), (fun _ => by omega), (fun _ => by omega), (fun _ => by omega), (fun _ => by omega), (fun _ => by omega), (fun _ => by omega), (fun _ => by omega), (fun _ => by omega), (fun _ => by omega), (fun _ => by omega), (fun _ => by omega), (fun _ => by omega)⟩
                have hF_67 := cF_up (a := a0 + 13) (k := x1.toNatClampNeg) (x := (((f a0 0) - ((f (a0 + 12) ((x1 + x2) - (nI 1)).toNatClampNeg) - (f (a0 + 11) x1.toNatClampNeg))) * ((f a0 0) - ((f (a0 + 12) ((x1 + x2) - (nI 1)).toNatClampNeg) - (f (a0 + 11) x1.toNatClampNeg)))) + (f (a0 + 13) (x1 + x2).toNatClampNeg)) hF (by omega)
                have hI_72 := cI_up (k := x1.toNatClampNeg) (x := x2) hI_66 (sc_7_22 s0) ⟨(fun _ => by omega), (fun _ => by omega), (fun _ => by omega), (fun _ => by omega), (fun _ => by omega), (fun _ => by omega), (fun _ => by omega), (fun _ => by omega), (fun _ => by omega), (fun _ => by omega), (fun _ => by omega), (fun _ => by omega), (fun _ => by omega)⟩
                have hF_73 := cF_up (a := a0 + 14) (k := x1.toNatClampNeg) (x := x2) hF_67 (by omega)
                refine cT_go (b_M_solveLines_124 s0 (by rw [t_in]; omega)) ?_
                refine cT_go b_M_solveLines_139 ?_
                first | have t_74 : (x2 + (nI 1)).toInt = (x2).toInt + ((nI 1)).toInt := t_addn (by omega) | obtain ⟨kt_74, t_74⟩ := t_add x2 (nI 1)
                have t_75 : ((cg_up (cg_up f (a0 + 13) x1.toNatClampNeg ((((f a0 0) - ((f (a0 + 12) ((x1 + x2) - (nI 1)).toNatClampNeg) - (f (a0 + 11) x1.toNatClampNeg))) * ((f a0 0) - ((f (a0 + 12) ((x1 + x2) - (nI 1)).toNatClampNeg) - (f (a0 + 11) x1.toNatClampNeg)))) + (f (a0 + 13) (x1 + x2).toNatClampNeg))) (a0 + 14) x1.toNatClampNeg x2) (a0 + 13) x1.toNatClampNeg).toInt = ((cg_up f (a0 + 13) x1.toNatClampNeg ((((f a0 0) - ((f (a0 + 12) ((x1 + x2) - (nI 1)).toNatClampNeg) - (f (a0 + 11) x1.toNatClampNeg))) * ((f a0 0) - ((f (a0 + 12) ((x1 + x2) - (nI 1)).toNatClampNeg) - (f (a0 + 11) x1.toNatClampNeg)))) + (f (a0 + 13) (x1 + x2).toNatClampNeg))) (a0 + 13) x1.toNatClampNeg).toInt := by rw [cg_up_o (by omega)]
                have t_76 : ((cg_up f (a0 + 13) x1.toNatClampNeg ((((f a0 0) - ((f (a0 + 12) ((x1 + x2) - (nI 1)).toNatClampNeg) - (f (a0 + 11) x1.toNatClampNeg))) * ((f a0 0) - ((f (a0 + 12) ((x1 + x2) - (nI 1)).toNatClampNeg) - (f (a0 + 11) x1.toNatClampNeg)))) + (f (a0 + 13) (x1 + x2).toNatClampNeg))) (a0 + 13) x1.toNatClampNeg).toInt = ((((f a0 0) - ((f (a0 + 12) ((x1 + x2) - (nI 1)).toNatClampNeg) - (f (a0 + 11) x1.toNatClampNeg))) * ((f a0 0) - ((f (a0 + 12) ((x1 + x2) - (nI 1)).toNatClampNeg) - (f (a0 + 11) x1.toNatClampNeg)))) + (f (a0 + 13) (x1 + x2).toNatClampNeg)).toInt := by rw [cg_up_s]
                have t_77 : ((cg_up (cg_up f (a0 + 13) x1.toNatClampNeg ((((f a0 0) - ((f (a0 + 12) ((x1 + x2) - (nI 1)).toNatClampNeg) - (f (a0 + 11) x1.toNatClampNeg))) * ((f a0 0) - ((f (a0 + 12) ((x1 + x2) - (nI 1)).toNatClampNeg) - (f (a0 + 11) x1.toNatClampNeg)))) + (f (a0 + 13) (x1 + x2).toNatClampNeg))) (a0 + 14) x1.toNatClampNeg x2) (a0 + 14) x1.toNatClampNeg).toInt = (x2).toInt := by rw [cg_up_s]
                exact ih (by omega) hI_72 hF_73 s0 (by omega) (by omega) (by omega) (by omega) p3 (fun j hj => by first | exact i4 j hj | (rw [cg_up_o (by omega), cg_up_k hj]; exact i4 j hj) | rw [cg_up_k hj]) (fun j hj => by first | exact i5 j hj | (rw [cg_up_k hj, cg_up_o (by omega)]; exact i5 j hj) | rw [cg_up_o (by omega)]) (by omega)
              · rw [t_eq] at c_62
                have t_80 := t_rng (((f a0 0) - ((f (a0 + 12) ((x1 + x2) - (nI 1)).toNatClampNeg) - (f (a0 + 11) x1.toNatClampNeg))) * ((f a0 0) - ((f (a0 + 12) ((x1 + x2) - (nI 1)).toNatClampNeg) - (f (a0 + 11) x1.toNatClampNeg))))
                have t_80s := t_sq ((f a0 0) - ((f (a0 + 12) ((x1 + x2) - (nI 1)).toNatClampNeg) - (f (a0 + 11) x1.toNatClampNeg)))
                have tc_82 := t_cl (x1 + x2)
                have t_81 : -1 ≤ (f (a0 + 13) (x1 + x2).toNatClampNeg).toInt ∧ (f (a0 + 13) (x1 + x2).toNatClampNeg).toInt ≤ 78400 * ((901 - ((x1 + x2).toNatClampNeg) : Nat) : Int) := (cI_at hI (x1 + x2).toNatClampNeg (sc_7_21 s0)).2.2.2.2.2.2.2.2.2.2.1 (by omega)
                first | have t_79 : (((((f a0 0) - ((f (a0 + 12) ((x1 + x2) - (nI 1)).toNatClampNeg) - (f (a0 + 11) x1.toNatClampNeg))) * ((f a0 0) - ((f (a0 + 12) ((x1 + x2) - (nI 1)).toNatClampNeg) - (f (a0 + 11) x1.toNatClampNeg))))) + ((f (a0 + 13) (x1 + x2).toNatClampNeg))).toInt = (((((f a0 0) - ((f (a0 + 12) ((x1 + x2) - (nI 1)).toNatClampNeg) - (f (a0 + 11) x1.toNatClampNeg))) * ((f a0 0) - ((f (a0 + 12) ((x1 + x2) - (nI 1)).toNatClampNeg) - (f (a0 + 11) x1.toNatClampNeg)))))).toInt + (((f (a0 + 13) (x1 + x2).toNatClampNeg))).toInt := t_addn (by omega) | obtain ⟨kt_79, t_79⟩ := t_add ((((f a0 0) - ((f (a0 + 12) ((x1 + x2) - (nI 1)).toNatClampNeg) - (f (a0 + 11) x1.toNatClampNeg))) * ((f a0 0) - ((f (a0 + 12) ((x1 + x2) - (nI 1)).toNatClampNeg) - (f (a0 + 11) x1.toNatClampNeg))))) ((f (a0 + 13) (x1 + x2).toNatClampNeg))
                refine cT_if (b_M_solveLines_113 s0 (by rw [t_in]; omega)) (fun c_78 => ?_) (fun c_78 => ?_)
                · rw [t_le] at c_78
                  refine cT_go b_M_solveLines_139 ?_
                  first | have t_83 : (x2 + (nI 1)).toInt = (x2).toInt + ((nI 1)).toInt := t_addn (by omega) | obtain ⟨kt_83, t_83⟩ := t_add x2 (nI 1)
                  have t_84 := t_rng (f (a0 + 14) x1.toNatClampNeg)
                  exact ih (by omega) hI hF s0 (by omega) (by omega) (by omega) (by omega) p3 (fun j hj => by first | exact i4 j hj | (rw [cg_up_o (by omega), cg_up_k hj]; exact i4 j hj) | rw [cg_up_k hj]) (fun j hj => by first | exact i5 j hj | (rw [cg_up_k hj, cg_up_o (by omega)]; exact i5 j hj) | rw [cg_up_o (by omega)]) (by omega)
                · rw [t_le] at c_78
                  have hI_85 := cI_up (k := x1.toNatClampNeg) (x := (((f a0 0) - ((f (a0 + 12) ((x1 + x2) - (nI 1)).toNatClampNeg) - (f (a0 + 11) x1.toNatClampNeg))) * ((f a0 0) - ((f (a0 + 12) ((x1 + x2) - (nI 1)).toNatClampNeg) - (f (a0 + 11) x1.toNatClampNeg)))) + (f (a0 + 13) (x1 + x2).toNatClampNeg)) hI (sc_7_21 s0) ⟨(fun _ => by omega), (fun _ => by omega), (fun _ => by omega), (fun _ => by omega), (fun _ => by omega), (fun _ => by omega), (fun _ => by omega), (fun _ => by omega), (fun _ => by omega), (fun _ => by omega), (fun _ => by omega), (fun _ => by omega), (fun _ => by omega)⟩
                  have hF_86 := cF_up (a := a0 + 13) (k := x1.toNatClampNeg) (x := (((f a0 0) - ((f (a0 + 12) ((x1 + x2) - (nI 1)).toNatClampNeg) - (f (a0 + 11) x1.toNatClampNeg))) * ((f a0 0) - ((f (a0 + 12) ((x1 + x2) - (nI 1)).toNatClampNeg) - (f (a0 + 11) x1.toNatClampNeg)))) + (f (a0 + 13) (x1 + x2).toNatClampNeg)) hF (by omega)
                  have hI_87 := cI_up (k := x1.toNatClampNeg) (x := x2) hI_85 (sc_7_22 s0) ⟨(fun _ => by omega), (fun _ => by omega), (fun _ => by omega), (fun _ => by omega), (fun _ => by omega), (fun _ => by omega), (fun _ => by omega), (fun _ => by omega), (fun _ => by omega), (fun _ => by omega), (fun _ => by omega), (fun _ => by omega), (fun _ => by omega)⟩
                  have hF_88 := cF_up (a := a0 + 14) (k := x1.toNatClampNeg) (x := x2) hF_86 (by omega)
                  refine cT_go (b_M_solveLines_124 s0 (by rw [t_in]; omega)) ?_
                  refine cT_go b_M_solveLines_139 ?_
                  first | have t_89 : (x2 + (nI 1)).toInt = (x2).toInt + ((nI 1)).toInt := t_addn (by omega) | obtain ⟨kt_89, t_89⟩ := t_add x2 (nI 1)
                  have t_90 : ((cg_up (cg_up f (a0 + 13) x1.toNatClampNeg ((((f a0 0) - ((f (a0 + 12) ((x1 + x2) - (nI 1)).toNatClampNeg) - (f (a0 + 11) x1.toNatClampNeg))) * ((f a0 0) - ((f (a0 + 12) ((x1 + x2) - (nI 1)).toNatClampNeg) - (f (a0 + 11) x1.toNatClampNeg)))) + (f (a0 + 13) (x1 + x2).toNatClampNeg))) (a0 + 14) x1.toNatClampNeg x2) (a0 + 13) x1.toNatClampNeg).toInt = ((cg_up f (a0 + 13) x1.toNatClampNeg ((((f a0 0) - ((f (a0 + 12) ((x1 + x2) - (nI 1)).toNatClampNeg) - (f (a0 + 11) x1.toNatClampNeg))) * ((f a0 0) - ((f (a0 + 12) ((x1 + x2) - (nI 1)).toNatClampNeg) - (f (a0 + 11) x1.toNatClampNeg)))) + (f (a0 + 13) (x1 + x2).toNatClampNeg))) (a0 + 13) x1.toNatClampNeg).toInt := by rw [cg_up_o (by omega)]
                  have t_91 : ((cg_up f (a0 + 13) x1.toNatClampNeg ((((f a0 0) - ((f (a0 + 12) ((x1 + x2) - (nI 1)).toNatClampNeg) - (f (a0 + 11) x1.toNatClampNeg))) * ((f a0 0) - ((f (a0 + 12) ((x1 + x2) - (nI 1)).toNatClampNeg) - (f (a0 + 11) x1.toNatClampNeg)))) + (f (a0 + 13) (x1 + x2).toNatClampNeg))) (a0 + 13) x1.toNatClampNeg).toInt = ((((f a0 0) - ((f (a0 + 12) ((x1 + x2) - (nI 1)).toNatClampNeg) - (f (a0 + 11) x1.toNatClampNeg))) * ((f a0 0) - ((f (a0 + 12) ((x1 + x2) - (nI 1)).toNatClampNeg) - (f (a0 + 11) x1.toNatClampNeg)))) + (f (a0 + 13) (x1 + x2).toNatClampNeg)).toInt := by rw [cg_up_s]
                  have t_92 : ((cg_up (cg_up f (a0 + 13) x1.toNatClampNeg ((((f a0 0) - ((f (a0 + 12) ((x1 + x2) - (nI 1)).toNatClampNeg) - (f (a0 + 11) x1.toNatClampNeg))) * ((f a0 0) - ((f (a0 + 12) ((x1 + x2) - (nI 1)).toNatClampNeg) - (f (a0 + 11) x1.toNatClampNeg)))) + (f (a0 + 13) (x1 + x2).toNatClampNeg))) (a0 + 14) x1.toNatClampNeg x2) (a0 + 14) x1.toNatClampNeg).toInt = (x2).toInt := by rw [cg_up_s]
                  exact ih (by omega) hI_87 hF_88 s0 (by omega) (by omega) (by omega) (by omega) p3 (fun j hj => by first | exact i4 j hj | (rw [cg_up_o (by omega), cg_up_k hj]; exact i4 j hj) | rw [cg_up_k hj]) (fun j hj => by first | exact i5 j hj | (rw [cg_up_k hj, cg_up_o (by omega)]; exact i5 j hj) | rw [cg_up_o (by omega)]) (by omega)
        · rw [t_eq] at c_9
          refine cT_go b_M_solveLines_64 ?_
          have t_95 : 6 ≤ (f a0 0).toInt ∧ (f a0 0).toInt ≤ 40 := (cI_at hI 0 s0).1 rfl
          have t_97 : 0 ≤ (f (a0 + 12) ((x1 + x2) - (nI 1)).toNatClampNeg).toInt ∧ (f (a0 + 12) ((x1 + x2) - (nI 1)).toNatClampNeg).toInt ≤ 240 := (cI_at hI ((x1 + x2) - (nI 1)).toNatClampNeg (sc_7_20 s0)).2.2.2.2.2.2.2.2.2.1 (by omega)
          have t_98 : 0 ≤ (f (a0 + 11) x1.toNatClampNeg).toInt ∧ (f (a0 + 11) x1.toNatClampNeg).toInt ≤ 240 := (cI_at hI x1.toNatClampNeg (sc_7_19 s0)).2.2.2.2.2.2.2.2.1 (by omega)
          first | have t_96 : (((f (a0 + 12) ((x1 + x2) - (nI 1)).toNatClampNeg)) - ((f (a0 + 11) x1.toNatClampNeg))).toInt = (((f (a0 + 12) ((x1 + x2) - (nI 1)).toNatClampNeg))).toInt - (((f (a0 + 11) x1.toNatClampNeg))).toInt := t_subn (by omega) | obtain ⟨kt_96, t_96⟩ := t_sub ((f (a0 + 12) ((x1 + x2) - (nI 1)).toNatClampNeg)) ((f (a0 + 11) x1.toNatClampNeg))
          first | have t_94 : (((f a0 0)) - (((f (a0 + 12) ((x1 + x2) - (nI 1)).toNatClampNeg) - (f (a0 + 11) x1.toNatClampNeg)))).toInt = (((f a0 0))).toInt - ((((f (a0 + 12) ((x1 + x2) - (nI 1)).toNatClampNeg) - (f (a0 + 11) x1.toNatClampNeg)))).toInt := t_subn (by omega) | obtain ⟨kt_94, t_94⟩ := t_sub ((f a0 0)) (((f (a0 + 12) ((x1 + x2) - (nI 1)).toNatClampNeg) - (f (a0 + 11) x1.toNatClampNeg)))
          refine cT_if b_M_solveLines_80 (fun c_93 => ?_) (fun c_93 => ?_)
          · rw [t_lt] at c_93
            refine cT_go b_M_solveLines_139 ?_
            first | have t_99 : (x2 + (nI 1)).toInt = (x2).toInt + ((nI 1)).toInt := t_addn (by omega) | obtain ⟨kt_99, t_99⟩ := t_add x2 (nI 1)
            have t_100 : (nI 0).toInt = 0 := nI_toInt (by decide)
            have tc_102 := t_cl x1
            have t_101 : -1 ≤ (f (a0 + 13) x1.toNatClampNeg).toInt ∧ (f (a0 + 13) x1.toNatClampNeg).toInt ≤ 78400 * ((901 - x1.toNatClampNeg : Nat) : Int) := (cI_at hI x1.toNatClampNeg (sc_7_21 s0)).2.2.2.2.2.2.2.2.2.2.1 (by omega)
            have t_103 := t_rng (f (a0 + 14) x1.toNatClampNeg)
            exact ih (by omega) hI hF s0 (by omega) (by omega) (by omega) (by omega) p3 (fun j hj => by first | exact i4 j hj | (rw [cg_up_o (by omega), cg_up_k hj]; exact i4 j hj) | rw [cg_up_k hj]) (fun j hj => by first | exact i5 j hj | (rw [cg_up_k hj, cg_up_o (by omega)]; exact i5 j hj) | rw [cg_up_o (by omega)]) (by omega)
          · rw [t_lt] at c_93
            refine cT_if b_M_solveLines_86 (fun c_104 => ?_) (fun c_104 => ?_)
            · rw [t_eq] at c_104
              have tc_107 := t_cl (x1 + x2)
              have t_106 : -1 ≤ (f (a0 + 13) (x1 + x2).toNatClampNeg).toInt ∧ (f (a0 + 13) (x1 + x2).toNatClampNeg).toInt ≤ 78400 * ((901 - ((x1 + x2).toNatClampNeg) : Nat) : Int) := (cI_at hI (x1 + x2).toNatClampNeg (sc_7_21 s0)).2.2.2.2.2.2.2.2.2.2.1 (by omega)
              have t_108 := t_neg1
              refine cT_if (b_M_solveLines_91 s0 (by rw [t_in]; omega)) (fun c_105 => ?_) (fun c_105 => ?_)
              · rw [t_eq] at c_105
                refine cT_go b_M_solveLines_139 ?_
                first | have t_109 : (x2 + (nI 1)).toInt = (x2).toInt + ((nI 1)).toInt := t_addn (by omega) | obtain ⟨kt_109, t_109⟩ := t_add x2 (nI 1)
                have t_110 : (nI 0).toInt = 0 := nI_toInt (by decide)
                have tc_112 := t_cl x1
                have t_111 : -1 ≤ (f (a0 + 13) x1.toNatClampNeg).toInt ∧ (f (a0 + 13) x1.toNatClampNeg).toInt ≤ 78400 * ((901 - x1.toNatClampNeg : Nat) : Int) := (cI_at hI x1.toNatClampNeg (sc_7_21 s0)).2.2.2.2.2.2.2.2.2.2.1 (by omega)
                have t_113 := t_rng (f (a0 + 14) x1.toNatClampNeg)
                exact ih (by omega) hI hF s0 (by omega) (by omega) (by omega) (by omega) p3 (fun j hj => by first | exact i4 j hj | (rw [cg_up_o (by omega), cg_up_k hj]; exact i4 j hj) | rw [cg_up_k hj]) (fun j hj => by first | exact i5 j hj | (rw [cg_up_k hj, cg_up_o (by omega)]; exact i5 j hj) | rw [cg_up_o (by omega)]) (by omega)
              · rw [t_eq] at c_105
                have tc_116 := t_cl x1
                have t_115 : -1 ≤ (f (a0 + 13) x1.toNatClampNeg).toInt ∧ (f (a0 + 13) x1.toNatClampNeg).toInt ≤ 78400 * ((901 - x1.toNatClampNeg : Nat) : Int) := (cI_at hI x1.toNatClampNeg (sc_7_21 s0)).2.2.2.2.2.2.2.2.2.2.1 (by omega)
                refine cT_if (b_M_solveLines_103 s0 (by rw [t_in]; omega)) (fun c_114 => ?_) (fun c_114 => ?_)
                · rw [t_eq] at c_114
                  have t_119 : (nI 0).toInt = 0 := nI_toInt (by decide)
                  have hI_117 := cI_up (k := x1.toNatClampNeg) (x := nI 0) hI (sc_7_21 s0) ⟨(fun _ => by omega), (fun _ => by omega), (fun _ => by omega), (fun _ => by omega), (fun _ => by omega), (fun _ => by omega), (fun _ => by omega), (fun _ => by omega), (fun _ => by omega), (fun _ => by omega), (fun _ => by omega), (fun _ => by omega), (fun _ => by omega)⟩
                  have hF_118 := cF_up (a := a0 + 13) (k := x1.toNatClampNeg) (x := nI 0) hF (by omega)
                  have hI_120 := cI_up (k := x1.toNatClampNeg) (x := x2) hI_117 (sc_7_22 s0) ⟨(fun _ => by omega), (fun _ => by omega), (fun _ => by omega), (fun _ => by omega), (fun _ => by omega), (fun _ => by omega), (fun _ => by omega), (fun _ => by omega), (fun _ => by omega), (fun _ => by omega), (fun _ => by omega), (fun _ => by omega), (fun _ => by omega)⟩
                  have hF_121 := cF_up (a := a0 + 14) (k := x1.toNatClampNeg) (x := x2) hF_118 (by omega)
                  refine cT_go (b_M_solveLines_124 s0 (by rw [t_in]; omega)) ?_
                  refine cT_go b_M_solveLines_139 ?_
                  first | have t_122 : (x2 + (nI 1)).toInt = (x2).toInt + ((nI 1)).toInt := t_addn (by omega) | obtain ⟨kt_122, t_122⟩ := t_add x2 (nI 1)
                  have t_123 : ((cg_up (cg_up f (a0 + 13) x1.toNatClampNeg (nI 0)) (a0 + 14) x1.toNatClampNeg x2) (a0 + 13) x1.toNatClampNeg).toInt = ((cg_up f (a0 + 13) x1.toNatClampNeg (nI 0)) (a0 + 13) x1.toNatClampNeg).toInt := by rw [cg_up_o (by omega)]
                  have t_124 : ((cg_up f (a0 + 13) x1.toNatClampNeg (nI 0)) (a0 + 13) x1.toNatClampNeg).toInt = (nI 0).toInt := by rw [cg_up_s]
                  have t_125 : ((cg_up (cg_up f (a0 + 13) x1.toNatClampNeg (nI 0)) (a0 + 14) x1.toNatClampNeg x2) (a0 + 14) x1.toNatClampNeg).toInt = (x2).toInt := by rw [cg_up_s]
                  exact ih (by omega) hI_120 hF_121 s0 (by omega) (by omega) (by omega) (by omega) p3 (fun j hj => by first | exact i4 j hj | (rw [cg_up_o (by omega), cg_up_k hj]; exact i4 j hj) | rw [cg_up_k hj]) (fun j hj => by first | exact i5 j hj | (rw [cg_up_k hj, cg_up_o (by omega)]; exact i5 j hj) | rw [cg_up_o (by omega)]) (by omega)
                · rw [t_eq] at c_114
                  have t_127 : (nI 0).toInt = 0 := nI_toInt (by decide)
                  refine cT_if (b_M_solveLines_113 s0 (by rw [t_in]; omega)) (fun c_126 => ?_) (fun c_126 => ?_)
                  · rw [t_le] at c_126
                    refine cT_go b_M_solveLines_139 ?_
                    first | have t_128 : (x2 + (nI 1)).toInt = (x2).toInt + ((nI 1)).toInt := t_addn (by omega) | obtain ⟨kt_128, t_128⟩ := t_add x2 (nI 1)
                    have t_129 := t_rng (f (a0 + 14) x1.toNatClampNeg)
                    exact ih (by omega) hI hF s0 (by omega) (by omega) (by omega) (by omega) p3 (fun j hj => by first | exact i4 j hj | (rw [cg_up_o (by omega), cg_up_k hj]; exact i4 j hj) | rw [cg_up_k hj]) (fun j hj => by first | exact i5 j hj | (rw [cg_up_k hj, cg_up_o (by omega)]; exact i5 j hj) | rw [cg_up_o (by omega)]) (by omega)
                  · rw [t_le] at c_126
                    have hI_130 := cI_up (k := x1.toNatClampNeg) (x := nI 0) hI (sc_7_21 s0) ⟨(fun _ => by omega), (fun _ => by omega), (fun _ => by omega), (fun _ => by omega), (fun _ => by omega), (fun _ => by omega), (fun _ => by omega), (fun _ => by omega), (fun _ => by omega), (fun _ => by omega), (fun _ => by omega), (fun _ => by omega), (fun _ => by omega)⟩
                    have hF_131 := cF_up (a := a0 + 13) (k := x1.toNatClampNeg) (x := nI 0) hF (by omega)
                    have hI_132 := cI_up (k := x1.toNatClampNeg) (x := x2) hI_130 (sc_7_22 s0) ⟨(fun _ => by omega), (fun _ => by omega), (fun _ => by omega), (fun _ => by omega), (fun _ => by omega), (fun _ => by omega), (fun _ => by omega), (fun _ => by omega), (fun _ => by omega), (fun _ => by omega), (fun _ => by omega), (fun _ => by omega), (fun _ => by omega)⟩
                    have hF_133 := cF_up (a := a0 + 14) (k := x1.toNatClampNeg) (x := x2) hF_131 (by omega)
                    refine cT_go (b_M_solveLines_124 s0 (by rw [t_in]; omega)) ?_
                    refine cT_go b_M_solveLines_139 ?_
                    first | have t_134 : (x2 + (nI 1)).toInt = (x2).toInt + ((nI 1)).toInt := t_addn (by omega) | obtain ⟨kt_134, t_134⟩ := t_add x2 (nI 1)
                    have t_135 : ((cg_up (cg_up f (a0 + 13) x1.toNatClampNeg (nI 0)) (a0 + 14) x1.toNatClampNeg x2) (a0 + 13) x1.toNatClampNeg).toInt = ((cg_up f (a0 + 13) x1.toNatClampNeg (nI 0)) (a0 + 13) x1.toNatClampNeg).toInt := by rw [cg_up_o (by omega)]
                    have t_136 : ((cg_up f (a0 + 13) x1.toNatClampNeg (nI 0)) (a0 + 13) x1.toNatClampNeg).toInt = (nI 0).toInt := by rw [cg_up_s]
                    have t_137 : ((cg_up (cg_up f (a0 + 13) x1.toNatClampNeg (nI 0)) (a0 + 14) x1.toNatClampNeg x2) (a0 + 14) x1.toNatClampNeg).toInt = (x2).toInt := by rw [cg_up_s]
                    exact ih (by omega) hI_132 hF_133 s0 (by omega) (by omega) (by omega) (by omega) p3 (fun j hj => by first | exact i4 j hj | (rw [cg_up_o (by omega), cg_up_k hj]; exact i4 j hj) | rw [cg_up_k hj]) (fun j hj => by first | exact i5 j hj | (rw [cg_up_k hj, cg_up_o (by omega)]; exact i5 j hj) | rw [cg_up_o (by omega)]) (by omega)
            · rw [t_eq] at c_104
              have tc_140 := t_cl x1
              have t_139 : -1 ≤ (f (a0 + 13) x1.toNatClampNeg).toInt ∧ (f (a0 + 13) x1.toNatClampNeg).toInt ≤ 78400 * ((901 - x1.toNatClampNeg : Nat) : Int) := (cI_at hI x1.toNatClampNeg (sc_7_21 s0)).2.2.2.2.2.2.2.2.2.2.1 (by omega)
              have t_141 := t_neg1
              refine cT_if (b_M_solveLines_103 s0 (by rw [t_in]; omega)) (fun c_138 => ?_) (fun c_138 => ?_)
              · rw [t_eq] at c_138
                have t_144 : (nI 0).toInt = 0 := nI_toInt (by decide)
                have hI_142 := cI_up (k := x1.toNatClampNeg) (x := nI 0) hI (sc_7_21 s0) ⟨(fun _ => by omega), (fun _ => by omega), (fun _ => by omega), (fun _ => by omega), (fun _ => by omega), (fun _ => by omega), (fun _ => by omega), (fun _ => by omega), (fun _ => by omega), (fun _ => by omega), (fun _ => by omega), (fun _ => by omega), (fun _ => by omega)⟩
                have hF_143 := cF_up (a := a0 + 13) (k := x1.toNatClampNeg) (x := nI 0) hF (by omega)
                have hI_145 := cI_up (k := x1.toNatClampNeg) (x := x2) hI_142 (sc_7_22 s0) ⟨(fun _ => by omega), (fun _ => by omega), (fun _ => by omega), (fun _ => by omega), (fun _ => by omega), (fun _ => by omega), (fun _ => by omega), (fun _ => by omega), (fun _ => by omega), (fun _ => by omega), (fun _ => by omega), (fun _ => by omega), (fun _ => by omega)⟩
                have hF_146 := cF_up (a := a0 + 14) (k := x1.toNatClampNeg) (x := x2) hF_143 (by omega)
                refine cT_go (b_M_solveLines_124 s0 (by rw [t_in]; omega)) ?_
                refine cT_go b_M_solveLines_139 ?_
                first | have t_147 : (x2 + (nI 1)).toInt = (x2).toInt + ((nI 1)).toInt := t_addn (by omega) | obtain ⟨kt_147, t_147⟩ := t_add x2 (nI 1)
                have t_148 : ((cg_up (cg_up f (a0 + 13) x1.toNatClampNeg (nI 0)) (a0 + 14) x1.toNatClampNeg x2) (a0 + 13) x1.toNatClampNeg).toInt = ((cg_up f (a0 + 13) x1.toNatClampNeg (nI 0)) (a0 + 13) x1.toNatClampNeg).toInt := by rw [cg_up_o (by omega)]
                have t_149 : ((cg_up f (a0 + 13) x1.toNatClampNeg (nI 0)) (a0 + 13) x1.toNatClampNeg).toInt = (nI 0).toInt := by rw [cg_up_s]
                have t_150 : ((cg_up (cg_up f (a0 + 13) x1.toNatClampNeg (nI 0)) (a0 + 14) x1.toNatClampNeg x2) (a0 + 14) x1.toNatClampNeg).toInt = (x2).toInt := by rw [cg_up_s]
                exact ih (by omega) hI_145 hF_146 s0 (by omega) (by omega) (by omega) (by omega) p3 (fun j hj => by first | exact i4 j hj | (rw [cg_up_o (by omega), cg_up_k hj]; exact i4 j hj) | rw [cg_up_k hj]) (fun j hj => by first | exact i5 j hj | (rw [cg_up_k hj, cg_up_o (by omega)]; exact i5 j hj) | rw [cg_up_o (by omega)]) (by omega)
              · rw [t_eq] at c_138
                have t_152 : (nI 0).toInt = 0 := nI_toInt (by decide)
                refine cT_if (b_M_solveLines_113 s0 (by rw [t_in]; omega)) (fun c_151 => ?_) (fun c_151 => ?_)
                · rw [t_le] at c_151
                  refine cT_go b_M_solveLines_139 ?_
                  first | have t_153 : (x2 + (nI 1)).toInt = (x2).toInt + ((nI 1)).toInt := t_addn (by omega) | obtain ⟨kt_153, t_153⟩ := t_add x2 (nI 1)
                  have t_154 := t_rng (f (a0 + 14) x1.toNatClampNeg)
                  exact ih (by omega) hI hF s0 (by omega) (by omega) (by omega) (by omega) p3 (fun j hj => by first | exact i4 j hj | (rw [cg_up_o (by omega), cg_up_k hj]; exact i4 j hj) | rw [cg_up_k hj]) (fun j hj => by first | exact i5 j hj | (rw [cg_up_k hj, cg_up_o (by omega)]; exact i5 j hj) | rw [cg_up_o (by omega)]) (by omega)
                · rw [t_le] at c_151
                  have hI_155 := cI_up (k := x1.toNatClampNeg) (x := nI 0) hI (sc_7_21 s0) ⟨(fun _ => by omega), (fun _ => by omega), (fun _ => by omega), (fun _ => by omega), (fun _ => by omega), (fun _ => by omega), (fun _ => by omega), (fun _ => by omega), (fun _ => by omega), (fun _ => by omega), (fun _ => by omega), (fun _ => by omega), (fun _ => by omega)⟩
                  have hF_156 := cF_up (a := a0 + 13) (k := x1.toNatClampNeg) (x := nI 0) hF (by omega)
                  have hI_157 := cI_up (k := x1.toNatClampNeg) (x := x2) hI_155 (sc_7_22 s0) ⟨(fun _ => by omega), (fun _ => by omega), (fun _ => by omega), (fun _ => by omega), (fun _ => by omega), (fun _ => by omega), (fun _ => by omega), (fun _ => by omega), (fun _ => by omega), (fun _ => by omega), (fun _ => by omega), (fun _ => by omega), (fun _ => by omega)⟩
                  have hF_158 := cF_up (a := a0 + 14) (k := x1.toNatClampNeg) (x := x2) hF_156 (by omega)
                  refine cT_go (b_M_solveLines_124 s0 (by rw [t_in]; omega)) ?_
                  refine cT_go b_M_solveLines_139 ?_
                  first | have t_159 : (x2 + (nI 1)).toInt = (x2).toInt + ((nI 1)).toInt := t_addn (by omega) | obtain ⟨kt_159, t_159⟩ := t_add x2 (nI 1)
                  have t_160 : ((cg_up (cg_up f (a0 + 13) x1.toNatClampNeg (nI 0)) (a0 + 14) x1.toNatClampNeg x2) (a0 + 13) x1.toNatClampNeg).toInt = ((cg_up f (a0 + 13) x1.toNatClampNeg (nI 0)) (a0 + 13) x1.toNatClampNeg).toInt := by rw [cg_up_o (by omega)]
                  have t_161 : ((cg_up f (a0 + 13) x1.toNatClampNeg (nI 0)) (a0 + 13) x1.toNatClampNeg).toInt = (nI 0).toInt := by rw [cg_up_s]
                  have t_162 : ((cg_up (cg_up f (a0 + 13) x1.toNatClampNeg (nI 0)) (a0 + 14) x1.toNatClampNeg x2) (a0 + 14) x1.toNatClampNeg).toInt = (x2).toInt := by rw [cg_up_s]
                  exact ih (by omega) hI_157 hF_158 s0 (by omega) (by omega) (by omega) (by omega) p3 (fun j hj => by first | exact i4 j hj | (rw [cg_up_o (by omega), cg_up_k hj]; exact i4 j hj) | rw [cg_up_k hj]) (fun j hj => by first | exact i5 j hj | (rw [cg_up_k hj, cg_up_o (by omega)]; exact i5 j hj) | rw [cg_up_o (by omega)]) (by omega)
      · rw [t_eq] at c_8
        refine cT_go b_M_solveLines_56 ?_
        have t_164 : (nI 0).toInt = 0 := nI_toInt (by decide)
        refine cT_if b_M_solveLines_57 (fun c_163 => ?_) (fun c_163 => ?_)
        · rw [t_eq] at c_163
          have q3 : 0 ≤ (f (a0 + 13) (x1 + x2).toNatClampNeg).toInt := by rw [i4 (x1 + x2).toNatClampNeg (by rw [t_cl, t_cl]; omega)]; exact (p3 _ (by rw [t_cl]; omega) (by rw [t_cl]; omega)).1
          refine cT_go (b_M_solveLines_68 s0 (by rw [t_in]; omega)) ?_
          have t_168 : 6 ≤ (f a0 0).toInt ∧ (f a0 0).toInt ≤ 40 := (cI_at hI 0 s0).1 rfl
          have t_170 : 0 ≤ (f (a0 + 12) ((x1 + x2) - (nI 1)).toNatClampNeg).toInt ∧ (f (a0 + 12) ((x1 + x2) - (nI 1)).toNatClampNeg).toInt ≤ 240 := (cI_at hI ((x1 + x2) - (nI 1)).toNatClampNeg (sc_7_20 s0)).2.2.2.2.2.2.2.2.2.1 (by omega)
          have t_171 : 0 ≤ (f (a0 + 11) x1.toNatClampNeg).toInt ∧ (f (a0 + 11) x1.toNatClampNeg).toInt ≤ 240 := (cI_at hI x1.toNatClampNeg (sc_7_19 s0)).2.2.2.2.2.2.2.2.1 (by omega)
          first | have t_169 : (((f (a0 + 12) ((x1 + x2) - (nI 1)).toNatClampNeg)) - ((f (a0 + 11) x1.toNatClampNeg))).toInt = (((f (a0 + 12) ((x1 + x2) - (nI 1)).toNatClampNeg))).toInt - (((f (a0 + 11) x1.toNatClampNeg))).toInt := t_subn (by omega) | obtain ⟨kt_169, t_169⟩ := t_sub ((f (a0 + 12) ((x1 + x2) - (nI 1)).toNatClampNeg)) ((f (a0 + 11) x1.toNatClampNeg))
          first | have t_167 : (((f a0 0)) - (((f (a0 + 12) ((x1 + x2) - (nI 1)).toNatClampNeg) - (f (a0 + 11) x1.toNatClampNeg)))).toInt = (((f a0 0))).toInt - ((((f (a0 + 12) ((x1 + x2) - (nI 1)).toNatClampNeg) - (f (a0 + 11) x1.toNatClampNeg)))).toInt := t_subn (by omega) | obtain ⟨kt_167, t_167⟩ := t_sub ((f a0 0)) (((f (a0 + 12) ((x1 + x2) - (nI 1)).toNatClampNeg) - (f (a0 + 11) x1.toNatClampNeg)))
          refine cT_if b_M_solveLines_80 (fun c_166 => ?_) (fun c_166 => ?_)
          · rw [t_lt] at c_166
            refine cT_go b_M_solveLines_139 ?_
            first | have t_172 : (x2 + (nI 1)).toInt = (x2).toInt + ((nI 1)).toInt := t_addn (by omega) | obtain ⟨kt_172, t_172⟩ := t_add x2 (nI 1)
            have t_174 := t_rng (((f a0 0) - ((f (a0 + 12) ((x1 + x2) - (nI 1)).toNatClampNeg) - (f (a0 + 11) x1.toNatClampNeg))) * ((f a0 0) - ((f (a0 + 12) ((x1 + x2) - (nI 1)).toNatClampNeg) - (f (a0 + 11) x1.toNatClampNeg))))
            have t_174s := t_sq ((f a0 0) - ((f (a0 + 12) ((x1 + x2) - (nI 1)).toNatClampNeg) - (f (a0 + 11) x1.toNatClampNeg)))
            have tc_176 := t_cl (x1 + x2)
            have t_175 : -1 ≤ (f (a0 + 13) (x1 + x2).toNatClampNeg).toInt ∧ (f (a0 + 13) (x1 + x2).toNatClampNeg).toInt ≤ 78400 * ((901 - ((x1 + x2).toNatClampNeg) : Nat) : Int) := (cI_at hI (x1 + x2).toNatClampNeg (sc_7_21 s0)).2.2.2.2.2.2.2.2.2.2.1 (by omega)
            first | have t_173 : (((((f a0 0) - ((f (a0 + 12) ((x1 + x2) - (nI 1)).toNatClampNeg) - (f (a0 + 11) x1.toNatClampNeg))) * ((f a0 0) - ((f (a0 + 12) ((x1 + x2) - (nI 1)).toNatClampNeg) - (f (a0 + 11) x1.toNatClampNeg))))) + ((f (a0 + 13) (x1 + x2).toNatClampNeg))).toInt = (((((f a0 0) - ((f (a0 + 12) ((x1 + x2) - (nI 1)).toNatClampNeg) - (f (a0 + 11) x1.toNatClampNeg))) * ((f a0 0) - ((f (a0 + 12) ((x1 + x2) - (nI 1)).toNatClampNeg) - (f (a0 + 11) x1.toNatClampNeg)))))).toInt + (((f (a0 + 13) (x1 + x2).toNatClampNeg))).toInt := t_addn (by omega) | obtain ⟨kt_173, t_173⟩ := t_add ((((f a0 0) - ((f (a0 + 12) ((x1 + x2) - (nI 1)).toNatClampNeg) - (f (a0 + 11) x1.toNatClampNeg))) * ((f a0 0) - ((f (a0 + 12) ((x1 + x2) - (nI 1)).toNatClampNeg) - (f (a0 + 11) x1.toNatClampNeg))))) ((f (a0 + 13) (x1 + x2).toNatClampNeg))
            have tc_178 := t_cl x1
            have t_177 : -1 ≤ (f (a0 + 13) x1.toNatClampNeg).toInt ∧ (f (a0 + 13) x1.toNatClampNeg).toInt ≤ 78400 * ((901 - x1.toNatClampNeg : Nat) : Int) := (cI_at hI x1.toNatClampNeg (sc_7_21 s0)).2.2.2.2.2.2.2.2.2.2.1 (by omega)
            have t_179 := t_rng (f (a0 + 14) x1.toNatClampNeg)
            exact ih (by omega) hI hF s0 (by omega) (by omega) (by omega) (by omega) p3 (fun j hj => by first | exact i4 j hj | (rw [cg_up_o (by omega), cg_up_k hj]; exact i4 j hj) | rw [cg_up_k hj]) (fun j hj => by first | exact i5 j hj | (rw [cg_up_k hj, cg_up_o (by omega)]; exact i5 j hj) | rw [cg_up_o (by omega)]) (by omega)
          · rw [t_lt] at c_166
            refine cT_if b_M_solveLines_86 (fun c_180 => ?_) (fun c_180 => ?_)
            · rw [t_eq] at c_180
              have tc_183 := t_cl (x1 + x2)
              have t_182 : -1 ≤ (f (a0 + 13) (x1 + x2).toNatClampNeg).toInt ∧ (f (a0 + 13) (x1 + x2).toNatClampNeg).toInt ≤ 78400 * ((901 - ((x1 + x2).toNatClampNeg) : Nat) : Int) := (cI_at hI (x1 + x2).toNatClampNeg (sc_7_21 s0)).2.2.2.2.2.2.2.2.2.2.1 (by omega)
              have t_184 := t_neg1
              refine cT_if (b_M_solveLines_91 s0 (by rw [t_in]; omega)) (fun c_181 => ?_) (fun c_181 => ?_)
              · rw [t_eq] at c_181
                refine cT_go b_M_solveLines_139 ?_
                first | have t_185 : (x2 + (nI 1)).toInt = (x2).toInt + ((nI 1)).toInt := t_addn (by omega) | obtain ⟨kt_185, t_185⟩ := t_add x2 (nI 1)
                have t_187 := t_rng (((f a0 0) - ((f (a0 + 12) ((x1 + x2) - (nI 1)).toNatClampNeg) - (f (a0 + 11) x1.toNatClampNeg))) * ((f a0 0) - ((f (a0 + 12) ((x1 + x2) - (nI 1)).toNatClampNeg) - (f (a0 + 11) x1.toNatClampNeg))))
                have t_187s := t_sq ((f a0 0) - ((f (a0 + 12) ((x1 + x2) - (nI 1)).toNatClampNeg) - (f (a0 + 11) x1.toNatClampNeg)))
                first | have t_186 : (((((f a0 0) - ((f (a0 + 12) ((x1 + x2) - (nI 1)).toNatClampNeg) - (f (a0 + 11) x1.toNatClampNeg))) * ((f a0 0) - ((f (a0 + 12) ((x1 + x2) - (nI 1)).toNatClampNeg) - (f (a0 + 11) x1.toNatClampNeg))))) + ((f (a0 + 13) (x1 + x2).toNatClampNeg))).toInt = (((((f a0 0) - ((f (a0 + 12) ((x1 + x2) - (nI 1)).toNatClampNeg) - (f (a0 + 11) x1.toNatClampNeg))) * ((f a0 0) - ((f (a0 + 12) ((x1 + x2) - (nI 1)).toNatClampNeg) - (f (a0 + 11) x1.toNatClampNeg)))))).toInt + (((f (a0 + 13) (x1 + x2).toNatClampNeg))).toInt := t_addn (by omega) | obtain ⟨kt_186, t_186⟩ := t_add ((((f a0 0) - ((f (a0 + 12) ((x1 + x2) - (nI 1)).toNatClampNeg) - (f (a0 + 11) x1.toNatClampNeg))) * ((f a0 0) - ((f (a0 + 12) ((x1 + x2) - (nI 1)).toNatClampNeg) - (f (a0 + 11) x1.toNatClampNeg))))) ((f (a0 + 13) (x1 + x2).toNatClampNeg))
                have tc_189 := t_cl x1
                have t_188 : -1 ≤ (f (a0 + 13) x1.toNatClampNeg).toInt ∧ (f (a0 + 13) x1.toNatClampNeg).toInt ≤ 78400 * ((901 - x1.toNatClampNeg : Nat) : Int) := (cI_at hI x1.toNatClampNeg (sc_7_21 s0)).2.2.2.2.2.2.2.2.2.2.1 (by omega)
                have t_190 := t_rng (f (a0 + 14) x1.toNatClampNeg)
                exact ih (by omega) hI hF s0 (by omega) (by omega) (by omega) (by omega) p3 (fun j hj => by first | exact i4 j hj | (rw [cg_up_o (by omega), cg_up_k hj]; exact i4 j hj) | rw [cg_up_k hj]) (fun j hj => by first | exact i5 j hj | (rw [cg_up_k hj, cg_up_o (by omega)]; exact i5 j hj) | rw [cg_up_o (by omega)]) (by omega)
              · rw [t_eq] at c_181
                have tc_193 := t_cl x1
                have t_192 : -1 ≤ (f (a0 + 13) x1.toNatClampNeg).toInt ∧ (f (a0 + 13) x1.toNatClampNeg).toInt ≤ 78400 * ((901 - x1.toNatClampNeg : Nat) : Int) := (cI_at hI x1.toNatClampNeg (sc_7_21 s0)).2.2.2.2.2.2.2.2.2.2.1 (by omega)
                refine cT_if (b_M_solveLines_103 s0 (by rw [t_in]; omega)) (fun c_191 => ?_) (fun c_191 => ?_)
                · rw [t_eq] at c_191
                  have t_197 := t_rng (((f a0 0) - ((f (a0 + 12) ((x1 + x2) - (nI 1)).toNatClampNeg) - (f (a0 + 11) x1.toNatClampNeg))) * ((f a0 0) - ((f (a0 + 12) ((x1 + x2) - (nI 1)).toNatClampNeg) - (f (a0 + 11) x1.toNatClampNeg))))
                  have t_197s := t_sq ((f a0 0) - ((f (a0 + 12) ((x1 + x2) - (nI 1)).toNatClampNeg) - (f (a0 + 11) x1.toNatClampNeg)))
                  first | have t_196 : (((((f a0 0) - ((f (a0 + 12) ((x1 + x2) - (nI 1)).toNatClampNeg) - (f (a0 + 11) x1.toNatClampNeg))) * ((f a0 0) - ((f (a0 + 12) ((x1 + x2) - (nI 1)).toNatClampNeg) - (f (a0 + 11) x1.toNatClampNeg))))) + ((f (a0 + 13) (x1 + x2).toNatClampNeg))).toInt = (((((f a0 0) - ((f (a0 + 12) ((x1 + x2) - (nI 1)).toNatClampNeg) - (f (a0 + 11) x1.toNatClampNeg))) * ((f a0 0) - ((f (a0 + 12) ((x1 + x2) - (nI 1)).toNatClampNeg) - (f (a0 + 11) x1.toNatClampNeg)))))).toInt + (((f (a0 + 13) (x1 + x2).toNatClampNeg))).toInt := t_addn (by omega) | obtain ⟨kt_196, t_196⟩ := t_add ((((f a0 0) - ((f (a0 + 12) ((x1 + x2) - (nI 1)).toNatClampNeg) - (f (a0 + 11) x1.toNatClampNeg))) * ((f a0 0) - ((f (a0 + 12) ((x1 + x2) - (nI 1)).toNatClampNeg) - (f (a0 + 11) x1.toNatClampNeg))))) ((f (a0 + 13) (x1 + x2).toNatClampNeg))
                  have hI_194 := cI_up (k := x1.toNatClampNeg) (x := (((f a0 0) - ((f (a0 + 12) ((x1 + x2) - (nI 1)).toNatClampNeg) - (f (a0 + 11) x1.toNatClampNeg))) * ((f a0 0) - ((f (a0 + 12) ((x1 + x2) - (nI 1)).toNatClampNeg) - (f (a0 + 11) x1.toNatClampNeg)))) + (f (a0 + 13) (x1 + x2).toNatClampNeg)) hI (sc_7_21 s0) ⟨(fun _ => by omega), (fun _ => by omega), (fun _ => by omega), (fun _ => by omega), (fun _ => by omega), (fun _ => by omega), (fun _ => by omega), (fun _ => by omega), (fun _ => by omega), (fun _ => by omega), (fun _ => by omega), (fun _ => by omega), (fun _ => by omega)⟩
                  have hF_195 := cF_up (a := a0 + 13) (k := x1.toNatClampNeg) (x := (((f a0 0) - ((f (a0 + 12) ((x1 + x2) - (nI 1)).toNatClampNeg) - (f (a0 + 11) x1.toNatClampNeg))) * ((f a0 0) - ((f (a0 + 12) ((x1 + x2) - (nI 1)).toNatClampNeg) - (f (a0 + 11) x1.toNatClampNeg)))) + (f (a0 + 13) (x1 + x2).toNatClampNeg)) hF (by omega)
                  have hI_198 := cI_up (k := x1.toNatClampNeg) (x := x2) hI_194 (sc_7_22 s0) ⟨(fun _ => by omega), (fun _ => by omega), (fun _ => by omega), (fun _ => by omega), (fun _ => by omega), (fun _ => by omega), (fun _ => by omega), (fun _ => by omega), (fun _ => by omega), (fun _ => by omega), (fun _ => by omega), (fun _ => by omega), (fun _ => by omega)⟩
                  have hF_199 := cF_up (a := a0 + 14) (k := x1.toNatClampNeg) (x := x2) hF_195 (by omega)
                  refine cT_go (b_M_solveLines_124 s0 (by rw [t_in]; omega)) ?_
                  refine cT_go b_M_solveLines_139 ?_
                  first | have t_200 : (x2 + (nI 1)).toInt = (x2).toInt + ((nI 1)).toInt := t_addn (by omega) | obtain ⟨kt_200, t_200⟩ := t_add x2 (nI 1)
                  have t_201 : ((cg_up (cg_up f (a0 + 13) x1.toNatClampNeg ((((f a0 0) - ((f (a0 + 12) ((x1 + x2) - (nI 1)).toNatClampNeg) - (f (a0 + 11) x1.toNatClampNeg))) * ((f a0 0) - ((f (a0 + 12) ((x1 + x2) - (nI 1)).toNatClampNeg) - (f (a0 + 11) x1.toNatClampNeg)))) + (f (a0 + 13) (x1 + x2).toNatClampNeg))) (a0 + 14) x1.toNatClampNeg x2) (a0 + 13) x1.toNatClampNeg).toInt = ((cg_up f (a0 + 13) x1.toNatClampNeg ((((f a0 0) - ((f (a0 + 12) ((x1 + x2) - (nI 1)).toNatClampNeg) - (f (a0 + 11) x1.toNatClampNeg))) * ((f a0 0) - ((f (a0 + 12) ((x1 + x2) - (nI 1)).toNatClampNeg) - (f (a0 + 11) x1.toNatClampNeg)))) + (f (a0 + 13) (x1 + x2).toNatClampNeg))) (a0 + 13) x1.toNatClampNeg).toInt := by rw [cg_up_o (by omega)]
                  have t_202 : ((cg_up f (a0 + 13) x1.toNatClampNeg ((((f a0 0) - ((f (a0 + 12) ((x1 + x2) - (nI 1)).toNatClampNeg) - (f (a0 + 11) x1.toNatClampNeg))) * ((f a0 0) - ((f (a0 + 12) ((x1 + x2) - (nI 1)).toNatClampNeg) - (f (a0 + 11) x1.toNatClampNeg)))) + (f (a0 + 13) (x1 + x2).toNatClampNeg))) (a0 + 13) x1.toNatClampNeg).toInt = ((((f a0 0) - ((f (a0 + 12) ((x1 + x2) - (nI 1)).toNatClampNeg) - (f (a0 + 11) x1.toNatClampNeg))) * ((f a0 0) - ((f (a0 + 12) ((x1 + x2) - (nI 1)).toNatClampNeg) - (f (a0 + 11) x1.toNatClampNeg)))) + (f (a0 + 13) (x1 + x2).toNatClampNeg)).toInt := by rw [cg_up_s]
                  have t_203 : ((cg_up (cg_up f (a0 + 13) x1.toNatClampNeg ((((f a0 0) - ((f (a0 + 12) ((x1 + x2) - (nI 1)).toNatClampNeg) - (f (a0 + 11) x1.toNatClampNeg))) * ((f a0 0) - ((f (a0 + 12) ((x1 + x2) - (nI 1)).toNatClampNeg) - (f (a0 + 11) x1.toNatClampNeg)))) + (f (a0 + 13) (x1 + x2).toNatClampNeg))) (a0 + 14) x1.toNatClampNeg x2) (a0 + 14) x1.toNatClampNeg).toInt = (x2).toInt := by rw [cg_up_s]
                  exact ih (by omega) hI_198 hF_199 s0 (by omega) (by omega) (by omega) (by omega) p3 (fun j hj => by first | exact i4 j hj | (rw [cg_up_o (by omega), cg_up_k hj]; exact i4 j hj) | rw [cg_up_k hj]) (fun j hj => by first | exact i5 j hj | (rw [cg_up_k hj, cg_up_o (by omega)]; exact i5 j hj) | rw [cg_up_o (by omega)]) (by omega)
                · rw [t_eq] at c_191
                  have t_206 := t_rng (((f a0 0) - ((f (a0 + 12) ((x1 + x2) - (nI 1)).toNatClampNeg) - (f (a0 + 11) x1.toNatClampNeg))) * ((f a0 0) - ((f (a0 + 12) ((x1 + x2) - (nI 1)).toNatClampNeg) - (f (a0 + 11) x1.toNatClampNeg))))
                  have t_206s := t_sq ((f a0 0) - ((f (a0 + 12) ((x1 + x2) - (nI 1)).toNatClampNeg) - (f (a0 + 11) x1.toNatClampNeg)))
                  first | have t_205 : (((((f a0 0) - ((f (a0 + 12) ((x1 + x2) - (nI 1)).toNatClampNeg) - (f (a0 + 11) x1.toNatClampNeg))) * ((f a0 0) - ((f (a0 + 12) ((x1 + x2) - (nI 1)).toNatClampNeg) - (f (a0 + 11) x1.toNatClampNeg))))) + ((f (a0 + 13) (x1 + x2).toNatClampNeg))).toInt = (((((f a0 0) - ((f (a0 + 12) ((x1 + x2) - (nI 1)).toNatClampNeg) - (f (a0 + 11) x1.toNatClampNeg))) * ((f a0 0) - ((f (a0 + 12) ((x1 + x2) - (nI 1)).toNatClampNeg) - (f (a0 + 11) x1.toNatClampNeg)))))).toInt + (((f (a0 + 13) (x1 + x2).toNatClampNeg))).toInt := t_addn (by omega) | obtain ⟨kt_205, t_205⟩ := t_add ((((f a0 0) - ((f (a0 + 12) ((x1 + x2) - (nI 1)).toNatClampNeg) - (f (a0 + 11) x1.toNatClampNeg))) * ((f a0 0) - ((f (a0 + 12) ((x1 + x2) - (nI 1)).toNatClampNeg) - (f (a0 + 11) x1.toNatClampNeg))))) ((f (a0 + 13) (x1 + x2).toNatClampNeg))
                  refine cT_if (b_M_solveLines_113 s0 (by rw [t_in]; omega)) (fun c_204 => ?_) (fun c_204 => ?_)
                  · rw [t_le] at c_204
                    refine cT_go b_M_solveLines_139 ?_
                    first | have t_207 : (x2 + (nI 1)).toInt = (x2).toInt + ((nI 1)).toInt := t_addn (by omega) | obtain ⟨kt_207, t_207⟩ := t_add x2 (nI 1)
                    have t_208 := t_rng (f (a0 + 14) x1.toNatClampNeg)
                    exact ih (by omega) hI hF s0 (by omega) (by omega) (by omega) (by omega) p3 (fun j hj => by first | exact i4 j hj | (rw [cg_up_o (by omega), cg_up_k hj]; exact i4 j hj) | rw [cg_up_k hj]) (fun j hj => by first | exact i5 j hj | (rw [cg_up_k hj, cg_up_o (by omega)]; exact i5 j hj) | rw [cg_up_o (by omega)]) (by omega)
                  · rw [t_le] at c_204
                    have hI_209 := cI_up (k := x1.toNatClampNeg) (x := (((f a0 0) - ((f (a0 + 12) ((x1 + x2) - (nI 1)).toNatClampNeg) - (f (a0 + 11) x1.toNatClampNeg))) * ((f a0 0) - ((f (a0 + 12) ((x1 + x2) - (nI 1)).toNatClampNeg) - (f (a0 + 11) x1.toNatClampNeg)))) + (f (a0 + 13) (x1 + x2).toNatClampNeg)) hI (sc_7_21 s0) ⟨(fun _ => by omega), (fun _ => by omega), (fun _ => by omega), (fun _ => by omega), (fun _ => by omega), (fun _ => by omega), (fun _ => by omega), (fun _ => by omega), (fun _ => by omega), (fun _ => by omega), (fun _ => by omega), (fun _ => by omega), (fun _ => by omega)⟩
                    have hF_210 := cF_up (a := a0 + 13) (k := x1.toNatClampNeg) (x := (((f a0 0) - ((f (a0 + 12) ((x1 + x2) - (nI 1)).toNatClampNeg) - (f (a0 + 11) x1.toNatClampNeg))) * ((f a0 0) - ((f (a0 + 12) ((x1 + x2) - (nI 1)).toNatClampNeg) - (f (a0 + 11) x1.toNatClampNeg)))) + (f (a0 + 13) (x1 + x2).toNatClampNeg)) hF (by omega)
                    have hI_211 := cI_up (k := x1.toNatClampNeg) (x := x2) hI_209 (sc_7_22 s0) ⟨(fun _ => by omega), (fun _ => by omega), (fun _ => by omega), (fun _ => by omega), (fun _ => by omega), (fun _ => by omega), (fun _ => by omega), (fun _ => by omega), (fun _ => by omega), (fun _ => by omega), (fun _ => by omega), (fun _ => by omega), (fun _ => by omega)⟩
                    have hF_212 := cF_up (a := a0 + 14) (k := x1.toNatClampNeg) (x := x2) hF_210 (by omega)
                    refine cT_go (b_M_solveLines_124 s0 (by rw [t_in]; omega)) ?_
                    refine cT_go b_M_solveLines_139 ?_
                    first | have t_213 : (x2 + (nI 1)).toInt = (x2).toInt + ((nI 1)).toInt := t_addn (by omega) | obtain ⟨kt_213, t_213⟩ := t_add x2 (nI 1)
                    have t_214 : ((cg_up (cg_up f (a0 + 13) x1.toNatClampNeg ((((f a0 0) - ((f (a0 + 12) ((x1 + x2) - (nI 1)).toNatClampNeg) - (f (a0 + 11) x1.toNatClampNeg))) * ((f a0 0) - ((f (a0 + 12) ((x1 + x2) - (nI 1)).toNatClampNeg) - (f (a0 + 11) x1.toNatClampNeg)))) + (f (a0 + 13) (x1 + x2).toNatClampNeg))) (a0 + 14) x1.toNatClampNeg x2) (a0 + 13) x1.toNatClampNeg).toInt = ((cg_up f (a0 + 13) x1.toNatClampNeg ((((f a0 0) - ((f (a0 + 12) ((x1 + x2) - (nI 1)).toNatClampNeg) - (f (a0 + 11) x1.toNatClampNeg))) * ((f a0 0) - ((f (a0 + 12) ((x1 + x2) - (nI 1)).toNatClampNeg) - (f (a0 + 11) x1.toNatClampNeg)))) + (f (a0 + 13) (x1 + x2).toNatClampNeg))) (a0 + 13) x1.toNatClampNeg).toInt := by rw [cg_up_o (by omega)]
                    have t_215 : ((cg_up f (a0 + 13) x1.toNatClampNeg ((((f a0 0) - ((f (a0 + 12) ((x1 + x2) - (nI 1)).toNatClampNeg) - (f (a0 + 11) x1.toNatClampNeg))) * ((f a0 0) - ((f (a0 + 12) ((x1 + x2) - (nI 1)).toNatClampNeg) - (f (a0 + 11) x1.toNatClampNeg)))) + (f (a0 + 13) (x1 + x2).toNatClampNeg))) (a0 + 13) x1.toNatClampNeg).toInt = ((((f a0 0) - ((f (a0 + 12) ((x1 + x2) - (nI 1)).toNatClampNeg) - (f (a0 + 11) x1.toNatClampNeg))) * ((f a0 0) - ((f (a0 + 12) ((x1 + x2) - (nI 1)).toNatClampNeg) - (f (a0 + 11) x1.toNatClampNeg)))) + (f (a0 + 13) (x1 + x2).toNatClampNeg)).toInt := by rw [cg_up_s]
                    have t_216 : ((cg_up (cg_up f (a0 + 13) x1.toNatClampNeg ((((f a0 0) - ((f (a0 + 12) ((x1 + x2) - (nI 1)).toNatClampNeg) - (f (a0 + 11) x1.toNatClampNeg))) * ((f a0 0) - ((f (a0 + 12) ((x1 + x2) - (nI 1)).toNatClampNeg) - (f (a0 + 11) x1.toNatClampNeg)))) + (f (a0 + 13) (x1 + x2).toNatClampNeg))) (a0 + 14) x1.toNatClampNeg x2) (a0 + 14) x1.toNatClampNeg).toInt = (x2).toInt := by rw [cg_up_s]
                    exact ih (by omega) hI_211 hF_212 s0 (by omega) (by omega) (by omega) (by omega) p3 (fun j hj => by first | exact i4 j hj | (rw [cg_up_o (by omega), cg_up_k hj]; exact i4 j hj) | rw [cg_up_k hj]) (fun j hj => by first | exact i5 j hj | (rw [cg_up_k hj, cg_up_o (by omega)]; exact i5 j hj) | rw [cg_up_o (by omega)]) (by omega)
            · rw [t_eq] at c_180
              have tc_219 := t_cl x1
              have t_218 : -1 ≤ (f (a0 + 13) x1.toNatClampNeg).toInt ∧ (f (a0 + 13) x1.toNatClampNeg).toInt ≤ 78400 * ((901 - x1.toNatClampNeg : Nat) : Int) := (cI_at hI x1.toNatClampNeg (sc_7_21 s0)).2.2.2.2.2.2.2.2.2.2.1 (by omega)
              have t_220 := t_neg1
              refine cT_if (b_M_solveLines_103 s0 (by rw [t_in]; omega)) (fun c_217 => ?_) (fun c_217 => ?_)
              · rw [t_eq] at c_217
                have t_224 := t_rng (((f a0 0) - ((f (a0 + 12) ((x1 + x2) - (nI 1)).toNatClampNeg) - (f (a0 + 11) x1.toNatClampNeg))) * ((f a0 0) - ((f (a0 + 12) ((x1 + x2) - (nI 1)).toNatClampNeg) - (f (a0 + 11) x1.toNatClampNeg))))
                have t_224s := t_sq ((f a0 0) - ((f (a0 + 12) ((x1 + x2) - (nI 1)).toNatClampNeg) - (f (a0 + 11) x1.toNatClampNeg)))
                have tc_226 := t_cl (x1 + x2)
                have t_225 : -1 ≤ (f (a0 + 13) (x1 + x2).toNatClampNeg).toInt ∧ (f (a0 + 13) (x1 + x2).toNatClampNeg).toInt ≤ 78400 * ((901 - ((x1 + x2).toNatClampNeg) : Nat) : Int) := (cI_at hI (x1 + x2).toNatClampNeg (sc_7_21 s0)).2.2.2.2.2.2.2.2.2.2.1 (by omega)
                first | have t_223 : (((((f a0 0) - ((f (a0 + 12) ((x1 + x2) - (nI 1)).toNatClampNeg) - (f (a0 + 11) x1.toNatClampNeg))) * ((f a0 0) - ((f (a0 + 12) ((x1 + x2) - (nI 1)).toNatClampNeg) - (f (a0 + 11) x1.toNatClampNeg))))) + ((f (a0 + 13) (x1 + x2).toNatClampNeg))).toInt = (((((f a0 0) - ((f (a0 + 12) ((x1 + x2) - (nI 1)).toNatClampNeg) - (f (a0 + 11) x1.toNatClampNeg))) * ((f a0 0) - ((f (a0 + 12) ((x1 + x2) - (nI 1)).toNatClampNeg) - (f (a0 + 11) x1.toNatClampNeg)))))).toInt + (((f (a0 + 13) (x1 + x2).toNatClampNeg))).toInt := t_addn (by omega) | obtain ⟨kt_223, t_223⟩ := t_add ((((f a0 0) - ((f (a0 + 12) ((x1 + x2) - (nI 1)).toNatClampNeg) - (f (a0 + 11) x1.toNatClampNeg))) * ((f a0 0) - ((f (a0 + 12) ((x1 + x2) - (nI 1)).toNatClampNeg) - (f (a0 + 11) x1.toNatClampNeg))))) ((f (a0 + 13) (x1 + x2).toNatClampNeg))
                have hI_221 := cI_up (k := x1.toNatClampNeg) (x := (((f a0 0) - ((f (a0 + 12) ((x1 + x2) - (nI 1)).toNatClampNeg) - (f (a0 + 11) x1.toNatClampNeg))) * ((f a0 0) - ((f (a0 + 12) ((x1 + x2) - (nI 1)).toNatClampNeg) - (f (a0 + 11) x1.toNatClampNeg)))) + (f (a0 + 13) (x1 + x2).toNatClampNeg)) hI (sc_7_21 s0) ⟨(fun _ => by omega), (fun _ => by omega), (fun _ => by omega), (fun _ => by omega), (fun _ => by omega), (fun _ => by omega), (fun _ => by omega), (fun _ => by omega), (fun _ => by omega), (fun _ => by omega), (fun _ => by omega), (fun _ => by omega), (fun _ => by omega)⟩
                have hF_222 := cF_up (a := a0 + 13) (k := x1.toNatClampNeg) (x := (((f a0 0) - ((f (a0 + 12) ((x1 + x2) - (nI 1)).toNatClampNeg) - (f (a0 + 11) x1.toNatClampNeg))) * ((f a0 0) - ((f (a0 + 12) ((x1 + x2) - (nI 1)).toNatClampNeg) - (f (a0 + 11) x1.toNatClampNeg)))) + (f (a0 + 13) (x1 + x2).toNatClampNeg)) hF (by omega)
                have hI_227 := cI_up (k := x1.toNatClampNeg) (x := x2) hI_221 (sc_7_22 s0) ⟨(fun _ => by omega), (fun _ => by omega), (fun _ => by omega), (fun _ => by omega), (fun _ => by omega), (fun _ => by omega), (fun _ => by omega), (fun _ => by omega), (fun _ => by omega), (fun _ => by omega), (fun _ => by omega), (fun _ => by omega), (fun _ => by omega)⟩
                have hF_228 := cF_up (a := a0 + 14) (k := x1.toNatClampNeg) (x := x2) hF_222 (by omega)
                refine cT_go (b_M_solveLines_124 s0 (by rw [t_in]; omega)) ?_
                refine cT_go b_M_solveLines_139 ?_
                first | have t_229 : (x2 + (nI 1)).toInt = (x2).toInt + ((nI 1)).toInt := t_addn (by omega) | obtain ⟨kt_229, t_229⟩ := t_add x2 (nI 1)
                have t_230 : ((cg_up (cg_up f (a0 + 13) x1.toNatClampNeg ((((f a0 0) - ((f (a0 + 12) ((x1 + x2) - (nI 1)).toNatClampNeg) - (f (a0 + 11) x1.toNatClampNeg))) * ((f a0 0) - ((f (a0 + 12) ((x1 + x2) - (nI 1)).toNatClampNeg) - (f (a0 + 11) x1.toNatClampNeg)))) + (f (a0 + 13) (x1 + x2).toNatClampNeg))) (a0 + 14) x1.toNatClampNeg x2) (a0 + 13) x1.toNatClampNeg).toInt = ((cg_up f (a0 + 13) x1.toNatClampNeg ((((f a0 0) - ((f (a0 + 12) ((x1 + x2) - (nI 1)).toNatClampNeg) - (f (a0 + 11) x1.toNatClampNeg))) * ((f a0 0) - ((f (a0 + 12) ((x1 + x2) - (nI 1)).toNatClampNeg) - (f (a0 + 11) x1.toNatClampNeg)))) + (f (a0 + 13) (x1 + x2).toNatClampNeg))) (a0 + 13) x1.toNatClampNeg).toInt := by rw [cg_up_o (by omega)]
                have t_231 : ((cg_up f (a0 + 13) x1.toNatClampNeg ((((f a0 0) - ((f (a0 + 12) ((x1 + x2) - (nI 1)).toNatClampNeg) - (f (a0 + 11) x1.toNatClampNeg))) * ((f a0 0) - ((f (a0 + 12) ((x1 + x2) - (nI 1)).toNatClampNeg) - (f (a0 + 11) x1.toNatClampNeg)))) + (f (a0 + 13) (x1 + x2).toNatClampNeg))) (a0 + 13) x1.toNatClampNeg).toInt = ((((f a0 0) - ((f (a0 + 12) ((x1 + x2) - (nI 1)).toNatClampNeg) - (f (a0 + 11) x1.toNatClampNeg))) * ((f a0 0) - ((f (a0 + 12) ((x1 + x2) - (nI 1)).toNatClampNeg) - (f (a0 + 11) x1.toNatClampNeg)))) + (f (a0 + 13) (x1 + x2).toNatClampNeg)).toInt := by rw [cg_up_s]
                have t_232 : ((cg_up (cg_up f (a0 + 13) x1.toNatClampNeg ((((f a0 0) - ((f (a0 + 12) ((x1 + x2) - (nI 1)).toNatClampNeg) - (f (a0 + 11) x1.toNatClampNeg))) * ((f a0 0) - ((f (a0 + 12) ((x1 + x2) - (nI 1)).toNatClampNeg) - (f (a0 + 11) x1.toNatClampNeg)))) + (f (a0 + 13) (x1 + x2).toNatClampNeg))) (a0 + 14) x1.toNatClampNeg x2) (a0 + 14) x1.toNatClampNeg).toInt = (x2).toInt := by rw [cg_up_s]
                exact ih (by omega) hI_227 hF_228 s0 (by omega) (by omega) (by omega) (by omega) p3 (fun j hj => by first | exact i4 j hj | (rw [cg_up_o (by omega), cg_up_k hj]; exact i4 j hj) | rw [cg_up_k hj]) (fun j hj => by first | exact i5 j hj | (rw [cg_up_k hj, cg_up_o (by omega)]; exact i5 j hj) | rw [cg_up_o (by omega)]) (by omega)
              · rw [t_eq] at c_217
                have t_235 := t_rng (((f a0 0) - ((f (a0 + 12) ((x1 + x2) - (nI 1)).toNatClampNeg) - (f (a0 + 11) x1.toNatClampNeg))) * ((f a0 0) - ((f (a0 + 12) ((x1 + x2) - (nI 1)).toNatClampNeg) - (f (a0 + 11) x1.toNatClampNeg))))
                have t_235s := t_sq ((f a0 0) - ((f (a0 + 12) ((x1 + x2) - (nI 1)).toNatClampNeg) - (f (a0 + 11) x1.toNatClampNeg)))
                have tc_237 := t_cl (x1 + x2)
                have t_236 : -1 ≤ (f (a0 + 13) (x1 + x2).toNatClampNeg).toInt ∧ (f (a0 + 13) (x1 + x2).toNatClampNeg).toInt ≤ 78400 * ((901 - ((x1 + x2).toNatClampNeg) : Nat) : Int) := (cI_at hI (x1 + x2).toNatClampNeg (sc_7_21 s0)).2.2.2.2.2.2.2.2.2.2.1 (by omega)
                first | have t_234 : (((((f a0 0) - ((f (a0 + 12) ((x1 + x2) - (nI 1)).toNatClampNeg) - (f (a0 + 11) x1.toNatClampNeg))) * ((f a0 0) - ((f (a0 + 12) ((x1 + x2) - (nI 1)).toNatClampNeg) - (f (a0 + 11) x1.toNatClampNeg))))) + ((f (a0 + 13) (x1 + x2).toNatClampNeg))).toInt = (((((f a0 0) - ((f (a0 + 12) ((x1 + x2) - (nI 1)).toNatClampNeg) - (f (a0 + 11) x1.toNatClampNeg))) * ((f a0 0) - ((f (a0 + 12) ((x1 + x2) - (nI 1)).toNatClampNeg) - (f (a0 + 11) x1.toNatClampNeg)))))).toInt + (((f (a0 + 13) (x1 + x2).toNatClampNeg))).toInt := t_addn (by omega) | obtain ⟨kt_234, t_234⟩ := t_add ((((f a0 0) - ((f (a0 + 12) ((x1 + x2) - (nI 1)).toNatClampNeg) - (f (a0 + 11) x1.toNatClampNeg))) * ((f a0 0) - ((f (a0 + 12) ((x1 + x2) - (nI 1)).toNatClampNeg) - (f (a0 + 11) x1.toNatClampNeg))))) ((f (a0 + 13) (x1 + x2).toNatClampNeg))
                refine cT_if (b_M_solveLines_113 s0 (by rw [t_in]; omega)) (fun c_233 => ?_) (fun c_233 => ?_)
                · rw [t_le] at c_233
                  refine cT_go b_M_solveLines_139 ?_
                  first | have t_238 : (x2 + (nI 1)).toInt = (x2).toInt + ((nI 1)).toInt := t_addn (by omega) | obtain ⟨kt_238, t_238⟩ := t_add x2 (nI 1)
                  have t_239 := t_rng (f (a0 + 14) x1.toNatClampNeg)
                  exact ih (by omega) hI hF s0 (by omega) (by omega) (by omega) (by omega) p3 (fun j hj => by first | exact i4 j hj | (rw [cg_up_o (by omega), cg_up_k hj]; exact i4 j hj) | rw [cg_up_k hj]) (fun j hj => by first | exact i5 j hj | (rw [cg_up_k hj, cg_up_o (by omega)]; exact i5 j hj) | rw [cg_up_o (by omega)]) (by omega)
                · rw [t_le] at c_233
                  have hI_240 := cI_up (k := x1.toNatClampNeg) (x := (((f a0 0) - ((f (a0 + 12) ((x1 + x2) - (nI 1)).toNatClampNeg) - (f (a0 + 11) x1.toNatClampNeg))) * ((f a0 0) - ((f (a0 + 12) ((x1 + x2) - (nI 1)).toNatClampNeg) - (f (a0 + 11) x1.toNatClampNeg)))) + (f (a0 + 13) (x1 + x2).toNatClampNeg)) hI (sc_7_21 s0) ⟨(fun _ => by omega), (fun _ => by omega), (fun _ => by omega), (fun _ => by omega), (fun _ => by omega), (fun _ => by omega), (fun _ => by omega), (fun _ => by omega), (fun _ => by omega), (fun _ => by omega), (fun _ => by omega), (fun _ => by omega), (fun _ => by omega)⟩
                  have hF_241 := cF_up (a := a0 + 13) (k := x1.toNatClampNeg) (x := (((f a0 0) - ((f (a0 + 12) ((x1 + x2) - (nI 1)).toNatClampNeg) - (f (a0 + 11) x1.toNatClampNeg))) * ((f a0 0) - ((f (a0 + 12) ((x1 + x2) - (nI 1)).toNatClampNeg) - (f (a0 + 11) x1.toNatClampNeg)))) + (f (a0 + 13) (x1 + x2).toNatClampNeg)) hF (by omega)
                  have hI_242 := cI_up (k := x1.toNatClampNeg) (x := x2) hI_240 (sc_7_22 s0) ⟨(fun _ => by omega), (fun _ => by omega), (fun _ => by omega), (fun _ => by omega), (fun _ => by omega), (fun _ => by omega), (fun _ => by omega), (fun _ => by omega), (fun _ => by omega), (fun _ => by omega), (fun _ => by omega), (fun _ => by omega), (fun _ => by omega)⟩
                  have hF_243 := cF_up (a := a0 + 14) (k := x1.toNatClampNeg) (x := x2) hF_241 (by omega)
                  refine cT_go (b_M_solveLines_124 s0 (by rw [t_in]; omega)) ?_
                  refine cT_go b_M_solveLines_139 ?_
                  first | have t_244 : (x2 + (nI 1)).toInt = (x2).toInt + ((nI 1)).toInt := t_addn (by omega) | obtain ⟨kt_244, t_244⟩ := t_add x2 (nI 1)
                  have t_245 : ((cg_up (cg_up f (a0 + 13) x1.toNatClampNeg ((((f a0 0) - ((f (a0 + 12) ((x1 + x2) - (nI 1)).toNatClampNeg) - (f (a0 + 11) x1.toNatClampNeg))) * ((f a0 0) - ((f (a0 + 12) ((x1 + x2) - (nI 1)).toNatClampNeg) - (f (a0 + 11) x1.toNatClampNeg)))) + (f (a0 + 13) (x1 + x2).toNatClampNeg))) (a0 + 14) x1.toNatClampNeg x2) (a0 + 13) x1.toNatClampNeg).toInt = ((cg_up f (a0 + 13) x1.toNatClampNeg ((((f a0 0) - ((f (a0 + 12) ((x1 + x2) - (nI 1)).toNatClampNeg) - (f (a0 + 11) x1.toNatClampNeg))) * ((f a0 0) - ((f (a0 + 12) ((x1 + x2) - (nI 1)).toNatClampNeg) - (f (a0 + 11) x1.toNatClampNeg)))) + (f (a0 + 13) (x1 + x2).toNatClampNeg))) (a0 + 13) x1.toNatClampNeg).toInt := by rw [cg_up_o (by omega)]
                  have t_246 : ((cg_up f (a0 + 13) x1.toNatClampNeg ((((f a0 0) - ((f (a0 + 12) ((x1 + x2) - (nI 1)).toNatClampNeg) - (f (a0 + 11) x1.toNatClampNeg))) * ((f a0 0) - ((f (a0 + 12) ((x1 + x2) - (nI 1)).toNatClampNeg) - (f (a0 + 11) x1.toNatClampNeg)))) + (f (a0 + 13) (x1 + x2).toNatClampNeg))) (a0 + 13) x1.toNatClampNeg).toInt = ((((f a0 0) - ((f (a0 + 12) ((x1 + x2) - (nI 1)).toNatClampNeg) - (f (a0 + 11) x1.toNatClampNeg))) * ((f a0 0) - ((f (a0 + 12) ((x1 + x2) - (nI 1)).toNatClampNeg) - (f (a0 + 11) x1.toNatClampNeg)))) + (f (a0 + 13) (x1 + x2).toNatClampNeg)).toInt := by rw [cg_up_s]
                  have t_247 : ((cg_up (cg_up f (a0 + 13) x1.toNatClampNeg ((((f a0 0) - ((f (a0 + 12) ((x1 + x2) - (nI 1)).toNatClampNeg) - (f (a0 + 11) x1.toNatClampNeg))) * ((f a0 0) - ((f (a0 + 12) ((x1 + x2) - (nI 1)).toNatClampNeg) - (f (a0 + 11) x1.toNatClampNeg)))) + (f (a0 + 13) (x1 + x2).toNatClampNeg))) (a0 + 14) x1.toNatClampNeg x2) (a0 + 14) x1.toNatClampNeg).toInt = (x2).toInt := by rw [cg_up_s]
                  exact ih (by omega) hI_242 hF_243 s0 (by omega) (by omega) (by omega) (by omega) p3 (fun j hj => by first | exact i4 j hj | (rw [cg_up_o (by omega), cg_up_k hj]; exact i4 j hj) | rw [cg_up_k hj]) (fun j hj => by first | exact i5 j hj | (rw [cg_up_k hj, cg_up_o (by omega)]; exact i5 j hj) | rw [cg_up_o (by omega)]) (by omega)
        · rw [t_eq] at c_163
          refine cT_go b_M_solveLines_64 ?_
          have t_250 : 6 ≤ (f a0 0).toInt ∧ (f a0 0).toInt ≤ 40 := (cI_at hI 0 s0).1 rfl
          have t_252 : 0 ≤ (f (a0 + 12) ((x1 + x2) - (nI 1)).toNatClampNeg).toInt ∧ (f (a0 + 12) ((x1 + x2) - (nI 1)).toNatClampNeg).toInt ≤ 240 := (cI_at hI ((x1 + x2) - (nI 1)).toNatClampNeg (sc_7_20 s0)).2.2.2.2.2.2.2.2.2.1 (by omega)
          have t_253 : 0 ≤ (f (a0 + 11) x1.toNatClampNeg).toInt ∧ (f (a0 + 11) x1.toNatClampNeg).toInt ≤ 240 := (cI_at hI x1.toNatClampNeg (sc_7_19 s0)).2.2.2.2.2.2.2.2.1 (by omega)
          first | have t_251 : (((f (a0 + 12) ((x1 + x2) - (nI 1)).toNatClampNeg)) - ((f (a0 + 11) x1.toNatClampNeg))).toInt = (((f (a0 + 12) ((x1 + x2) - (nI 1)).toNatClampNeg))).toInt - (((f (a0 + 11) x1.toNatClampNeg))).toInt := t_subn (by omega) | obtain ⟨kt_251, t_251⟩ := t_sub ((f (a0 + 12) ((x1 + x2) - (nI 1)).toNatClampNeg)) ((f (a0 + 11) x1.toNatClampNeg))
          first | have t_249 : (((f a0 0)) - (((f (a0 + 12) ((x1 + x2) - (nI 1)).toNatClampNeg) - (f (a0 + 11) x1.toNatClampNeg)))).toInt = (((f a0 0))).toInt - ((((f (a0 + 12) ((x1 + x2) - (nI 1)).toNatClampNeg) - (f (a0 + 11) x1.toNatClampNeg)))).toInt := t_subn (by omega) | obtain ⟨kt_249, t_249⟩ := t_sub ((f a0 0)) (((f (a0 + 12) ((x1 + x2) - (nI 1)).toNatClampNeg) - (f (a0 + 11) x1.toNatClampNeg)))
          refine cT_if b_M_solveLines_80 (fun c_248 => ?_) (fun c_248 => ?_)
          · rw [t_lt] at c_248
            refine cT_go b_M_solveLines_139 ?_
            first | have t_254 : (x2 + (nI 1)).toInt = (x2).toInt + ((nI 1)).toInt := t_addn (by omega) | obtain ⟨kt_254, t_254⟩ := t_add x2 (nI 1)
            have tc_256 := t_cl x1
            have t_255 : -1 ≤ (f (a0 + 13) x1.toNatClampNeg).toInt ∧ (f (a0 + 13) x1.toNatClampNeg).toInt ≤ 78400 * ((901 - x1.toNatClampNeg : Nat) : Int) := (cI_at hI x1.toNatClampNeg (sc_7_21 s0)).2.2.2.2.2.2.2.2.2.2.1 (by omega)
            have t_257 := t_rng (f (a0 + 14) x1.toNatClampNeg)
            exact ih (by omega) hI hF s0 (by omega) (by omega) (by omega) (by omega) p3 (fun j hj => by first | exact i4 j hj | (rw [cg_up_o (by omega), cg_up_k hj]; exact i4 j hj) | rw [cg_up_k hj]) (fun j hj => by first | exact i5 j hj | (rw [cg_up_k hj, cg_up_o (by omega)]; exact i5 j hj) | rw [cg_up_o (by omega)]) (by omega)
          · rw [t_lt] at c_248
            refine cT_if b_M_solveLines_86 (fun c_258 => ?_) (fun c_258 => ?_)
            · rw [t_eq] at c_258
              have tc_261 := t_cl (x1 + x2)
              have t_260 : -1 ≤ (f (a0 + 13) (x1 + x2).toNatClampNeg).toInt ∧ (f (a0 + 13) (x1 + x2).toNatClampNeg).toInt ≤ 78400 * ((901 - ((x1 + x2).toNatClampNeg) : Nat) : Int) := (cI_at hI (x1 + x2).toNatClampNeg (sc_7_21 s0)).2.2.2.2.2.2.2.2.2.2.1 (by omega)
              have t_262 := t_neg1
              refine cT_if (b_M_solveLines_91 s0 (by rw [t_in]; omega)) (fun c_259 => ?_) (fun c_259 => ?_)
              · rw [t_eq] at c_259
                refine cT_go b_M_solveLines_139 ?_
                first | have t_263 : (x2 + (nI 1)).toInt = (x2).toInt + ((nI 1)).toInt := t_addn (by omega) | obtain ⟨kt_263, t_263⟩ := t_add x2 (nI 1)
                have tc_265 := t_cl x1
                have t_264 : -1 ≤ (f (a0 + 13) x1.toNatClampNeg).toInt ∧ (f (a0 + 13) x1.toNatClampNeg).toInt ≤ 78400 * ((901 - x1.toNatClampNeg : Nat) : Int) := (cI_at hI x1.toNatClampNeg (sc_7_21 s0)).2.2.2.2.2.2.2.2.2.2.1 (by omega)
                have t_266 := t_rng (f (a0 + 14) x1.toNatClampNeg)
                exact ih (by omega) hI hF s0 (by omega) (by omega) (by omega) (by omega) p3 (fun j hj => by first | exact i4 j hj | (rw [cg_up_o (by omega), cg_up_k hj]; exact i4 j hj) | rw [cg_up_k hj]) (fun j hj => by first | exact i5 j hj | (rw [cg_up_k hj, cg_up_o (by omega)]; exact i5 j hj) | rw [cg_up_o (by omega)]) (by omega)
              · rw [t_eq] at c_259
                have tc_269 := t_cl x1
                have t_268 : -1 ≤ (f (a0 + 13) x1.toNatClampNeg).toInt ∧ (f (a0 + 13) x1.toNatClampNeg).toInt ≤ 78400 * ((901 - x1.toNatClampNeg : Nat) : Int) := (cI_at hI x1.toNatClampNeg (sc_7_21 s0)).2.2.2.2.2.2.2.2.2.2.1 (by omega)
                refine cT_if (b_M_solveLines_103 s0 (by rw [t_in]; omega)) (fun c_267 => ?_) (fun c_267 => ?_)
                · rw [t_eq] at c_267
                  have hI_270 := cI_up (k := x1.toNatClampNeg) (x := nI 0) hI (sc_7_21 s0) ⟨(fun _ => by omega), (fun _ => by omega), (fun _ => by omega), (fun _ => by omega), (fun _ => by omega), (fun _ => by omega), (fun _ => by omega), (fun _ => by omega), (fun _ => by omega), (fun _ => by omega), (fun _ => by omega), (fun _ => by omega), (fun _ => by omega)⟩
                  have hF_271 := cF_up (a := a0 + 13) (k := x1.toNatClampNeg) (x := nI 0) hF (by omega)
                  have hI_272 := cI_up (k := x1.toNatClampNeg) (x := x2) hI_270 (sc_7_22 s0) ⟨(fun _ => by omega), (fun _ => by omega), (fun _ => by omega), (fun _ => by omega), (fun _ => by omega), (fun _ => by omega), (fun _ => by omega), (fun _ => by omega), (fun _ => by omega), (fun _ => by omega), (fun _ => by omega), (fun _ => by omega), (fun _ => by omega)⟩
                  have hF_273 := cF_up (a := a0 + 14) (k := x1.toNatClampNeg) (x := x2) hF_271 (by omega)
                  refine cT_go (b_M_solveLines_124 s0 (by rw [t_in]; omega)) ?_
                  refine cT_go b_M_solveLines_139 ?_
                  first | have t_274 : (x2 + (nI 1)).toInt = (x2).toInt + ((nI 1)).toInt := t_addn (by omega) | obtain ⟨kt_274, t_274⟩ := t_add x2 (nI 1)
                  have t_275 : ((cg_up (cg_up f (a0 + 13) x1.toNatClampNeg (nI 0)) (a0 + 14) x1.toNatClampNeg x2) (a0 + 13) x1.toNatClampNeg).toInt = ((cg_up f (a0 + 13) x1.toNatClampNeg (nI 0)) (a0 + 13) x1.toNatClampNeg).toInt := by rw [cg_up_o (by omega)]
                  have t_276 : ((cg_up f (a0 + 13) x1.toNatClampNeg (nI 0)) (a0 + 13) x1.toNatClampNeg).toInt = (nI 0).toInt := by rw [cg_up_s]
                  have t_277 : ((cg_up (cg_up f (a0 + 13) x1.toNatClampNeg (nI 0)) (a0 + 14) x1.toNatClampNeg x2) (a0 + 14) x1.toNatClampNeg).toInt = (x2).toInt := by rw [cg_up_s]
                  exact ih (by omega) hI_272 hF_273 s0 (by omega) (by omega) (by omega) (by omega) p3 (fun j hj => by first | exact i4 j hj | (rw [cg_up_o (by omega), cg_up_k hj]; exact i4 j hj) | rw [cg_up_k hj]) (fun j hj => by first | exact i5 j hj | (rw [cg_up_k hj, cg_up_o (by omega)]; exact i5 j hj) | rw [cg_up_o (by omega)]) (by omega)
                · rw [t_eq] at c_267
                  refine cT_if (b_M_solveLines_113 s0 (by rw [t_in]; omega)) (fun c_278 => ?_) (fun c_278 => ?_)
                  · rw [t_le] at c_278
                    refine cT_go b_M_solveLines_139 ?_
                    first | have t_279 : (x2 + (nI 1)).toInt = (x2).toInt + ((nI 1)).toInt := t_addn (by omega) | obtain ⟨kt_279, t_279⟩ := t_add x2 (nI 1)
                    have t_280 := t_rng (f (a0 + 14) x1.toNatClampNeg)
                    exact ih (by omega) hI hF s0 (by omega) (by omega) (by omega) (by omega) p3 (fun j hj => by first | exact i4 j hj | (rw [cg_up_o (by omega), cg_up_k hj]; exact i4 j hj) | rw [cg_up_k hj]) (fun j hj => by first | exact i5 j hj | (rw [cg_up_k hj, cg_up_o (by omega)]; exact i5 j hj) | rw [cg_up_o (by omega)]) (by omega)
                  · rw [t_le] at c_278
                    have hI_281 := cI_up (k := x1.toNatClampNeg) (x := nI 0) hI (sc_7_21 s0) ⟨(fun _ => by omega), (fun _ => by omega), (fun _ => by omega), (fun _ => by omega), (fun _ => by omega), (fun _ => by omega), (fun _ => by omega), (fun _ => by omega), (fun _ => by omega), (fun _ => by omega), (fun _ => by omega), (fun _ => by omega), (fun _ => by omega)⟩
                    have hF_282 := cF_up (a := a0 + 13) (k := x1.toNatClampNeg) (x := nI 0) hF (by omega)
                    have hI_283 := cI_up (k := x1.toNatClampNeg) (x := x2) hI_281 (sc_7_22 s0) ⟨(fun _ => by omega), (fun _ => by omega), (fun _ => by omega), (fun _ => by omega), (fun _ => by omega), (fun _ => by omega), (fun _ => by omega), (fun _ => by omega), (fun _ => by omega), (fun _ => by omega), (fun _ => by omega), (fun _ => by omega), (fun _ => by omega)⟩
                    have hF_284 := cF_up (a := a0 + 14) (k := x1.toNatClampNeg) (x := x2) hF_282 (by omega)
                    refine cT_go (b_M_solveLines_124 s0 (by rw [t_in]; omega)) ?_
                    refine cT_go b_M_solveLines_139 ?_
                    first | have t_285 : (x2 + (nI 1)).toInt = (x2).toInt + ((nI 1)).toInt := t_addn (by omega) | obtain ⟨kt_285, t_285⟩ := t_add x2 (nI 1)
                    have t_286 : ((cg_up (cg_up f (a0 + 13) x1.toNatClampNeg (nI 0)) (a0 + 14) x1.toNatClampNeg x2) (a0 + 13) x1.toNatClampNeg).toInt = ((cg_up f (a0 + 13) x1.toNatClampNeg (nI 0)) (a0 + 13) x1.toNatClampNeg).toInt := by rw [cg_up_o (by omega)]
                    have t_287 : ((cg_up f (a0 + 13) x1.toNatClampNeg (nI 0)) (a0 + 13) x1.toNatClampNeg).toInt = (nI 0).toInt := by rw [cg_up_s]
                    have t_288 : ((cg_up (cg_up f (a0 + 13) x1.toNatClampNeg (nI 0)) (a0 + 14) x1.toNatClampNeg x2) (a0 + 14) x1.toNatClampNeg).toInt = (x2).toInt := by rw [cg_up_s]
                    exact ih (by omega) hI_283 hF_284 s0 (by omega) (by omega) (by omega) (by omega) p3 (fun j hj => by first | exact i4 j hj | (rw [cg_up_o (by omega), cg_up_k hj]; exact i4 j hj) | rw [cg_up_k hj]) (fun j hj => by first | exact i5 j hj | (rw [cg_up_k hj, cg_up_o (by omega)]; exact i5 j hj) | rw [cg_up_o (by omega)]) (by omega)
            · rw [t_eq] at c_258
              have tc_291 := t_cl x1
              have t_290 : -1 ≤ (f (a0 + 13) x1.toNatClampNeg).toInt ∧ (f (a0 + 13) x1.toNatClampNeg).toInt ≤ 78400 * ((901 - x1.toNatClampNeg : Nat) : Int) := (cI_at hI x1.toNatClampNeg (sc_7_21 s0)).2.2.2.2.2.2.2.2.2.2.1 (by omega)
              have t_292 := t_neg1
              refine cT_if (b_M_solveLines_103 s0 (by rw [t_in]; omega)) (fun c_289 => ?_) (fun c_289 => ?_)
              · rw [t_eq] at c_289
                have hI_293 := cI_up (k := x1.toNatClampNeg) (x := nI 0) hI (sc_7_21 s0) ⟨(fun _ => by omega), (fun _ => by omega), (fun _ => by omega), (fun _ => by omega), (fun _ => by omega), (fun _ => by omega), (fun _ => by omega), (fun _ => by omega), (fun _ => by omega), (fun _ => by omega), (fun _ => by omega), (fun _ => by omega), (fun _ => by omega)⟩
                have hF_294 := cF_up (a := a0 + 13) (k := x1.toNatClampNeg) (x := nI 0) hF (by omega)
                have hI_295 := cI_up (k := x1.toNatClampNeg) (x := x2) hI_293 (sc_7_22 s0) ⟨(fun _ => by omega), (fun _ => by omega), (fun _ => by omega), (fun _ => by omega), (fun _ => by omega), (fun _ => by omega), (fun _ => by omega), (fun _ => by omega), (fun _ => by omega), (fun _ => by omega), (fun _ => by omega), (fun _ => by omega), (fun _ => by omega)⟩
                have hF_296 := cF_up (a := a0 + 14) (k := x1.toNatClampNeg) (x := x2) hF_294 (by omega)
                refine cT_go (b_M_solveLines_124 s0 (by rw [t_in]; omega)) ?_
                refine cT_go b_M_solveLines_139 ?_
                first | have t_297 : (x2 + (nI 1)).toInt = (x2).toInt + ((nI 1)).toInt := t_addn (by omega) | obtain ⟨kt_297, t_297⟩ := t_add x2 (nI 1)
                have t_298 : ((cg_up (cg_up f (a0 + 13) x1.toNatClampNeg (nI 0)) (a0 + 14) x1.toNatClampNeg x2) (a0 + 13) x1.toNatClampNeg).toInt = ((cg_up f (a0 + 13) x1.toNatClampNeg (nI 0)) (a0 + 13) x1.toNatClampNeg).toInt := by rw [cg_up_o (by omega)]
                have t_299 : ((cg_up f (a0 + 13) x1.toNatClampNeg (nI 0)) (a0 + 13) x1.toNatClampNeg).toInt = (nI 0).toInt := by rw [cg_up_s]
                have t_300 : ((cg_up (cg_up f (a0 + 13) x1.toNatClampNeg (nI 0)) (a0 + 14) x1.toNatClampNeg x2) (a0 + 14) x1.toNatClampNeg).toInt = (x2).toInt := by rw [cg_up_s]
                exact ih (by omega) hI_295 hF_296 s0 (by omega) (by omega) (by omega) (by omega) p3 (fun j hj => by first | exact i4 j hj | (rw [cg_up_o (by omega), cg_up_k hj]; exact i4 j hj) | rw [cg_up_k hj]) (fun j hj => by first | exact i5 j hj | (rw [cg_up_k hj, cg_up_o (by omega)]; exact i5 j hj) | rw [cg_up_o (by omega)]) (by omega)
              · rw [t_eq] at c_289
                refine cT_if (b_M_solveLines_113 s0 (by rw [t_in]; omega)) (fun c_301 => ?_) (fun c_301 => ?_)
                · rw [t_le] at c_301
                  refine cT_go b_M_solveLines_139 ?_
                  first | have t_302 : (x2 + (nI 1)).toInt = (x2).toInt + ((nI 1)).toInt := t_addn (by omega) | obtain ⟨kt_302, t_302⟩ := t_add x2 (nI 1)
                  have t_303 := t_rng (f (a0 + 14) x1.toNatClampNeg)
                  exact ih (by omega) hI hF s0 (by omega) (by omega) (by omega) (by omega) p3 (fun j hj => by first | exact i4 j hj | (rw [cg_up_o (by omega), cg_up_k hj]; exact i4 j hj) | rw [cg_up_k hj]) (fun j hj => by first | exact i5 j hj | (rw [cg_up_k hj, cg_up_o (by omega)]; exact i5 j hj) | rw [cg_up_o (by omega)]) (by omega)
                · rw [t_le] at c_301
                  have hI_304 := cI_up (k := x1.toNatClampNeg) (x := nI 0) hI (sc_7_21 s0) ⟨(fun _ => by omega), (fun _ => by omega), (fun _ => by omega), (fun _ => by omega), (fun _ => by omega), (fun _ => by omega), (fun _ => by omega), (fun _ => by omega), (fun _ => by omega), (fun _ => by omega), (fun _ => by omega), (fun _ => by omega), (fun _ => by omega)⟩
                  have hF_305 := cF_up (a := a0 + 13) (k := x1.toNatClampNeg) (x := nI 0) hF (by omega)
                  have hI_306 := cI_up (k := x1.toNatClampNeg) (x := x2) hI_304 (sc_7_22 s0) ⟨(fun _ => by omega), (fun _ => by omega), (fun _ => by omega), (fun _ => by omega), (fun _ => by omega), (fun _ => by omega), (fun _ => by omega), (fun _ => by omega), (fun _ => by omega), (fun _ => by omega), (fun _ => by omega), (fun _ => by omega), (fun _ => by omega)⟩
                  have hF_307 := cF_up (a := a0 + 14) (k := x1.toNatClampNeg) (x := x2) hF_305 (by omega)
                  refine cT_go (b_M_solveLines_124 s0 (by rw [t_in]; omega)) ?_
                  refine cT_go b_M_solveLines_139 ?_
                  first | have t_308 : (x2 + (nI 1)).toInt = (x2).toInt + ((nI 1)).toInt := t_addn (by omega) | obtain ⟨kt_308, t_308⟩ := t_add x2 (nI 1)
                  have t_309 : ((cg_up (cg_up f (a0 + 13) x1.toNatClampNeg (nI 0)) (a0 + 14) x1.toNatClampNeg x2) (a0 + 13) x1.toNatClampNeg).toInt = ((cg_up f (a0 + 13) x1.toNatClampNeg (nI 0)) (a0 + 13) x1.toNatClampNeg).toInt := by rw [cg_up_o (by omega)]
                  have t_310 : ((cg_up f (a0 + 13) x1.toNatClampNeg (nI 0)) (a0 + 13) x1.toNatClampNeg).toInt = (nI 0).toInt := by rw [cg_up_s]
                  have t_311 : ((cg_up (cg_up f (a0 + 13) x1.toNatClampNeg (nI 0)) (a0 + 14) x1.toNatClampNeg x2) (a0 + 14) x1.toNatClampNeg).toInt = (x2).toInt := by rw [cg_up_s]
                  exact ih (by omega) hI_306 hF_307 s0 (by omega) (by omega) (by omega) (by omega) p3 (fun j hj => by first | exact i4 j hj | (rw [cg_up_o (by omega), cg_up_k hj]; exact i4 j hj) | rw [cg_up_k hj]) (fun j hj => by first | exact i5 j hj | (rw [cg_up_k hj, cg_up_o (by omega)]; exact i5 j hj) | rw [cg_up_o (by omega)]) (by omega)
set_option maxHeartbeats 8000000 in
theorem c_M_solveLines {L : Nat} {f : cg_G} {e : Nat × Nat} {a0 : Nat} {x1 : Int32} (hI : cI L f) (s0 : sh_ a0 = 7) (p1 : 0 ≤ x1.toInt ∧ x1.toInt < (f a0 18).toInt) (p2 : (f (a0 + 12) x1.toNatClampNeg).toInt - (f (a0 + 11) x1.toNatClampNeg).toInt ≤ (f a0 0).toInt) (p3 : solved (f (a0 + 13)) (f (a0 + 14)) x1.toInt (f a0 18).toInt) : cE 54 [.ref a0, .int x1] L e (fun o => o = a0 + 13 ∨ o = a0 + 14) f (fun v f' => v = none ∧ (solved (f' (a0 + 13)) (f' (a0 + 14)) (x1.toInt - 1) (f a0 18).toInt)) := by
  refine cE_of (ls := [.ref a0, .int x1, (.retAddr 0), (.retAddr 0), (.retAddr 0), (.retAddr 0)]) rfl ?_
  have t0 := t_0
  have hF : cF (fun o => o = a0 + 13 ∨ o = a0 + 14) f f := cF_rf
  have hm := one_7 s0
  have t_312 := t_rng (x1)
  have t_313 : 0 ≤ (f a0 18).toInt ∧ (f a0 18).toInt ≤ 130 := (cI_at hI 18 s0).2.2.2.2.2.2.2.2.1 rfl
  have t_314 : 6 ≤ (f a0 0).toInt ∧ (f a0 0).toInt ≤ 40 := (cI_at hI 0 s0).1 rfl
  have t_317 := t_neg1
  have tc_318 := t_cl x1
  have hI_315 := cI_up (k := x1.toNatClampNeg) (x := - nI 1) hI (sc_7_21 s0) ⟨(fun _ => by omega), (fun _ => by omega), (fun _ => by omega), (fun _ => by omega), (fun _ => by omega), (fun _ => by omega), (fun _ => by omega), (fun _ => by omega), (fun _ => by omega), (fun _ => by omega), (fun _ => by omega), (fun _ => by omega), (fun _ => by omega)⟩
  have hF_316 := cF_up (a := a0 + 13) (k := x1.toNatClampNeg) (x := - nI 1) hF (by omega)
  refine cT_go (b_M_solveLines_0 s0 (by rw [t_in]; omega)) ?_
  have t_319 : (nI 1).toInt = 1 := nI_toInt (by decide)
  have t_320 : ((cg_up f (a0 + 13) x1.toNatClampNeg (- nI 1)) (a0 + 13) x1.toNatClampNeg).toInt = (- nI 1).toInt := by rw [cg_up_s]
  have t_321 : ((cg_up f (a0 + 13) x1.toNatClampNeg (- nI 1)) (a0 + 14) x1.toNatClampNeg).toInt = (f (a0 + 14) x1.toNatClampNeg).toInt := by rw [cg_up_o (by omega)]
  have t_322 := t_rng (f (a0 + 14) x1.toNatClampNeg)
  exact l_M_solveLines_9 ((140 - (nI 1).toInt).toNat + 1) (by omega) hI_315 hF_316 s0 (by omega) (by omega) (by omega) (by omega) p3 (fun j hj => by first | exact i4 j hj | (rw [cg_up_o (by omega), cg_up_k hj]; exact i4 j hj) | rw [cg_up_k hj]) (fun j hj => by first | exact i5 j hj | (rw [cg_up_k hj, cg_up_o (by omega)]; exact i5 j hj) | rw [cg_up_o (by omega)]) (by omega)
