set_option maxHeartbeats 8000000 in
theorem l_M_template_31 {L : Nat} {e : Nat × Nat} {f0 : cg_G} : ∀ (k : Nat) {f : cg_G} {a0 : Nat} {x1 : Int32} {x2 : Int32}, (32 - x2.toInt).toNat < k → cI L f → cF (fun o => o = a0 ∨ o = a0 + 2 ∨ o = a0 + 3) f0 f → sh_ a0 = 7 → (x1.toInt = fwv (f0 (a0 + 1)) (f0 a0 3) ∧ -1 ≤ x1.toInt) → (0 ≤ (f0 a0 5).toInt ∧ (f0 a0 5).toInt < 6) → (0 ≤ (f0 a0 3).toInt ∧ (f0 a0 3).toInt ≤ 32) → (0 ≤ x2.toInt ∧ x2.toInt ≤ (f0 a0 3).toInt) → ((f a0 2).toInt = 0) → (WT f0) → (∀ k, k ≠ 2 → f a0 k = f0 a0 k) → (f (a0 + 2) = f0 (a0 + 2)) → (cpT f0 f (f0 a0 5).toInt x2.toInt) → cT 122 31 [.ref a0, .int x1, .int x2] [] L e (fun o => o = a0 ∨ o = a0 + 2 ∨ o = a0 + 3) f0 f (fun v f' => ∃ x : Int32, v = some (.int x) ∧ ((6 ≤ (f0 a0 5).toInt ∧ (f' a0 2).toInt = 1 ∧ (f' a0 3).toInt = (f0 a0 3).toInt ∧ (f' a0 5).toInt = (f0 a0 5).toInt ∨ (f0 a0 5).toInt < 6 ∧ (f' a0 2).toInt = 0 ∧ (f' a0 3).toInt = 0 ∧ ((fwv (f0 (a0 + 1)) (f0 a0 3) ≠ -1 ∧ x.toInt = -1 - fwv (f0 (a0 + 1)) (f0 a0 3) ∧ (f' a0 5).toInt = (f0 a0 5).toInt) ∨ (fwv (f0 (a0 + 1)) (f0 a0 3) = -1 ∧ x.toInt = (f0 a0 5).toInt ∧ (f' a0 5).toInt = (f0 a0 5).toInt + 1))) ∧ WT f' ∧ (f' a0 = f' a0 ∧ ∀ k, k ≠ 2 → k ≠ 3 → k ≠ 5 → f' a0 k = f0 a0 k))) := by
  intro k
  induction k with
  | zero => intro f a0 x1 x2 hm; omega
  | succ k ih =>
    intro f a0 x1 x2 hme hI hF s0 i1 i5 i3 i2 i0 wt ik r2 cp
    have hm := one_7 s0
    have e3 : (f a0 3).toInt = (f0 a0 3).toInt := by rw [ik 3 (by decide)]
    have e5 : (f a0 5).toInt = (f0 a0 5).toInt := by rw [ik 5 (by decide)]
    have t_1 := t_rng (x1)
    have t_2 := t_rng (x2)
    have t_4 : 0 ≤ (f a0 3).toInt ∧ (f a0 3).toInt ≤ 32 := (cI_at hI 3 s0).2.2.2.1 rfl
    refine cT_if (b_M_template_31 s0) (fun c_3 => ?_) (fun c_3 => ?_)
    · rw [t_le] at c_3; try rw [t_0] at c_3
      have hI_5 := cI_up (k := (f a0 5).toNatClampNeg) (x := f a0 3) hI (sc_7_6 s0) ⟨(fun _ => by omega), (fun _ => by omega), (fun _ => by omega), (fun _ => by omega), (fun _ => by omega), (fun _ => by omega), (fun _ => by omega), (fun _ => by omega), (fun _ => by omega), (fun _ => by omega), (fun _ => by omega), (fun _ => by omega), (fun _ => by omega)⟩
      have hF_6 := cF_up (a := a0 + 2) (k := (f a0 5).toNatClampNeg) (x := f a0 3) hF (by omega)
      have t_7 : 0 ≤ (f a0 5).toInt ∧ (f a0 5).toInt ≤ 6 := (cI_at hI 5 s0).2.2.2.2.1 rfl
      refine cT_if (b_M_template_70 s0 (by rw [t_in]; omega)) (fun c_8 => ?_) (fun c_8 => ?_)
      · replace c_8 := eq_n1 c_8
        refine cT_go (b_M_template_89 s0) ?_
        have t_12 : ((cg_up f (a0 + 2) (f a0 5).toNatClampNeg (f a0 3)) a0 5).toInt = (f a0 5).toInt := by rw [cg_up_o (ne_sh s0 (sc_7_6 s0) (by decide))]
        have t_13 : (nI 1).toInt = 1 := nI_toInt (by decide)
        first | have t_11 : ((((cg_up f (a0 + 2) (f a0 5).toNatClampNeg (f a0 3)) a0 5)) + ((nI 1))).toInt = ((((cg_up f (a0 + 2) (f a0 5).toNatClampNeg (f a0 3)) a0 5))).toInt + (((nI 1))).toInt := t_addn (by omega) | obtain ⟨kt_11, t_11⟩ := t_add (((cg_up f (a0 + 2) (f a0 5).toNatClampNeg (f a0 3)) a0 5)) ((nI 1))
        have hI_9 := cI_up (k := 5) (x := ((cg_up f (a0 + 2) (f a0 5).toNatClampNeg (f a0 3)) a0 5) + (nI 1)) hI_5 s0 ⟨(fun h => absurd h (by decide)), (fun h => absurd h (by decide)), (fun h => absurd h (by decide)), (fun h => absurd h (by decide)), (fun _ => by omega), (fun h => absurd h (by decide)), (fun h => absurd h (by decide)), (fun h => absurd h (by decide)), (fun h => absurd h (by decide)), (fun h => absurd h (by decide))⟩
        have hF_10 := cF_up (a := a0) (k := 5) (x := ((cg_up f (a0 + 2) (f a0 5).toNatClampNeg (f a0 3)) a0 5) + (nI 1)) hF_6 (by omega)
        have t_16 : (nI 0).toInt = 0 := nI_toInt (by decide)
        have hI_14 := cI_up (k := 3) (x := nI 0) hI_9 s0 ⟨(fun h => absurd h (by decide)), (fun h => absurd h (by decide)), (fun h => absurd h (by decide)), (fun _ => by omega), (fun h => absurd h (by decide)), (fun h => absurd h (by decide)), (fun h => absurd h (by decide)), (fun h => absurd h (by decide)), (fun h => absurd h (by decide)), (fun h => absurd h (by decide))⟩
        have hF_15 := cF_up (a := a0) (k := 3) (x := nI 0) hF_10 (by omega)
        refine cT_if (b_M_template_102 s0 s0) (fun c_17 => ?_) (fun c_17 => ?_)
        · replace c_17 := eq_n1 c_17
          refine cT_go (b_M_template_115 s0) ?_
          have t_18 : ((cg_up (cg_up (cg_up f (a0 + 2) (f a0 5).toNatClampNeg (f a0 3)) a0 5 (((cg_up f (a0 + 2) (f a0 5).toNatClampNeg (f a0 3)) a0 5) + (nI 1))) a0 3 (nI 0)) a0 2).toInt = ((cg_up (cg_up f (a0 + 2) (f a0 5).toNatClampNeg (f a0 3)) a0 5 (((cg_up f (a0 + 2) (f a0 5).toNatClampNeg (f a0 3)) a0 5) + (nI 1))) a0 2).toInt := by rw [cg_up_k (by decide)]
          have t_19 : ((cg_up (cg_up f (a0 + 2) (f a0 5).toNatClampNeg (f a0 3)) a0 5 (((cg_up f (a0 + 2) (f a0 5).toNatClampNeg (f a0 3)) a0 5) + (nI 1))) a0 2).toInt = ((cg_up f (a0 + 2) (f a0 5).toNatClampNeg (f a0 3)) a0 2).toInt := by rw [cg_up_k (by decide)]
          have t_20 : ((cg_up f (a0 + 2) (f a0 5).toNatClampNeg (f a0 3)) a0 2).toInt = (f a0 2).toInt := by rw [cg_up_o (ne_sh s0 (sc_7_6 s0) (by decide))]
          have t_21 : 0 ≤ (f a0 2).toInt ∧ (f a0 2).toInt ≤ 2 := (cI_at hI 2 s0).2.2.1 rfl
          have t_22 : ((cg_up (cg_up (cg_up f (a0 + 2) (f a0 5).toNatClampNeg (f a0 3)) a0 5 (((cg_up f (a0 + 2) (f a0 5).toNatClampNeg (f a0 3)) a0 5) + (nI 1))) a0 3 (nI 0)) a0 3).toInt = (nI 0).toInt := by rw [cg_up_s]
          have t_23 : ((cg_up (cg_up (cg_up f (a0 + 2) (f a0 5).toNatClampNeg (f a0 3)) a0 5 (((cg_up f (a0 + 2) (f a0 5).toNatClampNeg (f a0 3)) a0 5) + (nI 1))) a0 3 (nI 0)) a0 5).toInt = ((cg_up (cg_up f (a0 + 2) (f a0 5).toNatClampNeg (f a0 3)) a0 5 (((cg_up f (a0 + 2) (f a0 5).toNatClampNeg (f a0 3)) a0 5) + (nI 1))) a0 5).toInt := by rw [cg_up_k (by decide)]
          have t_24 : ((cg_up (cg_up f (a0 + 2) (f a0 5).toNatClampNeg (f a0 3)) a0 5 (((cg_up f (a0 + 2) (f a0 5).toNatClampNeg (f a0 3)) a0 5) + (nI 1))) a0 5).toInt = (((cg_up f (a0 + 2) (f a0 5).toNatClampNeg (f a0 3)) a0 5) + (nI 1)).toInt := by rw [cg_up_s]
          first | have t_25 : ((((cg_up (cg_up (cg_up f (a0 + 2) (f a0 5).toNatClampNeg (f a0 3)) a0 5 (((cg_up f (a0 + 2) (f a0 5).toNatClampNeg (f a0 3)) a0 5) + (nI 1))) a0 3 (nI 0)) a0 5)) - ((nI 1))).toInt = ((((cg_up (cg_up (cg_up f (a0 + 2) (f a0 5).toNatClampNeg (f a0 3)) a0 5 (((cg_up f (a0 + 2) (f a0 5).toNatClampNeg (f a0 3)) a0 5) + (nI 1))) a0 3 (nI 0)) a0 5))).toInt - (((nI 1))).toInt := t_subn (by omega) | obtain ⟨kt_25, t_25⟩ := t_sub (((cg_up (cg_up (cg_up f (a0 + 2) (f a0 5).toNatClampNeg (f a0 3)) a0 5 (((cg_up f (a0 + 2) (f a0 5).toNatClampNeg (f a0 3)) a0 5) + (nI 1))) a0 3 (nI 0)) a0 5)) ((nI 1))
          exact cT_ret b_M_template_127 hI_14 hF_15 ⟨_, rfl, by first | (exfalso; omega) | exact ⟨Or.inl ⟨by omega, by omega, by omega, by omega⟩, WT_fr wt (by subst hm; exact hk 5 (by decide)) (by subst hm; exact r2) (by subst hm; exact r3), rfl, fun k h2 h3 h5 => hk k h2⟩ | exact ⟨Or.inr ⟨by omega, by omega, by omega, Or.inr ⟨by omega, by omega, by omega⟩⟩, WT_ad (T := (f0 a0 5).toNatClampNeg) (n := f0 a0 3) hI (by subst hm; exact r2) wt (by subst hm; rw [t_cl]; omega) (by subst hm; omega) (fun t ht => by subst hm; simp (disch := omega) only [cg_up_o, cg_up_row]; rw [cj_up_n _ _ (by rw [t_cl]; omega)]; exact congrFun r2 t) (fun j hj => by subst hm; simp (disch := omega) only [cg_up_o]; exact cp.1 j hj) (by subst hm; simp (disch := omega) only [cg_up_o, cg_up_row]; rw [ik 5 (by decide), cj_up_s, ik 3 (by decide)]) (by subst hm; have h9 : fwv (f0 (206 + 1)) (f0 206 3) = -1 := (by omega); exact h9) (fun k hk => by subst hm; simp (disch := omega) only [cg_up_o]; rw [t_cl]; exact cp.2 k (by omega)), rfl, fun k h2 h3 h5 => by rw [cg_up_k h3, cg_up_k h5, cg_up_o (by omega)]; exact ik k h2⟩ | exact ⟨Or.inr ⟨by omega, by omega, by omega, Or.inl ⟨by omega, (t_sn1 (by omega)).trans (by omega), by omega⟩⟩, WT_st hI (by subst hm; exact r2) wt (by subst hm; omega) (fun t ht => by subst hm; simp (disch := omega) only [cg_up_o, cg_up_row]; rw [cj_up_n _ _ (by rw [t_cl]; omega)]; exact congrFun r2 t) (fun j hj => by subst hm; simp (disch := omega) only [cg_up_o]; exact cp.1 j hj), rfl, fun k h2 h3 h5 => by rw [cg_up_k h3, cg_up_k h5, cg_up_o (by omega)]; exact ik k h2⟩⟩
        · replace c_17 := ne_n1 c_17
          refine cT_go b_M_template_124 ?_
          have t_26 : ((cg_up (cg_up (cg_up f (a0 + 2) (f a0 5).toNatClampNeg (f a0 3)) a0 5 (((cg_up f (a0 + 2) (f a0 5).toNatClampNeg (f a0 3)) a0 5) + (nI 1))) a0 3 (nI 0)) a0 2).toInt = ((cg_up (cg_up f (a0 + 2) (f a0 5).toNatClampNeg (f a0 3)) a0 5 (((cg_up f (a0 + 2) (f a0 5).toNatClampNeg (f a0 3)) a0 5) + (nI 1))) a0 2).toInt := by rw [cg_up_k (by decide)]
          have t_27 : ((cg_up (cg_up f (a0 + 2) (f a0 5).toNatClampNeg (f a0 3)) a0 5 (((cg_up f (a0 + 2) (f a0 5).toNatClampNeg (f a0 3)) a0 5) + (nI 1))) a0 2).toInt = ((cg_up f (a0 + 2) (f a0 5).toNatClampNeg (f a0 3)) a0 2).toInt := by rw [cg_up_k (by decide)]
          have t_28 : ((cg_up f (a0 + 2) (f a0 5).toNatClampNeg (f a0 3)) a0 2).toInt = (f a0 2).toInt := by rw [cg_up_o (ne_sh s0 (sc_7_6 s0) (by decide))]
          have t_29 : 0 ≤ (f a0 2).toInt ∧ (f a0 2).toInt ≤ 2 := (cI_at hI 2 s0).2.2.1 rfl
          have t_30 : ((cg_up (cg_up (cg_up f (a0 + 2) (f a0 5).toNatClampNeg (f a0 3)) a0 5 (((cg_up f (a0 + 2) (f a0 5).toNatClampNeg (f a0 3)) a0 5) + (nI 1))) a0 3 (nI 0)) a0 3).toInt = (nI 0).toInt := by rw [cg_up_s]
          have t_31 : ((cg_up (cg_up (cg_up f (a0 + 2) (f a0 5).toNatClampNeg (f a0 3)) a0 5 (((cg_up f (a0 + 2) (f a0 5).toNatClampNeg (f a0 3)) a0 5) + (nI 1))) a0 3 (nI 0)) a0 5).toInt = ((cg_up (cg_up f (a0 + 2) (f a0 5).toNatClampNeg (f a0 3)) a0 5 (((cg_up f (a0 + 2) (f a0 5).toNatClampNeg (f a0 3)) a0 5) + (nI 1))) a0 5).toInt := by rw [cg_up_k (by decide)]
          have t_32 : ((cg_up (cg_up f (a0 + 2) (f a0 5).toNatClampNeg (f a0 3)) a0 5 (((cg_up f (a0 + 2) (f a0 5).toNatClampNeg (f a0 3)) a0 5) + (nI 1))) a0 5).toInt = (((cg_up f (a0 + 2) (f a0 5).toNatClampNeg (f a0 3)) a0 5) + (nI 1)).toInt := by rw [cg_up_s]
          exact cT_ret b_M_template_127 hI_14 hF_15 ⟨_, rfl, by first | (exfalso; omega) | exact ⟨Or.inl ⟨by omega, by omega, by omega, by omega⟩, WT_fr wt (by subst hm; exact hk 5 (by decide)) (by subst hm; exact r2) (by subst hm; exact r3), rfl, fun k h2 h3 h5 => hk k h2⟩ | exact ⟨Or.inr ⟨by omega, by omega, by omega, Or.inr ⟨by omega, by omega, by omega⟩⟩, WT_ad (T := (f0 a0 5).toNatClampNeg) (n := f0 a0 3) hI (by subst hm; exact r2) wt (by subst hm; rw [t_cl]; omega) (by subst hm; omega) (fun t ht => by subst hm; simp (disch := omega) only [cg_up_o, cg_up_row]; rw [cj_up_n _ _ (by rw [t_cl]; omega)]; exact congrFun r2 t) (fun j hj => by subst hm; simp (disch := omega) only [cg_up_o]; exact cp.1 j hj) (by subst hm; simp (disch := omega) only [cg_up_o, cg_up_row]; rw [ik 5 (by decide), cj_up_s, ik 3 (by decide)]) (by subst hm; have h9 : fwv (f0 (206 + 1)) (f0 206 3) = -1 := (by omega); exact h9) (fun k hk => by subst hm; simp (disch := omega) only [cg_up_o]; rw [t_cl]; exact cp.2 k (by omega)), rfl, fun k h2 h3 h5 => by rw [cg_up_k h3, cg_up_k h5, cg_up_o (by omega)]; exact ik k h2⟩ | exact ⟨Or.inr ⟨by omega, by omega, by omega, Or.inl ⟨by omega, (t_sn1 (by omega)).trans (by omega), by omega⟩⟩, WT_st hI (by subst hm; exact r2) wt (by subst hm; omega) (fun t ht => by subst hm; simp (disch := omega) only [cg_up_o, cg_up_row]; rw [cj_up_n _ _ (by rw [t_cl]; omega)]; exact congrFun r2 t) (fun j hj => by subst hm; simp (disch := omega) only [cg_up_o]; exact cp.1 j hj), rfl, fun k h2 h3 h5 => by rw [cg_up_k h3, cg_up_k h5, cg_up_o (by omega)]; exact ik k h2⟩⟩
      · replace c_8 := ne_n1 c_8
        refine cT_go (b_M_template_98 s0) ?_
        have t_35 : ((cg_up f (a0 + 2) (f a0 5).toNatClampNeg (f a0 3)) a0 5).toInt = (f a0 5).toInt := by rw [cg_up_o (ne_sh s0 (sc_7_6 s0) (by decide))]
        have hI_33 := cI_up (k := 5) (x := (cg_up f (a0 + 2) (f a0 5).toNatClampNeg (f a0 3)) a0 5) hI_5 s0 ⟨(fun h => absurd h (by decide)), (fun h => absurd h (by decide)), (fun h => absurd h (by decide)), (fun h => absurd h (by decide)), (fun _ => by omega), (fun h => absurd h (by decide)), (fun h => absurd h (by decide)), (fun h => absurd h (by decide)), (fun h => absurd h (by decide)), (fun h => absurd h (by decide))⟩
        have hF_34 := cF_up (a := a0) (k := 5) (x := (cg_up f (a0 + 2) (f a0 5).toNatClampNeg (f a0 3)) a0 5) hF_6 (by omega)
        have t_38 : (nI 0).toInt = 0 := nI_toInt (by decide)
        have hI_36 := cI_up (k := 3) (x := nI 0) hI_33 s0 ⟨(fun h => absurd h (by decide)), (fun h => absurd h (by decide)), (fun h => absurd h (by decide)), (fun _ => by omega), (fun h => absurd h (by decide)), (fun h => absurd h (by decide)), (fun h => absurd h (by decide)), (fun h => absurd h (by decide)), (fun h => absurd h (by decide)), (fun h => absurd h (by decide))⟩
        have hF_37 := cF_up (a := a0) (k := 3) (x := nI 0) hF_34 (by omega)
        refine cT_if (b_M_template_102 s0 s0) (fun c_39 => ?_) (fun c_39 => ?_)
        · replace c_39 := eq_n1 c_39
          refine cT_go (b_M_template_115 s0) ?_
          have t_40 : ((cg_up (cg_up (cg_up f (a0 + 2) (f a0 5).toNatClampNeg (f a0 3)) a0 5 ((cg_up f (a0 + 2) (f a0 5).toNatClampNeg (f a0 3)) a0 5)) a0 3 (nI 0)) a0 2).toInt = ((cg_up (cg_up f (a0 + 2) (f a0 5).toNatClampNeg (f a0 3)) a0 5 ((cg_up f (a0 + 2) (f a0 5).toNatClampNeg (f a0 3)) a0 5)) a0 2).toInt := by rw [cg_up_k (by decide)]
          have t_41 : ((cg_up (cg_up f (a0 + 2) (f a0 5).toNatClampNeg (f a0 3)) a0 5 ((cg_up f (a0 + 2) (f a0 5).toNatClampNeg (f a0 3)) a0 5)) a0 2).toInt = ((cg_up f (a0 + 2) (f a0 5).toNatClampNeg (f a0 3)) a0 2).toInt := by rw [cg_up_k (by decide)]
          have t_42 : ((cg_up f (a0 + 2) (f a0 5).toNatClampNeg (f a0 3)) a0 2).toInt = (f a0 2).toInt := by rw [cg_up_o (ne_sh s0 (sc_7_6 s0) (by decide))]
          have t_43 : 0 ≤ (f a0 2).toInt ∧ (f a0 2).toInt ≤ 2 := (cI_at hI 2 s0).2.2.1 rfl
          have t_44 : ((cg_up (cg_up (cg_up f (a0 + 2) (f a0 5).toNatClampNeg (f a0 3)) a0 5 ((cg_up f (a0 + 2) (f a0 5).toNatClampNeg (f a0 3)) a0 5)) a0 3 (nI 0)) a0 3).toInt = (nI 0).toInt := by rw [cg_up_s]
          have t_45 : ((cg_up (cg_up (cg_up f (a0 + 2) (f a0 5).toNatClampNeg (f a0 3)) a0 5 ((cg_up f (a0 + 2) (f a0 5).toNatClampNeg (f a0 3)) a0 5)) a0 3 (nI 0)) a0 5).toInt = ((cg_up (cg_up f (a0 + 2) (f a0 5).toNatClampNeg (f a0 3)) a0 5 ((cg_up f (a0 + 2) (f a0 5).toNatClampNeg (f a0 3)) a0 5)) a0 5).toInt := by rw [cg_up_k (by decide)]
          have t_46 : ((cg_up (cg_up f (a0 + 2) (f a0 5).toNatClampNeg (f a0 3)) a0 5 ((cg_up f (a0 + 2) (f a0 5).toNatClampNeg (f a0 3)) a0 5)) a0 5).toInt = ((cg_up f (a0 + 2) (f a0 5).toNatClampNeg (f a0 3)) a0 5).toInt := by rw [cg_up_s]
          have t_48 : (nI 1).toInt = 1 := nI_toInt (by decide)
          first | have t_47 : ((((cg_up (cg_up (cg_up f (a0 + 2) (f a0 5).toNatClampNeg (f a0 3)) a0 5 ((cg_up f (a0 + 2) (f a0 5).toNatClampNeg (f a0 3)) a0 5)) a0 3 (nI 0)) a0 5)) - ((nI 1))).toInt = ((((cg_up (cg_up (cg_up f (a0 + 2) (f a0 5).toNatClampNeg (f a0 3)) a0 5 ((cg_up f (a0 + 2) (f a0 5).toNatClampNeg (f a0 3)) a0 5)) a0 3 (nI 0)) a0 5))).toInt - (((nI 1))).toInt := t_subn (by omega) | obtain ⟨kt_47, t_47⟩ := t_sub (((cg_up (cg_up (cg_up f (a0 + 2) (f a0 5).toNatClampNeg (f a0 3)) a0 5 ((cg_up f (a0 + 2) (f a0 5).toNatClampNeg (f a0 3)) a0 5)) a0 3 (nI 0)) a0 5)) ((nI 1))
          exact cT_ret b_M_template_127 hI_36 hF_37 ⟨_, rfl, by first | (exfalso; omega) | exact ⟨Or.inl ⟨by omega, by omega, by omega, by omega⟩, WT_fr wt (by subst hm; exact hk 5 (by decide)) (by subst hm; exact r2) (by subst hm; exact r3), rfl, fun k h2 h3 h5 => hk k h2⟩ | exact ⟨Or.inr ⟨by omega, by omega, by omega, Or.inr ⟨by omega, by omega, by omega⟩⟩, WT_ad (T := (f0 a0 5).toNatClampNeg) (n := f0 a0 3) hI (by subst hm; exact r2) wt (by subst hm; rw [t_cl]; omega) (by subst hm; omega) (fun t ht => by subst hm; simp (disch := omega) only [cg_up_o, cg_up_row]; rw [cj_up_n _ _ (by rw [t_cl]; omega)]; exact congrFun r2 t) (fun j hj => by subst hm; simp (disch := omega) only [cg_up_o]; exact cp.1 j hj) (by subst hm; simp (disch := omega) only [cg_up_o, cg_up_row]; rw [ik 5 (by decide), cj_up_s, ik 3 (by decide)]) (by subst hm; have h9 : fwv (f0 (206 + 1)) (f0 206 3) = -1 := (by omega); exact h9) (fun k hk => by subst hm; simp (disch := omega) only [cg_up_o]; rw [t_cl]; exact cp.2 k (by omega)), rfl, fun k h2 h3 h5 => by rw [cg_up_k h3, cg_up_k h5, cg_up_o (by omega)]; exact ik k h2⟩ | exact ⟨Or.inr ⟨by omega, by omega, by omega, Or.inl ⟨by omega, (t_sn1 (by omega)).trans (by omega), by omega⟩⟩, WT_st hI (by subst hm; exact r2) wt (by subst hm; omega) (fun t ht => by subst hm; simp (disch := omega) only [cg_up_o, cg_up_row]; rw [cj_up_n _ _ (by rw [t_cl]; omega)]; exact congrFun r2 t) (fun j hj => by subst hm; simp (disch := omega) only [cg_up_o]; exact cp.1 j hj), rfl, fun k h2 h3 h5 => by rw [cg_up_k h3, cg_up_k h5, cg_up_o (by omega)]; exact ik k h2⟩⟩
        · replace c_39 := ne_n1 c_39
          refine cT_go b_M_template_124 ?_
          have t_49 : ((cg_up (cg_up (cg_up f (a0 + 2) (f a0 5).toNatClampNeg (f a0 3)) a0 5 ((cg_up f (a0 + 2) (f a0 5).toNatClampNeg (f a0 3)) a0 5)) a0 3 (nI 0)) a0 2).toInt = ((cg_up (cg_up f (a0 + 2) (f a0 5).toNatClampNeg (f a0 3)) a0 5 ((cg_up f (a0 + 2) (f a0 5).toNatClampNeg (f a0 3)) a0 5)) a0 2).toInt := by rw [cg_up_k (by decide)]
          have t_50 : ((cg_up (cg_up f (a0 + 2) (f a0 5).toNatClampNeg (f a0 3)) a0 5 ((cg_up f (a0 + 2) (f a0 5).toNatClampNeg (f a0 3)) a0 5)) a0 2).toInt = ((cg_up f (a0 + 2) (f a0 5).toNatClampNeg (f a0 3)) a0 2).toInt := by rw [cg_up_k (by decide)]
          have t_51 : ((cg_up f (a0 + 2) (f a0 5).toNatClampNeg (f a0 3)) a0 2).toInt = (f a0 2).toInt := by rw [cg_up_o (ne_sh s0 (sc_7_6 s0) (by decide))]
          have t_52 : 0 ≤ (f a0 2).toInt ∧ (f a0 2).toInt ≤ 2 := (cI_at hI 2 s0).2.2.1 rfl
          have t_53 : ((cg_up (cg_up (cg_up f (a0 + 2) (f a0 5).toNatClampNeg (f a0 3)) a0 5 ((cg_up f (a0 + 2) (f a0 5).toNatClampNeg (f a0 3)) a0 5)) a0 3 (nI 0)) a0 3).toInt = (nI 0).toInt := by rw [cg_up_s]
          have t_54 : ((cg_up (cg_up (cg_up f (a0 + 2) (f a0 5).toNatClampNeg (f a0 3)) a0 5 ((cg_up f (a0 + 2) (f a0 5).toNatClampNeg (f a0 3)) a0 5)) a0 3 (nI 0)) a0 5).toInt = ((cg_up (cg_up f (a0 + 2) (f a0 5).toNatClampNeg (f a0 3)) a0 5 ((cg_up f (a0 + 2) (f a0 5).toNatClampNeg (f a0 3)) a0 5)) a0 5).toInt := by rw [cg_up_k (by decide)]
          have t_55 : ((cg_up (cg_up f (a0 + 2) (f a0 5).toNatClampNeg (f a0 3)) a0 5 ((cg_up f (a0 + 2) (f a0 5).toNatClampNeg (f a0 3)) a0 5)) a0 5).toInt = ((cg_up f (a0 + 2) (f a0 5).toNatClampNeg (f a0 3)) a0 5).toInt := by rw [cg_up_s]
          exact cT_ret b_M_template_127 hI_36 hF_37 ⟨_, rfl, by first | (exfalso; omega) | exact ⟨Or.inl ⟨by omega, by omega, by omega, by omega⟩, WT_fr wt (by subst hm; exact hk 5 (by decide)) (by subst hm; exact r2) (by subst hm; exact r3), rfl, fun k h2 h3 h5 => hk k h2⟩ | exact ⟨Or.inr ⟨by omega, by omega, by omega, Or.inr ⟨by omega, by omega, by omega⟩⟩, WT_ad (T := (f0 a0 5).toNatClampNeg) (n := f0 a0 3) hI (by subst hm; exact r2) wt (by subst hm; rw [t_cl]; omega) (by subst hm; omega) (fun t ht => by subst hm; simp (disch := omega) only [cg_up_o, cg_up_row]; rw [cj_up_n _ _ (by rw [t_cl]; omega)]; exact congrFun r2 t) (fun j hj => by subst hm; simp (disch := omega) only [cg_up_o]; exact cp.1 j hj) (by subst hm; simp (disch := omega) only [cg_up_o, cg_up_row]; rw [ik 5 (by decide), cj_up_s, ik 3 (by decide)]) (by subst hm; have h9 : fwv (f0 (206 + 1)) (f0 206 3) = -1 := (by omega); exact h9) (fun k hk => by subst hm; simp (disch := omega) only [cg_up_o]; rw [t_cl]; exact cp.2 k (by omega)), rfl, fun k h2 h3 h5 => by rw [cg_up_k h3, cg_up_k h5, cg_up_o (by omega)]; exact ik k h2⟩ | exact ⟨Or.inr ⟨by omega, by omega, by omega, Or.inl ⟨by omega, (t_sn1 (by omega)).trans (by omega), by omega⟩⟩, WT_st hI (by subst hm; exact r2) wt (by subst hm; omega) (fun t ht => by subst hm; simp (disch := omega) only [cg_up_o, cg_up_row]; rw [cj_up_n _ _ (by rw [t_cl]; omega)]; exact congrFun r2 t) (fun j hj => by subst hm; simp (disch := omega) only [cg_up_o]; exact cp.1 j hj), rfl, fun k h2 h3 h5 => by rw [cg_up_k h3, cg_up_k h5, cg_up_o (by omega)]; exact ik k h2⟩⟩
    · rw [t_le] at c_3; try rw [t_0] at c_3
      refine cT_if b_M_template_39 (fun c_56 => ?_) (fun c_56 => ?_)
      · replace c_56 := eq_n1 c_56
        have hI_57 := cI_up (k := (((nI 32) * (f a0 5)) + x2).toNatClampNeg) (x := f (a0 + 1) x2.toNatClampNeg) hI (sc_7_7 s0) ⟨(fun _ => by omega), (fun _ => by omega), (fun _ => by omega), (fun _ => by omega), (fun _ => by omega), (fun _ => by omega), (fun _ => by omega), (fun _ => by omega), (fun _ => by omega), (fun _ => by omega), (fun _ => by omega), (fun _ => by omega), (fun _ => by omega)⟩
        have hF_58 := cF_up (a := a0 + 3) (k := (((nI 32) * (f a0 5)) + x2).toNatClampNeg) (x := f (a0 + 1) x2.toNatClampNeg) hF (by omega)
        have t_61 : (nI 32).toInt = 32 := nI_toInt (by decide)
        have t_62 : 0 ≤ (f a0 5).toInt ∧ (f a0 5).toInt ≤ 6 := (cI_at hI 5 s0).2.2.2.2.1 rfl
        first | have t_60 : (((nI 32)) * ((f a0 5))).toInt = 32 * (((f a0 5))).toInt := t_mulc (by decide) (by omega) | (obtain ⟨kt_60, t_60⟩ := t_mul ((nI 32)) ((f a0 5)); rw [nI_toInt (show 32 < 2 ^ 31 by decide)] at t_60)
        first | have t_59 : ((((nI 32) * (f a0 5))) + x2).toInt = ((((nI 32) * (f a0 5)))).toInt + (x2).toInt := t_addn (by omega) | obtain ⟨kt_59, t_59⟩ := t_add (((nI 32) * (f a0 5))) x2
        refine cT_go (b_M_template_44 s0 (by rw [t_in]; omega) (by rw [t_in]; omega)) ?_
        have t_64 : (nI 1).toInt = 1 := nI_toInt (by decide)
        first | have t_63 : (x2 + (nI 1)).toInt = (x2).toInt + ((nI 1)).toInt := t_addn (by omega) | obtain ⟨kt_63, t_63⟩ := t_add x2 (nI 1)
        have t_65 : ((cg_up f (a0 + 3) (((nI 32) * (f a0 5)) + x2).toNatClampNeg (f (a0 + 1) x2.toNatClampNeg)) a0 2).toInt = (f a0 2).toInt := by rw [cg_up_o (ne_sh s0 (sc_7_7 s0) (by decide))]
        have t_66 : 0 ≤ (f a0 2).toInt ∧ (f a0 2).toInt ≤ 2 := (cI_at hI 2 s0).2.2.1 rfl
        exact ih (by omega) hI_57 hF_58 s0 (by first | exact i1 | (rw [r1, hk 3 (by decide)] at hQf; exact ⟨hQf, by omega⟩)) (by omega) (by omega) (by omega) (by omega) wt (by first | exact hk | exact ik | exact fun k hk => by rw [cg_up_o (by omega)]; exact ik k hk) (by first | exact r2 | (rw [cg_up_o (by omega)]; exact r2)) (by first | exact cpT_0 hm r3 (by omega) | exact cpT_s (Q := x2.toNatClampNeg) hm cp (by omega) (by rw [t_cl]; omega) (by rw [t_cl]; omega) (by omega) (by rw [hF (a0 + 1) (by omega)]))
      · replace c_56 := ne_n1 c_56
        have hI_67 := cI_up (k := (f a0 5).toNatClampNeg) (x := f a0 3) hI (sc_7_6 s0) ⟨(fun _ => by omega), (fun _ => by omega), (fun _ => by omega), (fun _ => by omega), (fun _ => by omega), (fun _ => by omega), (fun _ => by omega), (fun _ => by omega), (fun _ => by omega), (fun _ => by omega), (fun _ => by omega), (fun _ => by omega), (fun _ => by omega)⟩
        have hF_68 := cF_up (a := a0 + 2) (k := (f a0 5).toNatClampNeg) (x := f a0 3) hF (by omega)
        have t_69 : 0 ≤ (f a0 5).toInt ∧ (f a0 5).toInt ≤ 6 := (cI_at hI 5 s0).2.2.2.2.1 rfl
        refine cT_if (b_M_template_70 s0 (by rw [t_in]; omega)) (fun c_70 => ?_) (fun c_70 => ?_)
        · replace c_70 := eq_n1 c_70
          refine cT_go (b_M_template_89 s0) ?_
          have t_74 : ((cg_up f (a0 + 2) (f a0 5).toNatClampNeg (f a0 3)) a0 5).toInt = (f a0 5).toInt := by rw [cg_up_o (ne_sh s0 (sc_7_6 s0) (by decide))]
          have t_75 : (nI 1).toInt = 1 := nI_toInt (by decide)
          first | have t_73 : ((((cg_up f (a0 + 2) (f a0 5).toNatClampNeg (f a0 3)) a0 5)) + ((nI 1))).toInt = ((((cg_up f (a0 + 2) (f a0 5).toNatClampNeg (f a0 3)) a0 5))).toInt + (((nI 1))).toInt := t_addn (by omega) | obtain ⟨kt_73, t_73⟩ := t_add (((cg_up f (a0 + 2) (f a0 5).toNatClampNeg (f a0 3)) a0 5)) ((nI 1))
          have hI_71 := cI_up (k := 5) (x := ((cg_up f (a0 + 2) (f a0 5).toNatClampNeg (f a0 3)) a0 5) + (nI 1)) hI_67 s0 ⟨(fun h => absurd h (by decide)), (fun h => absurd h (by decide)), (fun h => absurd h (by decide)), (fun h => absurd h (by decide)), (fun _ => by omega), (fun h => absurd h (by decide)), (fun h => absurd h (by decide)), (fun h => absurd h (by decide)), (fun h => absurd h (by decide)), (fun h => absurd h (by decide))⟩
          have hF_72 := cF_up (a := a0) (k := 5) (x := ((cg_up f (a0 + 2) (f a0 5).toNatClampNeg (f a0 3)) a0 5) + (nI 1)) hF_68 (by omega)
          have t_78 : (nI 0).toInt = 0 := nI_toInt (by decide)
          have hI_76 := cI_up (k := 3) (x := nI 0) hI_71 s0 ⟨(fun h => absurd h (by decide)), (fun h => absurd h (by decide)), (fun h => absurd h (by decide)), (fun _ => by omega), (fun h => absurd h (by decide)), (fun h => absurd h (by decide)), (fun h => absurd h (by decide)), (fun h => absurd h (by decide)), (fun h => absurd h (by decide)), (fun h => absurd h (by decide))⟩
          have hF_77 := cF_up (a := a0) (k := 3) (x := nI 0) hF_72 (by omega)
          refine cT_if (b_M_template_102 s0 s0) (fun c_79 => ?_) (fun c_79 => ?_)
          · replace c_79 := eq_n1 c_79
            refine cT_go (b_M_template_115 s0) ?_
            have t_80 : ((cg_up (cg_up (cg_up f (a0 + 2) (f a0 5).toNatClampNeg (f a0 3)) a0 5 (((cg_up f (a0 + 2) (f a0 5).toNatClampNeg (f a0 3)) a0 5) + (nI 1))) a0 3 (nI 0)) a0 2).toInt = ((cg_up (cg_up f (a0 + 2) (f a0 5).toNatClampNeg (f a0 3)) a0 5 (((cg_up f (a0 + 2) (f a0 5).toNatClampNeg (f a0 3)) a0 5) + (nI 1))) a0 2).toInt := by rw [cg_up_k (by decide)]
            have t_81 : ((cg_up (cg_up f (a0 + 2) (f a0 5).toNatClampNeg (f a0 3)) a0 5 (((cg_up f (a0 + 2) (f a0 5).toNatClampNeg (f a0 3)) a0 5) + (nI 1))) a0 2).toInt = ((cg_up f (a0 + 2) (f a0 5).toNatClampNeg (f a0 3)) a0 2).toInt := by rw [cg_up_k (by decide)]
            have t_82 : ((cg_up f (a0 + 2) (f a0 5).toNatClampNeg (f a0 3)) a0 2).toInt = (f a0 2).toInt := by rw [cg_up_o (ne_sh s0 (sc_7_6 s0) (by decide))]
            have t_83 : 0 ≤ (f a0 2).toInt ∧ (f a0 2).toInt ≤ 2 := (cI_at hI 2 s0).2.2.1 rfl
            have t_84 : ((cg_up (cg_up (cg_up f (a0 + 2) (f a0 5).toNatClampNeg (f a0 3)) a0 5 (((cg_up f (a0 + 2) (f a0 5).toNatClampNeg (f a0 3)) a0 5) + (nI 1))) a0 3 (nI 0)) a0 3).toInt = (nI 0).toInt := by rw [cg_up_s]
            have t_85 : ((cg_up (cg_up (cg_up f (a0 + 2) (f a0 5).toNatClampNeg (f a0 3)) a0 5 (((cg_up f (a0 + 2) (f a0 5).toNatClampNeg (f a0 3)) a0 5) + (nI 1))) a0 3 (nI 0)) a0 5).toInt = ((cg_up (cg_up f (a0 + 2) (f a0 5).toNatClampNeg (f a0 3)) a0 5 (((cg_up f (a0 + 2) (f a0 5).toNatClampNeg (f a0 3)) a0 5) + (nI 1))) a0 5).toInt := by rw [cg_up_k (by decide)]
            have t_86 : ((cg_up (cg_up f (a0 + 2) (f a0 5).toNatClampNeg (f a0 3)) a0 5 (((cg_up f (a0 + 2) (f a0 5).toNatClampNeg (f a0 3)) a0 5) + (nI 1))) a0 5).toInt = (((cg_up f (a0 + 2) (f a0 5).toNatClampNeg (f a0 3)) a0 5) + (nI 1)).toInt := by rw [cg_up_s]
            first | have t_87 : ((((cg_up (cg_up (cg_up f (a0 + 2) (f a0 5).toNatClampNeg (f a0 3)) a0 5 (((cg_up f (a0 + 2) (f a0 5).toNatClampNeg (f a0 3)) a0 5) + (nI 1))) a0 3 (nI 0)) a0 5)) - ((nI 1))).toInt = ((((cg_up (cg_up (cg_up f (a0 + 2) (f a0 5).toNatClampNeg (f a0 3)) a0 5 (((cg_up f (a0 + 2) (f a0 5).toNatClampNeg (f a0 3)) a0 5) + (nI 1))) a0 3 (nI 0)) a0 5))).toInt - (((nI 1))).toInt := t_subn (by omega) | obtain ⟨kt_87, t_87⟩ := t_sub (((cg_up (cg_up (cg_up f (a0 + 2) (f a0 5).toNatClampNeg (f a0 3)) a0 5 (((cg_up f (a0 + 2) (f a0 5).toNatClampNeg (f a0 3)) a0 5) + (nI 1))) a0 3 (nI 0)) a0 5)) ((nI 1))
            exact cT_ret b_M_template_127 hI_76 hF_77 ⟨_, rfl, by first | (exfalso; omega) | exact ⟨Or.inl ⟨by omega, by omega, by omega, by omega⟩, WT_fr wt (by subst hm; exact hk 5 (by decide)) (by subst hm; exact r2) (by subst hm; exact r3), rfl, fun k h2 h3 h5 => hk k h2⟩ | exact ⟨Or.inr ⟨by omega, by omega, by omega, Or.inr ⟨by omega, by omega, by omega⟩⟩, WT_ad (T := (f0 a0 5).toNatClampNeg) (n := f0 a0 3) hI (by subst hm; exact r2) wt (by subst hm; rw [t_cl]; omega) (by subst hm; omega) (fun t ht => by subst hm; simp (disch := omega) only [cg_up_o, cg_up_row]; rw [cj_up_n _ _ (by rw [t_cl]; omega)]; exact congrFun r2 t) (fun j hj => by subst hm; simp (disch := omega) only [cg_up_o]; exact cp.1 j hj) (by subst hm; simp (disch := omega) only [cg_up_o, cg_up_row]; rw [ik 5 (by decide), cj_up_s, ik 3 (by decide)]) (by subst hm; have h9 : fwv (f0 (206 + 1)) (f0 206 3) = -1 := (by omega); exact h9) (fun k hk => by subst hm; simp (disch := omega) only [cg_up_o]; rw [t_cl]; exact cp.2 k (by omega)), rfl, fun k h2 h3 h5 => by rw [cg_up_k h3, cg_up_k h5, cg_up_o (by omega)]; exact ik k h2⟩ | exact ⟨Or.inr ⟨by omega, by omega, by omega, Or.inl ⟨by omega, (t_sn1 (by omega)).trans (by omega), by omega⟩⟩, WT_st hI (by subst hm; exact r2) wt (by subst hm; omega) (fun t ht => by subst hm; simp (disch := omega) only [cg_up_o, cg_up_row]; rw [cj_up_n _ _ (by rw [t_cl]; omega)]; exact congrFun r2 t) (fun j hj => by subst hm; simp (disch := omega) only [cg_up_o]; exact cp.1 j hj), rfl, fun k h2 h3 h5 => by rw [cg_up_k h3, cg_up_k h5, cg_up_o (by omega)]; exact ik k h2⟩⟩
          · replace c_79 := ne_n1 c_79
            refine cT_go b_M_template_124 ?_
            have t_88 : ((cg_up (cg_up (cg_up f (a0 + 2) (f a0 5).toNatClampNeg (f a0 3)) a0 5 (((cg_up f (a0 + 2) (f a0 5).toNatClampNeg (f a0 3)) a0 5) + (nI 1))) a0 3 (nI 0)) a0 2).toInt = ((cg_up (cg_up f (a0 + 2) (f a0 5).toNatClampNeg (f a0 3)) a0 5 (((cg_up f (a0 + 2) (f a0 5).toNatClampNeg (f a0 3)) a0 5) + (nI 1))) a0 2).toInt := by rw [cg_up_k (by decide)]
            have t_89 : ((cg_up (cg_up f (a0 + 2) (f a0 5).toNatClampNeg (f a0 3)) a0 5 (((cg_up f (a0 + 2) (f a0 5).toNatClampNeg (f a0 3)) a0 5) + (nI 1))) a0 2).toInt = ((cg_up f (a0 + 2) (f a0 5).toNatClampNeg (f a0 3)) a0 2).toInt := by rw [cg_up_k (by decide)]
            have t_90 : ((cg_up f (a0 + 2) (f a0 5).toNatClampNeg (f a0 3)) a0 2).toInt = (f a0 2).toInt := by rw [cg_up_o (ne_sh s0 (sc_7_6 s0) (by decide))]
            have t_91 : 0 ≤ (f a0 2).toInt ∧ (f a0 2).toInt ≤ 2 := (cI_at hI 2 s0).2.2.1 rfl
            have t_92 : ((cg_up (cg_up (cg_up f (a0 + 2) (f a0 5).toNatClampNeg (f a0 3)) a0 5 (((cg_up f (a0 + 2) (f a0 5).toNatClampNeg (f a0 3)) a0 5) + (nI 1))) a0 3 (nI 0)) a0 3).toInt = (nI 0).toInt := by rw [cg_up_s]
            have t_93 : ((cg_up (cg_up (cg_up f (a0 + 2) (f a0 5).toNatClampNeg (f a0 3)) a0 5 (((cg_up f (a0 + 2) (f a0 5).toNatClampNeg (f a0 3)) a0 5) + (nI 1))) a0 3 (nI 0)) a0 5).toInt = ((cg_up (cg_up f (a0 + 2) (f a0 5).toNatClampNeg (f a0 3)) a0 5 (((cg_up f (a0 + 2) (f a0 5).toNatClampNeg (f a0 3)) a0 5) + (nI 1))) a0 5).toInt := by rw [cg_up_k (by decide)]
            have t_94 : ((cg_up (cg_up f (a0 + 2) (f a0 5).toNatClampNeg (f a0 3)) a0 5 (((cg_up f (a0 + 2) (f a0 5).toNatClampNeg (f a0 3)) a0 5) + (nI 1))) a0 5).toInt = (((cg_up f (a0 + 2) (f a0 5).toNatClampNeg (f a0 3)) a0 5) + (nI 1)).toInt := by rw [cg_up_s]
            exact cT_ret b_M_template_127 hI_76 hF_77 ⟨_, rfl, by first | (exfalso; omega) | exact ⟨Or.inl ⟨by omega, by omega, by omega, by omega⟩, WT_fr wt (by subst hm; exact hk 5 (by decide)) (by subst hm; exact r2) (by subst hm; exact r3), rfl, fun k h2 h3 h5 => hk k h2⟩ | exact ⟨Or.inr ⟨by omega, by omega, by omega, Or.inr ⟨by omega, by omega, by omega⟩⟩, WT_ad (T := (f0 a0 5).toNatClampNeg) (n := f0 a0 3) hI (by subst hm; exact r2) wt (by subst hm; rw [t_cl]; omega) (by subst hm; omega) (fun t ht => by subst hm; simp (disch := omega) only [cg_up_o, cg_up_row]; rw [cj_up_n _ _ (by rw [t_cl]; omega)]; exact congrFun r2 t) (fun j hj => by subst hm; simp (disch := omega) only [cg_up_o]; exact cp.1 j hj) (by subst hm; simp (disch := omega) only [cg_up_o, cg_up_row]; rw [ik 5 (by decide), cj_up_s, ik 3 (by decide)]) (by subst hm; have h9 : fwv (f0 (206 + 1)) (f0 206 3) = -1 := (by omega); exact h9) (fun k hk => by subst hm; simp (disch := omega) only [cg_up_o]; rw [t_cl]; exact cp.2 k (by omega)), rfl, fun k h2 h3 h5 => by rw [cg_up_k h3, cg_up_k h5, cg_up_o (by omega)]; exact ik k h2⟩ | exact ⟨Or.inr ⟨by omega, by omega, by omega, Or.inl ⟨by omega, (t_sn1 (by omega)).trans (by omega), by omega⟩⟩, WT_st hI (by subst hm; exact r2) wt (by subst hm; omega) (fun t ht => by subst hm; simp (disch := omega) only [cg_up_o, cg_up_row]; rw [cj_up_n _ _ (by rw [t_cl]; omega)]; exact congrFun r2 t) (fun j hj => by subst hm; simp (disch := omega) only [cg_up_o]; exact cp.1 j hj), rfl, fun k h2 h3 h5 => by rw [cg_up_k h3, cg_up_k h5, cg_up_o (by omega)]; exact ik k h2⟩⟩
        · replace c_70 := ne_n1 c_70
          refine cT_go (b_M_template_98 s0) ?_
          have t_97 : ((cg_up f (a0 + 2) (f a0 5).toNatClampNeg (f a0 3)) a0 5).toInt = (f a0 5).toInt := by rw [cg_up_o (ne_sh s0 (sc_7_6 s0) (by decide))]
          have hI_95 := cI_up (k := 5) (x := (cg_up f (a0 + 2) (f a0 5).toNatClampNeg (f a0 3)) a0 5) hI_67 s0 ⟨(fun h => absurd h (by decide)), (fun h => absurd h (by decide)), (fun h => absurd h (by decide)), (fun h => absurd h (by decide)), (fun _ => by omega), (fun h => absurd h (by decide)), (fun h => absurd h (by decide)), (fun h => absurd h (by decide)), (fun h => absurd h (by decide)), (fun h => absurd h (by decide))⟩
          have hF_96 := cF_up (a := a0) (k := 5) (x := (cg_up f (a0 + 2) (f a0 5).toNatClampNeg (f a0 3)) a0 5) hF_68 (by omega)
          have t_100 : (nI 0).toInt = 0 := nI_toInt (by decide)
          have hI_98 := cI_up (k := 3) (x := nI 0) hI_95 s0 ⟨(fun h => absurd h (by decide)), (fun h => absurd h (by decide)), (fun h => absurd h (by decide)), (fun _ => by omega), (fun h => absurd h (by decide)), (fun h => absurd h (by decide)), (fun h => absurd h (by decide)), (fun h => absurd h (by decide)), (fun h => absurd h (by decide)), (fun h => absurd h (by decide))⟩
          have hF_99 := cF_up (a := a0) (k := 3) (x := nI 0) hF_96 (by omega)
          refine cT_if (b_M_template_102 s0 s0) (fun c_101 => ?_) (fun c_101 => ?_)
          · replace c_101 := eq_n1 c_101
            refine cT_go (b_M_template_115 s0) ?_
            have t_102 : ((cg_up (cg_up (cg_up f (a0 + 2) (f a0 5).toNatClampNeg (f a0 3)) a0 5 ((cg_up f (a0 + 2) (f a0 5).toNatClampNeg (f a0 3)) a0 5)) a0 3 (nI 0)) a0 2).toInt = ((cg_up (cg_up f (a0 + 2) (f a0 5).toNatClampNeg (f a0 3)) a0 5 ((cg_up f (a0 + 2) (f a0 5).toNatClampNeg (f a0 3)) a0 5)) a0 2).toInt := by rw [cg_up_k (by decide)]
            have t_103 : ((cg_up (cg_up f (a0 + 2) (f a0 5).toNatClampNeg (f a0 3)) a0 5 ((cg_up f (a0 + 2) (f a0 5).toNatClampNeg (f a0 3)) a0 5)) a0 2).toInt = ((cg_up f (a0 + 2) (f a0 5).toNatClampNeg (f a0 3)) a0 2).toInt := by rw [cg_up_k (by decide)]
            have t_104 : ((cg_up f (a0 + 2) (f a0 5).toNatClampNeg (f a0 3)) a0 2).toInt = (f a0 2).toInt := by rw [cg_up_o (ne_sh s0 (sc_7_6 s0) (by decide))]
            have t_105 : 0 ≤ (f a0 2).toInt ∧ (f a0 2).toInt ≤ 2 := (cI_at hI 2 s0).2.2.1 rfl
            have t_106 : ((cg_up (cg_up (cg_up f (a0 + 2) (f a0 5).toNatClampNeg (f a0 3)) a0 5 ((cg_up f (a0 + 2) (f a0 5).toNatClampNeg (f a0 3)) a0 5)) a0 3 (nI 0)) a0 3).toInt = (nI 0).toInt := by rw [cg_up_s]
            have t_107 : ((cg_up (cg_up (cg_up f (a0 + 2) (f a0 5).toNatClampNeg (f a0 3)) a0 5 ((cg_up f (a0 + 2) (f a0 5).toNatClampNeg (f a0 3)) a0 5)) a0 3 (nI 0)) a0 5).toInt = ((cg_up (cg_up f (a0 + 2) (f a0 5).toNatClampNeg (f a0 3)) a0 5 ((cg_up f (a0 + 2) (f a0 5).toNatClampNeg (f a0 3)) a0 5)) a0 5).toInt := by rw [cg_up_k (by decide)]
            have t_108 : ((cg_up (cg_up f (a0 + 2) (f a0 5).toNatClampNeg (f a0 3)) a0 5 ((cg_up f (a0 + 2) (f a0 5).toNatClampNeg (f a0 3)) a0 5)) a0 5).toInt = ((cg_up f (a0 + 2) (f a0 5).toNatClampNeg (f a0 3)) a0 5).toInt := by rw [cg_up_s]
            have t_110 : (nI 1).toInt = 1 := nI_toInt (by decide)
            first | have t_109 : ((((cg_up (cg_up (cg_up f (a0 + 2) (f a0 5).toNatClampNeg (f a0 3)) a0 5 ((cg_up f (a0 + 2) (f a0 5).toNatClampNeg (f a0 3)) a0 5)) a0 3 (nI 0)) a0 5)) - ((nI 1))).toInt = ((((cg_up (cg_up (cg_up f (a0 + 2) (f a0 5).toNatClampNeg (f a0 3)) a0 5 ((cg_up f (a0 + 2) (f a0 5).toNatClampNeg (f a0 3)) a0 5)) a0 3 (nI 0)) a0 5))).toInt - (((nI 1))).toInt := t_subn (by omega) | obtain ⟨kt_109, t_109⟩ := t_sub (((cg_up (cg_up (cg_up f (a0 + 2) (f a0 5).toNatClampNeg (f a0 3)) a0 5 ((cg_up f (a0 + 2) (f a0 5).toNatClampNeg (f a0 3)) a0 5)) a0 3 (nI 0)) a0 5)) ((nI 1))
            exact cT_ret b_M_template_127 hI_98 hF_99 ⟨_, rfl, by first | (exfalso; omega) | exact ⟨Or.inl ⟨by omega, by omega, by omega, by omega⟩, WT_fr wt (by subst hm; exact hk 5 (by decide)) (by subst hm; exact r2) (by subst hm; exact r3), rfl, fun k h2 h3 h5 => hk k h2⟩ | exact ⟨Or.inr ⟨by omega, by omega, by omega, Or.inr ⟨by omega, by omega, by omega⟩⟩, WT_ad (T := (f0 a0 5).toNatClampNeg) (n := f0 a0 3) hI (by subst hm; exact r2) wt (by subst hm; rw [t_cl]; omega) (by subst hm; omega) (fun t ht => by subst hm; simp (disch := omega) only [cg_up_o, cg_up_row]; rw [cj_up_n _ _ (by rw [t_cl]; omega)]; exact congrFun r2 t) (fun j hj => by subst hm; simp (disch := omega) only [cg_up_o]; exact cp.1 j hj) (by subst hm; simp (disch := omega) only [cg_up_o, cg_up_row]; rw [ik 5 (by decide), cj_up_s, ik 3 (by decide)]) (by subst hm; have h9 : fwv (f0 (206 + 1)) (f0 206 3) = -1 := (by omega); exact h9) (fun k hk => by subst hm; simp (disch := omega) only [cg_up_o]; rw [t_cl]; exact cp.2 k (by omega)), rfl, fun k h2 h3 h5 => by rw [cg_up_k h3, cg_up_k h5, cg_up_o (by omega)]; exact ik k h2⟩ | exact ⟨Or.inr ⟨by omega, by omega, by omega, Or.inl ⟨by omega, (t_sn1 (by omega)).trans (by omega), by omega⟩⟩, WT_st hI (by subst hm; exact r2) wt (by subst hm; omega) (fun t ht => by subst hm; simp (disch := omega) only [cg_up_o, cg_up_row]; rw [cj_up_n _ _ (by rw [t_cl]; omega)]; exact congrFun r2 t) (fun j hj => by subst hm; simp (disch := omega) only [cg_up_o]; exact cp.1 j hj), rfl, fun k h2 h3 h5 => by rw [cg_up_k h3, cg_up_k h5, cg_up_o (by omega)]; exact ik k h2⟩⟩
          · replace c_101 := ne_n1 c_101
            refine cT_go b_M_template_124 ?_
            have t_111 : ((cg_up (cg_up (cg_up f (a0 + 2) (f a0 5).toNatClampNeg (f a0 3)) a0 5 ((cg_up f (a0 + 2) (f a0 5).toNatClampNeg (f a0 3)) a0 5)) a0 3 (nI 0)) a0 2).toInt = ((cg_up (cg_up f (a0 + 2) (f a0 5).toNatClampNeg (f a0 3)) a0 5 ((cg_up f (a0 + 2) (f a0 5).toNatClampNeg (f a0 3)) a0 5)) a0 2).toInt := by rw [cg_up_k (by decide)]
            have t_112 : ((cg_up (cg_up f (a0 + 2) (f a0 5).toNatClampNeg (f a0 3)) a0 5 ((cg_up f (a0 + 2) (f a0 5).toNatClampNeg (f a0 3)) a0 5)) a0 2).toInt = ((cg_up f (a0 + 2) (f a0 5).toNatClampNeg (f a0 3)) a0 2).toInt := by rw [cg_up_k (by decide)]
            have t_113 : ((cg_up f (a0 + 2) (f a0 5).toNatClampNeg (f a0 3)) a0 2).toInt = (f a0 2).toInt := by rw [cg_up_o (ne_sh s0 (sc_7_6 s0) (by decide))]
            have t_114 : 0 ≤ (f a0 2).toInt ∧ (f a0 2).toInt ≤ 2 := (cI_at hI 2 s0).2.2.1 rfl
            have t_115 : ((cg_up (cg_up (cg_up f (a0 + 2) (f a0 5).toNatClampNeg (f a0 3)) a0 5 ((cg_up f (a0 + 2) (f a0 5).toNatClampNeg (f a0 3)) a0 5)) a0 3 (nI 0)) a0 3).toInt = (nI 0).toInt := by rw [cg_up_s]
            have t_116 : ((cg_up (cg_up (cg_up f (a0 + 2) (f a0 5).toNatClampNeg (f a0 3)) a0 5 ((cg_up f (a0 + 2) (f a0 5).toNatClampNeg (f a0 3)) a0 5)) a0 3 (nI 0)) a0 5).toInt = ((cg_up (cg_up f (a0 + 2) (f a0 5).toNatClampNeg (f a0 3)) a0 5 ((cg_up f (a0 + 2) (f a0 5).toNatClampNeg (f a0 3)) a0 5)) a0 5).toInt := by rw [cg_up_k (by decide)]
            have t_117 : ((cg_up (cg_up f (a0 + 2) (f a0 5).toNatClampNeg (f a0 3)) a0 5 ((cg_up f (a0 + 2) (f a0 5).toNatClampNeg (f a0 3)) a0 5)) a0 5).toInt = ((cg_up f (a0 + 2) (f a0 5).toNatClampNeg (f a0 3)) a0 5).toInt := by rw [cg_up_s]
            exact cT_ret b_M_template_127 hI_98 hF_99 ⟨_, rfl, by first | (exfalso; omega) | exact ⟨Or.inl ⟨by omega, by omega, by omega, by omega⟩, WT_fr wt (by subst hm; exact hk 5 (by decide)) (by subst hm; exact r2) (by subst hm; exact r3), rfl, fun k h2 h3 h5 => hk k h2⟩ | exact ⟨Or.inr ⟨by omega, by omega, by omega, Or.inr ⟨by omega, by omega, by omega⟩⟩, WT_ad (T := (f0 a0 5).toNatClampNeg) (n := f0 a0 3) hI (by subst hm; exact r2) wt (by subst hm; rw [t_cl]; omega) (by subst hm; omega) (fun t ht => by subst hm; simp (disch := omega) only [cg_up_o, cg_up_row]; rw [cj_up_n _ _ (by rw [t_cl]; omega)]; exact congrFun r2 t) (fun j hj => by subst hm; simp (disch := omega) only [cg_up_o]; exact cp.1 j hj) (by subst hm; simp (disch := omega) only [cg_up_o, cg_up_row]; rw [ik 5 (by decide), cj_up_s, ik 3 (by decide)]) (by subst hm; have h9 : fwv (f0 (206 + 1)) (f0 206 3) = -1 := (by omega); exact h9) (fun k hk => by subst hm; simp (disch := omega) only [cg_up_o]; rw [t_cl]; exact cp.2 k (by omega)), rfl, fun k h2 h3 h5 => by rw [cg_up_k h3, cg_up_k h5, cg_up_o (by omega)]; exact ik k h2⟩ | exact ⟨Or.inr ⟨by omega, by omega, by omega, Or.inl ⟨by omega, (t_sn1 (by omega)).trans (by omega), by omega⟩⟩, WT_st hI (by subst hm; exact r2) wt (by subst hm; omega) (fun t ht => by subst hm; simp (disch := omega) only [cg_up_o, cg_up_row]; rw [cj_up_n _ _ (by rw [t_cl]; omega)]; exact congrFun r2 t) (fun j hj => by subst hm; simp (disch := omega) only [cg_up_o]; exact cp.1 j hj), rfl, fun k h2 h3 h5 => by rw [cg_up_k h3, cg_up_k h5, cg_up_o (by omega)]; exact ik k h2⟩⟩
set_option maxHeartbeats 8000000 in
theorem c_M_template {L : Nat} {f : cg_G} {e : Nat × Nat} {a0 : Nat} (hI : cI L f) (s0 : sh_ a0 = 7) (wt : WT f) : cE 122 [.ref a0] L e (fun o => o = a0 ∨ o = a0 + 2 ∨ o = a0 + 3) f (fun v f' => ∃ x : Int32, v = some (.int x) ∧ ((6 ≤ (f a0 5).toInt ∧ (f' a0 2).toInt = 1 ∧ (f' a0 3).toInt = (f a0 3).toInt ∧ (f' a0 5).toInt = (f a0 5).toInt ∨ (f a0 5).toInt < 6 ∧ (f' a0 2).toInt = 0 ∧ (f' a0 3).toInt = 0 ∧ ((fwv (f (a0 + 1)) (f a0 3) ≠ -1 ∧ x.toInt = -1 - fwv (f (a0 + 1)) (f a0 3) ∧ (f' a0 5).toInt = (f a0 5).toInt) ∨ (fwv (f (a0 + 1)) (f a0 3) = -1 ∧ x.toInt = (f a0 5).toInt ∧ (f' a0 5).toInt = (f a0 5).toInt + 1))) ∧ WT f' ∧ (f' a0 = f' a0 ∧ ∀ k, k ≠ 2 → k ≠ 3 → k ≠ 5 → f' a0 k = f a0 k))) := by
  refine cE_of (ls := [.ref a0, (.retAddr 0), (.retAddr 0)]) rfl ?_
  have hF : cF (fun o => o = a0 ∨ o = a0 + 2 ∨ o = a0 + 3) f f := cF_rf
  have hm := one_7 s0
  have t_118 : 0 ≤ (f a0 3).toInt ∧ (f a0 3).toInt ≤ 32 := (cI_at hI 3 s0).2.2.2.1 rfl
  have t_119 : 0 ≤ (f a0 5).toInt ∧ (f a0 5).toInt ≤ 6 := (cI_at hI 5 s0).2.2.2.2.1 rfl
  have t_121 : (nI 6).toInt = 6 := nI_toInt (by decide)
  refine cT_if (b_M_template_0 s0) (fun c_120 => ?_) (fun c_120 => ?_)
  · rw [t_le] at c_120; try rw [t_0] at c_120
    refine cT_go b_M_template_14 ?_
    have t_122 : (nI 0).toInt = 0 := nI_toInt (by decide)
    have t_123 : (nI 1).toInt = 1 := nI_toInt (by decide)
    refine cT_call (b_M_template_15 s0) (c_M_goes hI s0) hF (fun o ho => by omega) (fun v_124 f_125 hI_126 hG_127 hF_128 hQ_129 => ?_)
    obtain ⟨y_130, rfl, hb_131, hQ_129⟩ := hQ_129
    have hb_131r := t_b01 hb_131
    have t_132 : 3 ≤ (f a0 1).toInt ∧ (f a0 1).toInt ≤ 30 := (cI_at hI 1 s0).2.1 rfl
    have t_133 : 0 ≤ (f a0 8).toInt ∧ (f a0 8).toInt ≤ 8 := (cI_at hI 8 s0).2.2.2.2.2.1 rfl
    have t_134 : 0 ≤ (f a0 14).toInt ∧ (f a0 14).toInt ≤ 26 := (cI_at hI 14 s0).2.2.2.2.2.2.1 rfl
    have t_135 : -1 ≤ (f a0 23).toInt ∧ (f a0 23).toInt ≤ 1 := (cI_at hI 23 s0).2.2.2.2.2.2.2.2.2 rfl
    have g_136 : (f_125 a0 1).toInt = (f a0 1).toInt := congrArg Int32.toInt (hQ_129.2.2.2.2 1 (by decide))
    have g_137 : (f_125 a0 3).toInt = (f a0 3).toInt := congrArg Int32.toInt (hQ_129.2.2.2.2 3 (by decide))
    have g_138 : (f_125 a0 5).toInt = (f a0 5).toInt := congrArg Int32.toInt (hQ_129.2.2.2.2 5 (by decide))
    have g_139 : (f_125 a0 8).toInt = (f a0 8).toInt := congrArg Int32.toInt (hQ_129.2.2.2.2 8 (by decide))
    have g_140 : (f_125 a0 14).toInt = (f a0 14).toInt := congrArg Int32.toInt (hQ_129.2.2.2.2 14 (by decide))
    have g_141 : (f_125 a0 23).toInt = (f a0 23).toInt := congrArg Int32.toInt (hQ_129.2.2.2.2 23 (by decide))
    have hk : ∀ k, k ≠ 2 → f_125 a0 k = f a0 k := hQ_129.2.2.2.2
    have r3 : f_125 (a0 + 3) = f (a0 + 3) := hG_127 (a0 + 3) (by omega)
    have r2 : f_125 (a0 + 2) = f (a0 + 2) := hG_127 (a0 + 2) (by omega)
    have r1 : f_125 (a0 + 1) = f (a0 + 1) := hG_127 (a0 + 1) (by omega)
    have g_142 : (f_125 a0 3).toInt = (f a0 3).toInt := by rw [hk 3 (by decide)]
    have g_143 : (f_125 a0 5).toInt = (f a0 5).toInt := by rw [hk 5 (by decide)]
    show cT 122 19 [.ref a0, ((((.retAddr 0)))), ((((.retAddr 0))))] [.int y_130] _ _ _ _ _ _
    refine cT_if b_M_template_19 (fun c_144 => ?_) (fun c_144 => ?_)
    · rw [t_eq] at c_144; try rw [t_0] at c_144
      have t_146 : 0 ≤ (f_125 a0 2).toInt ∧ (f_125 a0 2).toInt ≤ 2 := (cI_at hI_126 2 s0).2.2.1 rfl
      have t_147 : 0 ≤ (f_125 a0 3).toInt ∧ (f_125 a0 3).toInt ≤ 32 := (cI_at hI_126 3 s0).2.2.2.1 rfl
      have t_148 : 0 ≤ (f_125 a0 5).toInt ∧ (f_125 a0 5).toInt ≤ 6 := (cI_at hI_126 5 s0).2.2.2.2.1 rfl
      exact cT_ret b_M_template_22 hI_126 hF_128 ⟨_, rfl, by first | (exfalso; omega) | exact ⟨Or.inl ⟨by omega, by omega, by omega, by omega⟩, WT_fr wt (by subst hm; exact hk 5 (by decide)) (by subst hm; exact r2) (by subst hm; exact r3), rfl, fun k h2 h3 h5 => hk k h2⟩ | exact ⟨Or.inr ⟨by omega, by omega, by omega, Or.inr ⟨by omega, by omega, by omega⟩⟩, WT_ad (T := (f0 a0 5).toNatClampNeg) (n := f0 a0 3) hI (by subst hm; exact r2) wt (by subst hm; rw [t_cl]; omega) (by subst hm; omega) (fun t ht => by subst hm; simp (disch := omega) only [cg_up_o, cg_up_row]; rw [cj_up_n _ _ (by rw [t_cl]; omega)]; exact congrFun r2 t) (fun j hj => by subst hm; simp (disch := omega) only [cg_up_o]; exact cp.1 j hj) (by subst hm; simp (disch := omega) only [cg_up_o, cg_up_row]; rw [ik 5 (by decide), cj_up_s, ik 3 (by decide)]) (by subst hm; have h9 : fwv (f0 (206 + 1)) (f0 206 3) = -1 := (by omega); exact h9) (fun k hk => by subst hm; simp (disch := omega) only [cg_up_o]; rw [t_cl]; exact cp.2 k (by omega)), rfl, fun k h2 h3 h5 => by rw [cg_up_k h3, cg_up_k h5, cg_up_o (by omega)]; exact ik k h2⟩ | exact ⟨Or.inr ⟨by omega, by omega, by omega, Or.inl ⟨by omega, (t_sn1 (by omega)).trans (by omega), by omega⟩⟩, WT_st hI (by subst hm; exact r2) wt (by subst hm; omega) (fun t ht => by subst hm; simp (disch := omega) only [cg_up_o, cg_up_row]; rw [cj_up_n _ _ (by rw [t_cl]; omega)]; exact congrFun r2 t) (fun j hj => by subst hm; simp (disch := omega) only [cg_up_o]; exact cp.1 j hj), rfl, fun k h2 h3 h5 => by rw [cg_up_k h3, cg_up_k h5, cg_up_o (by omega)]; exact ik k h2⟩⟩
    · rw [t_eq] at c_144; try rw [t_0] at c_144
      refine cT_call (b_M_template_24 s0) (c_M_fault hI_126 s0) hF_128 (fun o ho => ho.elim) (fun v_149 f_150 hI_151 hG_152 hF_153 hQ_154 => ?_)
      obtain rfl := cF_no hG_152
      obtain ⟨y_155, rfl, hQ_154⟩ := hQ_154
      have hQ_154r := t_rng y_155
      have hQf : y_155.toInt = fwv (f_125 (a0 + 1)) (f_125 a0 3) := hQ_154.1
      show cT 122 28 [.ref a0, ((((((.retAddr 0)))))), ((((((.retAddr 0))))))] [.int y_155] _ _ _ _ _ _
      refine cT_go b_M_template_28 ?_
      have t_156 : 0 ≤ (f_125 a0 2).toInt ∧ (f_125 a0 2).toInt ≤ 2 := (cI_at hI_126 2 s0).2.2.1 rfl
      exact l_M_template_31 ((32 - (nI 0).toInt).toNat + 1) (by omega) hI_126 hF_128 s0 (by first | exact i1 | (rw [r1, hk 3 (by decide)] at hQf; exact ⟨hQf, by omega⟩)) (by omega) (by omega) (by omega) (by omega) wt (by first | exact hk | exact ik | exact fun k hk => by rw [cg_up_o (by omega)]; exact ik k hk) (by first | exact r2 | (rw [cg_up_o (by omega)]; exact r2)) (by first | exact cpT_0 hm r3 (by omega) | exact cpT_s (Q := x2.toNatClampNeg) hm cp (by omega) (by rw [t_cl]; omega) (by rw [t_cl]; omega) (by omega) (by rw [hF (a0 + 1) (by omega)]))
  · rw [t_le] at c_120; try rw [t_0] at c_120
    refine cT_go b_M_template_10 ?_
    have t_157 : (nI 1).toInt = 1 := nI_toInt (by decide)
    refine cT_call (b_M_template_15 s0) (c_M_goes hI s0) hF (fun o ho => by omega) (fun v_158 f_159 hI_160 hG_161 hF_162 hQ_163 => ?_)
    obtain ⟨y_164, rfl, hb_165, hQ_163⟩ := hQ_163
    have hb_165r := t_b01 hb_165
    have t_166 : 3 ≤ (f a0 1).toInt ∧ (f a0 1).toInt ≤ 30 := (cI_at hI 1 s0).2.1 rfl
    have t_167 : 0 ≤ (f a0 8).toInt ∧ (f a0 8).toInt ≤ 8 := (cI_at hI 8 s0).2.2.2.2.2.1 rfl
    have t_168 : 0 ≤ (f a0 14).toInt ∧ (f a0 14).toInt ≤ 26 := (cI_at hI 14 s0).2.2.2.2.2.2.1 rfl
    have t_169 : -1 ≤ (f a0 23).toInt ∧ (f a0 23).toInt ≤ 1 := (cI_at hI 23 s0).2.2.2.2.2.2.2.2.2 rfl
    have g_170 : (f_159 a0 1).toInt = (f a0 1).toInt := congrArg Int32.toInt (hQ_163.2.2.2.2 1 (by decide))
    have g_171 : (f_159 a0 3).toInt = (f a0 3).toInt := congrArg Int32.toInt (hQ_163.2.2.2.2 3 (by decide))
    have g_172 : (f_159 a0 5).toInt = (f a0 5).toInt := congrArg Int32.toInt (hQ_163.2.2.2.2 5 (by decide))
    have g_173 : (f_159 a0 8).toInt = (f a0 8).toInt := congrArg Int32.toInt (hQ_163.2.2.2.2 8 (by decide))
    have g_174 : (f_159 a0 14).toInt = (f a0 14).toInt := congrArg Int32.toInt (hQ_163.2.2.2.2 14 (by decide))
    have g_175 : (f_159 a0 23).toInt = (f a0 23).toInt := congrArg Int32.toInt (hQ_163.2.2.2.2 23 (by decide))
    have hk : ∀ k, k ≠ 2 → f_159 a0 k = f a0 k := hQ_163.2.2.2.2
    have r3 : f_159 (a0 + 3) = f (a0 + 3) := hG_161 (a0 + 3) (by omega)
    have r2 : f_159 (a0 + 2) = f (a0 + 2) := hG_161 (a0 + 2) (by omega)
    have r1 : f_159 (a0 + 1) = f (a0 + 1) := hG_161 (a0 + 1) (by omega)
    have g_176 : (f_159 a0 3).toInt = (f a0 3).toInt := by rw [hk 3 (by decide)]
    have g_177 : (f_159 a0 5).toInt = (f a0 5).toInt := by rw [hk 5 (by decide)]
    show cT 122 19 [.ref a0, ((((.retAddr 0)))), ((((.retAddr 0))))] [.int y_164] _ _ _ _ _ _
    refine cT_if b_M_template_19 (fun c_178 => ?_) (fun c_178 => ?_)
    · rw [t_eq] at c_178; try rw [t_0] at c_178
      have t_180 : 0 ≤ (f_159 a0 2).toInt ∧ (f_159 a0 2).toInt ≤ 2 := (cI_at hI_160 2 s0).2.2.1 rfl
      have t_181 : 0 ≤ (f_159 a0 3).toInt ∧ (f_159 a0 3).toInt ≤ 32 := (cI_at hI_160 3 s0).2.2.2.1 rfl
      have t_182 : 0 ≤ (f_159 a0 5).toInt ∧ (f_159 a0 5).toInt ≤ 6 := (cI_at hI_160 5 s0).2.2.2.2.1 rfl
      have t_183 : (nI 0).toInt = 0 := nI_toInt (by decide)
      exact cT_ret b_M_template_22 hI_160 hF_162 ⟨_, rfl, by first | (exfalso; omega) | exact ⟨Or.inl ⟨by omega, by omega, by omega, by omega⟩, WT_fr wt (by subst hm; exact hk 5 (by decide)) (by subst hm; exact r2) (by subst hm; exact r3), rfl, fun k h2 h3 h5 => hk k h2⟩ | exact ⟨Or.inr ⟨by omega, by omega, by omega, Or.inr ⟨by omega, by omega, by omega⟩⟩, WT_ad (T := (f0 a0 5).toNatClampNeg) (n := f0 a0 3) hI (by subst hm; exact r2) wt (by subst hm; rw [t_cl]; omega) (by subst hm; omega) (fun t ht => by subst hm; simp (disch := omega) only [cg_up_o, cg_up_row]; rw [cj_up_n _ _ (by rw [t_cl]; omega)]; exact congrFun r2 t) (fun j hj => by subst hm; simp (disch := omega) only [cg_up_o]; exact cp.1 j hj) (by subst hm; simp (disch := omega) only [cg_up_o, cg_up_row]; rw [ik 5 (by decide), cj_up_s, ik 3 (by decide)]) (by subst hm; have h9 : fwv (f0 (206 + 1)) (f0 206 3) = -1 := (by omega); exact h9) (fun k hk => by subst hm; simp (disch := omega) only [cg_up_o]; rw [t_cl]; exact cp.2 k (by omega)), rfl, fun k h2 h3 h5 => by rw [cg_up_k h3, cg_up_k h5, cg_up_o (by omega)]; exact ik k h2⟩ | exact ⟨Or.inr ⟨by omega, by omega, by omega, Or.inl ⟨by omega, (t_sn1 (by omega)).trans (by omega), by omega⟩⟩, WT_st hI (by subst hm; exact r2) wt (by subst hm; omega) (fun t ht => by subst hm; simp (disch := omega) only [cg_up_o, cg_up_row]; rw [cj_up_n _ _ (by rw [t_cl]; omega)]; exact congrFun r2 t) (fun j hj => by subst hm; simp (disch := omega) only [cg_up_o]; exact cp.1 j hj), rfl, fun k h2 h3 h5 => by rw [cg_up_k h3, cg_up_k h5, cg_up_o (by omega)]; exact ik k h2⟩⟩
    · rw [t_eq] at c_178; try rw [t_0] at c_178
      refine cT_call (b_M_template_24 s0) (c_M_fault hI_160 s0) hF_162 (fun o ho => ho.elim) (fun v_184 f_185 hI_186 hG_187 hF_188 hQ_189 => ?_)
      obtain rfl := cF_no hG_187
      obtain ⟨y_190, rfl, hQ_189⟩ := hQ_189
      have hQ_189r := t_rng y_190
      have hQf : y_190.toInt = fwv (f_159 (a0 + 1)) (f_159 a0 3) := hQ_189.1
      show cT 122 28 [.ref a0, ((((((.retAddr 0)))))), ((((((.retAddr 0))))))] [.int y_190] _ _ _ _ _ _
      refine cT_go b_M_template_28 ?_
      have t_191 : (nI 0).toInt = 0 := nI_toInt (by decide)
      have t_192 : 0 ≤ (f_159 a0 2).toInt ∧ (f_159 a0 2).toInt ≤ 2 := (cI_at hI_160 2 s0).2.2.1 rfl
      exact l_M_template_31 ((32 - (nI 0).toInt).toNat + 1) (by omega) hI_160 hF_162 s0 (by first | exact i1 | (rw [r1, hk 3 (by decide)] at hQf; exact ⟨hQf, by omega⟩)) (by omega) (by omega) (by omega) (by omega) wt (by first | exact hk | exact ik | exact fun k hk => by rw [cg_up_o (by omega)]; exact ik k hk) (by first | exact r2 | (rw [cg_up_o (by omega)]; exact r2)) (by first | exact cpT_0 hm r3 (by omega) | exact cpT_s (Q := x2.toNatClampNeg) hm cp (by omega) (by rw [t_cl]; omega) (by rw [t_cl]; omega) (by omega) (by rw [hF (a0 + 1) (by omega)]))
set_option maxHeartbeats 8000000 in
theorem l_M_field_107 {L : Nat} {e : Nat × Nat} {f0 : cg_G} : ∀ (k : Nat) {f : cg_G} {a0 : Nat} {x1 : Int32} {x2 : Int32} {x3 : Int32} {x4 : Int32} {x5 : Int32}, (32 - x5.toInt).toNat < k → cI L f → cF (fun o => o = a0 ∨ o = a0 + 5 ∨ o = a0 + 6) f0 f → sh_ a0 = 7 → (0 ≤ x1.toInt ∧ x1.toInt < (f0 a0 8).toInt ∧ 0 ≤ x2.toInt ∧ x2.toInt < 4) → (plnG (f0 (a0 + 1)) (f0 a0 3).toInt) → (x4.toInt = 4 * x1.toInt + x2.toInt) → (0 ≤ x5.toInt ∧ x5.toInt ≤ (f0 a0 3).toInt) → ((f0 a0 3).toInt ≤ 32) → ((f0 a0 8).toInt ≤ 8) → ((f (a0 + 5) x4.toNatClampNeg).toInt = (f0 a0 3).toInt) → ((f a0 2).toInt = 0) → (∀ k, k ≠ 2 → f a0 k = f0 a0 k) → cT 116 107 [.ref a0, .int x1, .int x2, .int x3, .int x4, .int x5] [] L e (fun o => o = a0 ∨ o = a0 + 5 ∨ o = a0 + 6) f0 f (fun v f' => ∃ x : Int32, v = some (.int x) ∧ (((¬ (0 ≤ x1.toInt ∧ x1.toInt < (f0 a0 8).toInt ∧ 0 ≤ x2.toInt ∧ x2.toInt < 4) ∧ (f' a0 2).toInt = 1 ∨ (0 ≤ x1.toInt ∧ x1.toInt < (f0 a0 8).toInt ∧ 0 ≤ x2.toInt ∧ x2.toInt < 4) ∧ ¬ plnG (f0 (a0 + 1)) (f0 a0 3).toInt ∧ (f' a0 2).toInt = 2) ∧ ∀ k, k ≠ 2 → f' a0 k = f0 a0 k) ∨ ((0 ≤ x1.toInt ∧ x1.toInt < (f0 a0 8).toInt ∧ 0 ≤ x2.toInt ∧ x2.toInt < 4) ∧ plnG (f0 (a0 + 1)) (f0 a0 3).toInt ∧ (f' a0 2).toInt = 0 ∧ x.toInt = (f0 a0 3).toInt ∧ (f' a0 3).toInt = 0 ∧ ∀ k, k ≠ 2 → k ≠ 3 → f' a0 k = f0 a0 k))) := by
  intro k
  induction k with
  | zero => intro f a0 x1 x2 x3 x4 x5 hm; omega
  | succ k ih =>
    intro f a0 x1 x2 x3 x4 x5 hme hI hF s0 q1 ig q4 q5 q3 q8 qs i0 ik
    have hm := one_7 s0
    have e3 : (f a0 3).toInt = (f0 a0 3).toInt := by rw [ik 3 (by decide)]
    have t_1 := t_rng (x1)
    have t_2 := t_rng (x2)
    have t_3 := t_rng (x3)
    have t_4 := t_rng (x4)
    have t_5 := t_rng (x5)
    have t_7 : 0 ≤ (f a0 3).toInt ∧ (f a0 3).toInt ≤ 32 := (cI_at hI 3 s0).2.2.2.1 rfl
    refine cT_if (b_M_field_107 s0) (fun c_6 => ?_) (fun c_6 => ?_)
    · rw [t_le] at c_6; try rw [t_0] at c_6
      have t_10 : (nI 0).toInt = 0 := nI_toInt (by decide)
      have hI_8 := cI_up (k := 3) (x := nI 0) hI s0 ⟨(fun h => absurd h (by decide)), (fun h => absurd h (by decide)), (fun h => absurd h (by decide)), (fun _ => by omega), (fun h => absurd h (by decide)), (fun h => absurd h (by decide)), (fun h => absurd h (by decide)), (fun h => absurd h (by decide)), (fun h => absurd h (by decide)), (fun h => absurd h (by decide))⟩
      have hF_9 := cF_up (a := a0) (k := 3) (x := nI 0) hF (by omega)
      have t_11 : ((cg_up f a0 3 (nI 0)) a0 2).toInt = (f a0 2).toInt := by rw [cg_up_k (by decide)]
      have t_12 : 0 ≤ (f a0 2).toInt ∧ (f a0 2).toInt ≤ 2 := (cI_at hI 2 s0).2.2.1 rfl
      have t_13 : ((cg_up f a0 3 (nI 0)) a0 3).toInt = (nI 0).toInt := by rw [cg_up_s]
      have t_14 : ((cg_up f a0 3 (nI 0)) (a0 + 5) x4.toNatClampNeg).toInt = (f (a0 + 5) x4.toNatClampNeg).toInt := by rw [cg_up_o (ne_sh (sc_7_10 s0) s0 (by decide))]
      have t_15 : 0 ≤ (f (a0 + 5) x4.toNatClampNeg).toInt ∧ (f (a0 + 5) x4.toNatClampNeg).toInt ≤ 32 := (cI_at hI x4.toNatClampNeg (sc_7_10 s0)).2.2.1 (by omega)
      exact cT_ret (b_M_field_142 s0 (by rw [t_in]; omega)) hI_8 hF_9 ⟨_, rfl, by first | exact Or.inl ⟨Or.inl ⟨by omega, by omega⟩, fun k h => by rw [hk k h]; exact congrFun ia k⟩ | exact Or.inl ⟨Or.inr ⟨by omega, fun h => absurd (ig.mpr (by rw [if1]; exact plnG_le h (by omega))) (by omega), by omega⟩, fun k h => by rw [hk k h]; exact congrFun ia k⟩ | exact Or.inr ⟨by omega, ig, by omega, by omega, by omega, fun k h2 h3 => by rw [cg_up_k h3]; exact ik k h2⟩⟩
    · rw [t_le] at c_6; try rw [t_0] at c_6
      have hI_16 := cI_up (k := (((nI 32) * x4) + x5).toNatClampNeg) (x := f (a0 + 1) x5.toNatClampNeg) hI (sc_7_11 s0) ⟨(fun _ => by omega), (fun _ => by omega), (fun _ => by omega), (fun _ => by omega), (fun _ => by omega), (fun _ => by omega), (fun _ => by omega), (fun _ => by omega), (fun _ => by omega), (fun _ => by omega), (fun _ => by omega), (fun _ => by omega), (fun _ => by omega)⟩
      have hF_17 := cF_up (a := a0 + 6) (k := (((nI 32) * x4) + x5).toNatClampNeg) (x := f (a0 + 1) x5.toNatClampNeg) hF (by omega)
      have t_20 : (nI 32).toInt = 32 := nI_toInt (by decide)
      first | have t_19 : (((nI 32)) * x4).toInt = 32 * (x4).toInt := t_mulc (by decide) (by omega) | (obtain ⟨kt_19, t_19⟩ := t_mul ((nI 32)) x4; rw [nI_toInt (show 32 < 2 ^ 31 by decide)] at t_19)
      first | have t_18 : ((((nI 32) * x4)) + x5).toInt = ((((nI 32) * x4))).toInt + (x5).toInt := t_addn (by omega) | obtain ⟨kt_18, t_18⟩ := t_add (((nI 32) * x4)) x5
      refine cT_go (b_M_field_116 s0 (by rw [t_in]; omega) (by rw [t_in]; omega)) ?_
      have t_22 : (nI 1).toInt = 1 := nI_toInt (by decide)
      first | have t_21 : (x5 + (nI 1)).toInt = (x5).toInt + ((nI 1)).toInt := t_addn (by omega) | obtain ⟨kt_21, t_21⟩ := t_add x5 (nI 1)
      have t_23 : ((cg_up f (a0 + 6) (((nI 32) * x4) + x5).toNatClampNeg (f (a0 + 1) x5.toNatClampNeg)) a0 2).toInt = (f a0 2).toInt := by rw [cg_up_o (ne_sh s0 (sc_7_11 s0) (by decide))]
      have t_24 : 0 ≤ (f a0 2).toInt ∧ (f a0 2).toInt ≤ 2 := (cI_at hI 2 s0).2.2.1 rfl
      have t_25 : ((cg_up f (a0 + 6) (((nI 32) * x4) + x5).toNatClampNeg (f (a0 + 1) x5.toNatClampNeg)) (a0 + 5) x4.toNatClampNeg).toInt = (f (a0 + 5) x4.toNatClampNeg).toInt := by rw [cg_up_o (by omega)]
      have t_26 : 0 ≤ (f (a0 + 5) x4.toNatClampNeg).toInt ∧ (f (a0 + 5) x4.toNatClampNeg).toInt ≤ 32 := (cI_at hI x4.toNatClampNeg (sc_7_10 s0)).2.2.1 (by omega)
      exact ih (by omega) hI_16 hF_17 s0 (by omega) (by first | exact ig | (rw [← if1]; exact plnG_le (ig.mp (by omega)) (by omega))) (by omega) (by omega) (by omega) (by omega) (by omega) (by omega) (fun k h => by first | exact ik k h | (rw [cg_up_o (by omega)]; exact ik k h) | (rw [cg_up_o (by omega), hk k h]; exact congrFun ia k))
set_option maxHeartbeats 8000000 in
theorem l_M_field_5 {L : Nat} {e : Nat × Nat} {f0 : cg_G} : ∀ (k : Nat) {f : cg_G} {a0 : Nat} {x1 : Int32} {x2 : Int32} {x3 : Int32} {x4 : Int32} {u5 : Value}, (32 - x4.toInt).toNat < k → cI L f → cF (fun o => o = a0 ∨ o = a0 + 5 ∨ o = a0 + 6) f0 f → sh_ a0 = 7 → (f a0 = f0 a0) → (f (a0 + 1) = f0 (a0 + 1)) → (0 ≤ x3.toInt ∧ x3.toInt ≤ 1) → (0 ≤ x4.toInt ∧ x4.toInt ≤ (f a0 3).toInt) → (x3.toInt ≠ 0 ↔ plnG (f (a0 + 1)) x4.toInt) → cT 116 5 [.ref a0, .int x1, .int x2, .int x3, .int x4, u5] [] L e (fun o => o = a0 ∨ o = a0 + 5 ∨ o = a0 + 6) f0 f (fun v f' => ∃ x : Int32, v = some (.int x) ∧ (((¬ (0 ≤ x1.toInt ∧ x1.toInt < (f0 a0 8).toInt ∧ 0 ≤ x2.toInt ∧ x2.toInt < 4) ∧ (f' a0 2).toInt = 1 ∨ (0 ≤ x1.toInt ∧ x1.toInt < (f0 a0 8).toInt ∧ 0 ≤ x2.toInt ∧ x2.toInt < 4) ∧ ¬ plnG (f0 (a0 + 1)) (f0 a0 3).toInt ∧ (f' a0 2).toInt = 2) ∧ ∀ k, k ≠ 2 → f' a0 k = f0 a0 k) ∨ ((0 ≤ x1.toInt ∧ x1.toInt < (f0 a0 8).toInt ∧ 0 ≤ x2.toInt ∧ x2.toInt < 4) ∧ plnG (f0 (a0 + 1)) (f0 a0 3).toInt ∧ (f' a0 2).toInt = 0 ∧ x.toInt = (f0 a0 3).toInt ∧ (f' a0 3).toInt = 0 ∧ ∀ k, k ≠ 2 → k ≠ 3 → f' a0 k = f0 a0 k))) := by
  intro k
  induction k with
  | zero => intro f a0 x1 x2 x3 x4 u5 hm; omega
  | succ k ih =>
    intro f a0 x1 x2 x3 x4 u5 hme hI hF s0 ia if1 g3 g4 ig
    have hm := one_7 s0
    have a8 : (f a0 8).toInt = (f0 a0 8).toInt := by rw [ia]
    have a3 : (f a0 3).toInt = (f0 a0 3).toInt := by rw [ia]
    have t_27 := t_rng (x1)
    have t_28 := t_rng (x2)
    have t_29 := t_rng (x3)
    have t_30 := t_rng (x4)
    have t_32 : 0 ≤ (f a0 3).toInt ∧ (f a0 3).toInt ≤ 32 := (cI_at hI 3 s0).2.2.2.1 rfl
    refine cT_if (b_M_field_5 s0) (fun c_31 => ?_) (fun c_31 => ?_)
    · rw [t_le] at c_31; try rw [t_0] at c_31
      refine cT_call (b_M_field_55 s0) (c_M_isEntry hI s0) hF (fun o ho => ho.elim) (fun v_33 f_34 hI_35 hG_36 hF_37 hQ_38 => ?_)
      obtain rfl := cF_no hG_36
      obtain ⟨y_39, rfl, hb_40, hQ_38⟩ := hQ_38
      have hb_40r := t_b01 hb_40
      have t_41 : 0 ≤ (f a0 8).toInt ∧ (f a0 8).toInt ≤ 8 := (cI_at hI 8 s0).2.2.2.2.2.1 rfl
      show cT 116 61 [.ref a0, .int x1, .int x2, .int x3, .int x4, u5] [.int y_39, .ref a0] _ _ _ _ _ _
      refine cT_if b_M_field_61 (fun c_42 => ?_) (fun c_42 => ?_)
      · rw [t_eq] at c_42; try rw [t_0] at c_42
        refine cT_go b_M_field_76 ?_
        have t_44 : (nI 0).toInt = 0 := nI_toInt (by decide)
        refine cT_call (b_M_field_77 s0) (c_M_goes hI s0) hF (fun o ho => by omega) (fun v_45 f_46 hI_47 hG_48 hF_49 hQ_50 => ?_)
        obtain ⟨y_51, rfl, hb_52, hQ_50⟩ := hQ_50
        have hb_52r := t_b01 hb_52
        have t_53 : 3 ≤ (f a0 1).toInt ∧ (f a0 1).toInt ≤ 30 := (cI_at hI 1 s0).2.1 rfl
        have t_54 : 0 ≤ (f a0 5).toInt ∧ (f a0 5).toInt ≤ 6 := (cI_at hI 5 s0).2.2.2.2.1 rfl
        have t_55 : 0 ≤ (f a0 14).toInt ∧ (f a0 14).toInt ≤ 26 := (cI_at hI 14 s0).2.2.2.2.2.2.1 rfl
        have t_56 : -1 ≤ (f a0 23).toInt ∧ (f a0 23).toInt ≤ 1 := (cI_at hI 23 s0).2.2.2.2.2.2.2.2.2 rfl
        have g_57 : (f_46 a0 1).toInt = (f a0 1).toInt := congrArg Int32.toInt (hQ_50.2.2.2.2 1 (by decide))
        have g_58 : (f_46 a0 3).toInt = (f a0 3).toInt := congrArg Int32.toInt (hQ_50.2.2.2.2 3 (by decide))
        have g_59 : (f_46 a0 5).toInt = (f a0 5).toInt := congrArg Int32.toInt (hQ_50.2.2.2.2 5 (by decide))
        have g_60 : (f_46 a0 8).toInt = (f a0 8).toInt := congrArg Int32.toInt (hQ_50.2.2.2.2 8 (by decide))
        have g_61 : (f_46 a0 14).toInt = (f a0 14).toInt := congrArg Int32.toInt (hQ_50.2.2.2.2 14 (by decide))
        have g_62 : (f_46 a0 23).toInt = (f a0 23).toInt := congrArg Int32.toInt (hQ_50.2.2.2.2 23 (by decide))
        have hk : ∀ k, k ≠ 2 → f_46 a0 k = f a0 k := hQ_50.2.2.2.2
        have r5 : f_46 (a0 + 5) = f (a0 + 5) := hG_48 (a0 + 5) (by omega)
        have g_63 : (f_46 a0 3).toInt = (f a0 3).toInt := by rw [hk 3 (by decide)]
        show cT 116 81 [.ref a0, .int x1, .int x2, .int x3, .int x4, u5] [.int y_51] _ _ _ _ _ _
        refine cT_if b_M_field_81 (fun c_64 => ?_) (fun c_64 => ?_)
        · rw [t_eq] at c_64; try rw [t_0] at c_64
          have t_65 : 0 ≤ (f_46 a0 2).toInt ∧ (f_46 a0 2).toInt ≤ 2 := (cI_at hI_47 2 s0).2.2.1 rfl
          have t_66 : 0 ≤ (f_46 a0 3).toInt ∧ (f_46 a0 3).toInt ≤ 32 := (cI_at hI_47 3 s0).2.2.2.1 rfl
          exact cT_ret b_M_field_84 hI_47 hF_49 ⟨_, rfl, by first | exact Or.inl ⟨Or.inl ⟨by omega, by omega⟩, fun k h => by rw [hk k h]; exact congrFun ia k⟩ | exact Or.inl ⟨Or.inr ⟨by omega, fun h => absurd (ig.mpr (by rw [if1]; exact plnG_le h (by omega))) (by omega), by omega⟩, fun k h => by rw [hk k h]; exact congrFun ia k⟩ | exact Or.inr ⟨by omega, ig, by omega, by omega, by omega, fun k h2 h3 => by rw [cg_up_k h3]; exact ik k h2⟩⟩
        · rw [t_eq] at c_64; try rw [t_0] at c_64
          have t_69 : 0 ≤ (f_46 a0 3).toInt ∧ (f_46 a0 3).toInt ≤ 32 := (cI_at hI_47 3 s0).2.2.2.1 rfl
          have hI_67 := cI_up (k := (((nI 4) * x1) + x2).toNatClampNeg) (x := f_46 a0 3) hI_47 (sc_7_10 s0) ⟨(fun _ => by omega), (fun _ => by omega), (fun _ => by omega), (fun _ => by omega), (fun _ => by omega), (fun _ => by omega), (fun _ => by omega), (fun _ => by omega), (fun _ => by omega), (fun _ => by omega), (fun _ => by omega), (fun _ => by omega), (fun _ => by omega)⟩
          have hF_68 := cF_up (a := a0 + 5) (k := (((nI 4) * x1) + x2).toNatClampNeg) (x := f_46 a0 3) hF_49 (by omega)
          have t_72 : (nI 4).toInt = 4 := nI_toInt (by decide)
          first | have t_71 : (((nI 4)) * x1).toInt = 4 * (x1).toInt := t_mulc (by decide) (by omega) | (obtain ⟨kt_71, t_71⟩ := t_mul ((nI 4)) x1; rw [nI_toInt (show 4 < 2 ^ 31 by decide)] at t_71)
          first | have t_70 : ((((nI 4) * x1)) + x2).toInt = ((((nI 4) * x1))).toInt + (x2).toInt := t_addn (by omega) | obtain ⟨kt_70, t_70⟩ := t_add (((nI 4) * x1)) x2
          refine cT_go (b_M_field_86 s0 (by rw [t_in]; omega)) ?_
          have t_73 : ((cg_up f_46 (a0 + 5) (((nI 4) * x1) + x2).toNatClampNeg (f_46 a0 3)) a0 2).toInt = (f_46 a0 2).toInt := by rw [cg_up_o (ne_sh s0 (sc_7_10 s0) (by decide))]
          have t_74 : 0 ≤ (f_46 a0 2).toInt ∧ (f_46 a0 2).toInt ≤ 2 := (cI_at hI_47 2 s0).2.2.1 rfl
          have t_75 : ((cg_up f_46 (a0 + 5) (((nI 4) * x1) + x2).toNatClampNeg (f_46 a0 3)) (a0 + 5) (((nI 4) * x1) + x2).toNatClampNeg).toInt = (f_46 a0 3).toInt := by rw [cg_up_s]
          exact l_M_field_107 ((32 - (nI 0).toInt).toNat + 1) (by omega) hI_67 hF_68 s0 (by omega) (by first | exact ig | (rw [← if1]; exact plnG_le (ig.mp (by omega)) (by omega))) (by omega) (by omega) (by omega) (by omega) (by omega) (by omega) (fun k h => by first | exact ik k h | (rw [cg_up_o (by omega)]; exact ik k h) | (rw [cg_up_o (by omega), hk k h]; exact congrFun ia k))
      · rw [t_eq] at c_42; try rw [t_0] at c_42
        have t_76 : (nI 4).toInt = 4 := nI_toInt (by decide)
        refine cT_call b_M_field_64 (c_M_below hI) hF (fun o ho => ho.elim) (fun v_77 f_78 hI_79 hG_80 hF_81 hQ_82 => ?_)
        obtain rfl := cF_no hG_80
        obtain ⟨y_83, rfl, hb_84, hQ_82⟩ := hQ_82
        have hb_84r := t_b01 hb_84
        show cT 116 69 [.ref a0, .int x1, .int x2, .int x3, .int x4, u5] [.int y_83, .ref a0] _ _ _ _ _ _
        refine cT_if b_M_field_69 (fun c_85 => ?_) (fun c_85 => ?_)
        · rw [t_eq] at c_85; try rw [t_0] at c_85
          refine cT_go b_M_field_76 ?_
          have t_86 : (nI 0).toInt = 0 := nI_toInt (by decide)
          refine cT_call (b_M_field_77 s0) (c_M_goes hI s0) hF (fun o ho => by omega) (fun v_87 f_88 hI_89 hG_90 hF_91 hQ_92 => ?_)
          obtain ⟨y_93, rfl, hb_94, hQ_92⟩ := hQ_92
          have hb_94r := t_b01 hb_94
          have t_95 : 3 ≤ (f a0 1).toInt ∧ (f a0 1).toInt ≤ 30 := (cI_at hI 1 s0).2.1 rfl
          have t_96 : 0 ≤ (f a0 5).toInt ∧ (f a0 5).toInt ≤ 6 := (cI_at hI 5 s0).2.2.2.2.1 rfl
          have t_97 : 0 ≤ (f a0 14).toInt ∧ (f a0 14).toInt ≤ 26 := (cI_at hI 14 s0).2.2.2.2.2.2.1 rfl
          have t_98 : -1 ≤ (f a0 23).toInt ∧ (f a0 23).toInt ≤ 1 := (cI_at hI 23 s0).2.2.2.2.2.2.2.2.2 rfl
          have g_99 : (f_88 a0 1).toInt = (f a0 1).toInt := congrArg Int32.toInt (hQ_92.2.2.2.2 1 (by decide))
          have g_100 : (f_88 a0 3).toInt = (f a0 3).toInt := congrArg Int32.toInt (hQ_92.2.2.2.2 3 (by decide))
          have g_101 : (f_88 a0 5).toInt = (f a0 5).toInt := congrArg Int32.toInt (hQ_92.2.2.2.2 5 (by decide))
          have g_102 : (f_88 a0 8).toInt = (f a0 8).toInt := congrArg Int32.toInt (hQ_92.2.2.2.2 8 (by decide))
          have g_103 : (f_88 a0 14).toInt = (f a0 14).toInt := congrArg Int32.toInt (hQ_92.2.2.2.2 14 (by decide))
          have g_104 : (f_88 a0 23).toInt = (f a0 23).toInt := congrArg Int32.toInt (hQ_92.2.2.2.2 23 (by decide))
          have hk : ∀ k, k ≠ 2 → f_88 a0 k = f a0 k := hQ_92.2.2.2.2
          have r5 : f_88 (a0 + 5) = f (a0 + 5) := hG_90 (a0 + 5) (by omega)
          have g_105 : (f_88 a0 3).toInt = (f a0 3).toInt := by rw [hk 3 (by decide)]
          show cT 116 81 [.ref a0, .int x1, .int x2, .int x3, .int x4, u5] [.int y_93] _ _ _ _ _ _
          refine cT_if b_M_field_81 (fun c_106 => ?_) (fun c_106 => ?_)
          · rw [t_eq] at c_106; try rw [t_0] at c_106
            have t_107 : 0 ≤ (f_88 a0 2).toInt ∧ (f_88 a0 2).toInt ≤ 2 := (cI_at hI_89 2 s0).2.2.1 rfl
            have t_108 : 0 ≤ (f_88 a0 3).toInt ∧ (f_88 a0 3).toInt ≤ 32 := (cI_at hI_89 3 s0).2.2.2.1 rfl
            exact cT_ret b_M_field_84 hI_89 hF_91 ⟨_, rfl, by first | exact Or.inl ⟨Or.inl ⟨by omega, by omega⟩, fun k h => by rw [hk k h]; exact congrFun ia k⟩ | exact Or.inl ⟨Or.inr ⟨by omega, fun h => absurd (ig.mpr (by rw [if1]; exact plnG_le h (by omega))) (by omega), by omega⟩, fun k h => by rw [hk k h]; exact congrFun ia k⟩ | exact Or.inr ⟨by omega, ig, by omega, by omega, by omega, fun k h2 h3 => by rw [cg_up_k h3]; exact ik k h2⟩⟩
          · rw [t_eq] at c_106; try rw [t_0] at c_106
            have t_111 : 0 ≤ (f_88 a0 3).toInt ∧ (f_88 a0 3).toInt ≤ 32 := (cI_at hI_89 3 s0).2.2.2.1 rfl
            have hI_109 := cI_up (k := (((nI 4) * x1) + x2).toNatClampNeg) (x := f_88 a0 3) hI_89 (sc_7_10 s0) ⟨(fun _ => by omega), (fun _ => by omega), (fun _ => by omega), (fun _ => by omega), (fun _ => by omega), (fun _ => by omega), (fun _ => by omega), (fun _ => by omega), (fun _ => by omega), (fun _ => by omega), (fun _ => by omega), (fun _ => by omega), (fun _ => by omega)⟩
            have hF_110 := cF_up (a := a0 + 5) (k := (((nI 4) * x1) + x2).toNatClampNeg) (x := f_88 a0 3) hF_91 (by omega)
            first | have t_113 : (((nI 4)) * x1).toInt = 4 * (x1).toInt := t_mulc (by decide) (by omega) | (obtain ⟨kt_113, t_113⟩ := t_mul ((nI 4)) x1; rw [nI_toInt (show 4 < 2 ^ 31 by decide)] at t_113)
            first | have t_112 : ((((nI 4) * x1)) + x2).toInt = ((((nI 4) * x1))).toInt + (x2).toInt := t_addn (by omega) | obtain ⟨kt_112, t_112⟩ := t_add (((nI 4) * x1)) x2
            refine cT_go (b_M_field_86 s0 (by rw [t_in]; omega)) ?_
            have t_114 : ((cg_up f_88 (a0 + 5) (((nI 4) * x1) + x2).toNatClampNeg (f_88 a0 3)) a0 2).toInt = (f_88 a0 2).toInt := by rw [cg_up_o (ne_sh s0 (sc_7_10 s0) (by decide))]
            have t_115 : 0 ≤ (f_88 a0 2).toInt ∧ (f_88 a0 2).toInt ≤ 2 := (cI_at hI_89 2 s0).2.2.1 rfl
            have t_116 : ((cg_up f_88 (a0 + 5) (((nI 4) * x1) + x2).toNatClampNeg (f_88 a0 3)) (a0 + 5) (((nI 4) * x1) + x2).toNatClampNeg).toInt = (f_88 a0 3).toInt := by rw [cg_up_s]
            exact l_M_field_107 ((32 - (nI 0).toInt).toNat + 1) (by omega) hI_109 hF_110 s0 (by omega) (by first | exact ig | (rw [← if1]; exact plnG_le (ig.mp (by omega)) (by omega))) (by omega) (by omega) (by omega) (by omega) (by omega) (by omega) (fun k h => by first | exact ik k h | (rw [cg_up_o (by omega)]; exact ik k h) | (rw [cg_up_o (by omega), hk k h]; exact congrFun ia k))
        · rw [t_eq] at c_85; try rw [t_0] at c_85
          refine cT_go b_M_field_72 ?_
          have t_117 : (nI 1).toInt = 1 := nI_toInt (by decide)
          refine cT_call (b_M_field_77 s0) (c_M_goes hI s0) hF (fun o ho => by omega) (fun v_118 f_119 hI_120 hG_121 hF_122 hQ_123 => ?_)
          obtain ⟨y_124, rfl, hb_125, hQ_123⟩ := hQ_123
          have hb_125r := t_b01 hb_125
          have t_126 : 3 ≤ (f a0 1).toInt ∧ (f a0 1).toInt ≤ 30 := (cI_at hI 1 s0).2.1 rfl
          have t_127 : 0 ≤ (f a0 5).toInt ∧ (f a0 5).toInt ≤ 6 := (cI_at hI 5 s0).2.2.2.2.1 rfl
          have t_128 : 0 ≤ (f a0 14).toInt ∧ (f a0 14).toInt ≤ 26 := (cI_at hI 14 s0).2.2.2.2.2.2.1 rfl
          have t_129 : -1 ≤ (f a0 23).toInt ∧ (f a0 23).toInt ≤ 1 := (cI_at hI 23 s0).2.2.2.2.2.2.2.2.2 rfl
          have g_130 : (f_119 a0 1).toInt = (f a0 1).toInt := congrArg Int32.toInt (hQ_123.2.2.2.2 1 (by decide))
          have g_131 : (f_119 a0 3).toInt = (f a0 3).toInt := congrArg Int32.toInt (hQ_123.2.2.2.2 3 (by decide))
          have g_132 : (f_119 a0 5).toInt = (f a0 5).toInt := congrArg Int32.toInt (hQ_123.2.2.2.2 5 (by decide))
          have g_133 : (f_119 a0 8).toInt = (f a0 8).toInt := congrArg Int32.toInt (hQ_123.2.2.2.2 8 (by decide))
          have g_134 : (f_119 a0 14).toInt = (f a0 14).toInt := congrArg Int32.toInt (hQ_123.2.2.2.2 14 (by decide))
          have g_135 : (f_119 a0 23).toInt = (f a0 23).toInt := congrArg Int32.toInt (hQ_123.2.2.2.2 23 (by decide))
          have hk : ∀ k, k ≠ 2 → f_119 a0 k = f a0 k := hQ_123.2.2.2.2
          have r5 : f_119 (a0 + 5) = f (a0 + 5) := hG_121 (a0 + 5) (by omega)
          have g_136 : (f_119 a0 3).toInt = (f a0 3).toInt := by rw [hk 3 (by decide)]
          show cT 116 81 [.ref a0, .int x1, .int x2, .int x3, .int x4, u5] [.int y_124] _ _ _ _ _ _
          refine cT_if b_M_field_81 (fun c_137 => ?_) (fun c_137 => ?_)
          · rw [t_eq] at c_137; try rw [t_0] at c_137
            have t_138 : 0 ≤ (f_119 a0 2).toInt ∧ (f_119 a0 2).toInt ≤ 2 := (cI_at hI_120 2 s0).2.2.1 rfl
            have t_139 : 0 ≤ (f_119 a0 3).toInt ∧ (f_119 a0 3).toInt ≤ 32 := (cI_at hI_120 3 s0).2.2.2.1 rfl
            have t_140 : (nI 0).toInt = 0 := nI_toInt (by decide)
            exact cT_ret b_M_field_84 hI_120 hF_122 ⟨_, rfl, by first | exact Or.inl ⟨Or.inl ⟨by omega, by omega⟩, fun k h => by rw [hk k h]; exact congrFun ia k⟩ | exact Or.inl ⟨Or.inr ⟨by omega, fun h => absurd (ig.mpr (by rw [if1]; exact plnG_le h (by omega))) (by omega), by omega⟩, fun k h => by rw [hk k h]; exact congrFun ia k⟩ | exact Or.inr ⟨by omega, ig, by omega, by omega, by omega, fun k h2 h3 => by rw [cg_up_k h3]; exact ik k h2⟩⟩
          · rw [t_eq] at c_137; try rw [t_0] at c_137
            have t_143 : 0 ≤ (f_119 a0 3).toInt ∧ (f_119 a0 3).toInt ≤ 32 := (cI_at hI_120 3 s0).2.2.2.1 rfl
            have hI_141 := cI_up (k := (((nI 4) * x1) + x2).toNatClampNeg) (x := f_119 a0 3) hI_120 (sc_7_10 s0) ⟨(fun _ => by omega), (fun _ => by omega), (fun _ => by omega), (fun _ => by omega), (fun _ => by omega), (fun _ => by omega), (fun _ => by omega), (fun _ => by omega), (fun _ => by omega), (fun _ => by omega), (fun _ => by omega), (fun _ => by omega), (fun _ => by omega)⟩
            have hF_142 := cF_up (a := a0 + 5) (k := (((nI 4) * x1) + x2).toNatClampNeg) (x := f_119 a0 3) hF_122 (by omega)
            first | have t_145 : (((nI 4)) * x1).toInt = 4 * (x1).toInt := t_mulc (by decide) (by omega) | (obtain ⟨kt_145, t_145⟩ := t_mul ((nI 4)) x1; rw [nI_toInt (show 4 < 2 ^ 31 by decide)] at t_145)
            first | have t_144 : ((((nI 4) * x1)) + x2).toInt = ((((nI 4) * x1))).toInt + (x2).toInt := t_addn (by omega) | obtain ⟨kt_144, t_144⟩ := t_add (((nI 4) * x1)) x2
            refine cT_go (b_M_field_86 s0 (by rw [t_in]; omega)) ?_
            have t_146 : (nI 0).toInt = 0 := nI_toInt (by decide)
            have t_147 : ((cg_up f_119 (a0 + 5) (((nI 4) * x1) + x2).toNatClampNeg (f_119 a0 3)) a0 2).toInt = (f_119 a0 2).toInt := by rw [cg_up_o (ne_sh s0 (sc_7_10 s0) (by decide))]
            have t_148 : 0 ≤ (f_119 a0 2).toInt ∧ (f_119 a0 2).toInt ≤ 2 := (cI_at hI_120 2 s0).2.2.1 rfl
            have t_149 : ((cg_up f_119 (a0 + 5) (((nI 4) * x1) + x2).toNatClampNeg (f_119 a0 3)) (a0 + 5) (((nI 4) * x1) + x2).toNatClampNeg).toInt = (f_119 a0 3).toInt := by rw [cg_up_s]
            exact l_M_field_107 ((32 - (nI 0).toInt).toNat + 1) (by omega) hI_141 hF_142 s0 (by omega) (by first | exact ig | (rw [← if1]; exact plnG_le (ig.mp (by omega)) (by omega))) (by omega) (by omega) (by omega) (by omega) (by omega) (by omega) (fun k h => by first | exact ik k h | (rw [cg_up_o (by omega)]; exact ik k h) | (rw [cg_up_o (by omega), hk k h]; exact congrFun ia k))
    · rw [t_le] at c_31; try rw [t_0] at c_31
      refine cT_if b_M_field_14 (fun c_150 => ?_) (fun c_150 => ?_)
      · rw [t_eq] at c_150; try rw [t_0] at c_150
        refine cT_go b_M_field_47 ?_
        refine cT_go b_M_field_48 ?_
        have t_152 : (nI 0).toInt = 0 := nI_toInt (by decide)
        have t_154 : (nI 1).toInt = 1 := nI_toInt (by decide)
        first | have t_153 : (x4 + (nI 1)).toInt = (x4).toInt + ((nI 1)).toInt := t_addn (by omega) | obtain ⟨kt_153, t_153⟩ := t_add x4 (nI 1)
        exact ih (by omega) hI hF s0 (by first | exact ia | rfl) (by first | exact if1 | rfl) (by omega) (by omega) (by first | exact ⟨fun _ => plnG_0 (by omega), fun _ => by omega⟩ | exact ⟨fun _ => plnG_s (k := x4.toNatClampNeg) (ig.mp (by omega)) (by rw [t_cl]; omega) (by omega) (by omega), fun _ => by omega⟩ | exact ⟨fun h => absurd h (by omega), fun h => absurd h (plnG_no (k := x4.toNatClampNeg) (by rw [t_cl]; omega) (by omega))⟩ | exact ⟨fun h => absurd h (by omega), fun h => absurd (ig.mpr (plnG_le h (by omega))) (by omega)⟩)
      · rw [t_eq] at c_150; try rw [t_0] at c_150
        have t_155 := t_rng (f (a0 + 1) x4.toNatClampNeg)
        refine cT_call (b_M_field_18 s0 (by rw [t_in]; omega)) (c_M_isLetter hI) hF (fun o ho => ho.elim) (fun v_156 f_157 hI_158 hG_159 hF_160 hQ_161 => ?_)
        obtain rfl := cF_no hG_159
        obtain ⟨y_162, rfl, hb_163, hQ_161⟩ := hQ_161
        have hb_163r := t_b01 hb_163
        show cT 116 28 [.ref a0, .int x1, .int x2, .int x3, .int x4, u5] [.int y_162] _ _ _ _ _ _
        refine cT_if b_M_field_28 (fun c_164 => ?_) (fun c_164 => ?_)
        · rw [t_eq] at c_164; try rw [t_0] at c_164
          have t_166 : (nI 32).toInt = 32 := nI_toInt (by decide)
          refine cT_if (b_M_field_31 s0 (by rw [t_in]; omega)) (fun c_165 => ?_) (fun c_165 => ?_)
          · rw [t_eq] at c_165; try rw [t_0] at c_165
            refine cT_go b_M_field_43 ?_
            refine cT_go b_M_field_48 ?_
            have t_167 : (nI 1).toInt = 1 := nI_toInt (by decide)
            first | have t_168 : (x4 + (nI 1)).toInt = (x4).toInt + ((nI 1)).toInt := t_addn (by omega) | obtain ⟨kt_168, t_168⟩ := t_add x4 (nI 1)
            exact ih (by omega) hI hF s0 (by first | exact ia | rfl) (by first | exact if1 | rfl) (by omega) (by omega) (by first | exact ⟨fun _ => plnG_0 (by omega), fun _ => by omega⟩ | exact ⟨fun _ => plnG_s (k := x4.toNatClampNeg) (ig.mp (by omega)) (by rw [t_cl]; omega) (by omega) (by omega), fun _ => by omega⟩ | exact ⟨fun h => absurd h (by omega), fun h => absurd h (plnG_no (k := x4.toNatClampNeg) (by rw [t_cl]; omega) (by omega))⟩ | exact ⟨fun h => absurd h (by omega), fun h => absurd (ig.mpr (plnG_le h (by omega))) (by omega)⟩)
          · rw [t_eq] at c_165; try rw [t_0] at c_165
            refine cT_go b_M_field_47 ?_
            refine cT_go b_M_field_48 ?_
            have t_169 : (nI 0).toInt = 0 := nI_toInt (by decide)
            have t_171 : (nI 1).toInt = 1 := nI_toInt (by decide)
            first | have t_170 : (x4 + (nI 1)).toInt = (x4).toInt + ((nI 1)).toInt := t_addn (by omega) | obtain ⟨kt_170, t_170⟩ := t_add x4 (nI 1)
            exact ih (by omega) hI hF s0 (by first | exact ia | rfl) (by first | exact if1 | rfl) (by omega) (by omega) (by first | exact ⟨fun _ => plnG_0 (by omega), fun _ => by omega⟩ | exact ⟨fun _ => plnG_s (k := x4.toNatClampNeg) (ig.mp (by omega)) (by rw [t_cl]; omega) (by omega) (by omega), fun _ => by omega⟩ | exact ⟨fun h => absurd h (by omega), fun h => absurd h (plnG_no (k := x4.toNatClampNeg) (by rw [t_cl]; omega) (by omega))⟩ | exact ⟨fun h => absurd h (by omega), fun h => absurd (ig.mpr (plnG_le h (by omega))) (by omega)⟩)
        · rw [t_eq] at c_164; try rw [t_0] at c_164
          refine cT_go b_M_field_43 ?_
          refine cT_go b_M_field_48 ?_
          have t_172 : (nI 1).toInt = 1 := nI_toInt (by decide)
          first | have t_173 : (x4 + (nI 1)).toInt = (x4).toInt + ((nI 1)).toInt := t_addn (by omega) | obtain ⟨kt_173, t_173⟩ := t_add x4 (nI 1)
          exact ih (by omega) hI hF s0 (by first | exact ia | rfl) (by first | exact if1 | rfl) (by omega) (by omega) (by first | exact ⟨fun _ => plnG_0 (by omega), fun _ => by omega⟩ | exact ⟨fun _ => plnG_s (k := x4.toNatClampNeg) (ig.mp (by omega)) (by rw [t_cl]; omega) (by omega) (by omega), fun _ => by omega⟩ | exact ⟨fun h => absurd h (by omega), fun h => absurd h (plnG_no (k := x4.toNatClampNeg) (by rw [t_cl]; omega) (by omega))⟩ | exact ⟨fun h => absurd h (by omega), fun h => absurd (ig.mpr (plnG_le h (by omega))) (by omega)⟩)
set_option maxHeartbeats 8000000 in
theorem c_M_field {L : Nat} {f : cg_G} {e : Nat × Nat} {a0 : Nat} {x1 : Int32} {x2 : Int32} (hI : cI L f) (s0 : sh_ a0 = 7)  : cE 116 [.ref a0, .int x1, .int x2] L e (fun o => o = a0 ∨ o = a0 + 5 ∨ o = a0 + 6) f (fun v f' => ∃ x : Int32, v = some (.int x) ∧ (((¬ (0 ≤ x1.toInt ∧ x1.toInt < (f a0 8).toInt ∧ 0 ≤ x2.toInt ∧ x2.toInt < 4) ∧ (f' a0 2).toInt = 1 ∨ (0 ≤ x1.toInt ∧ x1.toInt < (f a0 8).toInt ∧ 0 ≤ x2.toInt ∧ x2.toInt < 4) ∧ ¬ plnG (f (a0 + 1)) (f a0 3).toInt ∧ (f' a0 2).toInt = 2) ∧ ∀ k, k ≠ 2 → f' a0 k = f a0 k) ∨ ((0 ≤ x1.toInt ∧ x1.toInt < (f a0 8).toInt ∧ 0 ≤ x2.toInt ∧ x2.toInt < 4) ∧ plnG (f (a0 + 1)) (f a0 3).toInt ∧ (f' a0 2).toInt = 0 ∧ x.toInt = (f a0 3).toInt ∧ (f' a0 3).toInt = 0 ∧ ∀ k, k ≠ 2 → k ≠ 3 → f' a0 k = f a0 k))) := by
  refine cE_of (ls := [.ref a0, .int x1, .int x2, (.retAddr 0), (.retAddr 0), (.retAddr 0)]) rfl ?_
  have hF : cF (fun o => o = a0 ∨ o = a0 + 5 ∨ o = a0 + 6) f f := cF_rf
  have hm := one_7 s0
  have t_174 := t_rng (x1)
  have t_175 := t_rng (x2)
  refine cT_go b_M_field_0 ?_
  have t_176 : (nI 1).toInt = 1 := nI_toInt (by decide)
  have t_177 : (nI 0).toInt = 0 := nI_toInt (by decide)
  have t_178 : 0 ≤ (f a0 3).toInt ∧ (f a0 3).toInt ≤ 32 := (cI_at hI 3 s0).2.2.2.1 rfl
  exact l_M_field_5 ((32 - (nI 0).toInt).toNat + 1) (by omega) hI hF s0 (by first | exact ia | rfl) (by first | exact if1 | rfl) (by omega) (by omega) (by first | exact ⟨fun _ => plnG_0 (by omega), fun _ => by omega⟩ | exact ⟨fun _ => plnG_s (k := x4.toNatClampNeg) (ig.mp (by omega)) (by rw [t_cl]; omega) (by omega) (by omega), fun _ => by omega⟩ | exact ⟨fun h => absurd h (by omega), fun h => absurd h (plnG_no (k := x4.toNatClampNeg) (by rw [t_cl]; omega) (by omega))⟩ | exact ⟨fun h => absurd h (by omega), fun h => absurd (ig.mpr (plnG_le h (by omega))) (by omega)⟩)
set_option maxHeartbeats 8000000 in
theorem l_M_order_36 {L : Nat} {e : Nat × Nat} {f0 : cg_G} {Q : Option Value → cg_G → Prop} {f : cg_G} {a0 : Nat} {x2 : Int32} (hI : cI L f) (hF : cF (fun o => o = a0 ∨ o = a0 + 9) f0 f) (s0 : sh_ a0 = 7) (d2 : 0 ≤ x2.toInt ∧ x2.toInt < (f a0 3).toInt) (d4 : (f a0 3).toInt ≤ 32) : ∀ (k : Nat) {x1 : Int32} {x3 : Int32}, (32 - x3.toInt).toNat < k → (0 ≤ x1.toInt ∧ x1.toInt ≤ 1) → (0 ≤ x3.toInt ∧ x3.toInt ≤ x2.toInt) → (x1.toInt ≠ 0 ↔ ordP (f (a0 + 1)) x2.toNatClampNeg x3.toInt) → (∀ (x1' : Int32) (x3' : Int32), (0 ≤ x1'.toInt ∧ x1'.toInt ≤ 1) → (x1'.toInt ≠ 0 ↔ ordG (f (a0 + 1)) (x2.toInt + 1)) → cT 93 72 [.ref a0, .int x1', .int x2, .int x3'] [] L e (fun o => o = a0 ∨ o = a0 + 9) f0 f Q) → cT 93 36 [.ref a0, .int x1, .int x2, .int x3] [] L e (fun o => o = a0 ∨ o = a0 + 9) f0 f Q := by
  intro k
  induction k with
  | zero => intro x1 x3 hm; omega
  | succ k ih =>
    intro x1 x3 hm d1 d3 dg hx
    have hm := one_7 s0
    have t_1 := t_rng (x1)
    have t_2 := t_rng (x2)
    have t_3 := t_rng (x3)
    refine cT_if b_M_order_36 (fun c_4 => ?_) (fun c_4 => ?_)
    · rw [t_le] at c_4; try rw [t_0] at c_4
      exact hx _ _ (by omega) (dg.trans (ordP_all (by rw [t_cl]; omega) (by rw [t_cl]; omega)))
    · rw [t_le] at c_4; try rw [t_0] at c_4
      refine cT_if b_M_order_41 (fun c_5 => ?_) (fun c_5 => ?_)
      · rw [t_eq] at c_5; try rw [t_0] at c_5
        refine cT_go b_M_order_64 ?_
        refine cT_go b_M_order_65 ?_
        have t_7 : (nI 0).toInt = 0 := nI_toInt (by decide)
        have t_9 : (nI 1).toInt = 1 := nI_toInt (by decide)
        first | have t_8 : (x3 + (nI 1)).toInt = (x3).toInt + ((nI 1)).toInt := t_addn (by omega) | obtain ⟨kt_8, t_8⟩ := t_add x3 (nI 1)
        exact ih (by omega) (by omega) (by omega) (by first | exact ⟨fun _ => (ordP_s (g := f (a0 + 1)) (i := x2.toNatClampNeg) (k := x3.toNatClampNeg) (j := x3.toInt) (by rw [t_cl]; omega) (by omega)).mpr ⟨dg.mp (by omega), by omega⟩, fun _ => by omega⟩ | exact ⟨fun h => absurd h (by omega), fun h => absurd (by omega) ((ordP_s (g := f (a0 + 1)) (i := x2.toNatClampNeg) (k := x3.toNatClampNeg) (j := x3.toInt) (by rw [t_cl]; omega) (by omega)).mp h).2⟩ | exact ⟨fun h => absurd h (by omega), fun h => absurd (dg.mpr ((ordP_s (g := f (a0 + 1)) (i := x2.toNatClampNeg) (k := x3.toNatClampNeg) (j := x3.toInt) (by rw [t_cl]; omega) (by omega)).mp h).1) (by omega)⟩ | exact ⟨fun _ => (ordP_0 (g := f (a0 + 1)) (i := x2.toNatClampNeg) (n := x2.toInt) (j := (nI 0).toInt) (by rw [t_cl]; omega) (by omega)).mpr ⟨og.mp (by omega), by omega⟩, fun _ => by omega⟩ | exact ⟨fun h => absurd h (by omega), fun h => absurd ((ordP_0 (g := f (a0 + 1)) (i := x2.toNatClampNeg) (n := x2.toInt) (j := (nI 0).toInt) (by rw [t_cl]; omega) (by omega)).mp h).2 (by omega)⟩ | exact ⟨fun h => absurd h (by omega), fun h => absurd (og.mpr ((ordP_0 (g := f (a0 + 1)) (i := x2.toNatClampNeg) (n := x2.toInt) (j := (nI 0).toInt) (by rw [t_cl]; omega) (by omega)).mp h).1) (by omega)⟩) hx
      · rw [t_eq] at c_5; try rw [t_0] at c_5
        have t_11 := t_rng (f (a0 + 1) x2.toNatClampNeg)
        have t_12 := t_rng (f (a0 + 1) x3.toNatClampNeg)
        refine cT_if (b_M_order_45 s0 (by rw [t_in]; omega) (by rw [t_in]; omega)) (fun c_10 => ?_) (fun c_10 => ?_)
        · rw [t_eq] at c_10; try rw [t_0] at c_10
          refine cT_go b_M_order_64 ?_
          refine cT_go b_M_order_65 ?_
          have t_13 : (nI 0).toInt = 0 := nI_toInt (by decide)
          have t_15 : (nI 1).toInt = 1 := nI_toInt (by decide)
          first | have t_14 : (x3 + (nI 1)).toInt = (x3).toInt + ((nI 1)).toInt := t_addn (by omega) | obtain ⟨kt_14, t_14⟩ := t_add x3 (nI 1)
          exact ih (by omega) (by omega) (by omega) (by first | exact ⟨fun _ => (ordP_s (g := f (a0 + 1)) (i := x2.toNatClampNeg) (k := x3.toNatClampNeg) (j := x3.toInt) (by rw [t_cl]; omega) (by omega)).mpr ⟨dg.mp (by omega), by omega⟩, fun _ => by omega⟩ | exact ⟨fun h => absurd h (by omega), fun h => absurd (by omega) ((ordP_s (g := f (a0 + 1)) (i := x2.toNatClampNeg) (k := x3.toNatClampNeg) (j := x3.toInt) (by rw [t_cl]; omega) (by omega)).mp h).2⟩ | exact ⟨fun h => absurd h (by omega), fun h => absurd (dg.mpr ((ordP_s (g := f (a0 + 1)) (i := x2.toNatClampNeg) (k := x3.toNatClampNeg) (j := x3.toInt) (by rw [t_cl]; omega) (by omega)).mp h).1) (by omega)⟩ | exact ⟨fun _ => (ordP_0 (g := f (a0 + 1)) (i := x2.toNatClampNeg) (n := x2.toInt) (j := (nI 0).toInt) (by rw [t_cl]; omega) (by omega)).mpr ⟨og.mp (by omega), by omega⟩, fun _ => by omega⟩ | exact ⟨fun h => absurd h (by omega), fun h => absurd ((ordP_0 (g := f (a0 + 1)) (i := x2.toNatClampNeg) (n := x2.toInt) (j := (nI 0).toInt) (by rw [t_cl]; omega) (by omega)).mp h).2 (by omega)⟩ | exact ⟨fun h => absurd h (by omega), fun h => absurd (og.mpr ((ordP_0 (g := f (a0 + 1)) (i := x2.toNatClampNeg) (n := x2.toInt) (j := (nI 0).toInt) (by rw [t_cl]; omega) (by omega)).mp h).1) (by omega)⟩) hx
        · rw [t_eq] at c_10; try rw [t_0] at c_10
          refine cT_go b_M_order_60 ?_
          refine cT_go b_M_order_65 ?_
          have t_16 : (nI 1).toInt = 1 := nI_toInt (by decide)
          first | have t_17 : (x3 + (nI 1)).toInt = (x3).toInt + ((nI 1)).toInt := t_addn (by omega) | obtain ⟨kt_17, t_17⟩ := t_add x3 (nI 1)
          exact ih (by omega) (by omega) (by omega) (by first | exact ⟨fun _ => (ordP_s (g := f (a0 + 1)) (i := x2.toNatClampNeg) (k := x3.toNatClampNeg) (j := x3.toInt) (by rw [t_cl]; omega) (by omega)).mpr ⟨dg.mp (by omega), by omega⟩, fun _ => by omega⟩ | exact ⟨fun h => absurd h (by omega), fun h => absurd (by omega) ((ordP_s (g := f (a0 + 1)) (i := x2.toNatClampNeg) (k := x3.toNatClampNeg) (j := x3.toInt) (by rw [t_cl]; omega) (by omega)).mp h).2⟩ | exact ⟨fun h => absurd h (by omega), fun h => absurd (dg.mpr ((ordP_s (g := f (a0 + 1)) (i := x2.toNatClampNeg) (k := x3.toNatClampNeg) (j := x3.toInt) (by rw [t_cl]; omega) (by omega)).mp h).1) (by omega)⟩ | exact ⟨fun _ => (ordP_0 (g := f (a0 + 1)) (i := x2.toNatClampNeg) (n := x2.toInt) (j := (nI 0).toInt) (by rw [t_cl]; omega) (by omega)).mpr ⟨og.mp (by omega), by omega⟩, fun _ => by omega⟩ | exact ⟨fun h => absurd h (by omega), fun h => absurd ((ordP_0 (g := f (a0 + 1)) (i := x2.toNatClampNeg) (n := x2.toInt) (j := (nI 0).toInt) (by rw [t_cl]; omega) (by omega)).mp h).2 (by omega)⟩ | exact ⟨fun h => absurd h (by omega), fun h => absurd (og.mpr ((ordP_0 (g := f (a0 + 1)) (i := x2.toNatClampNeg) (n := x2.toInt) (j := (nI 0).toInt) (by rw [t_cl]; omega) (by omega)).mp h).1) (by omega)⟩) hx
set_option maxHeartbeats 8000000 in
theorem l_M_order_99 {L : Nat} {e : Nat × Nat} {f0 : cg_G} : ∀ (k : Nat) {f : cg_G} {a0 : Nat} {x1 : Int32} {x2 : Int32} {u3 : Value}, (26 - x2.toInt).toNat < k → cI L f → cF (fun o => o = a0 ∨ o = a0 + 9) f0 f → sh_ a0 = 7 → (ordG (f0 (a0 + 1)) (f0 a0 3).toInt) → (0 ≤ (f0 a0 3).toInt ∧ (f0 a0 3).toInt ≤ 26) → (0 ≤ x2.toInt ∧ x2.toInt ≤ (f0 a0 3).toInt) → ((f a0 14).toInt = (f0 a0 3).toInt) → ((f a0 2).toInt = 0) → (∀ k, k ≠ 2 → k ≠ 14 → f a0 k = f0 a0 k) → cT 93 99 [.ref a0, .int x1, .int x2, u3] [] L e (fun o => o = a0 ∨ o = a0 + 9) f0 f (fun v f' => ∃ x : Int32, v = some (.int x) ∧ ((¬ ordG (f0 (a0 + 1)) (f0 a0 3).toInt ∧ (f' a0 2).toInt = 1 ∧ ∀ k, k ≠ 2 → f' a0 k = f0 a0 k) ∨ (ordG (f0 (a0 + 1)) (f0 a0 3).toInt ∧ (f' a0 2).toInt = 0 ∧ x.toInt = (f0 a0 3).toInt ∧ (f' a0 3).toInt = 0 ∧ ∀ k, k ≠ 2 → k ≠ 3 → k ≠ 14 → f' a0 k = f0 a0 k))) := by
  intro k
  induction k with
  | zero => intro f a0 x1 x2 u3 hm; omega
  | succ k ih =>
    intro f a0 x1 x2 u3 hme hI hF s0 ig q3 q2 i14 i0 ik
    have hm := one_7 s0
    have e3 : (f a0 3).toInt = (f0 a0 3).toInt := by rw [ik 3 (by decide) (by decide)]
    have t_18 := t_rng (x1)
    have t_19 := t_rng (x2)
    have t_21 : 0 ≤ (f a0 3).toInt ∧ (f a0 3).toInt ≤ 32 := (cI_at hI 3 s0).2.2.2.1 rfl
    refine cT_if (b_M_order_99 s0) (fun c_20 => ?_) (fun c_20 => ?_)
    · rw [t_le] at c_20; try rw [t_0] at c_20
      have t_24 : (nI 0).toInt = 0 := nI_toInt (by decide)
      have hI_22 := cI_up (k := 3) (x := nI 0) hI s0 ⟨(fun h => absurd h (by decide)), (fun h => absurd h (by decide)), (fun h => absurd h (by decide)), (fun _ => by omega), (fun h => absurd h (by decide)), (fun h => absurd h (by decide)), (fun h => absurd h (by decide)), (fun h => absurd h (by decide)), (fun h => absurd h (by decide)), (fun h => absurd h (by decide))⟩
      have hF_23 := cF_up (a := a0) (k := 3) (x := nI 0) hF (by omega)
      have t_25 : ((cg_up f a0 3 (nI 0)) a0 2).toInt = (f a0 2).toInt := by rw [cg_up_k (by decide)]
      have t_26 : 0 ≤ (f a0 2).toInt ∧ (f a0 2).toInt ≤ 2 := (cI_at hI 2 s0).2.2.1 rfl
      have t_27 : ((cg_up f a0 3 (nI 0)) a0 3).toInt = (nI 0).toInt := by rw [cg_up_s]
      have t_28 : ((cg_up f a0 3 (nI 0)) a0 14).toInt = (f a0 14).toInt := by rw [cg_up_k (by decide)]
      have t_29 : 0 ≤ (f a0 14).toInt ∧ (f a0 14).toInt ≤ 26 := (cI_at hI 14 s0).2.2.2.2.2.2.1 rfl
      exact cT_ret (b_M_order_125 s0) hI_22 hF_23 ⟨_, rfl, by first | exact Or.inl ⟨fun h => absurd (og.mpr (by rw [ie, show x2.toInt = (f0 a0 3).toInt by omega]; exact h)) (by omega), by omega, fun k h => by rw [hk k h, ie]⟩ | exact Or.inr ⟨ig, by omega, by omega, by omega, fun k h2 h3 h4 => by rw [cg_up_k h3]; exact ik k h2 h4⟩⟩
    · rw [t_le] at c_20; try rw [t_0] at c_20
      have hI_30 := cI_up (k := x2.toNatClampNeg) (x := f (a0 + 1) x2.toNatClampNeg) hI (sc_7_15 s0) ⟨(fun _ => by omega), (fun _ => by omega), (fun _ => by omega), (fun _ => by omega), (fun _ => by omega), (fun _ => by omega), (fun _ => by omega), (fun _ => by omega), (fun _ => by omega), (fun _ => by omega), (fun _ => by omega), (fun _ => by omega), (fun _ => by omega)⟩
      have hF_31 := cF_up (a := a0 + 9) (k := x2.toNatClampNeg) (x := f (a0 + 1) x2.toNatClampNeg) hF (by omega)
      refine cT_go (b_M_order_107 s0 (by rw [t_in]; omega) (by rw [t_in]; omega)) ?_
      have t_33 : (nI 1).toInt = 1 := nI_toInt (by decide)
      first | have t_32 : (x2 + (nI 1)).toInt = (x2).toInt + ((nI 1)).toInt := t_addn (by omega) | obtain ⟨kt_32, t_32⟩ := t_add x2 (nI 1)
      have t_34 : ((cg_up f (a0 + 9) x2.toNatClampNeg (f (a0 + 1) x2.toNatClampNeg)) a0 2).toInt = (f a0 2).toInt := by rw [cg_up_o (ne_sh s0 (sc_7_15 s0) (by decide))]
      have t_35 : 0 ≤ (f a0 2).toInt ∧ (f a0 2).toInt ≤ 2 := (cI_at hI 2 s0).2.2.1 rfl
      have t_36 : ((cg_up f (a0 + 9) x2.toNatClampNeg (f (a0 + 1) x2.toNatClampNeg)) a0 14).toInt = (f a0 14).toInt := by rw [cg_up_o (ne_sh s0 (sc_7_15 s0) (by decide))]
      have t_37 : 0 ≤ (f a0 14).toInt ∧ (f a0 14).toInt ≤ 26 := (cI_at hI 14 s0).2.2.2.2.2.2.1 rfl
      have t_38 : ((cg_up f (a0 + 9) x2.toNatClampNeg (f (a0 + 1) x2.toNatClampNeg)) a0 3).toInt = (f a0 3).toInt := by rw [cg_up_o (ne_sh s0 (sc_7_15 s0) (by decide))]
      exact ih (by omega) hI_30 hF_31 s0 (by first | exact ig | (rw [← ie, show (f a0 3).toInt = x2.toInt by omega]; exact og.mp (by omega))) (by omega) (by omega) (by omega) (by omega) (fun k h2 h4 => by first | exact ik k h2 h4 | (rw [cg_up_o (by omega)]; exact ik k h2 h4) | (rw [cg_up_k h4, hk k h2, ie]))
set_option maxHeartbeats 8000000 in
theorem l_M_order_4 {L : Nat} {e : Nat × Nat} {f0 : cg_G} : ∀ (k : Nat) {f : cg_G} {a0 : Nat} {x1 : Int32} {x2 : Int32} {u3 : Value}, (32 - x2.toInt).toNat < k → cI L f → cF (fun o => o = a0 ∨ o = a0 + 9) f0 f → sh_ a0 = 7 → (f = f0) → (0 ≤ x1.toInt ∧ x1.toInt ≤ 1) → (0 ≤ x2.toInt ∧ x2.toInt ≤ (f a0 3).toInt) → (x1.toInt ≠ 0 ↔ ordG (f (a0 + 1)) x2.toInt) → cT 93 4 [.ref a0, .int x1, .int x2, u3] [] L e (fun o => o = a0 ∨ o = a0 + 9) f0 f (fun v f' => ∃ x : Int32, v = some (.int x) ∧ ((¬ ordG (f0 (a0 + 1)) (f0 a0 3).toInt ∧ (f' a0 2).toInt = 1 ∧ ∀ k, k ≠ 2 → f' a0 k = f0 a0 k) ∨ (ordG (f0 (a0 + 1)) (f0 a0 3).toInt ∧ (f' a0 2).toInt = 0 ∧ x.toInt = (f0 a0 3).toInt ∧ (f' a0 3).toInt = 0 ∧ ∀ k, k ≠ 2 → k ≠ 3 → k ≠ 14 → f' a0 k = f0 a0 k))) := by
  intro k
  induction k with
  | zero => intro f a0 x1 x2 u3 hm; omega
  | succ k ih =>
    intro f a0 x1 x2 u3 hme hI hF s0 ie o1 o2 og
    have hm := one_7 s0
    have a3 : (f a0 3).toInt = (f0 a0 3).toInt := by rw [ie]
    have t_39 := t_rng (x1)
    have t_40 := t_rng (x2)
    have t_42 : 0 ≤ (f a0 3).toInt ∧ (f a0 3).toInt ≤ 32 := (cI_at hI 3 s0).2.2.2.1 rfl
    refine cT_if (b_M_order_4 s0) (fun c_41 => ?_) (fun c_41 => ?_)
    · rw [t_le] at c_41; try rw [t_0] at c_41
      have t_43 : (nI 1).toInt = 1 := nI_toInt (by decide)
      refine cT_call (b_M_order_78 s0) (c_M_goes hI s0) hF (fun o ho => by omega) (fun v_44 f_45 hI_46 hG_47 hF_48 hQ_49 => ?_)
      obtain ⟨y_50, rfl, hb_51, hQ_49⟩ := hQ_49
      have hb_51r := t_b01 hb_51
      have t_52 : 3 ≤ (f a0 1).toInt ∧ (f a0 1).toInt ≤ 30 := (cI_at hI 1 s0).2.1 rfl
      have t_53 : 0 ≤ (f a0 5).toInt ∧ (f a0 5).toInt ≤ 6 := (cI_at hI 5 s0).2.2.2.2.1 rfl
      have t_54 : 0 ≤ (f a0 8).toInt ∧ (f a0 8).toInt ≤ 8 := (cI_at hI 8 s0).2.2.2.2.2.1 rfl
      have t_55 : 0 ≤ (f a0 14).toInt ∧ (f a0 14).toInt ≤ 26 := (cI_at hI 14 s0).2.2.2.2.2.2.1 rfl
      have t_56 : -1 ≤ (f a0 23).toInt ∧ (f a0 23).toInt ≤ 1 := (cI_at hI 23 s0).2.2.2.2.2.2.2.2.2 rfl
      have g_57 : (f_45 a0 1).toInt = (f a0 1).toInt := congrArg Int32.toInt (hQ_49.2.2.2.2 1 (by decide))
      have g_58 : (f_45 a0 3).toInt = (f a0 3).toInt := congrArg Int32.toInt (hQ_49.2.2.2.2 3 (by decide))
      have g_59 : (f_45 a0 5).toInt = (f a0 5).toInt := congrArg Int32.toInt (hQ_49.2.2.2.2 5 (by decide))
      have g_60 : (f_45 a0 8).toInt = (f a0 8).toInt := congrArg Int32.toInt (hQ_49.2.2.2.2 8 (by decide))
      have g_61 : (f_45 a0 14).toInt = (f a0 14).toInt := congrArg Int32.toInt (hQ_49.2.2.2.2 14 (by decide))
      have g_62 : (f_45 a0 23).toInt = (f a0 23).toInt := congrArg Int32.toInt (hQ_49.2.2.2.2 23 (by decide))
      have hk : ∀ k, k ≠ 2 → f_45 a0 k = f a0 k := hQ_49.2.2.2.2
      have g_63 : (f_45 a0 3).toInt = (f a0 3).toInt := by rw [hk 3 (by decide)]
      show cT 93 84 [.ref a0, .int x1, .int x2, u3] [.int y_50] _ _ _ _ _ _
      refine cT_if b_M_order_84 (fun c_64 => ?_) (fun c_64 => ?_)
      · rw [t_eq] at c_64; try rw [t_0] at c_64
        have t_66 : 0 ≤ (f_45 a0 2).toInt ∧ (f_45 a0 2).toInt ≤ 2 := (cI_at hI_46 2 s0).2.2.1 rfl
        have t_67 : 0 ≤ (f_45 a0 3).toInt ∧ (f_45 a0 3).toInt ≤ 32 := (cI_at hI_46 3 s0).2.2.2.1 rfl
        have t_68 : 0 ≤ (f_45 a0 14).toInt ∧ (f_45 a0 14).toInt ≤ 26 := (cI_at hI_46 14 s0).2.2.2.2.2.2.1 rfl
        have t_69 : (nI 0).toInt = 0 := nI_toInt (by decide)
        exact cT_ret b_M_order_87 hI_46 hF_48 ⟨_, rfl, by first | exact Or.inl ⟨fun h => absurd (og.mpr (by rw [ie, show x2.toInt = (f0 a0 3).toInt by omega]; exact h)) (by omega), by omega, fun k h => by rw [hk k h, ie]⟩ | exact Or.inr ⟨ig, by omega, by omega, by omega, fun k h2 h3 h4 => by rw [cg_up_k h3]; exact ik k h2 h4⟩⟩
      · rw [t_eq] at c_64; try rw [t_0] at c_64
        have h26 := ord_26 (og.mp (by omega))
        have t_72 : 0 ≤ (f_45 a0 3).toInt ∧ (f_45 a0 3).toInt ≤ 32 := (cI_at hI_46 3 s0).2.2.2.1 rfl
        have hI_70 := cI_up (k := 14) (x := f_45 a0 3) hI_46 s0 ⟨(fun h => absurd h (by decide)), (fun h => absurd h (by decide)), (fun h => absurd h (by decide)), (fun h => absurd h (by decide)), (fun h => absurd h (by decide)), (fun h => absurd h (by decide)), (fun _ => by omega), (fun h => absurd h (by decide)), (fun h => absurd h (by decide)), (fun h => absurd h (by decide))⟩
        have hF_71 := cF_up (a := a0) (k := 14) (x := f_45 a0 3) hF_48 (by omega)
        refine cT_go (b_M_order_89 s0) ?_
        have t_73 : (nI 0).toInt = 0 := nI_toInt (by decide)
        have t_74 : ((cg_up f_45 a0 14 (f_45 a0 3)) a0 2).toInt = (f_45 a0 2).toInt := by rw [cg_up_k (by decide)]
        have t_75 : 0 ≤ (f_45 a0 2).toInt ∧ (f_45 a0 2).toInt ≤ 2 := (cI_at hI_46 2 s0).2.2.1 rfl
        have t_76 : ((cg_up f_45 a0 14 (f_45 a0 3)) a0 14).toInt = (f_45 a0 3).toInt := by rw [cg_up_s]
        have t_77 : ((cg_up f_45 a0 14 (f_45 a0 3)) a0 3).toInt = (f_45 a0 3).toInt := by rw [cg_up_k (by decide)]
        exact l_M_order_99 ((26 - (nI 0).toInt).toNat + 1) (by omega) hI_70 hF_71 s0 (by first | exact ig | (rw [← ie, show (f a0 3).toInt = x2.toInt by omega]; exact og.mp (by omega))) (by omega) (by omega) (by omega) (by omega) (fun k h2 h4 => by first | exact ik k h2 h4 | (rw [cg_up_o (by omega)]; exact ik k h2 h4) | (rw [cg_up_k h4, hk k h2, ie]))
    · rw [t_le] at c_41; try rw [t_0] at c_41
      refine cT_if b_M_order_12 (fun c_78 => ?_) (fun c_78 => ?_)
      · rw [t_eq] at c_78; try rw [t_0] at c_78
        refine cT_go b_M_order_32 ?_
        refine cT_go b_M_order_33 ?_
        have t_80 : (nI 0).toInt = 0 := nI_toInt (by decide)
        refine l_M_order_36 hI hF s0 (by omega) (by omega) ((32 - (nI 0).toInt).toNat + 1) (by omega) (by omega) (by omega) (by first | exact ⟨fun _ => (ordP_s (g := f (a0 + 1)) (i := x2.toNatClampNeg) (k := x3.toNatClampNeg) (j := x3.toInt) (by rw [t_cl]; omega) (by omega)).mpr ⟨dg.mp (by omega), by omega⟩, fun _ => by omega⟩ | exact ⟨fun h => absurd h (by omega), fun h => absurd (by omega) ((ordP_s (g := f (a0 + 1)) (i := x2.toNatClampNeg) (k := x3.toNatClampNeg) (j := x3.toInt) (by rw [t_cl]; omega) (by omega)).mp h).2⟩ | exact ⟨fun h => absurd h (by omega), fun h => absurd (dg.mpr ((ordP_s (g := f (a0 + 1)) (i := x2.toNatClampNeg) (k := x3.toNatClampNeg) (j := x3.toInt) (by rw [t_cl]; omega) (by omega)).mp h).1) (by omega)⟩ | exact ⟨fun _ => (ordP_0 (g := f (a0 + 1)) (i := x2.toNatClampNeg) (n := x2.toInt) (j := (nI 0).toInt) (by rw [t_cl]; omega) (by omega)).mpr ⟨og.mp (by omega), by omega⟩, fun _ => by omega⟩ | exact ⟨fun h => absurd h (by omega), fun h => absurd ((ordP_0 (g := f (a0 + 1)) (i := x2.toNatClampNeg) (n := x2.toInt) (j := (nI 0).toInt) (by rw [t_cl]; omega) (by omega)).mp h).2 (by omega)⟩ | exact ⟨fun h => absurd h (by omega), fun h => absurd (og.mpr ((ordP_0 (g := f (a0 + 1)) (i := x2.toNatClampNeg) (n := x2.toInt) (j := (nI 0).toInt) (by rw [t_cl]; omega) (by omega)).mp h).1) (by omega)⟩) (fun x1vw81 x3vw82 j_86 j_87 => ?_)
        have t_88 := t_rng (x1vw81)
        have t_89 := t_rng (x3vw82)
        refine cT_go b_M_order_72 ?_
        have t_91 : (nI 1).toInt = 1 := nI_toInt (by decide)
        first | have t_90 : (x2 + (nI 1)).toInt = (x2).toInt + ((nI 1)).toInt := t_addn (by omega) | obtain ⟨kt_90, t_90⟩ := t_add x2 (nI 1)
        exact ih (by omega) hI hF s0 (by first | exact ie | rfl) (by omega) (by omega) (by first | exact ⟨fun _ => ordG_0 (by omega), fun _ => by omega⟩ | (rw [show (x2 + nI 1).toInt = x2.toInt + 1 by omega]; assumption))
      · rw [t_eq] at c_78; try rw [t_0] at c_78
        have t_92 := t_rng (f (a0 + 1) x2.toNatClampNeg)
        refine cT_call (b_M_order_16 s0 (by rw [t_in]; omega)) (c_M_isLetter hI) hF (fun o ho => ho.elim) (fun v_93 f_94 hI_95 hG_96 hF_97 hQ_98 => ?_)
        obtain rfl := cF_no hG_96
        obtain ⟨y_99, rfl, hb_100, hQ_98⟩ := hQ_98
        have hb_100r := t_b01 hb_100
        show cT 93 25 [.ref a0, .int x1, .int x2, u3] [.int y_99] _ _ _ _ _ _
        refine cT_if b_M_order_25 (fun c_101 => ?_) (fun c_101 => ?_)
        · rw [t_eq] at c_101; try rw [t_0] at c_101
          refine cT_go b_M_order_32 ?_
          refine cT_go b_M_order_33 ?_
          have t_102 : (nI 0).toInt = 0 := nI_toInt (by decide)
          refine l_M_order_36 hI hF s0 (by omega) (by omega) ((32 - (nI 0).toInt).toNat + 1) (by omega) (by omega) (by omega) (by first | exact ⟨fun _ => (ordP_s (g := f (a0 + 1)) (i := x2.toNatClampNeg) (k := x3.toNatClampNeg) (j := x3.toInt) (by rw [t_cl]; omega) (by omega)).mpr ⟨dg.mp (by omega), by omega⟩, fun _ => by omega⟩ | exact ⟨fun h => absurd h (by omega), fun h => absurd (by omega) ((ordP_s (g := f (a0 + 1)) (i := x2.toNatClampNeg) (k := x3.toNatClampNeg) (j := x3.toInt) (by rw [t_cl]; omega) (by omega)).mp h).2⟩ | exact ⟨fun h => absurd h (by omega), fun h => absurd (dg.mpr ((ordP_s (g := f (a0 + 1)) (i := x2.toNatClampNeg) (k := x3.toNatClampNeg) (j := x3.toInt) (by rw [t_cl]; omega) (by omega)).mp h).1) (by omega)⟩ | exact ⟨fun _ => (ordP_0 (g := f (a0 + 1)) (i := x2.toNatClampNeg) (n := x2.toInt) (j := (nI 0).toInt) (by rw [t_cl]; omega) (by omega)).mpr ⟨og.mp (by omega), by omega⟩, fun _ => by omega⟩ | exact ⟨fun h => absurd h (by omega), fun h => absurd ((ordP_0 (g := f (a0 + 1)) (i := x2.toNatClampNeg) (n := x2.toInt) (j := (nI 0).toInt) (by rw [t_cl]; omega) (by omega)).mp h).2 (by omega)⟩ | exact ⟨fun h => absurd h (by omega), fun h => absurd (og.mpr ((ordP_0 (g := f (a0 + 1)) (i := x2.toNatClampNeg) (n := x2.toInt) (j := (nI 0).toInt) (by rw [t_cl]; omega) (by omega)).mp h).1) (by omega)⟩) (fun x1vw103 x3vw104 j_108 j_109 => ?_)
          have t_110 := t_rng (x1vw103)
          have t_111 := t_rng (x3vw104)
          refine cT_go b_M_order_72 ?_
          have t_113 : (nI 1).toInt = 1 := nI_toInt (by decide)
          first | have t_112 : (x2 + (nI 1)).toInt = (x2).toInt + ((nI 1)).toInt := t_addn (by omega) | obtain ⟨kt_112, t_112⟩ := t_add x2 (nI 1)
          exact ih (by omega) hI hF s0 (by first | exact ie | rfl) (by omega) (by omega) (by first | exact ⟨fun _ => ordG_0 (by omega), fun _ => by omega⟩ | (rw [show (x2 + nI 1).toInt = x2.toInt + 1 by omega]; assumption))
        · rw [t_eq] at c_101; try rw [t_0] at c_101
          refine cT_go b_M_order_28 ?_
          refine cT_go b_M_order_33 ?_
          have t_114 : (nI 1).toInt = 1 := nI_toInt (by decide)
          have t_115 : (nI 0).toInt = 0 := nI_toInt (by decide)
          refine l_M_order_36 hI hF s0 (by omega) (by omega) ((32 - (nI 0).toInt).toNat + 1) (by omega) (by omega) (by omega) (by first | exact ⟨fun _ => (ordP_s (g := f (a0 + 1)) (i := x2.toNatClampNeg) (k := x3.toNatClampNeg) (j := x3.toInt) (by rw [t_cl]; omega) (by omega)).mpr ⟨dg.mp (by omega), by omega⟩, fun _ => by omega⟩ | exact ⟨fun h => absurd h (by omega), fun h => absurd (by omega) ((ordP_s (g := f (a0 + 1)) (i := x2.toNatClampNeg) (k := x3.toNatClampNeg) (j := x3.toInt) (by rw [t_cl]; omega) (by omega)).mp h).2⟩ | exact ⟨fun h => absurd h (by omega), fun h => absurd (dg.mpr ((ordP_s (g := f (a0 + 1)) (i := x2.toNatClampNeg) (k := x3.toNatClampNeg) (j := x3.toInt) (by rw [t_cl]; omega) (by omega)).mp h).1) (by omega)⟩ | exact ⟨fun _ => (ordP_0 (g := f (a0 + 1)) (i := x2.toNatClampNeg) (n := x2.toInt) (j := (nI 0).toInt) (by rw [t_cl]; omega) (by omega)).mpr ⟨og.mp (by omega), by omega⟩, fun _ => by omega⟩ | exact ⟨fun h => absurd h (by omega), fun h => absurd ((ordP_0 (g := f (a0 + 1)) (i := x2.toNatClampNeg) (n := x2.toInt) (j := (nI 0).toInt) (by rw [t_cl]; omega) (by omega)).mp h).2 (by omega)⟩ | exact ⟨fun h => absurd h (by omega), fun h => absurd (og.mpr ((ordP_0 (g := f (a0 + 1)) (i := x2.toNatClampNeg) (n := x2.toInt) (j := (nI 0).toInt) (by rw [t_cl]; omega) (by omega)).mp h).1) (by omega)⟩) (fun x1vw116 x3vw117 j_121 j_122 => ?_)
          have t_123 := t_rng (x1vw116)
          have t_124 := t_rng (x3vw117)
          refine cT_go b_M_order_72 ?_
          first | have t_125 : (x2 + (nI 1)).toInt = (x2).toInt + ((nI 1)).toInt := t_addn (by omega) | obtain ⟨kt_125, t_125⟩ := t_add x2 (nI 1)
          exact ih (by omega) hI hF s0 (by first | exact ie | rfl) (by omega) (by omega) (by first | exact ⟨fun _ => ordG_0 (by omega), fun _ => by omega⟩ | (rw [show (x2 + nI 1).toInt = x2.toInt + 1 by omega]; assumption))
set_option maxHeartbeats 8000000 in
theorem c_M_order {L : Nat} {f : cg_G} {e : Nat × Nat} {a0 : Nat} (hI : cI L f) (s0 : sh_ a0 = 7)  : cE 93 [.ref a0] L e (fun o => o = a0 ∨ o = a0 + 9) f (fun v f' => ∃ x : Int32, v = some (.int x) ∧ ((¬ ordG (f (a0 + 1)) (f a0 3).toInt ∧ (f' a0 2).toInt = 1 ∧ ∀ k, k ≠ 2 → f' a0 k = f a0 k) ∨ (ordG (f (a0 + 1)) (f a0 3).toInt ∧ (f' a0 2).toInt = 0 ∧ x.toInt = (f a0 3).toInt ∧ (f' a0 3).toInt = 0 ∧ ∀ k, k ≠ 2 → k ≠ 3 → k ≠ 14 → f' a0 k = f a0 k))) := by
  refine cE_of (ls := [.ref a0, (.retAddr 0), (.retAddr 0), (.retAddr 0)]) rfl ?_
  have hF : cF (fun o => o = a0 ∨ o = a0 + 9) f f := cF_rf
  have hm := one_7 s0
  refine cT_go b_M_order_0 ?_
  have t_126 : (nI 1).toInt = 1 := nI_toInt (by decide)
  have t_127 : (nI 0).toInt = 0 := nI_toInt (by decide)
  have t_128 : 0 ≤ (f a0 3).toInt ∧ (f a0 3).toInt ≤ 32 := (cI_at hI 3 s0).2.2.2.1 rfl
  exact l_M_order_4 ((32 - (nI 0).toInt).toNat + 1) (by omega) hI hF s0 (by first | exact ie | rfl) (by omega) (by omega) (by first | exact ⟨fun _ => ordG_0 (by omega), fun _ => by omega⟩ | (rw [show (x2 + nI 1).toInt = x2.toInt + 1 by omega]; assumption))
