set_option maxHeartbeats 8000000 in
theorem l_M_fault_9 {L : Nat} {e : Nat × Nat} {f0 : cg_G} : ∀ (k : Nat) {f : cg_G} {a0 : Nat} {x1 : Int32} {x2 : Int32} {x3 : Int32} {x4 : Int32} {u5 : Value} {u6 : Value}, (32 - x4.toInt).toNat < k → cI L f → cF (fun o => False) f0 f → sh_ a0 = 7 → (0 ≤ x1.toInt ∧ x1.toInt ≤ 7) → (0 ≤ x2.toInt ∧ x2.toInt ≤ 6) → (0 ≤ x3.toInt ∧ x3.toInt ≤ 1) → (0 ≤ x4.toInt ∧ x4.toInt ≤ (f a0 3).toInt) → (fw (f (a0 + 1)) ((f a0 3).toInt - x4.toInt).toNat x4.toNatClampNeg x1.toInt x2.toInt x3.toInt = fwv (f (a0 + 1)) (f a0 3)) → cT 88 9 [.ref a0, .int x1, .int x2, .int x3, .int x4, u5, u6] [] L e (fun o => False) f0 f (fun v f' => ∃ x : Int32, v = some (.int x) ∧ (x.toInt = fwv (f (a0 + 1)) (f a0 3) ∧ -1 ≤ x.toInt ∧ x.toInt ≤ (f a0 3).toInt)) := by
  intro k
  induction k with
  | zero => intro f a0 x1 x2 x3 x4 u5 u6 hm; omega
  | succ k ih =>
    intro f a0 x1 x2 x3 x4 u5 u6 hme hI hF s0 i1 i2 i3 i4 i7
    have hm := one_7 s0
    have t_1 := t_rng (x1)
    have t_2 := t_rng (x2)
    have t_3 := t_rng (x3)
    have t_4 := t_rng (x4)
    have t_6 : 0 ≤ (f a0 3).toInt ∧ (f a0 3).toInt ≤ 32 := (cI_at hI 3 s0).2.2.2.1 rfl
    refine cT_if (b_M_fault_9 s0) (fun c_5 => ?_) (fun c_5 => ?_)
    · rw [t_le] at c_5; try rw [t_0] at c_5
      refine cT_if b_M_fault_180 (fun c_7 => ?_) (fun c_7 => ?_)
      · rw [t_lt] at c_7; try rw [t_0] at c_7
        refine cT_go (b_M_fault_188 s0) ?_
        exact cT_ret b_M_fault_196 hI hF ⟨_, rfl, ⟨by first | (rw [← i7]; exact fw_bd (r' := ((f a0 3).toInt - x4.toInt).toNat - 1) (by omega) (by rw [t_cl]; omega) (by first | exact Or.inl ⟨by omega, by omega⟩ | exact Or.inr (Or.inl ⟨by omega, by omega, by omega⟩) | exact Or.inr (Or.inr (Or.inl ⟨by omega, by omega, by omega⟩)) | exact Or.inr (Or.inr (Or.inr (Or.inl ⟨by omega, by omega, by omega⟩))) | exact Or.inr (Or.inr (Or.inr (Or.inr (⟨by omega, by omega, by omega, by omega, by omega, by omega, by omega⟩)))))) | (rw [← i7]; exact fw_en (by omega) (by have := t_cl x4; omega)), by omega⟩⟩
      · rw [t_lt] at c_7; try rw [t_0] at c_7
        refine cT_if b_M_fault_184 (fun c_9 => ?_) (fun c_9 => ?_)
        · rw [t_eq] at c_9; try rw [t_0] at c_9
          refine cT_go b_M_fault_195 ?_
          have t_10 := t_neg1
          exact cT_ret b_M_fault_196 hI hF ⟨_, rfl, ⟨by first | (rw [← i7]; exact fw_bd (r' := ((f a0 3).toInt - x4.toInt).toNat - 1) (by omega) (by rw [t_cl]; omega) (by first | exact Or.inl ⟨by omega, by omega⟩ | exact Or.inr (Or.inl ⟨by omega, by omega, by omega⟩) | exact Or.inr (Or.inr (Or.inl ⟨by omega, by omega, by omega⟩)) | exact Or.inr (Or.inr (Or.inr (Or.inl ⟨by omega, by omega, by omega⟩))) | exact Or.inr (Or.inr (Or.inr (Or.inr (⟨by omega, by omega, by omega, by omega, by omega, by omega, by omega⟩)))))) | (rw [← i7]; exact fw_en (by omega) (by have := t_cl x4; omega)), by omega⟩⟩
        · rw [t_eq] at c_9; try rw [t_0] at c_9
          refine cT_go (b_M_fault_188 s0) ?_
          exact cT_ret b_M_fault_196 hI hF ⟨_, rfl, ⟨by first | (rw [← i7]; exact fw_bd (r' := ((f a0 3).toInt - x4.toInt).toNat - 1) (by omega) (by rw [t_cl]; omega) (by first | exact Or.inl ⟨by omega, by omega⟩ | exact Or.inr (Or.inl ⟨by omega, by omega, by omega⟩) | exact Or.inr (Or.inr (Or.inl ⟨by omega, by omega, by omega⟩)) | exact Or.inr (Or.inr (Or.inr (Or.inl ⟨by omega, by omega, by omega⟩))) | exact Or.inr (Or.inr (Or.inr (Or.inr (⟨by omega, by omega, by omega, by omega, by omega, by omega, by omega⟩)))))) | (rw [← i7]; exact fw_en (by omega) (by have := t_cl x4; omega)), by omega⟩⟩
    · rw [t_le] at c_5; try rw [t_0] at c_5
      refine cT_if (b_M_fault_18 s0 (by rw [t_in]; omega)) (fun c_11 => ?_) (fun c_11 => ?_)
      · rw [t_le] at c_11; try rw [t_0] at c_11
        have t_14 := t_rng (f (a0 + 1) x4.toNatClampNeg)
        have t_15 : (nI 35).toInt = 35 := nI_toInt (by decide)
        refine cT_if b_M_fault_59 (fun c_13 => ?_) (fun c_13 => ?_)
        · rw [t_eq] at c_13; try rw [t_0] at c_13
          have t_17 : (nI 6).toInt = 6 := nI_toInt (by decide)
          refine cT_if b_M_fault_73 (fun c_16 => ?_) (fun c_16 => ?_)
          · rw [t_le] at c_16; try rw [t_0] at c_16
            refine cT_go b_M_fault_83 ?_
            refine cT_if b_M_fault_84 (fun c_18 => ?_) (fun c_18 => ?_)
            · rw [t_eq] at c_18; try rw [t_0] at c_18
              refine cT_go b_M_fault_96 ?_
              refine cT_go b_M_fault_102 ?_
              have t_20 : (nI 0).toInt = 0 := nI_toInt (by decide)
              refine cT_if b_M_fault_166 (fun c_19 => ?_) (fun c_19 => ?_)
              · rw [t_eq] at c_19; try rw [t_0] at c_19
                exact cT_ret b_M_fault_171 hI hF ⟨_, rfl, ⟨by first | (rw [← i7]; exact fw_bd (r' := ((f a0 3).toInt - x4.toInt).toNat - 1) (by omega) (by rw [t_cl]; omega) (by first | exact Or.inl ⟨by omega, by omega⟩ | exact Or.inr (Or.inl ⟨by omega, by omega, by omega⟩) | exact Or.inr (Or.inr (Or.inl ⟨by omega, by omega, by omega⟩)) | exact Or.inr (Or.inr (Or.inr (Or.inl ⟨by omega, by omega, by omega⟩))) | exact Or.inr (Or.inr (Or.inr (Or.inr (⟨by omega, by omega, by omega, by omega, by omega, by omega, by omega⟩)))))) | (rw [← i7]; exact fw_en (by omega) (by have := t_cl x4; omega)), by omega⟩⟩
              · rw [t_eq] at c_19; try rw [t_0] at c_19
                refine cT_go b_M_fault_174 ?_
                have t_21 : (nI 3).toInt = 3 := nI_toInt (by decide)
                have t_23 : (nI 1).toInt = 1 := nI_toInt (by decide)
                first | have t_22 : (x2 + (nI 1)).toInt = (x2).toInt + ((nI 1)).toInt := t_addn (by omega) | obtain ⟨kt_22, t_22⟩ := t_add x2 (nI 1)
                first | have t_24 : (x4 + (nI 1)).toInt = (x4).toInt + ((nI 1)).toInt := t_addn (by omega) | obtain ⟨kt_24, t_24⟩ := t_add x4 (nI 1)
                exact ih (by omega) hI hF s0 (by omega) (by omega) (by omega) (by omega) (by first | (rw [fwv_eq]; exact fw_in) | (rw [← i7]; exact (fw_go (by omega) (by rw [t_cl, t_cl]; omega) (by first | exact Or.inl ⟨by omega, by omega, by omega, by omega, by omega, by omega⟩ | exact Or.inr (Or.inl ⟨by omega, by omega, by omega, by omega, by omega, by omega⟩) | exact Or.inr (Or.inr (Or.inl ⟨by omega, by omega, by omega, by omega, by omega, by omega⟩)) | exact Or.inr (Or.inr (Or.inr (Or.inl ⟨by omega, by omega, by omega, by omega, by omega, by omega⟩))) | exact Or.inr (Or.inr (Or.inr (Or.inr (Or.inl ⟨by omega, by omega, by omega, by omega, by omega, by omega⟩)))) | exact Or.inr (Or.inr (Or.inr (Or.inr (Or.inr (⟨by omega, by omega, by omega, by omega, by omega⟩))))))).symm))
            · rw [t_eq] at c_18; try rw [t_0] at c_18
              refine cT_go b_M_fault_100 ?_
              refine cT_go b_M_fault_102 ?_
              have t_26 : (nI 0).toInt = 0 := nI_toInt (by decide)
              refine cT_if b_M_fault_166 (fun c_25 => ?_) (fun c_25 => ?_)
              · rw [t_eq] at c_25; try rw [t_0] at c_25
                exact cT_ret b_M_fault_171 hI hF ⟨_, rfl, ⟨by first | (rw [← i7]; exact fw_bd (r' := ((f a0 3).toInt - x4.toInt).toNat - 1) (by omega) (by rw [t_cl]; omega) (by first | exact Or.inl ⟨by omega, by omega⟩ | exact Or.inr (Or.inl ⟨by omega, by omega, by omega⟩) | exact Or.inr (Or.inr (Or.inl ⟨by omega, by omega, by omega⟩)) | exact Or.inr (Or.inr (Or.inr (Or.inl ⟨by omega, by omega, by omega⟩))) | exact Or.inr (Or.inr (Or.inr (Or.inr (⟨by omega, by omega, by omega, by omega, by omega, by omega, by omega⟩)))))) | (rw [← i7]; exact fw_en (by omega) (by have := t_cl x4; omega)), by omega⟩⟩
              · rw [t_eq] at c_25; try rw [t_0] at c_25
                refine cT_go b_M_fault_174 ?_
                have t_27 : (nI 7).toInt = 7 := nI_toInt (by decide)
                have t_29 : (nI 1).toInt = 1 := nI_toInt (by decide)
                first | have t_28 : (x2 + (nI 1)).toInt = (x2).toInt + ((nI 1)).toInt := t_addn (by omega) | obtain ⟨kt_28, t_28⟩ := t_add x2 (nI 1)
                first | have t_30 : (x4 + (nI 1)).toInt = (x4).toInt + ((nI 1)).toInt := t_addn (by omega) | obtain ⟨kt_30, t_30⟩ := t_add x4 (nI 1)
                exact ih (by omega) hI hF s0 (by omega) (by omega) (by omega) (by omega) (by first | (rw [fwv_eq]; exact fw_in) | (rw [← i7]; exact (fw_go (by omega) (by rw [t_cl, t_cl]; omega) (by first | exact Or.inl ⟨by omega, by omega, by omega, by omega, by omega, by omega⟩ | exact Or.inr (Or.inl ⟨by omega, by omega, by omega, by omega, by omega, by omega⟩) | exact Or.inr (Or.inr (Or.inl ⟨by omega, by omega, by omega, by omega, by omega, by omega⟩)) | exact Or.inr (Or.inr (Or.inr (Or.inl ⟨by omega, by omega, by omega, by omega, by omega, by omega⟩))) | exact Or.inr (Or.inr (Or.inr (Or.inr (Or.inl ⟨by omega, by omega, by omega, by omega, by omega, by omega⟩)))) | exact Or.inr (Or.inr (Or.inr (Or.inr (Or.inr (⟨by omega, by omega, by omega, by omega, by omega⟩))))))).symm))
          · rw [t_le] at c_16; try rw [t_0] at c_16
            refine cT_go b_M_fault_79 ?_
            refine cT_if b_M_fault_84 (fun c_31 => ?_) (fun c_31 => ?_)
            · rw [t_eq] at c_31; try rw [t_0] at c_31
              refine cT_go b_M_fault_96 ?_
              refine cT_go b_M_fault_102 ?_
              have t_33 : (nI 1).toInt = 1 := nI_toInt (by decide)
              refine cT_if b_M_fault_166 (fun c_32 => ?_) (fun c_32 => ?_)
              · rw [t_eq] at c_32; try rw [t_0] at c_32
                exact cT_ret b_M_fault_171 hI hF ⟨_, rfl, ⟨by first | (rw [← i7]; exact fw_bd (r' := ((f a0 3).toInt - x4.toInt).toNat - 1) (by omega) (by rw [t_cl]; omega) (by first | exact Or.inl ⟨by omega, by omega⟩ | exact Or.inr (Or.inl ⟨by omega, by omega, by omega⟩) | exact Or.inr (Or.inr (Or.inl ⟨by omega, by omega, by omega⟩)) | exact Or.inr (Or.inr (Or.inr (Or.inl ⟨by omega, by omega, by omega⟩))) | exact Or.inr (Or.inr (Or.inr (Or.inr (⟨by omega, by omega, by omega, by omega, by omega, by omega, by omega⟩)))))) | (rw [← i7]; exact fw_en (by omega) (by have := t_cl x4; omega)), by omega⟩⟩
              · rw [t_eq] at c_32; try rw [t_0] at c_32
                refine cT_go b_M_fault_174 ?_
                have t_34 : (nI 3).toInt = 3 := nI_toInt (by decide)
                first | have t_35 : (x2 + (nI 1)).toInt = (x2).toInt + ((nI 1)).toInt := t_addn (by omega) | obtain ⟨kt_35, t_35⟩ := t_add x2 (nI 1)
                first | have t_36 : (x4 + (nI 1)).toInt = (x4).toInt + ((nI 1)).toInt := t_addn (by omega) | obtain ⟨kt_36, t_36⟩ := t_add x4 (nI 1)
                exact ih (by omega) hI hF s0 (by omega) (by omega) (by omega) (by omega) (by first | (rw [fwv_eq]; exact fw_in) | (rw [← i7]; exact (fw_go (by omega) (by rw [t_cl, t_cl]; omega) (by first | exact Or.inl ⟨by omega, by omega, by omega, by omega, by omega, by omega⟩ | exact Or.inr (Or.inl ⟨by omega, by omega, by omega, by omega, by omega, by omega⟩) | exact Or.inr (Or.inr (Or.inl ⟨by omega, by omega, by omega, by omega, by omega, by omega⟩)) | exact Or.inr (Or.inr (Or.inr (Or.inl ⟨by omega, by omega, by omega, by omega, by omega, by omega⟩))) | exact Or.inr (Or.inr (Or.inr (Or.inr (Or.inl ⟨by omega, by omega, by omega, by omega, by omega, by omega⟩)))) | exact Or.inr (Or.inr (Or.inr (Or.inr (Or.inr (⟨by omega, by omega, by omega, by omega, by omega⟩))))))).symm))
            · rw [t_eq] at c_31; try rw [t_0] at c_31
              refine cT_go b_M_fault_100 ?_
              refine cT_go b_M_fault_102 ?_
              have t_38 : (nI 1).toInt = 1 := nI_toInt (by decide)
              refine cT_if b_M_fault_166 (fun c_37 => ?_) (fun c_37 => ?_)
              · rw [t_eq] at c_37; try rw [t_0] at c_37
                exact cT_ret b_M_fault_171 hI hF ⟨_, rfl, ⟨by first | (rw [← i7]; exact fw_bd (r' := ((f a0 3).toInt - x4.toInt).toNat - 1) (by omega) (by rw [t_cl]; omega) (by first | exact Or.inl ⟨by omega, by omega⟩ | exact Or.inr (Or.inl ⟨by omega, by omega, by omega⟩) | exact Or.inr (Or.inr (Or.inl ⟨by omega, by omega, by omega⟩)) | exact Or.inr (Or.inr (Or.inr (Or.inl ⟨by omega, by omega, by omega⟩))) | exact Or.inr (Or.inr (Or.inr (Or.inr (⟨by omega, by omega, by omega, by omega, by omega, by omega, by omega⟩)))))) | (rw [← i7]; exact fw_en (by omega) (by have := t_cl x4; omega)), by omega⟩⟩
              · rw [t_eq] at c_37; try rw [t_0] at c_37
                refine cT_go b_M_fault_174 ?_
                have t_39 : (nI 7).toInt = 7 := nI_toInt (by decide)
                first | have t_40 : (x2 + (nI 1)).toInt = (x2).toInt + ((nI 1)).toInt := t_addn (by omega) | obtain ⟨kt_40, t_40⟩ := t_add x2 (nI 1)
                first | have t_41 : (x4 + (nI 1)).toInt = (x4).toInt + ((nI 1)).toInt := t_addn (by omega) | obtain ⟨kt_41, t_41⟩ := t_add x4 (nI 1)
                exact ih (by omega) hI hF s0 (by omega) (by omega) (by omega) (by omega) (by first | (rw [fwv_eq]; exact fw_in) | (rw [← i7]; exact (fw_go (by omega) (by rw [t_cl, t_cl]; omega) (by first | exact Or.inl ⟨by omega, by omega, by omega, by omega, by omega, by omega⟩ | exact Or.inr (Or.inl ⟨by omega, by omega, by omega, by omega, by omega, by omega⟩) | exact Or.inr (Or.inr (Or.inl ⟨by omega, by omega, by omega, by omega, by omega, by omega⟩)) | exact Or.inr (Or.inr (Or.inr (Or.inl ⟨by omega, by omega, by omega, by omega, by omega, by omega⟩))) | exact Or.inr (Or.inr (Or.inr (Or.inr (Or.inl ⟨by omega, by omega, by omega, by omega, by omega, by omega⟩)))) | exact Or.inr (Or.inr (Or.inr (Or.inr (Or.inr (⟨by omega, by omega, by omega, by omega, by omega⟩))))))).symm))
        · rw [t_eq] at c_13; try rw [t_0] at c_13
          have t_43 : (nI 64).toInt = 64 := nI_toInt (by decide)
          refine cT_if b_M_fault_66 (fun c_42 => ?_) (fun c_42 => ?_)
          · rw [t_eq] at c_42; try rw [t_0] at c_42
            have t_45 : (nI 6).toInt = 6 := nI_toInt (by decide)
            refine cT_if b_M_fault_73 (fun c_44 => ?_) (fun c_44 => ?_)
            · rw [t_le] at c_44; try rw [t_0] at c_44
              refine cT_go b_M_fault_83 ?_
              refine cT_if b_M_fault_84 (fun c_46 => ?_) (fun c_46 => ?_)
              · rw [t_eq] at c_46; try rw [t_0] at c_46
                refine cT_go b_M_fault_96 ?_
                refine cT_go b_M_fault_102 ?_
                have t_48 : (nI 0).toInt = 0 := nI_toInt (by decide)
                refine cT_if b_M_fault_166 (fun c_47 => ?_) (fun c_47 => ?_)
                · rw [t_eq] at c_47; try rw [t_0] at c_47
                  exact cT_ret b_M_fault_171 hI hF ⟨_, rfl, ⟨by first | (rw [← i7]; exact fw_bd (r' := ((f a0 3).toInt - x4.toInt).toNat - 1) (by omega) (by rw [t_cl]; omega) (by first | exact Or.inl ⟨by omega, by omega⟩ | exact Or.inr (Or.inl ⟨by omega, by omega, by omega⟩) | exact Or.inr (Or.inr (Or.inl ⟨by omega, by omega, by omega⟩)) | exact Or.inr (Or.inr (Or.inr (Or.inl ⟨by omega, by omega, by omega⟩))) | exact Or.inr (Or.inr (Or.inr (Or.inr (⟨by omega, by omega, by omega, by omega, by omega, by omega, by omega⟩)))))) | (rw [← i7]; exact fw_en (by omega) (by have := t_cl x4; omega)), by omega⟩⟩
                · rw [t_eq] at c_47; try rw [t_0] at c_47
                  refine cT_go b_M_fault_174 ?_
                  have t_49 : (nI 3).toInt = 3 := nI_toInt (by decide)
                  have t_51 : (nI 1).toInt = 1 := nI_toInt (by decide)
                  first | have t_50 : (x2 + (nI 1)).toInt = (x2).toInt + ((nI 1)).toInt := t_addn (by omega) | obtain ⟨kt_50, t_50⟩ := t_add x2 (nI 1)
                  first | have t_52 : (x4 + (nI 1)).toInt = (x4).toInt + ((nI 1)).toInt := t_addn (by omega) | obtain ⟨kt_52, t_52⟩ := t_add x4 (nI 1)
                  exact ih (by omega) hI hF s0 (by omega) (by omega) (by omega) (by omega) (by first | (rw [fwv_eq]; exact fw_in) | (rw [← i7]; exact (fw_go (by omega) (by rw [t_cl, t_cl]; omega) (by first | exact Or.inl ⟨by omega, by omega, by omega, by omega, by omega, by omega⟩ | exact Or.inr (Or.inl ⟨by omega, by omega, by omega, by omega, by omega, by omega⟩) | exact Or.inr (Or.inr (Or.inl ⟨by omega, by omega, by omega, by omega, by omega, by omega⟩)) | exact Or.inr (Or.inr (Or.inr (Or.inl ⟨by omega, by omega, by omega, by omega, by omega, by omega⟩))) | exact Or.inr (Or.inr (Or.inr (Or.inr (Or.inl ⟨by omega, by omega, by omega, by omega, by omega, by omega⟩)))) | exact Or.inr (Or.inr (Or.inr (Or.inr (Or.inr (⟨by omega, by omega, by omega, by omega, by omega⟩))))))).symm))
              · rw [t_eq] at c_46; try rw [t_0] at c_46
                refine cT_go b_M_fault_100 ?_
                refine cT_go b_M_fault_102 ?_
                have t_54 : (nI 0).toInt = 0 := nI_toInt (by decide)
                refine cT_if b_M_fault_166 (fun c_53 => ?_) (fun c_53 => ?_)
                · rw [t_eq] at c_53; try rw [t_0] at c_53
                  exact cT_ret b_M_fault_171 hI hF ⟨_, rfl, ⟨by first | (rw [← i7]; exact fw_bd (r' := ((f a0 3).toInt - x4.toInt).toNat - 1) (by omega) (by rw [t_cl]; omega) (by first | exact Or.inl ⟨by omega, by omega⟩ | exact Or.inr (Or.inl ⟨by omega, by omega, by omega⟩) | exact Or.inr (Or.inr (Or.inl ⟨by omega, by omega, by omega⟩)) | exact Or.inr (Or.inr (Or.inr (Or.inl ⟨by omega, by omega, by omega⟩))) | exact Or.inr (Or.inr (Or.inr (Or.inr (⟨by omega, by omega, by omega, by omega, by omega, by omega, by omega⟩)))))) | (rw [← i7]; exact fw_en (by omega) (by have := t_cl x4; omega)), by omega⟩⟩
                · rw [t_eq] at c_53; try rw [t_0] at c_53
                  refine cT_go b_M_fault_174 ?_
                  have t_55 : (nI 7).toInt = 7 := nI_toInt (by decide)
                  have t_57 : (nI 1).toInt = 1 := nI_toInt (by decide)
                  first | have t_56 : (x2 + (nI 1)).toInt = (x2).toInt + ((nI 1)).toInt := t_addn (by omega) | obtain ⟨kt_56, t_56⟩ := t_add x2 (nI 1)
                  first | have t_58 : (x4 + (nI 1)).toInt = (x4).toInt + ((nI 1)).toInt := t_addn (by omega) | obtain ⟨kt_58, t_58⟩ := t_add x4 (nI 1)
                  exact ih (by omega) hI hF s0 (by omega) (by omega) (by omega) (by omega) (by first | (rw [fwv_eq]; exact fw_in) | (rw [← i7]; exact (fw_go (by omega) (by rw [t_cl, t_cl]; omega) (by first | exact Or.inl ⟨by omega, by omega, by omega, by omega, by omega, by omega⟩ | exact Or.inr (Or.inl ⟨by omega, by omega, by omega, by omega, by omega, by omega⟩) | exact Or.inr (Or.inr (Or.inl ⟨by omega, by omega, by omega, by omega, by omega, by omega⟩)) | exact Or.inr (Or.inr (Or.inr (Or.inl ⟨by omega, by omega, by omega, by omega, by omega, by omega⟩))) | exact Or.inr (Or.inr (Or.inr (Or.inr (Or.inl ⟨by omega, by omega, by omega, by omega, by omega, by omega⟩)))) | exact Or.inr (Or.inr (Or.inr (Or.inr (Or.inr (⟨by omega, by omega, by omega, by omega, by omega⟩))))))).symm))
            · rw [t_le] at c_44; try rw [t_0] at c_44
              refine cT_go b_M_fault_79 ?_
              refine cT_if b_M_fault_84 (fun c_59 => ?_) (fun c_59 => ?_)
              · rw [t_eq] at c_59; try rw [t_0] at c_59
                refine cT_go b_M_fault_96 ?_
                refine cT_go b_M_fault_102 ?_
                have t_61 : (nI 1).toInt = 1 := nI_toInt (by decide)
                refine cT_if b_M_fault_166 (fun c_60 => ?_) (fun c_60 => ?_)
                · rw [t_eq] at c_60; try rw [t_0] at c_60
                  exact cT_ret b_M_fault_171 hI hF ⟨_, rfl, ⟨by first | (rw [← i7]; exact fw_bd (r' := ((f a0 3).toInt - x4.toInt).toNat - 1) (by omega) (by rw [t_cl]; omega) (by first | exact Or.inl ⟨by omega, by omega⟩ | exact Or.inr (Or.inl ⟨by omega, by omega, by omega⟩) | exact Or.inr (Or.inr (Or.inl ⟨by omega, by omega, by omega⟩)) | exact Or.inr (Or.inr (Or.inr (Or.inl ⟨by omega, by omega, by omega⟩))) | exact Or.inr (Or.inr (Or.inr (Or.inr (⟨by omega, by omega, by omega, by omega, by omega, by omega, by omega⟩)))))) | (rw [← i7]; exact fw_en (by omega) (by have := t_cl x4; omega)), by omega⟩⟩
                · rw [t_eq] at c_60; try rw [t_0] at c_60
                  refine cT_go b_M_fault_174 ?_
                  have t_62 : (nI 3).toInt = 3 := nI_toInt (by decide)
                  first | have t_63 : (x2 + (nI 1)).toInt = (x2).toInt + ((nI 1)).toInt := t_addn (by omega) | obtain ⟨kt_63, t_63⟩ := t_add x2 (nI 1)
                  first | have t_64 : (x4 + (nI 1)).toInt = (x4).toInt + ((nI 1)).toInt := t_addn (by omega) | obtain ⟨kt_64, t_64⟩ := t_add x4 (nI 1)
                  exact ih (by omega) hI hF s0 (by omega) (by omega) (by omega) (by omega) (by first | (rw [fwv_eq]; exact fw_in) | (rw [← i7]; exact (fw_go (by omega) (by rw [t_cl, t_cl]; omega) (by first | exact Or.inl ⟨by omega, by omega, by omega, by omega, by omega, by omega⟩ | exact Or.inr (Or.inl ⟨by omega, by omega, by omega, by omega, by omega, by omega⟩) | exact Or.inr (Or.inr (Or.inl ⟨by omega, by omega, by omega, by omega, by omega, by omega⟩)) | exact Or.inr (Or.inr (Or.inr (Or.inl ⟨by omega, by omega, by omega, by omega, by omega, by omega⟩))) | exact Or.inr (Or.inr (Or.inr (Or.inr (Or.inl ⟨by omega, by omega, by omega, by omega, by omega, by omega⟩)))) | exact Or.inr (Or.inr (Or.inr (Or.inr (Or.inr (⟨by omega, by omega, by omega, by omega, by omega⟩))))))).symm))
              · rw [t_eq] at c_59; try rw [t_0] at c_59
                refine cT_go b_M_fault_100 ?_
                refine cT_go b_M_fault_102 ?_
                have t_66 : (nI 1).toInt = 1 := nI_toInt (by decide)
                refine cT_if b_M_fault_166 (fun c_65 => ?_) (fun c_65 => ?_)
                · rw [t_eq] at c_65; try rw [t_0] at c_65
                  exact cT_ret b_M_fault_171 hI hF ⟨_, rfl, ⟨by first | (rw [← i7]; exact fw_bd (r' := ((f a0 3).toInt - x4.toInt).toNat - 1) (by omega) (by rw [t_cl]; omega) (by first | exact Or.inl ⟨by omega, by omega⟩ | exact Or.inr (Or.inl ⟨by omega, by omega, by omega⟩) | exact Or.inr (Or.inr (Or.inl ⟨by omega, by omega, by omega⟩)) | exact Or.inr (Or.inr (Or.inr (Or.inl ⟨by omega, by omega, by omega⟩))) | exact Or.inr (Or.inr (Or.inr (Or.inr (⟨by omega, by omega, by omega, by omega, by omega, by omega, by omega⟩)))))) | (rw [← i7]; exact fw_en (by omega) (by have := t_cl x4; omega)), by omega⟩⟩
                · rw [t_eq] at c_65; try rw [t_0] at c_65
                  refine cT_go b_M_fault_174 ?_
                  have t_67 : (nI 7).toInt = 7 := nI_toInt (by decide)
                  first | have t_68 : (x2 + (nI 1)).toInt = (x2).toInt + ((nI 1)).toInt := t_addn (by omega) | obtain ⟨kt_68, t_68⟩ := t_add x2 (nI 1)
                  first | have t_69 : (x4 + (nI 1)).toInt = (x4).toInt + ((nI 1)).toInt := t_addn (by omega) | obtain ⟨kt_69, t_69⟩ := t_add x4 (nI 1)
                  exact ih (by omega) hI hF s0 (by omega) (by omega) (by omega) (by omega) (by first | (rw [fwv_eq]; exact fw_in) | (rw [← i7]; exact (fw_go (by omega) (by rw [t_cl, t_cl]; omega) (by first | exact Or.inl ⟨by omega, by omega, by omega, by omega, by omega, by omega⟩ | exact Or.inr (Or.inl ⟨by omega, by omega, by omega, by omega, by omega, by omega⟩) | exact Or.inr (Or.inr (Or.inl ⟨by omega, by omega, by omega, by omega, by omega, by omega⟩)) | exact Or.inr (Or.inr (Or.inr (Or.inl ⟨by omega, by omega, by omega, by omega, by omega, by omega⟩))) | exact Or.inr (Or.inr (Or.inr (Or.inr (Or.inl ⟨by omega, by omega, by omega, by omega, by omega, by omega⟩)))) | exact Or.inr (Or.inr (Or.inr (Or.inr (Or.inr (⟨by omega, by omega, by omega, by omega, by omega⟩))))))).symm))
          · rw [t_eq] at c_42; try rw [t_0] at c_42
            have t_71 : (nI 91).toInt = 91 := nI_toInt (by decide)
            refine cT_if b_M_fault_106 (fun c_70 => ?_) (fun c_70 => ?_)
            · rw [t_eq] at c_70; try rw [t_0] at c_70
              refine cT_if b_M_fault_113 (fun c_72 => ?_) (fun c_72 => ?_)
              · rw [t_eq] at c_72; try rw [t_0] at c_72
                refine cT_go b_M_fault_117 ?_
                refine cT_go b_M_fault_122 ?_
                have t_74 : (nI 1).toInt = 1 := nI_toInt (by decide)
                refine cT_if b_M_fault_166 (fun c_73 => ?_) (fun c_73 => ?_)
                · rw [t_eq] at c_73; try rw [t_0] at c_73
                  exact cT_ret b_M_fault_171 hI hF ⟨_, rfl, ⟨by first | (rw [← i7]; exact fw_bd (r' := ((f a0 3).toInt - x4.toInt).toNat - 1) (by omega) (by rw [t_cl]; omega) (by first | exact Or.inl ⟨by omega, by omega⟩ | exact Or.inr (Or.inl ⟨by omega, by omega, by omega⟩) | exact Or.inr (Or.inr (Or.inl ⟨by omega, by omega, by omega⟩)) | exact Or.inr (Or.inr (Or.inr (Or.inl ⟨by omega, by omega, by omega⟩))) | exact Or.inr (Or.inr (Or.inr (Or.inr (⟨by omega, by omega, by omega, by omega, by omega, by omega, by omega⟩)))))) | (rw [← i7]; exact fw_en (by omega) (by have := t_cl x4; omega)), by omega⟩⟩
                · rw [t_eq] at c_73; try rw [t_0] at c_73
                  refine cT_go b_M_fault_174 ?_
                  first | have t_75 : (x4 + (nI 1)).toInt = (x4).toInt + ((nI 1)).toInt := t_addn (by omega) | obtain ⟨kt_75, t_75⟩ := t_add x4 (nI 1)
                  exact ih (by omega) hI hF s0 (by omega) (by omega) (by omega) (by omega) (by first | (rw [fwv_eq]; exact fw_in) | (rw [← i7]; exact (fw_go (by omega) (by rw [t_cl, t_cl]; omega) (by first | exact Or.inl ⟨by omega, by omega, by omega, by omega, by omega, by omega⟩ | exact Or.inr (Or.inl ⟨by omega, by omega, by omega, by omega, by omega, by omega⟩) | exact Or.inr (Or.inr (Or.inl ⟨by omega, by omega, by omega, by omega, by omega, by omega⟩)) | exact Or.inr (Or.inr (Or.inr (Or.inl ⟨by omega, by omega, by omega, by omega, by omega, by omega⟩))) | exact Or.inr (Or.inr (Or.inr (Or.inr (Or.inl ⟨by omega, by omega, by omega, by omega, by omega, by omega⟩)))) | exact Or.inr (Or.inr (Or.inr (Or.inr (Or.inr (⟨by omega, by omega, by omega, by omega, by omega⟩))))))).symm))
              · rw [t_eq] at c_72; try rw [t_0] at c_72
                refine cT_go b_M_fault_121 ?_
                refine cT_go b_M_fault_122 ?_
                have t_77 : (nI 0).toInt = 0 := nI_toInt (by decide)
                refine cT_if b_M_fault_166 (fun c_76 => ?_) (fun c_76 => ?_)
                · rw [t_eq] at c_76; try rw [t_0] at c_76
                  exact cT_ret b_M_fault_171 hI hF ⟨_, rfl, ⟨by first | (rw [← i7]; exact fw_bd (r' := ((f a0 3).toInt - x4.toInt).toNat - 1) (by omega) (by rw [t_cl]; omega) (by first | exact Or.inl ⟨by omega, by omega⟩ | exact Or.inr (Or.inl ⟨by omega, by omega, by omega⟩) | exact Or.inr (Or.inr (Or.inl ⟨by omega, by omega, by omega⟩)) | exact Or.inr (Or.inr (Or.inr (Or.inl ⟨by omega, by omega, by omega⟩))) | exact Or.inr (Or.inr (Or.inr (Or.inr (⟨by omega, by omega, by omega, by omega, by omega, by omega, by omega⟩)))))) | (rw [← i7]; exact fw_en (by omega) (by have := t_cl x4; omega)), by omega⟩⟩
                · rw [t_eq] at c_76; try rw [t_0] at c_76
                  refine cT_go b_M_fault_174 ?_
                  have t_78 : (nI 1).toInt = 1 := nI_toInt (by decide)
                  first | have t_79 : (x4 + (nI 1)).toInt = (x4).toInt + ((nI 1)).toInt := t_addn (by omega) | obtain ⟨kt_79, t_79⟩ := t_add x4 (nI 1)
                  exact ih (by omega) hI hF s0 (by omega) (by omega) (by omega) (by omega) (by first | (rw [fwv_eq]; exact fw_in) | (rw [← i7]; exact (fw_go (by omega) (by rw [t_cl, t_cl]; omega) (by first | exact Or.inl ⟨by omega, by omega, by omega, by omega, by omega, by omega⟩ | exact Or.inr (Or.inl ⟨by omega, by omega, by omega, by omega, by omega, by omega⟩) | exact Or.inr (Or.inr (Or.inl ⟨by omega, by omega, by omega, by omega, by omega, by omega⟩)) | exact Or.inr (Or.inr (Or.inr (Or.inl ⟨by omega, by omega, by omega, by omega, by omega, by omega⟩))) | exact Or.inr (Or.inr (Or.inr (Or.inr (Or.inl ⟨by omega, by omega, by omega, by omega, by omega, by omega⟩)))) | exact Or.inr (Or.inr (Or.inr (Or.inr (Or.inr (⟨by omega, by omega, by omega, by omega, by omega⟩))))))).symm))
            · rw [t_eq] at c_70; try rw [t_0] at c_70
              have t_81 : (nI 93).toInt = 93 := nI_toInt (by decide)
              refine cT_if b_M_fault_129 (fun c_80 => ?_) (fun c_80 => ?_)
              · rw [t_eq] at c_80; try rw [t_0] at c_80
                refine cT_go b_M_fault_136 ?_
                refine cT_if b_M_fault_166 (fun c_82 => ?_) (fun c_82 => ?_)
                · rw [t_eq] at c_82; try rw [t_0] at c_82
                  exact cT_ret b_M_fault_171 hI hF ⟨_, rfl, ⟨by first | (rw [← i7]; exact fw_bd (r' := ((f a0 3).toInt - x4.toInt).toNat - 1) (by omega) (by rw [t_cl]; omega) (by first | exact Or.inl ⟨by omega, by omega⟩ | exact Or.inr (Or.inl ⟨by omega, by omega, by omega⟩) | exact Or.inr (Or.inr (Or.inl ⟨by omega, by omega, by omega⟩)) | exact Or.inr (Or.inr (Or.inr (Or.inl ⟨by omega, by omega, by omega⟩))) | exact Or.inr (Or.inr (Or.inr (Or.inr (⟨by omega, by omega, by omega, by omega, by omega, by omega, by omega⟩)))))) | (rw [← i7]; exact fw_en (by omega) (by have := t_cl x4; omega)), by omega⟩⟩
                · rw [t_eq] at c_82; try rw [t_0] at c_82
                  refine cT_go b_M_fault_174 ?_
                  have t_83 : (nI 0).toInt = 0 := nI_toInt (by decide)
                  have t_85 : (nI 1).toInt = 1 := nI_toInt (by decide)
                  first | have t_84 : (x4 + (nI 1)).toInt = (x4).toInt + ((nI 1)).toInt := t_addn (by omega) | obtain ⟨kt_84, t_84⟩ := t_add x4 (nI 1)
                  exact ih (by omega) hI hF s0 (by omega) (by omega) (by omega) (by omega) (by first | (rw [fwv_eq]; exact fw_in) | (rw [← i7]; exact (fw_go (by omega) (by rw [t_cl, t_cl]; omega) (by first | exact Or.inl ⟨by omega, by omega, by omega, by omega, by omega, by omega⟩ | exact Or.inr (Or.inl ⟨by omega, by omega, by omega, by omega, by omega, by omega⟩) | exact Or.inr (Or.inr (Or.inl ⟨by omega, by omega, by omega, by omega, by omega, by omega⟩)) | exact Or.inr (Or.inr (Or.inr (Or.inl ⟨by omega, by omega, by omega, by omega, by omega, by omega⟩))) | exact Or.inr (Or.inr (Or.inr (Or.inr (Or.inl ⟨by omega, by omega, by omega, by omega, by omega, by omega⟩)))) | exact Or.inr (Or.inr (Or.inr (Or.inr (Or.inr (⟨by omega, by omega, by omega, by omega, by omega⟩))))))).symm))
              · rw [t_eq] at c_80; try rw [t_0] at c_80
                refine cT_call b_M_fault_144 (c_M_isLetter hI) hF (fun o ho => ho.elim) (fun v_86 f_87 hI_88 hG_89 hF_90 hQ_91 => ?_)
                obtain rfl := cF_no hG_89
                obtain ⟨y_92, rfl, hb_93, hQ_91⟩ := hQ_91
                have hb_93r := t_b01 hb_93
                show cT 88 149 [.ref a0, .int x1, .int x2, .int x3, .int x4, .int (f (a0 + 1) x4.toNatClampNeg), u6] [.int y_92] _ _ _ _ _ _
                refine cT_if b_M_fault_149 (fun c_94 => ?_) (fun c_94 => ?_)
                · rw [t_eq] at c_94; try rw [t_0] at c_94
                  have t_96 : (nI 32).toInt = 32 := nI_toInt (by decide)
                  refine cT_if b_M_fault_152 (fun c_95 => ?_) (fun c_95 => ?_)
                  · rw [t_eq] at c_95; try rw [t_0] at c_95
                    refine cT_go b_M_fault_159 ?_
                    refine cT_go b_M_fault_164 ?_
                    have t_98 : (nI 1).toInt = 1 := nI_toInt (by decide)
                    refine cT_if b_M_fault_166 (fun c_97 => ?_) (fun c_97 => ?_)
                    · rw [t_eq] at c_97; try rw [t_0] at c_97
                      exact cT_ret b_M_fault_171 hI hF ⟨_, rfl, ⟨by first | (rw [← i7]; exact fw_bd (r' := ((f a0 3).toInt - x4.toInt).toNat - 1) (by omega) (by rw [t_cl]; omega) (by first | exact Or.inl ⟨by omega, by omega⟩ | exact Or.inr (Or.inl ⟨by omega, by omega, by omega⟩) | exact Or.inr (Or.inr (Or.inl ⟨by omega, by omega, by omega⟩)) | exact Or.inr (Or.inr (Or.inr (Or.inl ⟨by omega, by omega, by omega⟩))) | exact Or.inr (Or.inr (Or.inr (Or.inr (⟨by omega, by omega, by omega, by omega, by omega, by omega, by omega⟩)))))) | (rw [← i7]; exact fw_en (by omega) (by have := t_cl x4; omega)), by omega⟩⟩
                    · rw [t_eq] at c_97; try rw [t_0] at c_97
                      refine cT_go b_M_fault_174 ?_
                      first | have t_99 : (x4 + (nI 1)).toInt = (x4).toInt + ((nI 1)).toInt := t_addn (by omega) | obtain ⟨kt_99, t_99⟩ := t_add x4 (nI 1)
                      exact ih (by omega) hI hF s0 (by omega) (by omega) (by omega) (by omega) (by first | (rw [fwv_eq]; exact fw_in) | (rw [← i7]; exact (fw_go (by omega) (by rw [t_cl, t_cl]; omega) (by first | exact Or.inl ⟨by omega, by omega, by omega, by omega, by omega, by omega⟩ | exact Or.inr (Or.inl ⟨by omega, by omega, by omega, by omega, by omega, by omega⟩) | exact Or.inr (Or.inr (Or.inl ⟨by omega, by omega, by omega, by omega, by omega, by omega⟩)) | exact Or.inr (Or.inr (Or.inr (Or.inl ⟨by omega, by omega, by omega, by omega, by omega, by omega⟩))) | exact Or.inr (Or.inr (Or.inr (Or.inr (Or.inl ⟨by omega, by omega, by omega, by omega, by omega, by omega⟩)))) | exact Or.inr (Or.inr (Or.inr (Or.inr (Or.inr (⟨by omega, by omega, by omega, by omega, by omega⟩))))))).symm))
                  · rw [t_eq] at c_95; try rw [t_0] at c_95
                    refine cT_go b_M_fault_163 ?_
                    refine cT_go b_M_fault_164 ?_
                    have t_101 : (nI 0).toInt = 0 := nI_toInt (by decide)
                    refine cT_if b_M_fault_166 (fun c_100 => ?_) (fun c_100 => ?_)
                    · rw [t_eq] at c_100; try rw [t_0] at c_100
                      exact cT_ret b_M_fault_171 hI hF ⟨_, rfl, ⟨by first | (rw [← i7]; exact fw_bd (r' := ((f a0 3).toInt - x4.toInt).toNat - 1) (by omega) (by rw [t_cl]; omega) (by first | exact Or.inl ⟨by omega, by omega⟩ | exact Or.inr (Or.inl ⟨by omega, by omega, by omega⟩) | exact Or.inr (Or.inr (Or.inl ⟨by omega, by omega, by omega⟩)) | exact Or.inr (Or.inr (Or.inr (Or.inl ⟨by omega, by omega, by omega⟩))) | exact Or.inr (Or.inr (Or.inr (Or.inr (⟨by omega, by omega, by omega, by omega, by omega, by omega, by omega⟩)))))) | (rw [← i7]; exact fw_en (by omega) (by have := t_cl x4; omega)), by omega⟩⟩
                    · rw [t_eq] at c_100; try rw [t_0] at c_100
                      refine cT_go b_M_fault_174 ?_
                      have t_103 : (nI 1).toInt = 1 := nI_toInt (by decide)
                      first | have t_102 : (x4 + (nI 1)).toInt = (x4).toInt + ((nI 1)).toInt := t_addn (by omega) | obtain ⟨kt_102, t_102⟩ := t_add x4 (nI 1)
                      exact ih (by omega) hI hF s0 (by omega) (by omega) (by omega) (by omega) (by first | (rw [fwv_eq]; exact fw_in) | (rw [← i7]; exact (fw_go (by omega) (by rw [t_cl, t_cl]; omega) (by first | exact Or.inl ⟨by omega, by omega, by omega, by omega, by omega, by omega⟩ | exact Or.inr (Or.inl ⟨by omega, by omega, by omega, by omega, by omega, by omega⟩) | exact Or.inr (Or.inr (Or.inl ⟨by omega, by omega, by omega, by omega, by omega, by omega⟩)) | exact Or.inr (Or.inr (Or.inr (Or.inl ⟨by omega, by omega, by omega, by omega, by omega, by omega⟩))) | exact Or.inr (Or.inr (Or.inr (Or.inr (Or.inl ⟨by omega, by omega, by omega, by omega, by omega, by omega⟩)))) | exact Or.inr (Or.inr (Or.inr (Or.inr (Or.inr (⟨by omega, by omega, by omega, by omega, by omega⟩))))))).symm))
                · rw [t_eq] at c_94; try rw [t_0] at c_94
                  refine cT_go b_M_fault_159 ?_
                  refine cT_go b_M_fault_164 ?_
                  have t_105 : (nI 1).toInt = 1 := nI_toInt (by decide)
                  refine cT_if b_M_fault_166 (fun c_104 => ?_) (fun c_104 => ?_)
                  · rw [t_eq] at c_104; try rw [t_0] at c_104
                    exact cT_ret b_M_fault_171 hI hF ⟨_, rfl, ⟨by first | (rw [← i7]; exact fw_bd (r' := ((f a0 3).toInt - x4.toInt).toNat - 1) (by omega) (by rw [t_cl]; omega) (by first | exact Or.inl ⟨by omega, by omega⟩ | exact Or.inr (Or.inl ⟨by omega, by omega, by omega⟩) | exact Or.inr (Or.inr (Or.inl ⟨by omega, by omega, by omega⟩)) | exact Or.inr (Or.inr (Or.inr (Or.inl ⟨by omega, by omega, by omega⟩))) | exact Or.inr (Or.inr (Or.inr (Or.inr (⟨by omega, by omega, by omega, by omega, by omega, by omega, by omega⟩)))))) | (rw [← i7]; exact fw_en (by omega) (by have := t_cl x4; omega)), by omega⟩⟩
                  · rw [t_eq] at c_104; try rw [t_0] at c_104
                    refine cT_go b_M_fault_174 ?_
                    first | have t_106 : (x4 + (nI 1)).toInt = (x4).toInt + ((nI 1)).toInt := t_addn (by omega) | obtain ⟨kt_106, t_106⟩ := t_add x4 (nI 1)
                    exact ih (by omega) hI hF s0 (by omega) (by omega) (by omega) (by omega) (by first | (rw [fwv_eq]; exact fw_in) | (rw [← i7]; exact (fw_go (by omega) (by rw [t_cl, t_cl]; omega) (by first | exact Or.inl ⟨by omega, by omega, by omega, by omega, by omega, by omega⟩ | exact Or.inr (Or.inl ⟨by omega, by omega, by omega, by omega, by omega, by omega⟩) | exact Or.inr (Or.inr (Or.inl ⟨by omega, by omega, by omega, by omega, by omega, by omega⟩)) | exact Or.inr (Or.inr (Or.inr (Or.inl ⟨by omega, by omega, by omega, by omega, by omega, by omega⟩))) | exact Or.inr (Or.inr (Or.inr (Or.inr (Or.inl ⟨by omega, by omega, by omega, by omega, by omega, by omega⟩)))) | exact Or.inr (Or.inr (Or.inr (Or.inr (Or.inr (⟨by omega, by omega, by omega, by omega, by omega⟩))))))).symm))
      · rw [t_le] at c_11; try rw [t_0] at c_11
        have t_108 := t_rng (f (a0 + 1) x4.toNatClampNeg)
        have t_109 : (nI 48).toInt = 48 := nI_toInt (by decide)
        refine cT_if b_M_fault_31 (fun c_107 => ?_) (fun c_107 => ?_)
        · rw [t_lt] at c_107; try rw [t_0] at c_107
          refine cT_go b_M_fault_51 ?_
          refine cT_go b_M_fault_52 ?_
          have t_111 : (nI 0).toInt = 0 := nI_toInt (by decide)
          refine cT_if b_M_fault_166 (fun c_110 => ?_) (fun c_110 => ?_)
          · rw [t_eq] at c_110; try rw [t_0] at c_110
            exact cT_ret b_M_fault_171 hI hF ⟨_, rfl, ⟨by first | (rw [← i7]; exact fw_bd (r' := ((f a0 3).toInt - x4.toInt).toNat - 1) (by omega) (by rw [t_cl]; omega) (by first | exact Or.inl ⟨by omega, by omega⟩ | exact Or.inr (Or.inl ⟨by omega, by omega, by omega⟩) | exact Or.inr (Or.inr (Or.inl ⟨by omega, by omega, by omega⟩)) | exact Or.inr (Or.inr (Or.inr (Or.inl ⟨by omega, by omega, by omega⟩))) | exact Or.inr (Or.inr (Or.inr (Or.inr (⟨by omega, by omega, by omega, by omega, by omega, by omega, by omega⟩)))))) | (rw [← i7]; exact fw_en (by omega) (by have := t_cl x4; omega)), by omega⟩⟩
          · rw [t_eq] at c_110; try rw [t_0] at c_110
            refine cT_go b_M_fault_174 ?_
            have t_113 : (nI 1).toInt = 1 := nI_toInt (by decide)
            first | have t_112 : (x4 + (nI 1)).toInt = (x4).toInt + ((nI 1)).toInt := t_addn (by omega) | obtain ⟨kt_112, t_112⟩ := t_add x4 (nI 1)
            exact ih (by omega) hI hF s0 (by omega) (by omega) (by omega) (by omega) (by first | (rw [fwv_eq]; exact fw_in) | (rw [← i7]; exact (fw_go (by omega) (by rw [t_cl, t_cl]; omega) (by first | exact Or.inl ⟨by omega, by omega, by omega, by omega, by omega, by omega⟩ | exact Or.inr (Or.inl ⟨by omega, by omega, by omega, by omega, by omega, by omega⟩) | exact Or.inr (Or.inr (Or.inl ⟨by omega, by omega, by omega, by omega, by omega, by omega⟩)) | exact Or.inr (Or.inr (Or.inr (Or.inl ⟨by omega, by omega, by omega, by omega, by omega, by omega⟩))) | exact Or.inr (Or.inr (Or.inr (Or.inr (Or.inl ⟨by omega, by omega, by omega, by omega, by omega, by omega⟩)))) | exact Or.inr (Or.inr (Or.inr (Or.inr (Or.inr (⟨by omega, by omega, by omega, by omega, by omega⟩))))))).symm))
        · rw [t_lt] at c_107; try rw [t_0] at c_107
          first | have t_115 : (((nI 48)) + x1).toInt = (((nI 48))).toInt + (x1).toInt := t_addn (by omega) | obtain ⟨kt_115, t_115⟩ := t_add ((nI 48)) x1
          refine cT_if b_M_fault_38 (fun c_114 => ?_) (fun c_114 => ?_)
          · rw [t_lt] at c_114; try rw [t_0] at c_114
            refine cT_go b_M_fault_51 ?_
            refine cT_go b_M_fault_52 ?_
            have t_117 : (nI 0).toInt = 0 := nI_toInt (by decide)
            refine cT_if b_M_fault_166 (fun c_116 => ?_) (fun c_116 => ?_)
            · rw [t_eq] at c_116; try rw [t_0] at c_116
              exact cT_ret b_M_fault_171 hI hF ⟨_, rfl, ⟨by first | (rw [← i7]; exact fw_bd (r' := ((f a0 3).toInt - x4.toInt).toNat - 1) (by omega) (by rw [t_cl]; omega) (by first | exact Or.inl ⟨by omega, by omega⟩ | exact Or.inr (Or.inl ⟨by omega, by omega, by omega⟩) | exact Or.inr (Or.inr (Or.inl ⟨by omega, by omega, by omega⟩)) | exact Or.inr (Or.inr (Or.inr (Or.inl ⟨by omega, by omega, by omega⟩))) | exact Or.inr (Or.inr (Or.inr (Or.inr (⟨by omega, by omega, by omega, by omega, by omega, by omega, by omega⟩)))))) | (rw [← i7]; exact fw_en (by omega) (by have := t_cl x4; omega)), by omega⟩⟩
            · rw [t_eq] at c_116; try rw [t_0] at c_116
              refine cT_go b_M_fault_174 ?_
              have t_119 : (nI 1).toInt = 1 := nI_toInt (by decide)
              first | have t_118 : (x4 + (nI 1)).toInt = (x4).toInt + ((nI 1)).toInt := t_addn (by omega) | obtain ⟨kt_118, t_118⟩ := t_add x4 (nI 1)
              exact ih (by omega) hI hF s0 (by omega) (by omega) (by omega) (by omega) (by first | (rw [fwv_eq]; exact fw_in) | (rw [← i7]; exact (fw_go (by omega) (by rw [t_cl, t_cl]; omega) (by first | exact Or.inl ⟨by omega, by omega, by omega, by omega, by omega, by omega⟩ | exact Or.inr (Or.inl ⟨by omega, by omega, by omega, by omega, by omega, by omega⟩) | exact Or.inr (Or.inr (Or.inl ⟨by omega, by omega, by omega, by omega, by omega, by omega⟩)) | exact Or.inr (Or.inr (Or.inr (Or.inl ⟨by omega, by omega, by omega, by omega, by omega, by omega⟩))) | exact Or.inr (Or.inr (Or.inr (Or.inr (Or.inl ⟨by omega, by omega, by omega, by omega, by omega, by omega⟩)))) | exact Or.inr (Or.inr (Or.inr (Or.inr (Or.inr (⟨by omega, by omega, by omega, by omega, by omega⟩))))))).symm))
          · rw [t_lt] at c_114; try rw [t_0] at c_114
            refine cT_go b_M_fault_47 ?_
            refine cT_go b_M_fault_52 ?_
            have t_121 : (nI 1).toInt = 1 := nI_toInt (by decide)
            refine cT_if b_M_fault_166 (fun c_120 => ?_) (fun c_120 => ?_)
            · rw [t_eq] at c_120; try rw [t_0] at c_120
              exact cT_ret b_M_fault_171 hI hF ⟨_, rfl, ⟨by first | (rw [← i7]; exact fw_bd (r' := ((f a0 3).toInt - x4.toInt).toNat - 1) (by omega) (by rw [t_cl]; omega) (by first | exact Or.inl ⟨by omega, by omega⟩ | exact Or.inr (Or.inl ⟨by omega, by omega, by omega⟩) | exact Or.inr (Or.inr (Or.inl ⟨by omega, by omega, by omega⟩)) | exact Or.inr (Or.inr (Or.inr (Or.inl ⟨by omega, by omega, by omega⟩))) | exact Or.inr (Or.inr (Or.inr (Or.inr (⟨by omega, by omega, by omega, by omega, by omega, by omega, by omega⟩)))))) | (rw [← i7]; exact fw_en (by omega) (by have := t_cl x4; omega)), by omega⟩⟩
            · rw [t_eq] at c_120; try rw [t_0] at c_120
              refine cT_go b_M_fault_174 ?_
              have t_122 : (nI 0).toInt = 0 := nI_toInt (by decide)
              first | have t_123 : (x4 + (nI 1)).toInt = (x4).toInt + ((nI 1)).toInt := t_addn (by omega) | obtain ⟨kt_123, t_123⟩ := t_add x4 (nI 1)
              exact ih (by omega) hI hF s0 (by omega) (by omega) (by omega) (by omega) (by first | (rw [fwv_eq]; exact fw_in) | (rw [← i7]; exact (fw_go (by omega) (by rw [t_cl, t_cl]; omega) (by first | exact Or.inl ⟨by omega, by omega, by omega, by omega, by omega, by omega⟩ | exact Or.inr (Or.inl ⟨by omega, by omega, by omega, by omega, by omega, by omega⟩) | exact Or.inr (Or.inr (Or.inl ⟨by omega, by omega, by omega, by omega, by omega, by omega⟩)) | exact Or.inr (Or.inr (Or.inr (Or.inl ⟨by omega, by omega, by omega, by omega, by omega, by omega⟩))) | exact Or.inr (Or.inr (Or.inr (Or.inr (Or.inl ⟨by omega, by omega, by omega, by omega, by omega, by omega⟩)))) | exact Or.inr (Or.inr (Or.inr (Or.inr (Or.inr (⟨by omega, by omega, by omega, by omega, by omega⟩))))))).symm))
set_option maxHeartbeats 8000000 in
theorem c_M_fault {L : Nat} {f : cg_G} {e : Nat × Nat} {a0 : Nat} (hI : cI L f) (s0 : sh_ a0 = 7)  : cE 88 [.ref a0] L e (fun o => False) f (fun v f' => ∃ x : Int32, v = some (.int x) ∧ (x.toInt = fwv (f (a0 + 1)) (f a0 3) ∧ -1 ≤ x.toInt ∧ x.toInt ≤ (f a0 3).toInt)) := by
  refine cE_of (ls := [.ref a0, (.retAddr 0), (.retAddr 0), (.retAddr 0), (.retAddr 0), (.retAddr 0), (.retAddr 0)]) rfl ?_
  have hF : cF (fun o => False) f f := cF_rf
  have hm := one_7 s0
  refine cT_go b_M_fault_0 ?_
  have t_124 : (nI 0).toInt = 0 := nI_toInt (by decide)
  have t_125 : 0 ≤ (f a0 3).toInt ∧ (f a0 3).toInt ≤ 32 := (cI_at hI 3 s0).2.2.2.1 rfl
  exact l_M_fault_9 ((32 - (nI 0).toInt).toNat + 1) (by omega) hI hF s0 (by omega) (by omega) (by omega) (by omega) (by first | (rw [fwv_eq]; exact fw_in) | (rw [← i7]; exact (fw_go (by omega) (by rw [t_cl, t_cl]; omega) (by first | exact Or.inl ⟨by omega, by omega, by omega, by omega, by omega, by omega⟩ | exact Or.inr (Or.inl ⟨by omega, by omega, by omega, by omega, by omega, by omega⟩) | exact Or.inr (Or.inr (Or.inl ⟨by omega, by omega, by omega, by omega, by omega, by omega⟩)) | exact Or.inr (Or.inr (Or.inr (Or.inl ⟨by omega, by omega, by omega, by omega, by omega, by omega⟩))) | exact Or.inr (Or.inr (Or.inr (Or.inr (Or.inl ⟨by omega, by omega, by omega, by omega, by omega, by omega⟩)))) | exact Or.inr (Or.inr (Or.inr (Or.inr (Or.inr (⟨by omega, by omega, by omega, by omega, by omega⟩))))))).symm))
theorem c_C_isLetter {L : Nat} {f : cg_G} {e : Nat × Nat} {x0 : Int32} (hI : cI L f)   : cE 3 [.int x0] L e (fun o => False) f (fun v f' => ∃ x : Int32, v = some (.int x) ∧ (x = 0 ∨ x = 1) ∧ (x.toInt ≠ 0 ↔ 97 ≤ x0.toInt ∧ x0.toInt ≤ 122)) := by
  refine cE_of (ls := [.int x0]) rfl ?_
  have hF : cF (fun o => False) f f := cF_rf
  have t_1 := t_rng (x0)
  have t_3 : (nI 97).toInt = 97 := nI_toInt (by decide)
  refine cT_if b_C_isLetter_0 (fun c_2 => ?_) (fun c_2 => ?_)
  · rw [t_lt] at c_2; try rw [t_0] at c_2
    refine cT_go b_C_isLetter_16 ?_
    have t_4 : (nI 0).toInt = 0 := nI_toInt (by decide)
    exact cT_ret (b_C_isLetter_17 (by decide)) hI hF ⟨_, rfl, (by decide), by omega⟩
  · rw [t_lt] at c_2; try rw [t_0] at c_2
    have t_6 : (nI 122).toInt = 122 := nI_toInt (by decide)
    refine cT_if b_C_isLetter_6 (fun c_5 => ?_) (fun c_5 => ?_)
    · rw [t_lt] at c_5; try rw [t_0] at c_5
      refine cT_go b_C_isLetter_16 ?_
      have t_7 : (nI 0).toInt = 0 := nI_toInt (by decide)
      exact cT_ret (b_C_isLetter_17 (by decide)) hI hF ⟨_, rfl, (by decide), by omega⟩
    · rw [t_lt] at c_5; try rw [t_0] at c_5
      refine cT_go b_C_isLetter_12 ?_
      have t_8 : (nI 1).toInt = 1 := nI_toInt (by decide)
      exact cT_ret (b_C_isLetter_17 (by decide)) hI hF ⟨_, rfl, (by decide), by omega⟩
set_option maxHeartbeats 8000000 in
theorem l_C_firstWrongPlace_9 {L : Nat} {e : Nat × Nat} {f0 : cg_G} : ∀ (k : Nat) {f : cg_G} {a0 : Nat} {x1 : Int32} {x2 : Int32} {x3 : Int32} {x4 : Int32} {u5 : Value}, (4096 - x4.toInt).toNat < k → cI L f → cF (fun o => False) f0 f → sh_ a0 = 6 → (0 ≤ x1.toInt ∧ x1.toInt ≤ 1) → (0 ≤ x2.toInt ∧ x2.toInt ≤ 6) → (x3.toInt = 0 ∨ x3.toInt = 51 ∨ x3.toInt = 55) → (0 ≤ x4.toInt ∧ x4.toInt ≤ (f a0 1).toInt) → (fw (f (a0 + 1)) ((f a0 1).toInt - x4.toInt).toNat x4.toNatClampNeg (wd x3.toInt) x2.toInt x1.toInt = fwv (f (a0 + 1)) (f a0 1)) → cT 63 9 [.ref a0, .int x1, .int x2, .int x3, .int x4, u5] [] L e (fun o => False) f0 f (fun v f' => ∃ x : Int32, v = some (.int x) ∧ (x.toInt = fwv (f (a0 + 1)) (f a0 1) ∧ -1 ≤ x.toInt ∧ x.toInt ≤ (f a0 1).toInt)) := by
  intro k
  induction k with
  | zero => intro f a0 x1 x2 x3 x4 u5 hm; omega
  | succ k ih =>
    intro f a0 x1 x2 x3 x4 u5 hme hI hF s0 i1 i2 i3 i4 i7
    have hl := ln_lt (L := L) (a := a0 + 1) (by omega)
    have t_1 := t_rng (x1)
    have t_2 := t_rng (x2)
    have t_3 := t_rng (x3)
    have t_4 := t_rng (x4)
    refine cT_call (b_C_firstWrongPlace_9 s0) (c_Signs_size hI s0) hF (fun o ho => ho.elim) (fun v_5 f_6 hI_7 hG_8 hF_9 hQ_10 => ?_)
    obtain rfl := cF_no hG_8
    obtain ⟨y_11, rfl, hQ_10⟩ := hQ_10
    have hQ_10r := t_rng y_11
    show cT 63 15 [.ref a0, .int x1, .int x2, .int x3, .int x4, u5] [.int y_11, .int x4] _ _ _ _ _ _
    refine cT_if b_C_firstWrongPlace_15 (fun c_12 => ?_) (fun c_12 => ?_)
    · rw [t_le] at c_12; try rw [t_0] at c_12
      refine cT_if b_C_firstWrongPlace_165 (fun c_13 => ?_) (fun c_13 => ?_)
      · rw [t_eq] at c_13; try rw [t_0] at c_13
        refine cT_if b_C_firstWrongPlace_169 (fun c_15 => ?_) (fun c_15 => ?_)
        · rw [t_eq] at c_15; try rw [t_0] at c_15
          refine cT_go b_C_firstWrongPlace_180 ?_
          have t_16 := t_neg1
          exact cT_ret b_C_firstWrongPlace_181 hI hF ⟨_, rfl, ⟨by have z0 : (nI 0).toInt = 0 := nI_toInt (by decide); have z1 : (nI 51).toInt = 51 := nI_toInt (by decide); have z2 : (nI 55).toInt = 55 := nI_toInt (by decide); have h0 := wd_c (nI 0).toInt; have h1 := wd_c (nI 51).toInt; have h2 := wd_c (nI 55).toInt; have h3 := wd_c x3.toInt; first | (rw [← i7]; exact fw_bd (r' := ((f a0 1).toInt - x4.toInt).toNat - 1) (by omega) (by rw [t_cl]; omega) (by first | exact Or.inl ⟨by omega, by omega⟩ | exact Or.inr (Or.inl ⟨by omega, by omega, by omega⟩) | exact Or.inr (Or.inr (Or.inl ⟨by omega, by omega, by omega⟩)) | exact Or.inr (Or.inr (Or.inr (Or.inl ⟨by omega, by omega, by omega⟩))) | exact Or.inr (Or.inr (Or.inr (Or.inr (⟨by omega, by omega, by omega, by omega, by omega, by omega, by omega⟩)))))) | (rw [← i7]; exact fw_en (by omega) (by have := t_cl x4; omega)), by omega⟩⟩
        · rw [t_eq] at c_15; try rw [t_0] at c_15
          refine cT_call (b_C_firstWrongPlace_173 s0) (c_Signs_size hI s0) hF (fun o ho => ho.elim) (fun v_17 f_18 hI_19 hG_20 hF_21 hQ_22 => ?_)
          obtain rfl := cF_no hG_20
          obtain ⟨y_23, rfl, hQ_22⟩ := hQ_22
          have hQ_22r := t_rng y_23
          show cT 63 177 [.ref a0, .int x1, .int x2, .int x3, .int x4, u5] [.int y_23] _ _ _ _ _ _
          refine cT_go b_C_firstWrongPlace_177 ?_
          exact cT_ret b_C_firstWrongPlace_181 hI hF ⟨_, rfl, ⟨by have z0 : (nI 0).toInt = 0 := nI_toInt (by decide); have z1 : (nI 51).toInt = 51 := nI_toInt (by decide); have z2 : (nI 55).toInt = 55 := nI_toInt (by decide); have h0 := wd_c (nI 0).toInt; have h1 := wd_c (nI 51).toInt; have h2 := wd_c (nI 55).toInt; have h3 := wd_c x3.toInt; first | (rw [← i7]; exact fw_bd (r' := ((f a0 1).toInt - x4.toInt).toNat - 1) (by omega) (by rw [t_cl]; omega) (by first | exact Or.inl ⟨by omega, by omega⟩ | exact Or.inr (Or.inl ⟨by omega, by omega, by omega⟩) | exact Or.inr (Or.inr (Or.inl ⟨by omega, by omega, by omega⟩)) | exact Or.inr (Or.inr (Or.inr (Or.inl ⟨by omega, by omega, by omega⟩))) | exact Or.inr (Or.inr (Or.inr (Or.inr (⟨by omega, by omega, by omega, by omega, by omega, by omega, by omega⟩)))))) | (rw [← i7]; exact fw_en (by omega) (by have := t_cl x4; omega)), by omega⟩⟩
      · rw [t_eq] at c_13; try rw [t_0] at c_13
        refine cT_call (b_C_firstWrongPlace_173 s0) (c_Signs_size hI s0) hF (fun o ho => ho.elim) (fun v_24 f_25 hI_26 hG_27 hF_28 hQ_29 => ?_)
        obtain rfl := cF_no hG_27
        obtain ⟨y_30, rfl, hQ_29⟩ := hQ_29
        have hQ_29r := t_rng y_30
        show cT 63 177 [.ref a0, .int x1, .int x2, .int x3, .int x4, u5] [.int y_30] _ _ _ _ _ _
        refine cT_go b_C_firstWrongPlace_177 ?_
        exact cT_ret b_C_firstWrongPlace_181 hI hF ⟨_, rfl, ⟨by have z0 : (nI 0).toInt = 0 := nI_toInt (by decide); have z1 : (nI 51).toInt = 51 := nI_toInt (by decide); have z2 : (nI 55).toInt = 55 := nI_toInt (by decide); have h0 := wd_c (nI 0).toInt; have h1 := wd_c (nI 51).toInt; have h2 := wd_c (nI 55).toInt; have h3 := wd_c x3.toInt; first | (rw [← i7]; exact fw_bd (r' := ((f a0 1).toInt - x4.toInt).toNat - 1) (by omega) (by rw [t_cl]; omega) (by first | exact Or.inl ⟨by omega, by omega⟩ | exact Or.inr (Or.inl ⟨by omega, by omega, by omega⟩) | exact Or.inr (Or.inr (Or.inl ⟨by omega, by omega, by omega⟩)) | exact Or.inr (Or.inr (Or.inr (Or.inl ⟨by omega, by omega, by omega⟩))) | exact Or.inr (Or.inr (Or.inr (Or.inr (⟨by omega, by omega, by omega, by omega, by omega, by omega, by omega⟩)))))) | (rw [← i7]; exact fw_en (by omega) (by have := t_cl x4; omega)), by omega⟩⟩
    · rw [t_le] at c_12; try rw [t_0] at c_12
      refine cT_call (b_C_firstWrongPlace_18 s0) (c_Signs_at hI s0) hF (fun o ho => ho.elim) (fun v_31 f_32 hI_33 hG_34 hF_35 hQ_36 => ?_)
      obtain rfl := cF_no hG_34
      obtain ⟨y_37, rfl, hQ_36⟩ := hQ_36
      have hQ_36r := t_rng y_37
      have g_38 : y_37.toInt = (f (a0 + 1) x4.toNatClampNeg).toInt := hQ_36 (by omega)
      show cT 63 24 [.ref a0, .int x1, .int x2, .int x3, .int x4, u5] [.int y_37] _ _ _ _ _ _
      refine cT_if b_C_firstWrongPlace_24 (fun c_39 => ?_) (fun c_39 => ?_)
      · rw [t_eq] at c_39; try rw [t_0] at c_39
        have t_42 : (nI 35).toInt = 35 := nI_toInt (by decide)
        refine cT_if b_C_firstWrongPlace_51 (fun c_41 => ?_) (fun c_41 => ?_)
        · rw [t_eq] at c_41; try rw [t_0] at c_41
          have t_44 : (nI 6).toInt = 6 := nI_toInt (by decide)
          refine cT_if b_C_firstWrongPlace_65 (fun c_43 => ?_) (fun c_43 => ?_)
          · rw [t_eq] at c_43; try rw [t_0] at c_43
            exact cT_ret b_C_firstWrongPlace_71 hI hF ⟨_, rfl, ⟨by have z0 : (nI 0).toInt = 0 := nI_toInt (by decide); have z1 : (nI 51).toInt = 51 := nI_toInt (by decide); have z2 : (nI 55).toInt = 55 := nI_toInt (by decide); have h0 := wd_c (nI 0).toInt; have h1 := wd_c (nI 51).toInt; have h2 := wd_c (nI 55).toInt; have h3 := wd_c x3.toInt; first | (rw [← i7]; exact fw_bd (r' := ((f a0 1).toInt - x4.toInt).toNat - 1) (by omega) (by rw [t_cl]; omega) (by first | exact Or.inl ⟨by omega, by omega⟩ | exact Or.inr (Or.inl ⟨by omega, by omega, by omega⟩) | exact Or.inr (Or.inr (Or.inl ⟨by omega, by omega, by omega⟩)) | exact Or.inr (Or.inr (Or.inr (Or.inl ⟨by omega, by omega, by omega⟩))) | exact Or.inr (Or.inr (Or.inr (Or.inr (⟨by omega, by omega, by omega, by omega, by omega, by omega, by omega⟩)))))) | (rw [← i7]; exact fw_en (by omega) (by have := t_cl x4; omega)), by omega⟩⟩
          · rw [t_eq] at c_43; try rw [t_0] at c_43
            refine cT_if b_C_firstWrongPlace_74 (fun c_45 => ?_) (fun c_45 => ?_)
            · rw [t_eq] at c_45; try rw [t_0] at c_45
              refine cT_go b_C_firstWrongPlace_84 ?_
              refine cT_go b_C_firstWrongPlace_91 ?_
              refine cT_go b_C_firstWrongPlace_159 ?_
              have t_47 : (nI 1).toInt = 1 := nI_toInt (by decide)
              first | have t_46 : (x2 + (nI 1)).toInt = (x2).toInt + ((nI 1)).toInt := t_addn (by omega) | obtain ⟨kt_46, t_46⟩ := t_add x2 (nI 1)
              have t_48 : (nI 51).toInt = 51 := nI_toInt (by decide)
              first | have t_49 : (x4 + (nI 1)).toInt = (x4).toInt + ((nI 1)).toInt := t_addn (by omega) | obtain ⟨kt_49, t_49⟩ := t_add x4 (nI 1)
              have t_50 : 0 ≤ (f a0 1).toInt ∧ (f a0 1).toInt ≤ (ln_ L (a0 + 1) : Int) := (cI_at hI 1 s0) rfl
              exact ih (by omega) hI hF s0 (by omega) (by omega) (by omega) (by omega) (by first | (rw [fwv_eq]; exact fw_in2) | (have z0 : (nI 0).toInt = 0 := nI_toInt (by decide); have z1 : (nI 51).toInt = 51 := nI_toInt (by decide); have z2 : (nI 55).toInt = 55 := nI_toInt (by decide); have h0 := wd_c (nI 0).toInt; have h1 := wd_c (nI 51).toInt; have h2 := wd_c (nI 55).toInt; have h3 := wd_c x3.toInt; rw [← i7]; exact (fw_go (by omega) (by rw [t_cl, t_cl]; omega) (by first | exact Or.inl ⟨by omega, by omega, by omega, by omega, by omega, by omega⟩ | exact Or.inr (Or.inl ⟨by omega, by omega, by omega, by omega, by omega, by omega⟩) | exact Or.inr (Or.inr (Or.inl ⟨by omega, by omega, by omega, by omega, by omega, by omega⟩)) | exact Or.inr (Or.inr (Or.inr (Or.inl ⟨by omega, by omega, by omega, by omega, by omega, by omega⟩))) | exact Or.inr (Or.inr (Or.inr (Or.inr (Or.inl ⟨by omega, by omega, by omega, by omega, by omega, by omega⟩)))) | exact Or.inr (Or.inr (Or.inr (Or.inr (Or.inr (⟨by omega, by omega, by omega, by omega, by omega⟩))))))).symm))
            · rw [t_eq] at c_45; try rw [t_0] at c_45
              refine cT_go b_C_firstWrongPlace_89 ?_
              refine cT_go b_C_firstWrongPlace_91 ?_
              refine cT_go b_C_firstWrongPlace_159 ?_
              have t_52 : (nI 1).toInt = 1 := nI_toInt (by decide)
              first | have t_51 : (x2 + (nI 1)).toInt = (x2).toInt + ((nI 1)).toInt := t_addn (by omega) | obtain ⟨kt_51, t_51⟩ := t_add x2 (nI 1)
              have t_53 : (nI 55).toInt = 55 := nI_toInt (by decide)
              first | have t_54 : (x4 + (nI 1)).toInt = (x4).toInt + ((nI 1)).toInt := t_addn (by omega) | obtain ⟨kt_54, t_54⟩ := t_add x4 (nI 1)
              have t_55 : 0 ≤ (f a0 1).toInt ∧ (f a0 1).toInt ≤ (ln_ L (a0 + 1) : Int) := (cI_at hI 1 s0) rfl
              exact ih (by omega) hI hF s0 (by omega) (by omega) (by omega) (by omega) (by first | (rw [fwv_eq]; exact fw_in2) | (have z0 : (nI 0).toInt = 0 := nI_toInt (by decide); have z1 : (nI 51).toInt = 51 := nI_toInt (by decide); have z2 : (nI 55).toInt = 55 := nI_toInt (by decide); have h0 := wd_c (nI 0).toInt; have h1 := wd_c (nI 51).toInt; have h2 := wd_c (nI 55).toInt; have h3 := wd_c x3.toInt; rw [← i7]; exact (fw_go (by omega) (by rw [t_cl, t_cl]; omega) (by first | exact Or.inl ⟨by omega, by omega, by omega, by omega, by omega, by omega⟩ | exact Or.inr (Or.inl ⟨by omega, by omega, by omega, by omega, by omega, by omega⟩) | exact Or.inr (Or.inr (Or.inl ⟨by omega, by omega, by omega, by omega, by omega, by omega⟩)) | exact Or.inr (Or.inr (Or.inr (Or.inl ⟨by omega, by omega, by omega, by omega, by omega, by omega⟩))) | exact Or.inr (Or.inr (Or.inr (Or.inr (Or.inl ⟨by omega, by omega, by omega, by omega, by omega, by omega⟩)))) | exact Or.inr (Or.inr (Or.inr (Or.inr (Or.inr (⟨by omega, by omega, by omega, by omega, by omega⟩))))))).symm))
        · rw [t_eq] at c_41; try rw [t_0] at c_41
          have t_57 : (nI 64).toInt = 64 := nI_toInt (by decide)
          refine cT_if b_C_firstWrongPlace_58 (fun c_56 => ?_) (fun c_56 => ?_)
          · rw [t_eq] at c_56; try rw [t_0] at c_56
            have t_59 : (nI 6).toInt = 6 := nI_toInt (by decide)
            refine cT_if b_C_firstWrongPlace_65 (fun c_58 => ?_) (fun c_58 => ?_)
            · rw [t_eq] at c_58; try rw [t_0] at c_58
              exact cT_ret b_C_firstWrongPlace_71 hI hF ⟨_, rfl, ⟨by have z0 : (nI 0).toInt = 0 := nI_toInt (by decide); have z1 : (nI 51).toInt = 51 := nI_toInt (by decide); have z2 : (nI 55).toInt = 55 := nI_toInt (by decide); have h0 := wd_c (nI 0).toInt; have h1 := wd_c (nI 51).toInt; have h2 := wd_c (nI 55).toInt; have h3 := wd_c x3.toInt; first | (rw [← i7]; exact fw_bd (r' := ((f a0 1).toInt - x4.toInt).toNat - 1) (by omega) (by rw [t_cl]; omega) (by first | exact Or.inl ⟨by omega, by omega⟩ | exact Or.inr (Or.inl ⟨by omega, by omega, by omega⟩) | exact Or.inr (Or.inr (Or.inl ⟨by omega, by omega, by omega⟩)) | exact Or.inr (Or.inr (Or.inr (Or.inl ⟨by omega, by omega, by omega⟩))) | exact Or.inr (Or.inr (Or.inr (Or.inr (⟨by omega, by omega, by omega, by omega, by omega, by omega, by omega⟩)))))) | (rw [← i7]; exact fw_en (by omega) (by have := t_cl x4; omega)), by omega⟩⟩
            · rw [t_eq] at c_58; try rw [t_0] at c_58
              refine cT_if b_C_firstWrongPlace_74 (fun c_60 => ?_) (fun c_60 => ?_)
              · rw [t_eq] at c_60; try rw [t_0] at c_60
                refine cT_go b_C_firstWrongPlace_84 ?_
                refine cT_go b_C_firstWrongPlace_91 ?_
                refine cT_go b_C_firstWrongPlace_159 ?_
                have t_62 : (nI 1).toInt = 1 := nI_toInt (by decide)
                first | have t_61 : (x2 + (nI 1)).toInt = (x2).toInt + ((nI 1)).toInt := t_addn (by omega) | obtain ⟨kt_61, t_61⟩ := t_add x2 (nI 1)
                have t_63 : (nI 51).toInt = 51 := nI_toInt (by decide)
                first | have t_64 : (x4 + (nI 1)).toInt = (x4).toInt + ((nI 1)).toInt := t_addn (by omega) | obtain ⟨kt_64, t_64⟩ := t_add x4 (nI 1)
                have t_65 : 0 ≤ (f a0 1).toInt ∧ (f a0 1).toInt ≤ (ln_ L (a0 + 1) : Int) := (cI_at hI 1 s0) rfl
                exact ih (by omega) hI hF s0 (by omega) (by omega) (by omega) (by omega) (by first | (rw [fwv_eq]; exact fw_in2) | (have z0 : (nI 0).toInt = 0 := nI_toInt (by decide); have z1 : (nI 51).toInt = 51 := nI_toInt (by decide); have z2 : (nI 55).toInt = 55 := nI_toInt (by decide); have h0 := wd_c (nI 0).toInt; have h1 := wd_c (nI 51).toInt; have h2 := wd_c (nI 55).toInt; have h3 := wd_c x3.toInt; rw [← i7]; exact (fw_go (by omega) (by rw [t_cl, t_cl]; omega) (by first | exact Or.inl ⟨by omega, by omega, by omega, by omega, by omega, by omega⟩ | exact Or.inr (Or.inl ⟨by omega, by omega, by omega, by omega, by omega, by omega⟩) | exact Or.inr (Or.inr (Or.inl ⟨by omega, by omega, by omega, by omega, by omega, by omega⟩)) | exact Or.inr (Or.inr (Or.inr (Or.inl ⟨by omega, by omega, by omega, by omega, by omega, by omega⟩))) | exact Or.inr (Or.inr (Or.inr (Or.inr (Or.inl ⟨by omega, by omega, by omega, by omega, by omega, by omega⟩)))) | exact Or.inr (Or.inr (Or.inr (Or.inr (Or.inr (⟨by omega, by omega, by omega, by omega, by omega⟩))))))).symm))
              · rw [t_eq] at c_60; try rw [t_0] at c_60
                refine cT_go b_C_firstWrongPlace_89 ?_
                refine cT_go b_C_firstWrongPlace_91 ?_
                refine cT_go b_C_firstWrongPlace_159 ?_
                have t_67 : (nI 1).toInt = 1 := nI_toInt (by decide)
                first | have t_66 : (x2 + (nI 1)).toInt = (x2).toInt + ((nI 1)).toInt := t_addn (by omega) | obtain ⟨kt_66, t_66⟩ := t_add x2 (nI 1)
                have t_68 : (nI 55).toInt = 55 := nI_toInt (by decide)
                first | have t_69 : (x4 + (nI 1)).toInt = (x4).toInt + ((nI 1)).toInt := t_addn (by omega) | obtain ⟨kt_69, t_69⟩ := t_add x4 (nI 1)
                have t_70 : 0 ≤ (f a0 1).toInt ∧ (f a0 1).toInt ≤ (ln_ L (a0 + 1) : Int) := (cI_at hI 1 s0) rfl
                exact ih (by omega) hI hF s0 (by omega) (by omega) (by omega) (by omega) (by first | (rw [fwv_eq]; exact fw_in2) | (have z0 : (nI 0).toInt = 0 := nI_toInt (by decide); have z1 : (nI 51).toInt = 51 := nI_toInt (by decide); have z2 : (nI 55).toInt = 55 := nI_toInt (by decide); have h0 := wd_c (nI 0).toInt; have h1 := wd_c (nI 51).toInt; have h2 := wd_c (nI 55).toInt; have h3 := wd_c x3.toInt; rw [← i7]; exact (fw_go (by omega) (by rw [t_cl, t_cl]; omega) (by first | exact Or.inl ⟨by omega, by omega, by omega, by omega, by omega, by omega⟩ | exact Or.inr (Or.inl ⟨by omega, by omega, by omega, by omega, by omega, by omega⟩) | exact Or.inr (Or.inr (Or.inl ⟨by omega, by omega, by omega, by omega, by omega, by omega⟩)) | exact Or.inr (Or.inr (Or.inr (Or.inl ⟨by omega, by omega, by omega, by omega, by omega, by omega⟩))) | exact Or.inr (Or.inr (Or.inr (Or.inr (Or.inl ⟨by omega, by omega, by omega, by omega, by omega, by omega⟩)))) | exact Or.inr (Or.inr (Or.inr (Or.inr (Or.inr (⟨by omega, by omega, by omega, by omega, by omega⟩))))))).symm))
          · rw [t_eq] at c_56; try rw [t_0] at c_56
            have t_72 : (nI 91).toInt = 91 := nI_toInt (by decide)
            refine cT_if b_C_firstWrongPlace_95 (fun c_71 => ?_) (fun c_71 => ?_)
            · rw [t_eq] at c_71; try rw [t_0] at c_71
              refine cT_if b_C_firstWrongPlace_109 (fun c_73 => ?_) (fun c_73 => ?_)
              · rw [t_eq] at c_73; try rw [t_0] at c_73
                refine cT_go b_C_firstWrongPlace_117 ?_
                have t_75 : (nI 1).toInt = 1 := nI_toInt (by decide)
                refine cT_if b_C_firstWrongPlace_122 (fun c_74 => ?_) (fun c_74 => ?_)
                · rw [t_eq] at c_74; try rw [t_0] at c_74
                  exact cT_ret b_C_firstWrongPlace_125 hI hF ⟨_, rfl, ⟨by have z0 : (nI 0).toInt = 0 := nI_toInt (by decide); have z1 : (nI 51).toInt = 51 := nI_toInt (by decide); have z2 : (nI 55).toInt = 55 := nI_toInt (by decide); have h0 := wd_c (nI 0).toInt; have h1 := wd_c (nI 51).toInt; have h2 := wd_c (nI 55).toInt; have h3 := wd_c x3.toInt; first | (rw [← i7]; exact fw_bd (r' := ((f a0 1).toInt - x4.toInt).toNat - 1) (by omega) (by rw [t_cl]; omega) (by first | exact Or.inl ⟨by omega, by omega⟩ | exact Or.inr (Or.inl ⟨by omega, by omega, by omega⟩) | exact Or.inr (Or.inr (Or.inl ⟨by omega, by omega, by omega⟩)) | exact Or.inr (Or.inr (Or.inr (Or.inl ⟨by omega, by omega, by omega⟩))) | exact Or.inr (Or.inr (Or.inr (Or.inr (⟨by omega, by omega, by omega, by omega, by omega, by omega, by omega⟩)))))) | (rw [← i7]; exact fw_en (by omega) (by have := t_cl x4; omega)), by omega⟩⟩
                · rw [t_eq] at c_74; try rw [t_0] at c_74
                  refine cT_if b_C_firstWrongPlace_128 (fun c_76 => ?_) (fun c_76 => ?_)
                  · rw [t_eq] at c_76; try rw [t_0] at c_76
                    refine cT_go b_C_firstWrongPlace_132 ?_
                    refine cT_go b_C_firstWrongPlace_137 ?_
                    refine cT_go b_C_firstWrongPlace_159 ?_
                    first | have t_77 : (x4 + (nI 1)).toInt = (x4).toInt + ((nI 1)).toInt := t_addn (by omega) | obtain ⟨kt_77, t_77⟩ := t_add x4 (nI 1)
                    have t_78 : 0 ≤ (f a0 1).toInt ∧ (f a0 1).toInt ≤ (ln_ L (a0 + 1) : Int) := (cI_at hI 1 s0) rfl
                    exact ih (by omega) hI hF s0 (by omega) (by omega) (by omega) (by omega) (by first | (rw [fwv_eq]; exact fw_in2) | (have z0 : (nI 0).toInt = 0 := nI_toInt (by decide); have z1 : (nI 51).toInt = 51 := nI_toInt (by decide); have z2 : (nI 55).toInt = 55 := nI_toInt (by decide); have h0 := wd_c (nI 0).toInt; have h1 := wd_c (nI 51).toInt; have h2 := wd_c (nI 55).toInt; have h3 := wd_c x3.toInt; rw [← i7]; exact (fw_go (by omega) (by rw [t_cl, t_cl]; omega) (by first | exact Or.inl ⟨by omega, by omega, by omega, by omega, by omega, by omega⟩ | exact Or.inr (Or.inl ⟨by omega, by omega, by omega, by omega, by omega, by omega⟩) | exact Or.inr (Or.inr (Or.inl ⟨by omega, by omega, by omega, by omega, by omega, by omega⟩)) | exact Or.inr (Or.inr (Or.inr (Or.inl ⟨by omega, by omega, by omega, by omega, by omega, by omega⟩))) | exact Or.inr (Or.inr (Or.inr (Or.inr (Or.inl ⟨by omega, by omega, by omega, by omega, by omega, by omega⟩)))) | exact Or.inr (Or.inr (Or.inr (Or.inr (Or.inr (⟨by omega, by omega, by omega, by omega, by omega⟩))))))).symm))
                  · rw [t_eq] at c_76; try rw [t_0] at c_76
                    refine cT_go b_C_firstWrongPlace_136 ?_
                    refine cT_go b_C_firstWrongPlace_137 ?_
                    refine cT_go b_C_firstWrongPlace_159 ?_
                    have t_79 : (nI 0).toInt = 0 := nI_toInt (by decide)
                    first | have t_80 : (x4 + (nI 1)).toInt = (x4).toInt + ((nI 1)).toInt := t_addn (by omega) | obtain ⟨kt_80, t_80⟩ := t_add x4 (nI 1)
                    have t_81 : 0 ≤ (f a0 1).toInt ∧ (f a0 1).toInt ≤ (ln_ L (a0 + 1) : Int) := (cI_at hI 1 s0) rfl
                    exact ih (by omega) hI hF s0 (by omega) (by omega) (by omega) (by omega) (by first | (rw [fwv_eq]; exact fw_in2) | (have z0 : (nI 0).toInt = 0 := nI_toInt (by decide); have z1 : (nI 51).toInt = 51 := nI_toInt (by decide); have z2 : (nI 55).toInt = 55 := nI_toInt (by decide); have h0 := wd_c (nI 0).toInt; have h1 := wd_c (nI 51).toInt; have h2 := wd_c (nI 55).toInt; have h3 := wd_c x3.toInt; rw [← i7]; exact (fw_go (by omega) (by rw [t_cl, t_cl]; omega) (by first | exact Or.inl ⟨by omega, by omega, by omega, by omega, by omega, by omega⟩ | exact Or.inr (Or.inl ⟨by omega, by omega, by omega, by omega, by omega, by omega⟩) | exact Or.inr (Or.inr (Or.inl ⟨by omega, by omega, by omega, by omega, by omega, by omega⟩)) | exact Or.inr (Or.inr (Or.inr (Or.inl ⟨by omega, by omega, by omega, by omega, by omega, by omega⟩))) | exact Or.inr (Or.inr (Or.inr (Or.inr (Or.inl ⟨by omega, by omega, by omega, by omega, by omega, by omega⟩)))) | exact Or.inr (Or.inr (Or.inr (Or.inr (Or.inr (⟨by omega, by omega, by omega, by omega, by omega⟩))))))).symm))
              · rw [t_eq] at c_73; try rw [t_0] at c_73
                refine cT_go b_C_firstWrongPlace_121 ?_
                have t_83 : (nI 0).toInt = 0 := nI_toInt (by decide)
                refine cT_if b_C_firstWrongPlace_122 (fun c_82 => ?_) (fun c_82 => ?_)
                · rw [t_eq] at c_82; try rw [t_0] at c_82
                  exact cT_ret b_C_firstWrongPlace_125 hI hF ⟨_, rfl, ⟨by have z0 : (nI 0).toInt = 0 := nI_toInt (by decide); have z1 : (nI 51).toInt = 51 := nI_toInt (by decide); have z2 : (nI 55).toInt = 55 := nI_toInt (by decide); have h0 := wd_c (nI 0).toInt; have h1 := wd_c (nI 51).toInt; have h2 := wd_c (nI 55).toInt; have h3 := wd_c x3.toInt; first | (rw [← i7]; exact fw_bd (r' := ((f a0 1).toInt - x4.toInt).toNat - 1) (by omega) (by rw [t_cl]; omega) (by first | exact Or.inl ⟨by omega, by omega⟩ | exact Or.inr (Or.inl ⟨by omega, by omega, by omega⟩) | exact Or.inr (Or.inr (Or.inl ⟨by omega, by omega, by omega⟩)) | exact Or.inr (Or.inr (Or.inr (Or.inl ⟨by omega, by omega, by omega⟩))) | exact Or.inr (Or.inr (Or.inr (Or.inr (⟨by omega, by omega, by omega, by omega, by omega, by omega, by omega⟩)))))) | (rw [← i7]; exact fw_en (by omega) (by have := t_cl x4; omega)), by omega⟩⟩
                · rw [t_eq] at c_82; try rw [t_0] at c_82
                  refine cT_if b_C_firstWrongPlace_128 (fun c_84 => ?_) (fun c_84 => ?_)
                  · rw [t_eq] at c_84; try rw [t_0] at c_84
                    refine cT_go b_C_firstWrongPlace_132 ?_
                    refine cT_go b_C_firstWrongPlace_137 ?_
                    refine cT_go b_C_firstWrongPlace_159 ?_
                    have t_85 : (nI 1).toInt = 1 := nI_toInt (by decide)
                    first | have t_86 : (x4 + (nI 1)).toInt = (x4).toInt + ((nI 1)).toInt := t_addn (by omega) | obtain ⟨kt_86, t_86⟩ := t_add x4 (nI 1)
                    have t_87 : 0 ≤ (f a0 1).toInt ∧ (f a0 1).toInt ≤ (ln_ L (a0 + 1) : Int) := (cI_at hI 1 s0) rfl
                    exact ih (by omega) hI hF s0 (by omega) (by omega) (by omega) (by omega) (by first | (rw [fwv_eq]; exact fw_in2) | (have z0 : (nI 0).toInt = 0 := nI_toInt (by decide); have z1 : (nI 51).toInt = 51 := nI_toInt (by decide); have z2 : (nI 55).toInt = 55 := nI_toInt (by decide); have h0 := wd_c (nI 0).toInt; have h1 := wd_c (nI 51).toInt; have h2 := wd_c (nI 55).toInt; have h3 := wd_c x3.toInt; rw [← i7]; exact (fw_go (by omega) (by rw [t_cl, t_cl]; omega) (by first | exact Or.inl ⟨by omega, by omega, by omega, by omega, by omega, by omega⟩ | exact Or.inr (Or.inl ⟨by omega, by omega, by omega, by omega, by omega, by omega⟩) | exact Or.inr (Or.inr (Or.inl ⟨by omega, by omega, by omega, by omega, by omega, by omega⟩)) | exact Or.inr (Or.inr (Or.inr (Or.inl ⟨by omega, by omega, by omega, by omega, by omega, by omega⟩))) | exact Or.inr (Or.inr (Or.inr (Or.inr (Or.inl ⟨by omega, by omega, by omega, by omega, by omega, by omega⟩)))) | exact Or.inr (Or.inr (Or.inr (Or.inr (Or.inr (⟨by omega, by omega, by omega, by omega, by omega⟩))))))).symm))
                  · rw [t_eq] at c_84; try rw [t_0] at c_84
                    refine cT_go b_C_firstWrongPlace_136 ?_
                    refine cT_go b_C_firstWrongPlace_137 ?_
                    refine cT_go b_C_firstWrongPlace_159 ?_
                    have t_89 : (nI 1).toInt = 1 := nI_toInt (by decide)
                    first | have t_88 : (x4 + (nI 1)).toInt = (x4).toInt + ((nI 1)).toInt := t_addn (by omega) | obtain ⟨kt_88, t_88⟩ := t_add x4 (nI 1)
                    have t_90 : 0 ≤ (f a0 1).toInt ∧ (f a0 1).toInt ≤ (ln_ L (a0 + 1) : Int) := (cI_at hI 1 s0) rfl
                    exact ih (by omega) hI hF s0 (by omega) (by omega) (by omega) (by omega) (by first | (rw [fwv_eq]; exact fw_in2) | (have z0 : (nI 0).toInt = 0 := nI_toInt (by decide); have z1 : (nI 51).toInt = 51 := nI_toInt (by decide); have z2 : (nI 55).toInt = 55 := nI_toInt (by decide); have h0 := wd_c (nI 0).toInt; have h1 := wd_c (nI 51).toInt; have h2 := wd_c (nI 55).toInt; have h3 := wd_c x3.toInt; rw [← i7]; exact (fw_go (by omega) (by rw [t_cl, t_cl]; omega) (by first | exact Or.inl ⟨by omega, by omega, by omega, by omega, by omega, by omega⟩ | exact Or.inr (Or.inl ⟨by omega, by omega, by omega, by omega, by omega, by omega⟩) | exact Or.inr (Or.inr (Or.inl ⟨by omega, by omega, by omega, by omega, by omega, by omega⟩)) | exact Or.inr (Or.inr (Or.inr (Or.inl ⟨by omega, by omega, by omega, by omega, by omega, by omega⟩))) | exact Or.inr (Or.inr (Or.inr (Or.inr (Or.inl ⟨by omega, by omega, by omega, by omega, by omega, by omega⟩)))) | exact Or.inr (Or.inr (Or.inr (Or.inr (Or.inr (⟨by omega, by omega, by omega, by omega, by omega⟩))))))).symm))
            · rw [t_eq] at c_71; try rw [t_0] at c_71
              have t_92 : (nI 93).toInt = 93 := nI_toInt (by decide)
              refine cT_if b_C_firstWrongPlace_102 (fun c_91 => ?_) (fun c_91 => ?_)
              · rw [t_eq] at c_91; try rw [t_0] at c_91
                refine cT_if b_C_firstWrongPlace_109 (fun c_93 => ?_) (fun c_93 => ?_)
                · rw [t_eq] at c_93; try rw [t_0] at c_93
                  refine cT_go b_C_firstWrongPlace_117 ?_
                  have t_95 : (nI 1).toInt = 1 := nI_toInt (by decide)
                  refine cT_if b_C_firstWrongPlace_122 (fun c_94 => ?_) (fun c_94 => ?_)
                  · rw [t_eq] at c_94; try rw [t_0] at c_94
                    exact cT_ret b_C_firstWrongPlace_125 hI hF ⟨_, rfl, ⟨by have z0 : (nI 0).toInt = 0 := nI_toInt (by decide); have z1 : (nI 51).toInt = 51 := nI_toInt (by decide); have z2 : (nI 55).toInt = 55 := nI_toInt (by decide); have h0 := wd_c (nI 0).toInt; have h1 := wd_c (nI 51).toInt; have h2 := wd_c (nI 55).toInt; have h3 := wd_c x3.toInt; first | (rw [← i7]; exact fw_bd (r' := ((f a0 1).toInt - x4.toInt).toNat - 1) (by omega) (by rw [t_cl]; omega) (by first | exact Or.inl ⟨by omega, by omega⟩ | exact Or.inr (Or.inl ⟨by omega, by omega, by omega⟩) | exact Or.inr (Or.inr (Or.inl ⟨by omega, by omega, by omega⟩)) | exact Or.inr (Or.inr (Or.inr (Or.inl ⟨by omega, by omega, by omega⟩))) | exact Or.inr (Or.inr (Or.inr (Or.inr (⟨by omega, by omega, by omega, by omega, by omega, by omega, by omega⟩)))))) | (rw [← i7]; exact fw_en (by omega) (by have := t_cl x4; omega)), by omega⟩⟩
                  · rw [t_eq] at c_94; try rw [t_0] at c_94
                    refine cT_if b_C_firstWrongPlace_128 (fun c_96 => ?_) (fun c_96 => ?_)
                    · rw [t_eq] at c_96; try rw [t_0] at c_96
                      refine cT_go b_C_firstWrongPlace_132 ?_
                      refine cT_go b_C_firstWrongPlace_137 ?_
                      refine cT_go b_C_firstWrongPlace_159 ?_
                      first | have t_97 : (x4 + (nI 1)).toInt = (x4).toInt + ((nI 1)).toInt := t_addn (by omega) | obtain ⟨kt_97, t_97⟩ := t_add x4 (nI 1)
                      have t_98 : 0 ≤ (f a0 1).toInt ∧ (f a0 1).toInt ≤ (ln_ L (a0 + 1) : Int) := (cI_at hI 1 s0) rfl
                      exact ih (by omega) hI hF s0 (by omega) (by omega) (by omega) (by omega) (by first | (rw [fwv_eq]; exact fw_in2) | (have z0 : (nI 0).toInt = 0 := nI_toInt (by decide); have z1 : (nI 51).toInt = 51 := nI_toInt (by decide); have z2 : (nI 55).toInt = 55 := nI_toInt (by decide); have h0 := wd_c (nI 0).toInt; have h1 := wd_c (nI 51).toInt; have h2 := wd_c (nI 55).toInt; have h3 := wd_c x3.toInt; rw [← i7]; exact (fw_go (by omega) (by rw [t_cl, t_cl]; omega) (by first | exact Or.inl ⟨by omega, by omega, by omega, by omega, by omega, by omega⟩ | exact Or.inr (Or.inl ⟨by omega, by omega, by omega, by omega, by omega, by omega⟩) | exact Or.inr (Or.inr (Or.inl ⟨by omega, by omega, by omega, by omega, by omega, by omega⟩)) | exact Or.inr (Or.inr (Or.inr (Or.inl ⟨by omega, by omega, by omega, by omega, by omega, by omega⟩))) | exact Or.inr (Or.inr (Or.inr (Or.inr (Or.inl ⟨by omega, by omega, by omega, by omega, by omega, by omega⟩)))) | exact Or.inr (Or.inr (Or.inr (Or.inr (Or.inr (⟨by omega, by omega, by omega, by omega, by omega⟩))))))).symm))
                    · rw [t_eq] at c_96; try rw [t_0] at c_96
                      refine cT_go b_C_firstWrongPlace_136 ?_
                      refine cT_go b_C_firstWrongPlace_137 ?_
                      refine cT_go b_C_firstWrongPlace_159 ?_
                      have t_99 : (nI 0).toInt = 0 := nI_toInt (by decide)
                      first | have t_100 : (x4 + (nI 1)).toInt = (x4).toInt + ((nI 1)).toInt := t_addn (by omega) | obtain ⟨kt_100, t_100⟩ := t_add x4 (nI 1)
                      have t_101 : 0 ≤ (f a0 1).toInt ∧ (f a0 1).toInt ≤ (ln_ L (a0 + 1) : Int) := (cI_at hI 1 s0) rfl
                      exact ih (by omega) hI hF s0 (by omega) (by omega) (by omega) (by omega) (by first | (rw [fwv_eq]; exact fw_in2) | (have z0 : (nI 0).toInt = 0 := nI_toInt (by decide); have z1 : (nI 51).toInt = 51 := nI_toInt (by decide); have z2 : (nI 55).toInt = 55 := nI_toInt (by decide); have h0 := wd_c (nI 0).toInt; have h1 := wd_c (nI 51).toInt; have h2 := wd_c (nI 55).toInt; have h3 := wd_c x3.toInt; rw [← i7]; exact (fw_go (by omega) (by rw [t_cl, t_cl]; omega) (by first | exact Or.inl ⟨by omega, by omega, by omega, by omega, by omega, by omega⟩ | exact Or.inr (Or.inl ⟨by omega, by omega, by omega, by omega, by omega, by omega⟩) | exact Or.inr (Or.inr (Or.inl ⟨by omega, by omega, by omega, by omega, by omega, by omega⟩)) | exact Or.inr (Or.inr (Or.inr (Or.inl ⟨by omega, by omega, by omega, by omega, by omega, by omega⟩))) | exact Or.inr (Or.inr (Or.inr (Or.inr (Or.inl ⟨by omega, by omega, by omega, by omega, by omega, by omega⟩)))) | exact Or.inr (Or.inr (Or.inr (Or.inr (Or.inr (⟨by omega, by omega, by omega, by omega, by omega⟩))))))).symm))
                · rw [t_eq] at c_93; try rw [t_0] at c_93
                  refine cT_go b_C_firstWrongPlace_121 ?_
                  have t_103 : (nI 0).toInt = 0 := nI_toInt (by decide)
                  refine cT_if b_C_firstWrongPlace_122 (fun c_102 => ?_) (fun c_102 => ?_)
                  · rw [t_eq] at c_102; try rw [t_0] at c_102
                    exact cT_ret b_C_firstWrongPlace_125 hI hF ⟨_, rfl, ⟨by have z0 : (nI 0).toInt = 0 := nI_toInt (by decide); have z1 : (nI 51).toInt = 51 := nI_toInt (by decide); have z2 : (nI 55).toInt = 55 := nI_toInt (by decide); have h0 := wd_c (nI 0).toInt; have h1 := wd_c (nI 51).toInt; have h2 := wd_c (nI 55).toInt; have h3 := wd_c x3.toInt; first | (rw [← i7]; exact fw_bd (r' := ((f a0 1).toInt - x4.toInt).toNat - 1) (by omega) (by rw [t_cl]; omega) (by first | exact Or.inl ⟨by omega, by omega⟩ | exact Or.inr (Or.inl ⟨by omega, by omega, by omega⟩) | exact Or.inr (Or.inr (Or.inl ⟨by omega, by omega, by omega⟩)) | exact Or.inr (Or.inr (Or.inr (Or.inl ⟨by omega, by omega, by omega⟩))) | exact Or.inr (Or.inr (Or.inr (Or.inr (⟨by omega, by omega, by omega, by omega, by omega, by omega, by omega⟩)))))) | (rw [← i7]; exact fw_en (by omega) (by have := t_cl x4; omega)), by omega⟩⟩
                  · rw [t_eq] at c_102; try rw [t_0] at c_102
                    refine cT_if b_C_firstWrongPlace_128 (fun c_104 => ?_) (fun c_104 => ?_)
                    · rw [t_eq] at c_104; try rw [t_0] at c_104
                      refine cT_go b_C_firstWrongPlace_132 ?_
                      refine cT_go b_C_firstWrongPlace_137 ?_
                      refine cT_go b_C_firstWrongPlace_159 ?_
                      have t_105 : (nI 1).toInt = 1 := nI_toInt (by decide)
                      first | have t_106 : (x4 + (nI 1)).toInt = (x4).toInt + ((nI 1)).toInt := t_addn (by omega) | obtain ⟨kt_106, t_106⟩ := t_add x4 (nI 1)
                      have t_107 : 0 ≤ (f a0 1).toInt ∧ (f a0 1).toInt ≤ (ln_ L (a0 + 1) : Int) := (cI_at hI 1 s0) rfl
                      exact ih (by omega) hI hF s0 (by omega) (by omega) (by omega) (by omega) (by first | (rw [fwv_eq]; exact fw_in2) | (have z0 : (nI 0).toInt = 0 := nI_toInt (by decide); have z1 : (nI 51).toInt = 51 := nI_toInt (by decide); have z2 : (nI 55).toInt = 55 := nI_toInt (by decide); have h0 := wd_c (nI 0).toInt; have h1 := wd_c (nI 51).toInt; have h2 := wd_c (nI 55).toInt; have h3 := wd_c x3.toInt; rw [← i7]; exact (fw_go (by omega) (by rw [t_cl, t_cl]; omega) (by first | exact Or.inl ⟨by omega, by omega, by omega, by omega, by omega, by omega⟩ | exact Or.inr (Or.inl ⟨by omega, by omega, by omega, by omega, by omega, by omega⟩) | exact Or.inr (Or.inr (Or.inl ⟨by omega, by omega, by omega, by omega, by omega, by omega⟩)) | exact Or.inr (Or.inr (Or.inr (Or.inl ⟨by omega, by omega, by omega, by omega, by omega, by omega⟩))) | exact Or.inr (Or.inr (Or.inr (Or.inr (Or.inl ⟨by omega, by omega, by omega, by omega, by omega, by omega⟩)))) | exact Or.inr (Or.inr (Or.inr (Or.inr (Or.inr (⟨by omega, by omega, by omega, by omega, by omega⟩))))))).symm))
                    · rw [t_eq] at c_104; try rw [t_0] at c_104
                      refine cT_go b_C_firstWrongPlace_136 ?_
                      refine cT_go b_C_firstWrongPlace_137 ?_
                      refine cT_go b_C_firstWrongPlace_159 ?_
                      have t_109 : (nI 1).toInt = 1 := nI_toInt (by decide)
                      first | have t_108 : (x4 + (nI 1)).toInt = (x4).toInt + ((nI 1)).toInt := t_addn (by omega) | obtain ⟨kt_108, t_108⟩ := t_add x4 (nI 1)
                      have t_110 : 0 ≤ (f a0 1).toInt ∧ (f a0 1).toInt ≤ (ln_ L (a0 + 1) : Int) := (cI_at hI 1 s0) rfl
                      exact ih (by omega) hI hF s0 (by omega) (by omega) (by omega) (by omega) (by first | (rw [fwv_eq]; exact fw_in2) | (have z0 : (nI 0).toInt = 0 := nI_toInt (by decide); have z1 : (nI 51).toInt = 51 := nI_toInt (by decide); have z2 : (nI 55).toInt = 55 := nI_toInt (by decide); have h0 := wd_c (nI 0).toInt; have h1 := wd_c (nI 51).toInt; have h2 := wd_c (nI 55).toInt; have h3 := wd_c x3.toInt; rw [← i7]; exact (fw_go (by omega) (by rw [t_cl, t_cl]; omega) (by first | exact Or.inl ⟨by omega, by omega, by omega, by omega, by omega, by omega⟩ | exact Or.inr (Or.inl ⟨by omega, by omega, by omega, by omega, by omega, by omega⟩) | exact Or.inr (Or.inr (Or.inl ⟨by omega, by omega, by omega, by omega, by omega, by omega⟩)) | exact Or.inr (Or.inr (Or.inr (Or.inl ⟨by omega, by omega, by omega, by omega, by omega, by omega⟩))) | exact Or.inr (Or.inr (Or.inr (Or.inr (Or.inl ⟨by omega, by omega, by omega, by omega, by omega, by omega⟩)))) | exact Or.inr (Or.inr (Or.inr (Or.inr (Or.inr (⟨by omega, by omega, by omega, by omega, by omega⟩))))))).symm))
              · rw [t_eq] at c_91; try rw [t_0] at c_91
                have t_112 : (nI 32).toInt = 32 := nI_toInt (by decide)
                refine cT_if b_C_firstWrongPlace_141 (fun c_111 => ?_) (fun c_111 => ?_)
                · rw [t_eq] at c_111; try rw [t_0] at c_111
                  refine cT_go b_C_firstWrongPlace_159 ?_
                  have t_114 : (nI 1).toInt = 1 := nI_toInt (by decide)
                  first | have t_113 : (x4 + (nI 1)).toInt = (x4).toInt + ((nI 1)).toInt := t_addn (by omega) | obtain ⟨kt_113, t_113⟩ := t_add x4 (nI 1)
                  have t_115 : 0 ≤ (f a0 1).toInt ∧ (f a0 1).toInt ≤ (ln_ L (a0 + 1) : Int) := (cI_at hI 1 s0) rfl
                  exact ih (by omega) hI hF s0 (by omega) (by omega) (by omega) (by omega) (by first | (rw [fwv_eq]; exact fw_in2) | (have z0 : (nI 0).toInt = 0 := nI_toInt (by decide); have z1 : (nI 51).toInt = 51 := nI_toInt (by decide); have z2 : (nI 55).toInt = 55 := nI_toInt (by decide); have h0 := wd_c (nI 0).toInt; have h1 := wd_c (nI 51).toInt; have h2 := wd_c (nI 55).toInt; have h3 := wd_c x3.toInt; rw [← i7]; exact (fw_go (by omega) (by rw [t_cl, t_cl]; omega) (by first | exact Or.inl ⟨by omega, by omega, by omega, by omega, by omega, by omega⟩ | exact Or.inr (Or.inl ⟨by omega, by omega, by omega, by omega, by omega, by omega⟩) | exact Or.inr (Or.inr (Or.inl ⟨by omega, by omega, by omega, by omega, by omega, by omega⟩)) | exact Or.inr (Or.inr (Or.inr (Or.inl ⟨by omega, by omega, by omega, by omega, by omega, by omega⟩))) | exact Or.inr (Or.inr (Or.inr (Or.inr (Or.inl ⟨by omega, by omega, by omega, by omega, by omega, by omega⟩)))) | exact Or.inr (Or.inr (Or.inr (Or.inr (Or.inr (⟨by omega, by omega, by omega, by omega, by omega⟩))))))).symm))
                · rw [t_eq] at c_111; try rw [t_0] at c_111
                  refine cT_call b_C_firstWrongPlace_148 (c_C_isLetter hI) hF (fun o ho => ho.elim) (fun v_116 f_117 hI_118 hG_119 hF_120 hQ_121 => ?_)
                  obtain rfl := cF_no hG_119
                  obtain ⟨y_122, rfl, hb_123, hQ_121⟩ := hQ_121
                  have hb_123r := t_b01 hb_123
                  show cT 63 153 [.ref a0, .int x1, .int x2, .int x3, .int x4, .int y_37] [.int y_122] _ _ _ _ _ _
                  refine cT_if b_C_firstWrongPlace_153 (fun c_124 => ?_) (fun c_124 => ?_)
                  · rw [t_eq] at c_124; try rw [t_0] at c_124
                    exact cT_ret b_C_firstWrongPlace_156 hI hF ⟨_, rfl, ⟨by have z0 : (nI 0).toInt = 0 := nI_toInt (by decide); have z1 : (nI 51).toInt = 51 := nI_toInt (by decide); have z2 : (nI 55).toInt = 55 := nI_toInt (by decide); have h0 := wd_c (nI 0).toInt; have h1 := wd_c (nI 51).toInt; have h2 := wd_c (nI 55).toInt; have h3 := wd_c x3.toInt; first | (rw [← i7]; exact fw_bd (r' := ((f a0 1).toInt - x4.toInt).toNat - 1) (by omega) (by rw [t_cl]; omega) (by first | exact Or.inl ⟨by omega, by omega⟩ | exact Or.inr (Or.inl ⟨by omega, by omega, by omega⟩) | exact Or.inr (Or.inr (Or.inl ⟨by omega, by omega, by omega⟩)) | exact Or.inr (Or.inr (Or.inr (Or.inl ⟨by omega, by omega, by omega⟩))) | exact Or.inr (Or.inr (Or.inr (Or.inr (⟨by omega, by omega, by omega, by omega, by omega, by omega, by omega⟩)))))) | (rw [← i7]; exact fw_en (by omega) (by have := t_cl x4; omega)), by omega⟩⟩
                  · rw [t_eq] at c_124; try rw [t_0] at c_124
                    refine cT_go b_C_firstWrongPlace_159 ?_
                    have t_126 : (nI 1).toInt = 1 := nI_toInt (by decide)
                    first | have t_125 : (x4 + (nI 1)).toInt = (x4).toInt + ((nI 1)).toInt := t_addn (by omega) | obtain ⟨kt_125, t_125⟩ := t_add x4 (nI 1)
                    have t_127 : 0 ≤ (f a0 1).toInt ∧ (f a0 1).toInt ≤ (ln_ L (a0 + 1) : Int) := (cI_at hI 1 s0) rfl
                    exact ih (by omega) hI hF s0 (by omega) (by omega) (by omega) (by omega) (by first | (rw [fwv_eq]; exact fw_in2) | (have z0 : (nI 0).toInt = 0 := nI_toInt (by decide); have z1 : (nI 51).toInt = 51 := nI_toInt (by decide); have z2 : (nI 55).toInt = 55 := nI_toInt (by decide); have h0 := wd_c (nI 0).toInt; have h1 := wd_c (nI 51).toInt; have h2 := wd_c (nI 55).toInt; have h3 := wd_c x3.toInt; rw [← i7]; exact (fw_go (by omega) (by rw [t_cl, t_cl]; omega) (by first | exact Or.inl ⟨by omega, by omega, by omega, by omega, by omega, by omega⟩ | exact Or.inr (Or.inl ⟨by omega, by omega, by omega, by omega, by omega, by omega⟩) | exact Or.inr (Or.inr (Or.inl ⟨by omega, by omega, by omega, by omega, by omega, by omega⟩)) | exact Or.inr (Or.inr (Or.inr (Or.inl ⟨by omega, by omega, by omega, by omega, by omega, by omega⟩))) | exact Or.inr (Or.inr (Or.inr (Or.inr (Or.inl ⟨by omega, by omega, by omega, by omega, by omega, by omega⟩)))) | exact Or.inr (Or.inr (Or.inr (Or.inr (Or.inr (⟨by omega, by omega, by omega, by omega, by omega⟩))))))).symm))
      · rw [t_eq] at c_39; try rw [t_0] at c_39
        have t_129 : (nI 48).toInt = 48 := nI_toInt (by decide)
        refine cT_if b_C_firstWrongPlace_30 (fun c_128 => ?_) (fun c_128 => ?_)
        · rw [t_lt] at c_128; try rw [t_0] at c_128
          exact cT_ret b_C_firstWrongPlace_43 hI hF ⟨_, rfl, ⟨by have z0 : (nI 0).toInt = 0 := nI_toInt (by decide); have z1 : (nI 51).toInt = 51 := nI_toInt (by decide); have z2 : (nI 55).toInt = 55 := nI_toInt (by decide); have h0 := wd_c (nI 0).toInt; have h1 := wd_c (nI 51).toInt; have h2 := wd_c (nI 55).toInt; have h3 := wd_c x3.toInt; first | (rw [← i7]; exact fw_bd (r' := ((f a0 1).toInt - x4.toInt).toNat - 1) (by omega) (by rw [t_cl]; omega) (by first | exact Or.inl ⟨by omega, by omega⟩ | exact Or.inr (Or.inl ⟨by omega, by omega, by omega⟩) | exact Or.inr (Or.inr (Or.inl ⟨by omega, by omega, by omega⟩)) | exact Or.inr (Or.inr (Or.inr (Or.inl ⟨by omega, by omega, by omega⟩))) | exact Or.inr (Or.inr (Or.inr (Or.inr (⟨by omega, by omega, by omega, by omega, by omega, by omega, by omega⟩)))))) | (rw [← i7]; exact fw_en (by omega) (by have := t_cl x4; omega)), by omega⟩⟩
        · rw [t_lt] at c_128; try rw [t_0] at c_128
          refine cT_if b_C_firstWrongPlace_37 (fun c_130 => ?_) (fun c_130 => ?_)
          · rw [t_le] at c_130; try rw [t_0] at c_130
            refine cT_go b_C_firstWrongPlace_46 ?_
            refine cT_go b_C_firstWrongPlace_159 ?_
            have t_131 : (nI 0).toInt = 0 := nI_toInt (by decide)
            have t_133 : (nI 1).toInt = 1 := nI_toInt (by decide)
            first | have t_132 : (x4 + (nI 1)).toInt = (x4).toInt + ((nI 1)).toInt := t_addn (by omega) | obtain ⟨kt_132, t_132⟩ := t_add x4 (nI 1)
            have t_134 : 0 ≤ (f a0 1).toInt ∧ (f a0 1).toInt ≤ (ln_ L (a0 + 1) : Int) := (cI_at hI 1 s0) rfl
            exact ih (by omega) hI hF s0 (by omega) (by omega) (by omega) (by omega) (by first | (rw [fwv_eq]; exact fw_in2) | (have z0 : (nI 0).toInt = 0 := nI_toInt (by decide); have z1 : (nI 51).toInt = 51 := nI_toInt (by decide); have z2 : (nI 55).toInt = 55 := nI_toInt (by decide); have h0 := wd_c (nI 0).toInt; have h1 := wd_c (nI 51).toInt; have h2 := wd_c (nI 55).toInt; have h3 := wd_c x3.toInt; rw [← i7]; exact (fw_go (by omega) (by rw [t_cl, t_cl]; omega) (by first | exact Or.inl ⟨by omega, by omega, by omega, by omega, by omega, by omega⟩ | exact Or.inr (Or.inl ⟨by omega, by omega, by omega, by omega, by omega, by omega⟩) | exact Or.inr (Or.inr (Or.inl ⟨by omega, by omega, by omega, by omega, by omega, by omega⟩)) | exact Or.inr (Or.inr (Or.inr (Or.inl ⟨by omega, by omega, by omega, by omega, by omega, by omega⟩))) | exact Or.inr (Or.inr (Or.inr (Or.inr (Or.inl ⟨by omega, by omega, by omega, by omega, by omega, by omega⟩)))) | exact Or.inr (Or.inr (Or.inr (Or.inr (Or.inr (⟨by omega, by omega, by omega, by omega, by omega⟩))))))).symm))
          · rw [t_le] at c_130; try rw [t_0] at c_130
            exact cT_ret b_C_firstWrongPlace_43 hI hF ⟨_, rfl, ⟨by have z0 : (nI 0).toInt = 0 := nI_toInt (by decide); have z1 : (nI 51).toInt = 51 := nI_toInt (by decide); have z2 : (nI 55).toInt = 55 := nI_toInt (by decide); have h0 := wd_c (nI 0).toInt; have h1 := wd_c (nI 51).toInt; have h2 := wd_c (nI 55).toInt; have h3 := wd_c x3.toInt; first | (rw [← i7]; exact fw_bd (r' := ((f a0 1).toInt - x4.toInt).toNat - 1) (by omega) (by rw [t_cl]; omega) (by first | exact Or.inl ⟨by omega, by omega⟩ | exact Or.inr (Or.inl ⟨by omega, by omega, by omega⟩) | exact Or.inr (Or.inr (Or.inl ⟨by omega, by omega, by omega⟩)) | exact Or.inr (Or.inr (Or.inr (Or.inl ⟨by omega, by omega, by omega⟩))) | exact Or.inr (Or.inr (Or.inr (Or.inr (⟨by omega, by omega, by omega, by omega, by omega, by omega, by omega⟩)))))) | (rw [← i7]; exact fw_en (by omega) (by have := t_cl x4; omega)), by omega⟩⟩
set_option maxHeartbeats 8000000 in
theorem c_C_firstWrongPlace {L : Nat} {f : cg_G} {e : Nat × Nat} {a0 : Nat} (hI : cI L f) (s0 : sh_ a0 = 6)  : cE 63 [.ref a0] L e (fun o => False) f (fun v f' => ∃ x : Int32, v = some (.int x) ∧ (x.toInt = fwv (f (a0 + 1)) (f a0 1) ∧ -1 ≤ x.toInt ∧ x.toInt ≤ (f a0 1).toInt)) := by
  refine cE_of (ls := [.ref a0, (.retAddr 0), (.retAddr 0), (.retAddr 0), (.retAddr 0), (.retAddr 0)]) rfl ?_
  have hF : cF (fun o => False) f f := cF_rf
  have hl := ln_lt (L := L) (a := a0 + 1) (by omega)
  refine cT_go b_C_firstWrongPlace_0 ?_
  have t_135 : (nI 0).toInt = 0 := nI_toInt (by decide)
  have t_136 : 0 ≤ (f a0 1).toInt ∧ (f a0 1).toInt ≤ (ln_ L (a0 + 1) : Int) := (cI_at hI 1 s0) rfl
  exact l_C_firstWrongPlace_9 ((4096 - (nI 0).toInt).toNat + 1) (by omega) hI hF s0 (by omega) (by omega) (by omega) (by omega) (by first | (rw [fwv_eq]; exact fw_in2) | (have z0 : (nI 0).toInt = 0 := nI_toInt (by decide); have z1 : (nI 51).toInt = 51 := nI_toInt (by decide); have z2 : (nI 55).toInt = 55 := nI_toInt (by decide); have h0 := wd_c (nI 0).toInt; have h1 := wd_c (nI 51).toInt; have h2 := wd_c (nI 55).toInt; have h3 := wd_c x3.toInt; rw [← i7]; exact (fw_go (by omega) (by rw [t_cl, t_cl]; omega) (by first | exact Or.inl ⟨by omega, by omega, by omega, by omega, by omega, by omega⟩ | exact Or.inr (Or.inl ⟨by omega, by omega, by omega, by omega, by omega, by omega⟩) | exact Or.inr (Or.inr (Or.inl ⟨by omega, by omega, by omega, by omega, by omega, by omega⟩)) | exact Or.inr (Or.inr (Or.inr (Or.inl ⟨by omega, by omega, by omega, by omega, by omega, by omega⟩))) | exact Or.inr (Or.inr (Or.inr (Or.inr (Or.inl ⟨by omega, by omega, by omega, by omega, by omega, by omega⟩)))) | exact Or.inr (Or.inr (Or.inr (Or.inr (Or.inr (⟨by omega, by omega, by omega, by omega, by omega⟩))))))).symm))
set_option maxHeartbeats 8000000 in
theorem l_C_isFieldText_2 {L : Nat} {e : Nat × Nat} {f0 : cg_G} : ∀ (k : Nat) {f : cg_G} {a0 : Nat} {x1 : Int32} {u2 : Value}, (4096 - x1.toInt).toNat < k → cI L f → cF (fun o => False) f0 f → sh_ a0 = 6 → (0 ≤ x1.toInt ∧ x1.toInt ≤ (f a0 1).toInt) → (plnG (f (a0 + 1)) x1.toInt) → cT 65 2 [.ref a0, .int x1, u2] [] L e (fun o => False) f0 f (fun v f' => ∃ x : Int32, v = some (.int x) ∧ (x = 0 ∨ x = 1) ∧ (x.toInt ≠ 0 ↔ plnG (f (a0 + 1)) (f a0 1).toInt)) := by
  intro k
  induction k with
  | zero => intro f a0 x1 u2 hm; omega
  | succ k ih =>
    intro f a0 x1 u2 hme hI hF s0 i1 i7
    have hl := ln_lt (L := L) (a := a0 + 1) (by omega)
    have t_1 := t_rng (x1)
    refine cT_call (b_C_isFieldText_2 s0) (c_Signs_size hI s0) hF (fun o ho => ho.elim) (fun v_2 f_3 hI_4 hG_5 hF_6 hQ_7 => ?_)
    obtain rfl := cF_no hG_5
    obtain ⟨y_8, rfl, hQ_7⟩ := hQ_7
    have hQ_7r := t_rng y_8
    show cT 65 7 [.ref a0, .int x1, u2] [.int y_8, .int x1] _ _ _ _ _ _
    refine cT_if b_C_isFieldText_7 (fun c_9 => ?_) (fun c_9 => ?_)
    · rw [t_le] at c_9; try rw [t_0] at c_9
      have t_10 : (nI 1).toInt = 1 := nI_toInt (by decide)
      exact cT_ret b_C_isFieldText_37 hI hF ⟨_, rfl, (by decide), by first | exact ⟨fun h => absurd h (by omega), fun h => absurd h (plnG_no (k := x1.toNatClampNeg) (by rw [t_cl]; omega) (by omega))⟩ | exact ⟨fun _ => plnG_le i7 (by omega), fun _ => by omega⟩⟩
    · rw [t_le] at c_9; try rw [t_0] at c_9
      refine cT_call (b_C_isFieldText_10 s0) (c_Signs_at hI s0) hF (fun o ho => ho.elim) (fun v_11 f_12 hI_13 hG_14 hF_15 hQ_16 => ?_)
      obtain rfl := cF_no hG_14
      obtain ⟨y_17, rfl, hQ_16⟩ := hQ_16
      have hQ_16r := t_rng y_17
      have g_18 : y_17.toInt = (f (a0 + 1) x1.toNatClampNeg).toInt := hQ_16 (by omega)
      show cT 65 15 [.ref a0, .int x1, u2] [.int y_17] _ _ _ _ _ _
      have t_20 : (nI 32).toInt = 32 := nI_toInt (by decide)
      refine cT_if b_C_isFieldText_15 (fun c_19 => ?_) (fun c_19 => ?_)
      · rw [t_eq] at c_19; try rw [t_0] at c_19
        refine cT_go b_C_isFieldText_31 ?_
        have t_22 : (nI 1).toInt = 1 := nI_toInt (by decide)
        first | have t_21 : (x1 + (nI 1)).toInt = (x1).toInt + ((nI 1)).toInt := t_addn (by omega) | obtain ⟨kt_21, t_21⟩ := t_add x1 (nI 1)
        have t_23 : 0 ≤ (f a0 1).toInt ∧ (f a0 1).toInt ≤ (ln_ L (a0 + 1) : Int) := (cI_at hI 1 s0) rfl
        exact ih (by omega) hI hF s0 (by omega) (by first | exact plnG_0 (by omega) | exact plnG_s (k := x1.toNatClampNeg) i7 (by rw [t_cl]; omega) (by omega) (by omega))
      · rw [t_eq] at c_19; try rw [t_0] at c_19
        refine cT_call b_C_isFieldText_22 (c_C_isLetter hI) hF (fun o ho => ho.elim) (fun v_24 f_25 hI_26 hG_27 hF_28 hQ_29 => ?_)
        obtain rfl := cF_no hG_27
        obtain ⟨y_30, rfl, hb_31, hQ_29⟩ := hQ_29
        have hb_31r := t_b01 hb_31
        show cT 65 26 [.ref a0, .int x1, .int y_17] [.int y_30] _ _ _ _ _ _
        refine cT_if b_C_isFieldText_26 (fun c_32 => ?_) (fun c_32 => ?_)
        · rw [t_eq] at c_32; try rw [t_0] at c_32
          have t_34 : (nI 0).toInt = 0 := nI_toInt (by decide)
          exact cT_ret b_C_isFieldText_29 hI hF ⟨_, rfl, (by decide), by first | exact ⟨fun h => absurd h (by omega), fun h => absurd h (plnG_no (k := x1.toNatClampNeg) (by rw [t_cl]; omega) (by omega))⟩ | exact ⟨fun _ => plnG_le i7 (by omega), fun _ => by omega⟩⟩
        · rw [t_eq] at c_32; try rw [t_0] at c_32
          refine cT_go b_C_isFieldText_31 ?_
          have t_36 : (nI 1).toInt = 1 := nI_toInt (by decide)
          first | have t_35 : (x1 + (nI 1)).toInt = (x1).toInt + ((nI 1)).toInt := t_addn (by omega) | obtain ⟨kt_35, t_35⟩ := t_add x1 (nI 1)
          have t_37 : 0 ≤ (f a0 1).toInt ∧ (f a0 1).toInt ≤ (ln_ L (a0 + 1) : Int) := (cI_at hI 1 s0) rfl
          exact ih (by omega) hI hF s0 (by omega) (by first | exact plnG_0 (by omega) | exact plnG_s (k := x1.toNatClampNeg) i7 (by rw [t_cl]; omega) (by omega) (by omega))
set_option maxHeartbeats 8000000 in
theorem c_C_isFieldText {L : Nat} {f : cg_G} {e : Nat × Nat} {a0 : Nat} (hI : cI L f) (s0 : sh_ a0 = 6)  : cE 65 [.ref a0] L e (fun o => False) f (fun v f' => ∃ x : Int32, v = some (.int x) ∧ (x = 0 ∨ x = 1) ∧ (x.toInt ≠ 0 ↔ plnG (f (a0 + 1)) (f a0 1).toInt)) := by
  refine cE_of (ls := [.ref a0, (.retAddr 0), (.retAddr 0)]) rfl ?_
  have hF : cF (fun o => False) f f := cF_rf
  have hl := ln_lt (L := L) (a := a0 + 1) (by omega)
  refine cT_go b_C_isFieldText_0 ?_
  have t_38 : (nI 0).toInt = 0 := nI_toInt (by decide)
  have t_39 : 0 ≤ (f a0 1).toInt ∧ (f a0 1).toInt ≤ (ln_ L (a0 + 1) : Int) := (cI_at hI 1 s0) rfl
  exact l_C_isFieldText_2 ((4096 - (nI 0).toInt).toNat + 1) (by omega) hI hF s0 (by omega) (by first | exact plnG_0 (by omega) | exact plnG_s (k := x1.toNatClampNeg) i7 (by rw [t_cl]; omega) (by omega) (by omega))
set_option maxHeartbeats 8000000 in
theorem l_C_isOrder_2 {L : Nat} {e : Nat × Nat} {f0 : cg_G} : ∀ (k : Nat) {f : cg_G} {a0 : Nat} {x1 : Int32}, (4096 - x1.toInt).toNat < k → cI L f → cF (fun o => False) f0 f → sh_ a0 = 6 → (0 ≤ x1.toInt ∧ x1.toInt ≤ (f a0 1).toInt) → (ordG (f (a0 + 1)) x1.toInt) → cT 66 2 [.ref a0, .int x1] [] L e (fun o => False) f0 f (fun v f' => ∃ x : Int32, v = some (.int x) ∧ (x = 0 ∨ x = 1) ∧ (x.toInt ≠ 0 ↔ ordG (f (a0 + 1)) (f a0 1).toInt)) := by
  intro k
  induction k with
  | zero => intro f a0 x1 hm; omega
  | succ k ih =>
    intro f a0 x1 hme hI hF s0 i1 i7
    have hl := ln_lt (L := L) (a := a0 + 1) (by omega)
    have t_1 := t_rng (x1)
    refine cT_call (b_C_isOrder_2 s0) (c_Signs_size hI s0) hF (fun o ho => ho.elim) (fun v_2 f_3 hI_4 hG_5 hF_6 hQ_7 => ?_)
    obtain rfl := cF_no hG_5
    obtain ⟨y_8, rfl, hQ_7⟩ := hQ_7
    have hQ_7r := t_rng y_8
    show cT 66 7 [.ref a0, .int x1] [.int y_8, .int x1] _ _ _ _ _ _
    refine cT_if b_C_isOrder_7 (fun c_9 => ?_) (fun c_9 => ?_)
    · rw [t_le] at c_9; try rw [t_0] at c_9
      have t_10 : (nI 1).toInt = 1 := nI_toInt (by decide)
      exact cT_ret b_C_isOrder_42 hI hF ⟨_, rfl, (by decide), by first | exact ⟨fun h => absurd h (by omega), fun h => absurd h (ordG_n1 (k := x1.toNatClampNeg) (by rw [t_cl]; omega) (by omega))⟩ | exact ⟨fun h => absurd h (by omega), fun h => absurd h (ordG_n2 (k := x1.toNatClampNeg) hpl (by omega) (by rw [t_cl]; omega) (by rw [t_cl]; omega))⟩ | exact ⟨fun _ => by rw [show (f a0 1).toInt = x1.toInt by omega]; exact i7, fun _ => by omega⟩⟩
    · rw [t_le] at c_9; try rw [t_0] at c_9
      refine cT_call (b_C_isOrder_10 s0) (c_Signs_at hI s0) hF (fun o ho => ho.elim) (fun v_11 f_12 hI_13 hG_14 hF_15 hQ_16 => ?_)
      obtain rfl := cF_no hG_14
      obtain ⟨y_17, rfl, hQ_16⟩ := hQ_16
      have hQ_16r := t_rng y_17
      have g_18 : y_17.toInt = (f (a0 + 1) x1.toNatClampNeg).toInt := hQ_16 (by omega)
      show cT 66 15 [.ref a0, .int x1] [.int y_17] _ _ _ _ _ _
      refine cT_call b_C_isOrder_15 (c_C_isLetter hI) hF (fun o ho => ho.elim) (fun v_19 f_20 hI_21 hG_22 hF_23 hQ_24 => ?_)
      obtain rfl := cF_no hG_22
      obtain ⟨y_25, rfl, hb_26, hQ_24⟩ := hQ_24
      have hb_26r := t_b01 hb_26
      show cT 66 18 [.ref a0, .int x1] [.int y_25] _ _ _ _ _ _
      refine cT_if b_C_isOrder_18 (fun c_27 => ?_) (fun c_27 => ?_)
      · rw [t_eq] at c_27; try rw [t_0] at c_27
        have t_29 : (nI 0).toInt = 0 := nI_toInt (by decide)
        exact cT_ret b_C_isOrder_34 hI hF ⟨_, rfl, (by decide), by first | exact ⟨fun h => absurd h (by omega), fun h => absurd h (ordG_n1 (k := x1.toNatClampNeg) (by rw [t_cl]; omega) (by omega))⟩ | exact ⟨fun h => absurd h (by omega), fun h => absurd h (ordG_n2 (k := x1.toNatClampNeg) hpl (by omega) (by rw [t_cl]; omega) (by rw [t_cl]; omega))⟩ | exact ⟨fun _ => by rw [show (f a0 1).toInt = x1.toInt by omega]; exact i7, fun _ => by omega⟩⟩
      · rw [t_eq] at c_27; try rw [t_0] at c_27
        refine cT_call (b_C_isOrder_21 s0) (c_Signs_at hI s0) hF (fun o ho => ho.elim) (fun v_30 f_31 hI_32 hG_33 hF_34 hQ_35 => ?_)
        obtain rfl := cF_no hG_33
        obtain ⟨y_36, rfl, hQ_35⟩ := hQ_35
        have hQ_35r := t_rng y_36
        have g_37 : y_36.toInt = (f (a0 + 1) x1.toNatClampNeg).toInt := hQ_35 (by omega)
        show cT 66 27 [.ref a0, .int x1] [.int y_36, .ref a0] _ _ _ _ _ _
        refine cT_call (b_C_isOrder_27 s0) (c_Signs_placeOf hI s0) hF (fun o ho => ho.elim) (fun v_38 f_39 hI_40 hG_41 hF_42 hQ_43 => ?_)
        obtain rfl := cF_no hG_41
        obtain ⟨y_44, rfl, hQ_43⟩ := hQ_43
        have hQ_43r := t_rng y_44
        have hpl : _ := hQ_43
        show cT 66 30 [.ref a0, .int x1] [.int y_44] _ _ _ _ _ _
        refine cT_if b_C_isOrder_30 (fun c_45 => ?_) (fun c_45 => ?_)
        · rw [t_eq] at c_45; try rw [t_0] at c_45
          refine cT_go b_C_isOrder_36 ?_
          have t_47 : (nI 1).toInt = 1 := nI_toInt (by decide)
          first | have t_46 : (x1 + (nI 1)).toInt = (x1).toInt + ((nI 1)).toInt := t_addn (by omega) | obtain ⟨kt_46, t_46⟩ := t_add x1 (nI 1)
          have t_48 : 0 ≤ (f a0 1).toInt ∧ (f a0 1).toInt ≤ (ln_ L (a0 + 1) : Int) := (cI_at hI 1 s0) rfl
          exact ih (by omega) hI hF s0 (by omega) (by first | exact ordG_0 (by omega) | exact ordG_sp (k := x1.toNatClampNeg) i7 (by rw [t_cl]; omega) (by omega) (by omega) hpl (by omega) (by rw [t_cl]; omega))
        · rw [t_eq] at c_45; try rw [t_0] at c_45
          have t_49 : (nI 0).toInt = 0 := nI_toInt (by decide)
          exact cT_ret b_C_isOrder_34 hI hF ⟨_, rfl, (by decide), by first | exact ⟨fun h => absurd h (by omega), fun h => absurd h (ordG_n1 (k := x1.toNatClampNeg) (by rw [t_cl]; omega) (by omega))⟩ | exact ⟨fun h => absurd h (by omega), fun h => absurd h (ordG_n2 (k := x1.toNatClampNeg) hpl (by omega) (by rw [t_cl]; omega) (by rw [t_cl]; omega))⟩ | exact ⟨fun _ => by rw [show (f a0 1).toInt = x1.toInt by omega]; exact i7, fun _ => by omega⟩⟩
set_option maxHeartbeats 8000000 in
theorem c_C_isOrder {L : Nat} {f : cg_G} {e : Nat × Nat} {a0 : Nat} (hI : cI L f) (s0 : sh_ a0 = 6)  : cE 66 [.ref a0] L e (fun o => False) f (fun v f' => ∃ x : Int32, v = some (.int x) ∧ (x = 0 ∨ x = 1) ∧ (x.toInt ≠ 0 ↔ ordG (f (a0 + 1)) (f a0 1).toInt)) := by
  refine cE_of (ls := [.ref a0, (.retAddr 0)]) rfl ?_
  have hF : cF (fun o => False) f f := cF_rf
  have hl := ln_lt (L := L) (a := a0 + 1) (by omega)
  refine cT_go b_C_isOrder_0 ?_
  have t_50 : (nI 0).toInt = 0 := nI_toInt (by decide)
  have t_51 : 0 ≤ (f a0 1).toInt ∧ (f a0 1).toInt ≤ (ln_ L (a0 + 1) : Int) := (cI_at hI 1 s0) rfl
  exact l_C_isOrder_2 ((4096 - (nI 0).toInt).toNat + 1) (by omega) hI hF s0 (by omega) (by first | exact ordG_0 (by omega) | exact ordG_sp (k := x1.toNatClampNeg) i7 (by rw [t_cl]; omega) (by omega) (by omega) hpl (by omega) (by rw [t_cl]; omega))
