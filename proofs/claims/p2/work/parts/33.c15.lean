set_option maxHeartbeats 8000000 in
theorem l_M_printAll_14 {L : Nat} {e : Nat × Nat} {f0 : cg_G} : ∀ (k : Nat) {f : cg_G} {a0 : Nat} {x1 : Int32} {x2 : Int32} {x3 : Int32} {u4 : Value} {u5 : Value}, (40 - x3.toInt).toNat < k → cI L f → cF (fun o => o = a0 ∨ o = a0 + 10) f0 f → sh_ a0 = 7 → (0 ≤ x1.toInt ∧ x1.toInt < 8) → (0 ≤ x2.toInt ∧ x2.toInt ≤ 5) → (wfT f0 x2.toNatClampNeg (f0 (a0 + 2) x2.toNatClampNeg).toNatClampNeg) → (∃ K : Nat, x3.toInt = K ∧ K ≤ (f0 (a0 + 2) x2.toNatClampNeg).toNatClampNeg ∧ (f a0 16).toInt ≤ K + 30 * (mkc f0 x2.toNatClampNeg K : Nat)) → (∀ k, k ≠ 16 → f a0 k = f0 a0 k) → cT 120 14 [.ref a0, .int x1, .int x2, .int x3, u4, u5] [] L e (fun o => o = a0 ∨ o = a0 + 10) f0 f (fun v f' => v = none ∧ ((0 ≤ (f' a0 16).toInt ∧ (f' a0 16).toInt ≤ 212) ∧ ∀ k, k ≠ 16 → f' a0 k = f0 a0 k)) := by
  intro k
  induction k with
  | zero => intro f a0 x1 x2 x3 u4 u5 hm; omega
  | succ k ih =>
    intro f a0 x1 x2 x3 u4 u5 hme hI hF s0 i1 i2 w i3 i6
    have t0 := t_0
    have hm := one_7 s0
    have hb := (cI_at hI x2.toNatClampNeg (sc_7_6 s0)).1 (by omega)
    have hn := congrArg Int32.toInt (congrFun (hF (a0 + 2) (by omega)) x2.toNatClampNeg)
    have hc := t_cl (f0 (a0 + 2) x2.toNatClampNeg)
    have h3 := hF (a0 + 3) (by omega)
    have hsg : ∀ k, sg f x2.toNatClampNeg k = sg f0 x2.toNatClampNeg k := fun k => by subst hm; unfold sg; rw [hF 209 (by omega)]
    obtain ⟨K, k1, k2, k3⟩ := i3
    have eS := sg_at (y := x3) (K := K) hm h3 i2 k1 (by omega)
    have eS1 := sg_at1 (y := x3) (K := K) hm h3 i2 k1 (by omega)
    have m4 : ∀ {q : Nat}, q ≤ (f0 (a0 + 2) x2.toNatClampNeg).toNatClampNeg → mkc f0 x2.toNatClampNeg q ≤ 6 := fun h => Nat.le_trans (mkc_le h) w.1
    have t_1 := t_rng (x1)
    have t_2 := t_rng (x2)
    have t_3 := t_rng (x3)
    have t_5 : 0 ≤ (f (a0 + 2) x2.toNatClampNeg).toInt ∧ (f (a0 + 2) x2.toNatClampNeg).toInt ≤ 32 := (cI_at hI x2.toNatClampNeg (sc_7_6 s0)).1 (by omega)
    refine cT_if (b_M_printAll_14 s0 (by rw [t_in]; omega)) (fun c_4 => ?_) (fun c_4 => ?_)
    · rw [t_le] at c_4
      have m6 := m4 k2
      have t_6 : 0 ≤ (f a0 16).toInt ∧ (f a0 16).toInt ≤ 256 := (cI_at hI 16 s0).2.2.2.2.2.2.2.1 rfl
      exact cT_ret b_M_printAll_177 hI hF ⟨rfl, ⟨by omega, i6⟩⟩
    · rw [t_le] at c_4
      have m5 := m4 (show K + 1 ≤ (f0 (a0 + 2) x2.toNatClampNeg).toNatClampNeg by omega)
      have m1 := mkc_le (f := f0) (t := x2.toNatClampNeg) (show K ≤ K + 1 by omega)
      have t_9 : (nI 32).toInt = 32 := nI_toInt (by decide)
      first | have t_8 : (((nI 32)) * x2).toInt = 32 * (x2).toInt := t_mulc (by decide) (by omega) | (obtain ⟨kt_8, t_8⟩ := t_mul ((nI 32)) x2; rw [nI_toInt (show 32 < 2 ^ 31 by decide)] at t_8)
      first | have t_7 : ((((nI 32) * x2)) + x3).toInt = ((((nI 32) * x2))).toInt + (x3).toInt := t_addn (by omega) | obtain ⟨kt_7, t_7⟩ := t_add (((nI 32) * x2)) x3
      have t_12 : (nI 1).toInt = 1 := nI_toInt (by decide)
      first | have t_11 : (x3 + ((nI 1))).toInt = (x3).toInt + (((nI 1))).toInt := t_addn (by omega) | obtain ⟨kt_11, t_11⟩ := t_add x3 ((nI 1))
      refine cT_if (b_M_printAll_24 s0 (by rw [t_in]; omega) (by rw [t_in]; omega)) (fun c_10 => ?_) (fun c_10 => ?_)
      · rw [t_le] at c_10
        refine cT_go b_M_printAll_68 ?_
        have t_14 := t_rng (f (a0 + 3) (((nI 32) * x2) + x3).toNatClampNeg)
        have t_15 : (nI 35).toInt = 35 := nI_toInt (by decide)
        refine cT_if b_M_printAll_69 (fun c_13 => ?_) (fun c_13 => ?_)
        · rw [t_eq] at c_13
          have w1 := (w.2 K (by omega)).1 (by omega)
          have m3 := mkc_1 (f := f0) (t := x2.toNatClampNeg) (k := K) (by omega)
          have m2 := mkc_le (f := f0) (t := x2.toNatClampNeg) (show K + 1 ≤ K + 2 by omega)
          have t_18 : (nI 4).toInt = 4 := nI_toInt (by decide)
          first | have t_17 : (((nI 4)) * x1).toInt = 4 * (x1).toInt := t_mulc (by decide) (by omega) | (obtain ⟨kt_17, t_17⟩ := t_mul ((nI 4)) x1; rw [nI_toInt (show 4 < 2 ^ 31 by decide)] at t_17)
          have t_19 : (nI 0).toInt = 0 := nI_toInt (by decide)
          first | have t_16 : ((((nI 4) * x1)) + ((nI 0))).toInt = ((((nI 4) * x1))).toInt + (((nI 0))).toInt := t_addn (by omega) | obtain ⟨kt_16, t_16⟩ := t_add (((nI 4) * x1)) ((nI 0))
          refine cT_call (b_M_printAll_78 s0) (c_M_putField hI s0 (by first | omega | assumption | exact sl_4_4 (by assumption)) (by first | omega | assumption | exact sl_4_4 (by assumption))) hF (fun o ho => by omega) (fun v_20 f_21 hI_22 hG_23 hF_24 hQ_25 => ?_)
          obtain ⟨rfl, hQ_25⟩ := hQ_25
          have i6n : ∀ k, k ≠ 16 → f_21 a0 k = f0 a0 k := fun k hk => (hQ_25.2 k hk).trans (i6 k hk)
          show cT 120 88 [.ref a0, .int x1, .int x2, .int x3, .int (f (a0 + 3) (((nI 32) * x2) + x3).toNatClampNeg), .int (nI 0)] [] _ _ _ _ _ _
          refine cT_go b_M_printAll_88 ?_
          refine cT_go b_M_printAll_171 ?_
          first | have t_28 : (x3 + (nI 1)).toInt = (x3).toInt + ((nI 1)).toInt := t_addn (by omega) | obtain ⟨kt_28, t_28⟩ := t_add x3 (nI 1)
          first | have t_27 : (((x3 + nI 1)) + (nI 1)).toInt = (((x3 + nI 1))).toInt + ((nI 1)).toInt := t_addn (by omega) | obtain ⟨kt_27, t_27⟩ := t_add ((x3 + nI 1)) (nI 1)
          have t_29 : 0 ≤ (f_21 a0 16).toInt ∧ (f_21 a0 16).toInt ≤ 256 := (cI_at hI_22 16 s0).2.2.2.2.2.2.2.1 rfl
          exact ih (by omega) hI_22 hF_24 s0 (by omega) (by omega) (by first | exact w | exact p2) (by first | exact ⟨0, by omega, by omega, by omega⟩ | exact ⟨K + 1, by omega, by omega, by omega⟩ | exact ⟨K + 2, by omega, by omega, by omega⟩ | (obtain ⟨Y, hY⟩ := hY; have hy := mkc_le (f := f0) (t := x2.toNatClampNeg) (show K ≤ Y + 1 by omega); exact ⟨Y + 1, by omega, by omega, by omega⟩)) (by first | exact i6n | exact i6 | exact fun k hk => rfl | exact fun k hk => cg_up_k hk)
        · rw [t_eq] at c_13
          have t_31 : (nI 64).toInt = 64 := nI_toInt (by decide)
          refine cT_if b_M_printAll_94 (fun c_30 => ?_) (fun c_30 => ?_)
          · rw [t_eq] at c_30
            have w1 := (w.2 K (by omega)).2.1 (by omega)
            have m3 := mkc_1 (f := f0) (t := x2.toNatClampNeg) (k := K) (by omega)
            have m2 := mkc_le (f := f0) (t := x2.toNatClampNeg) (show K + 1 ≤ K + 2 by omega)
            have t_32 : (nI 0).toInt = 0 := nI_toInt (by decide)
            have t_33 := t_rng (f (a0 + 18) (nI 0).toNatClampNeg)
            refine cT_call (b_M_printAll_101 s0 (by rw [t_in]; omega)) (c_M_putNumber hI s0 (by first | omega | assumption | exact sl_4_4 (by assumption))) hF (fun o ho => by omega) (fun v_34 f_35 hI_36 hG_37 hF_38 hQ_39 => ?_)
            obtain ⟨rfl, hQ_39⟩ := hQ_39
            have i6n : ∀ k, k ≠ 16 → f_35 a0 k = f0 a0 k := fun k hk => (hQ_39.2 k hk).trans (i6 k hk)
            show cT 120 112 [.ref a0, .int x1, .int x2, .int x3, .int (f (a0 + 3) (((nI 32) * x2) + x3).toNatClampNeg), .int (nI 0)] [] _ _ _ _ _ _
            refine cT_go b_M_printAll_112 ?_
            refine cT_go b_M_printAll_171 ?_
            first | have t_42 : (x3 + (nI 1)).toInt = (x3).toInt + ((nI 1)).toInt := t_addn (by omega) | obtain ⟨kt_42, t_42⟩ := t_add x3 (nI 1)
            first | have t_41 : (((x3 + nI 1)) + (nI 1)).toInt = (((x3 + nI 1))).toInt + ((nI 1)).toInt := t_addn (by omega) | obtain ⟨kt_41, t_41⟩ := t_add ((x3 + nI 1)) (nI 1)
            have t_43 : 0 ≤ (f_35 a0 16).toInt ∧ (f_35 a0 16).toInt ≤ 256 := (cI_at hI_36 16 s0).2.2.2.2.2.2.2.1 rfl
            exact ih (by omega) hI_36 hF_38 s0 (by omega) (by omega) (by first | exact w | exact p2) (by first | exact ⟨0, by omega, by omega, by omega⟩ | exact ⟨K + 1, by omega, by omega, by omega⟩ | exact ⟨K + 2, by omega, by omega, by omega⟩ | (obtain ⟨Y, hY⟩ := hY; have hy := mkc_le (f := f0) (t := x2.toNatClampNeg) (show K ≤ Y + 1 by omega); exact ⟨Y + 1, by omega, by omega, by omega⟩)) (by first | exact i6n | exact i6 | exact fun k hk => rfl | exact fun k hk => cg_up_k hk)
          · rw [t_eq] at c_30
            have t_45 : (nI 91).toInt = 91 := nI_toInt (by decide)
            refine cT_if b_M_printAll_118 (fun c_44 => ?_) (fun c_44 => ?_)
            · rw [t_eq] at c_44
              obtain ⟨j0, j1, j2, j3⟩ := (w.2 K (by omega)).2.2 (by omega)
              refine cT_call (b_M_printAll_125 s0) (c_M_endOf hI s0 (by first | omega | assumption | exact sl_4_4 (by assumption)) (by first | omega | assumption | exact sl_4_4 (by assumption)) ⟨j0, by omega, by omega, by rw [hsg]; exact j3⟩) hF (fun o ho => ho.elim) (fun v_46 f_47 hI_48 hG_49 hF_50 hQ_51 => ?_)
              obtain rfl := cF_no hG_49
              obtain ⟨y_52, rfl, hQ_51⟩ := hQ_51
              have hQ_51r := t_rng y_52
              have hy0 : y_52.toInt = y_52.toInt.toNat ∧ x3.toInt ≤ y_52.toInt ∧ y_52.toInt ≤ (j0 : Int) := by have := hQ_51.2.2 j0 (by omega) (by rw [hsg]; exact j3); have := hQ_51.1; omega
              have hY : ∃ Y : Nat, y_52.toInt = Y := ⟨y_52.toInt.toNat, by omega⟩
              show cT 120 135 [.ref a0, .int x1, .int x2, .int x3, .int (f (a0 + 3) (((nI 32) * x2) + x3).toNatClampNeg), .int (nI 0)] [.int y_52, .int x3, .int x2, .int x1, .ref a0] _ _ _ _ _ _
              refine cT_call (b_M_printAll_135 s0) (c_M_hasEmpty hI s0 (by first | omega | assumption | exact sl_4_4 (by assumption)) (by first | omega | assumption | exact sl_4_4 (by assumption)) (by first | omega | assumption | exact sl_4_4 (by assumption)) (by first | omega | assumption | exact sl_4_4 (by assumption)) (fun k h1 h2 => by rw [hsg] at h2; have := (w.2 k (by omega)).1 h2; rw [hsg]; omega)) hF (fun o ho => ho.elim) (fun v_53 f_54 hI_55 hG_56 hF_57 hQ_58 => ?_)
              obtain rfl := cF_no hG_56
              obtain ⟨y_59, rfl, hb_60, hQ_58⟩ := hQ_58
              have hb_60r := t_rng y_59
              show cT 120 138 [.ref a0, .int x1, .int x2, .int x3, .int (f (a0 + 3) (((nI 32) * x2) + x3).toNatClampNeg), .int (nI 0)] [.int y_59] _ _ _ _ _ _
              refine cT_if b_M_printAll_138 (fun c_61 => ?_) (fun c_61 => ?_)
              · rw [t_eq] at c_61
                refine cT_if b_M_printAll_151 (fun c_63 => ?_) (fun c_63 => ?_)
                · rw [t_eq] at c_63
                  refine cT_go b_M_printAll_171 ?_
                  first | have t_64 : (x3 + (nI 1)).toInt = (x3).toInt + ((nI 1)).toInt := t_addn (by omega) | obtain ⟨kt_64, t_64⟩ := t_add x3 (nI 1)
                  have t_65 : (nI 0).toInt = 0 := nI_toInt (by decide)
                  have t_66 : 0 ≤ (f a0 16).toInt ∧ (f a0 16).toInt ≤ 256 := (cI_at hI 16 s0).2.2.2.2.2.2.2.1 rfl
                  exact ih (by omega) hI hF s0 (by omega) (by omega) (by first | exact w | exact p2) (by first | exact ⟨0, by omega, by omega, by omega⟩ | exact ⟨K + 1, by omega, by omega, by omega⟩ | exact ⟨K + 2, by omega, by omega, by omega⟩ | (obtain ⟨Y, hY⟩ := hY; have hy := mkc_le (f := f0) (t := x2.toNatClampNeg) (show K ≤ Y + 1 by omega); exact ⟨Y + 1, by omega, by omega, by omega⟩)) (by first | exact i6n | exact i6 | exact fun k hk => rfl | exact fun k hk => cg_up_k hk)
                · rw [t_eq] at c_63
                  have t_68 : (nI 93).toInt = 93 := nI_toInt (by decide)
                  refine cT_if b_M_printAll_158 (fun c_67 => ?_) (fun c_67 => ?_)
                  · rw [t_eq] at c_67
                    refine cT_go b_M_printAll_171 ?_
                    first | have t_69 : (x3 + (nI 1)).toInt = (x3).toInt + ((nI 1)).toInt := t_addn (by omega) | obtain ⟨kt_69, t_69⟩ := t_add x3 (nI 1)
                    have t_70 : (nI 0).toInt = 0 := nI_toInt (by decide)
                    have t_71 : 0 ≤ (f a0 16).toInt ∧ (f a0 16).toInt ≤ 256 := (cI_at hI 16 s0).2.2.2.2.2.2.2.1 rfl
                    exact ih (by omega) hI hF s0 (by omega) (by omega) (by first | exact w | exact p2) (by first | exact ⟨0, by omega, by omega, by omega⟩ | exact ⟨K + 1, by omega, by omega, by omega⟩ | exact ⟨K + 2, by omega, by omega, by omega⟩ | (obtain ⟨Y, hY⟩ := hY; have hy := mkc_le (f := f0) (t := x2.toNatClampNeg) (show K ≤ Y + 1 by omega); exact ⟨Y + 1, by omega, by omega, by omega⟩)) (by first | exact i6n | exact i6 | exact fun k hk => rfl | exact fun k hk => cg_up_k hk)
                  · rw [t_eq] at c_67
                    refine cT_call (b_M_printAll_165 s0) (c_M_put hI s0 (by first | omega | assumption | exact sl_4_4 (by assumption))) hF (fun o ho => by omega) (fun v_72 f_73 hI_74 hG_75 hF_76 hQ_77 => ?_)
                    obtain ⟨rfl, hQ_77⟩ := hQ_77
                    have i6n : ∀ k, k ≠ 16 → f_73 a0 k = f0 a0 k := fun k hk => (hQ_77.2 k hk).trans (i6 k hk)
                    show cT 120 171 [.ref a0, .int x1, .int x2, .int x3, .int (f (a0 + 3) (((nI 32) * x2) + x3).toNatClampNeg), .int (nI 0)] [] _ _ _ _ _ _
                    refine cT_go b_M_printAll_171 ?_
                    first | have t_79 : (x3 + (nI 1)).toInt = (x3).toInt + ((nI 1)).toInt := t_addn (by omega) | obtain ⟨kt_79, t_79⟩ := t_add x3 (nI 1)
                    have t_80 : (nI 0).toInt = 0 := nI_toInt (by decide)
                    have t_81 : 0 ≤ (f_73 a0 16).toInt ∧ (f_73 a0 16).toInt ≤ 256 := (cI_at hI_74 16 s0).2.2.2.2.2.2.2.1 rfl
                    exact ih (by omega) hI_74 hF_76 s0 (by omega) (by omega) (by first | exact w | exact p2) (by first | exact ⟨0, by omega, by omega, by omega⟩ | exact ⟨K + 1, by omega, by omega, by omega⟩ | exact ⟨K + 2, by omega, by omega, by omega⟩ | (obtain ⟨Y, hY⟩ := hY; have hy := mkc_le (f := f0) (t := x2.toNatClampNeg) (show K ≤ Y + 1 by omega); exact ⟨Y + 1, by omega, by omega, by omega⟩)) (by first | exact i6n | exact i6 | exact fun k hk => rfl | exact fun k hk => cg_up_k hk)
              · rw [t_eq] at c_61
                refine cT_call (b_M_printAll_141 s0) (c_M_endOf hI s0 (by first | omega | assumption | exact sl_4_4 (by assumption)) (by first | omega | assumption | exact sl_4_4 (by assumption)) ⟨j0, by omega, by omega, by rw [hsg]; exact j3⟩) hF (fun o ho => ho.elim) (fun v_82 f_83 hI_84 hG_85 hF_86 hQ_87 => ?_)
                obtain rfl := cF_no hG_85
                obtain ⟨y_88, rfl, hQ_87⟩ := hQ_87
                have hQ_87r := t_rng y_88
                have hy0 : y_88.toInt = y_88.toInt.toNat ∧ x3.toInt ≤ y_88.toInt ∧ y_88.toInt ≤ (j0 : Int) := by have := hQ_87.2.2 j0 (by omega) (by rw [hsg]; exact j3); have := hQ_87.1; omega
                have hY : ∃ Y : Nat, y_88.toInt = Y := ⟨y_88.toInt.toNat, by omega⟩
                show cT 120 147 [.ref a0, .int x1, .int x2, .int x3, .int (f (a0 + 3) (((nI 32) * x2) + x3).toNatClampNeg), .int (nI 0)] [.int y_88] _ _ _ _ _ _
                refine cT_go b_M_printAll_147 ?_
                refine cT_go b_M_printAll_171 ?_
                first | have t_89 : (y_88 + (nI 1)).toInt = (y_88).toInt + ((nI 1)).toInt := t_addn (by omega) | obtain ⟨kt_89, t_89⟩ := t_add y_88 (nI 1)
                have t_90 : (nI 0).toInt = 0 := nI_toInt (by decide)
                have t_91 : 0 ≤ (f a0 16).toInt ∧ (f a0 16).toInt ≤ 256 := (cI_at hI 16 s0).2.2.2.2.2.2.2.1 rfl
                exact ih (by omega) hI hF s0 (by omega) (by omega) (by first | exact w | exact p2) (by first | exact ⟨0, by omega, by omega, by omega⟩ | exact ⟨K + 1, by omega, by omega, by omega⟩ | exact ⟨K + 2, by omega, by omega, by omega⟩ | (obtain ⟨Y, hY⟩ := hY; have hy := mkc_le (f := f0) (t := x2.toNatClampNeg) (show K ≤ Y + 1 by omega); exact ⟨Y + 1, by omega, by omega, by omega⟩)) (by first | exact i6n | exact i6 | exact fun k hk => rfl | exact fun k hk => cg_up_k hk)
            · rw [t_eq] at c_44
              refine cT_if b_M_printAll_151 (fun c_92 => ?_) (fun c_92 => ?_)
              · rw [t_eq] at c_92
                refine cT_go b_M_printAll_171 ?_
                first | have t_93 : (x3 + (nI 1)).toInt = (x3).toInt + ((nI 1)).toInt := t_addn (by omega) | obtain ⟨kt_93, t_93⟩ := t_add x3 (nI 1)
                have t_94 : (nI 0).toInt = 0 := nI_toInt (by decide)
                have t_95 : 0 ≤ (f a0 16).toInt ∧ (f a0 16).toInt ≤ 256 := (cI_at hI 16 s0).2.2.2.2.2.2.2.1 rfl
                exact ih (by omega) hI hF s0 (by omega) (by omega) (by first | exact w | exact p2) (by first | exact ⟨0, by omega, by omega, by omega⟩ | exact ⟨K + 1, by omega, by omega, by omega⟩ | exact ⟨K + 2, by omega, by omega, by omega⟩ | (obtain ⟨Y, hY⟩ := hY; have hy := mkc_le (f := f0) (t := x2.toNatClampNeg) (show K ≤ Y + 1 by omega); exact ⟨Y + 1, by omega, by omega, by omega⟩)) (by first | exact i6n | exact i6 | exact fun k hk => rfl | exact fun k hk => cg_up_k hk)
              · rw [t_eq] at c_92
                have t_97 : (nI 93).toInt = 93 := nI_toInt (by decide)
                refine cT_if b_M_printAll_158 (fun c_96 => ?_) (fun c_96 => ?_)
                · rw [t_eq] at c_96
                  refine cT_go b_M_printAll_171 ?_
                  first | have t_98 : (x3 + (nI 1)).toInt = (x3).toInt + ((nI 1)).toInt := t_addn (by omega) | obtain ⟨kt_98, t_98⟩ := t_add x3 (nI 1)
                  have t_99 : (nI 0).toInt = 0 := nI_toInt (by decide)
                  have t_100 : 0 ≤ (f a0 16).toInt ∧ (f a0 16).toInt ≤ 256 := (cI_at hI 16 s0).2.2.2.2.2.2.2.1 rfl
                  exact ih (by omega) hI hF s0 (by omega) (by omega) (by first | exact w | exact p2) (by first | exact ⟨0, by omega, by omega, by omega⟩ | exact ⟨K + 1, by omega, by omega, by omega⟩ | exact ⟨K + 2, by omega, by omega, by omega⟩ | (obtain ⟨Y, hY⟩ := hY; have hy := mkc_le (f := f0) (t := x2.toNatClampNeg) (show K ≤ Y + 1 by omega); exact ⟨Y + 1, by omega, by omega, by omega⟩)) (by first | exact i6n | exact i6 | exact fun k hk => rfl | exact fun k hk => cg_up_k hk)
                · rw [t_eq] at c_96
                  refine cT_call (b_M_printAll_165 s0) (c_M_put hI s0 (by first | omega | assumption | exact sl_4_4 (by assumption))) hF (fun o ho => by omega) (fun v_101 f_102 hI_103 hG_104 hF_105 hQ_106 => ?_)
                  obtain ⟨rfl, hQ_106⟩ := hQ_106
                  have i6n : ∀ k, k ≠ 16 → f_102 a0 k = f0 a0 k := fun k hk => (hQ_106.2 k hk).trans (i6 k hk)
                  show cT 120 171 [.ref a0, .int x1, .int x2, .int x3, .int (f (a0 + 3) (((nI 32) * x2) + x3).toNatClampNeg), .int (nI 0)] [] _ _ _ _ _ _
                  refine cT_go b_M_printAll_171 ?_
                  first | have t_108 : (x3 + (nI 1)).toInt = (x3).toInt + ((nI 1)).toInt := t_addn (by omega) | obtain ⟨kt_108, t_108⟩ := t_add x3 (nI 1)
                  have t_109 : (nI 0).toInt = 0 := nI_toInt (by decide)
                  have t_110 : 0 ≤ (f_102 a0 16).toInt ∧ (f_102 a0 16).toInt ≤ 256 := (cI_at hI_103 16 s0).2.2.2.2.2.2.2.1 rfl
                  exact ih (by omega) hI_103 hF_105 s0 (by omega) (by omega) (by first | exact w | exact p2) (by first | exact ⟨0, by omega, by omega, by omega⟩ | exact ⟨K + 1, by omega, by omega, by omega⟩ | exact ⟨K + 2, by omega, by omega, by omega⟩ | (obtain ⟨Y, hY⟩ := hY; have hy := mkc_le (f := f0) (t := x2.toNatClampNeg) (show K ≤ Y + 1 by omega); exact ⟨Y + 1, by omega, by omega, by omega⟩)) (by first | exact i6n | exact i6 | exact fun k hk => rfl | exact fun k hk => cg_up_k hk)
      · rw [t_le] at c_10
        first | have t_111 : (((((nI 32) * x2) + x3)) + ((nI 1))).toInt = (((((nI 32) * x2) + x3))).toInt + (((nI 1))).toInt := t_addn (by omega) | obtain ⟨kt_111, t_111⟩ := t_add ((((nI 32) * x2) + x3)) ((nI 1))
        refine cT_go (b_M_printAll_49 s0 (by rw [t_in]; omega)) ?_
        have t_113 := t_rng (f (a0 + 3) (((nI 32) * x2) + x3).toNatClampNeg)
        have t_114 : (nI 35).toInt = 35 := nI_toInt (by decide)
        refine cT_if b_M_printAll_69 (fun c_112 => ?_) (fun c_112 => ?_)
        · rw [t_eq] at c_112
          have w1 := (w.2 K (by omega)).1 (by omega)
          have m3 := mkc_1 (f := f0) (t := x2.toNatClampNeg) (k := K) (by omega)
          have m2 := mkc_le (f := f0) (t := x2.toNatClampNeg) (show K + 1 ≤ K + 2 by omega)
          have t_117 : (nI 4).toInt = 4 := nI_toInt (by decide)
          first | have t_116 : (((nI 4)) * x1).toInt = 4 * (x1).toInt := t_mulc (by decide) (by omega) | (obtain ⟨kt_116, t_116⟩ := t_mul ((nI 4)) x1; rw [nI_toInt (show 4 < 2 ^ 31 by decide)] at t_116)
          have t_119 := t_rng (f (a0 + 3) ((((nI 32) * x2) + x3) + (nI 1)).toNatClampNeg)
          have t_120 : (nI 48).toInt = 48 := nI_toInt (by decide)
          first | have t_118 : (((f (a0 + 3) ((((nI 32) * x2) + x3) + (nI 1)).toNatClampNeg)) - ((nI 48))).toInt = (((f (a0 + 3) ((((nI 32) * x2) + x3) + (nI 1)).toNatClampNeg))).toInt - (((nI 48))).toInt := t_subn (by omega) | obtain ⟨kt_118, t_118⟩ := t_sub ((f (a0 + 3) ((((nI 32) * x2) + x3) + (nI 1)).toNatClampNeg)) ((nI 48))
          first | have t_115 : ((((nI 4) * x1)) + (((f (a0 + 3) ((((nI 32) * x2) + x3) + (nI 1)).toNatClampNeg) - (nI 48)))).toInt = ((((nI 4) * x1))).toInt + ((((f (a0 + 3) ((((nI 32) * x2) + x3) + (nI 1)).toNatClampNeg) - (nI 48)))).toInt := t_addn (by omega) | obtain ⟨kt_115, t_115⟩ := t_add (((nI 4) * x1)) (((f (a0 + 3) ((((nI 32) * x2) + x3) + (nI 1)).toNatClampNeg) - (nI 48)))
          refine cT_call (b_M_printAll_78 s0) (c_M_putField hI s0 (by first | omega | assumption | exact sl_4_4 (by assumption)) (by first | omega | assumption | exact sl_4_4 (by assumption))) hF (fun o ho => by omega) (fun v_121 f_122 hI_123 hG_124 hF_125 hQ_126 => ?_)
          obtain ⟨rfl, hQ_126⟩ := hQ_126
          have i6n : ∀ k, k ≠ 16 → f_122 a0 k = f0 a0 k := fun k hk => (hQ_126.2 k hk).trans (i6 k hk)
          show cT 120 88 [.ref a0, .int x1, .int x2, .int x3, .int (f (a0 + 3) (((nI 32) * x2) + x3).toNatClampNeg), .int ((f (a0 + 3) ((((nI 32) * x2) + x3) + (nI 1)).toNatClampNeg) - (nI 48))] [] _ _ _ _ _ _
          refine cT_go b_M_printAll_88 ?_
          refine cT_go b_M_printAll_171 ?_
          first | have t_129 : (x3 + (nI 1)).toInt = (x3).toInt + ((nI 1)).toInt := t_addn (by omega) | obtain ⟨kt_129, t_129⟩ := t_add x3 (nI 1)
          first | have t_128 : (((x3 + nI 1)) + (nI 1)).toInt = (((x3 + nI 1))).toInt + ((nI 1)).toInt := t_addn (by omega) | obtain ⟨kt_128, t_128⟩ := t_add ((x3 + nI 1)) (nI 1)
          have t_130 : 0 ≤ (f_122 a0 16).toInt ∧ (f_122 a0 16).toInt ≤ 256 := (cI_at hI_123 16 s0).2.2.2.2.2.2.2.1 rfl
          exact ih (by omega) hI_123 hF_125 s0 (by omega) (by omega) (by first | exact w | exact p2) (by first | exact ⟨0, by omega, by omega, by omega⟩ | exact ⟨K + 1, by omega, by omega, by omega⟩ | exact ⟨K + 2, by omega, by omega, by omega⟩ | (obtain ⟨Y, hY⟩ := hY; have hy := mkc_le (f := f0) (t := x2.toNatClampNeg) (show K ≤ Y + 1 by omega); exact ⟨Y + 1, by omega, by omega, by omega⟩)) (by first | exact i6n | exact i6 | exact fun k hk => rfl | exact fun k hk => cg_up_k hk)
        · rw [t_eq] at c_112
          have t_132 : (nI 64).toInt = 64 := nI_toInt (by decide)
          refine cT_if b_M_printAll_94 (fun c_131 => ?_) (fun c_131 => ?_)
          · rw [t_eq] at c_131
            have w1 := (w.2 K (by omega)).2.1 (by omega)
            have m3 := mkc_1 (f := f0) (t := x2.toNatClampNeg) (k := K) (by omega)
            have m2 := mkc_le (f := f0) (t := x2.toNatClampNeg) (show K + 1 ≤ K + 2 by omega)
            have t_134 := t_rng (f (a0 + 3) ((((nI 32) * x2) + x3) + (nI 1)).toNatClampNeg)
            have t_135 : (nI 48).toInt = 48 := nI_toInt (by decide)
            first | have t_133 : (((f (a0 + 3) ((((nI 32) * x2) + x3) + (nI 1)).toNatClampNeg)) - ((nI 48))).toInt = (((f (a0 + 3) ((((nI 32) * x2) + x3) + (nI 1)).toNatClampNeg))).toInt - (((nI 48))).toInt := t_subn (by omega) | obtain ⟨kt_133, t_133⟩ := t_sub ((f (a0 + 3) ((((nI 32) * x2) + x3) + (nI 1)).toNatClampNeg)) ((nI 48))
            have t_136 := t_rng (f (a0 + 18) ((f (a0 + 3) ((((nI 32) * x2) + x3) + (nI 1)).toNatClampNeg) - (nI 48)).toNatClampNeg)
            refine cT_call (b_M_printAll_101 s0 (by rw [t_in]; omega)) (c_M_putNumber hI s0 (by first | omega | assumption | exact sl_4_4 (by assumption))) hF (fun o ho => by omega) (fun v_137 f_138 hI_139 hG_140 hF_141 hQ_142 => ?_)
            obtain ⟨rfl, hQ_142⟩ := hQ_142
            have i6n : ∀ k, k ≠ 16 → f_138 a0 k = f0 a0 k := fun k hk => (hQ_142.2 k hk).trans (i6 k hk)
            show cT 120 112 [.ref a0, .int x1, .int x2, .int x3, .int (f (a0 + 3) (((nI 32) * x2) + x3).toNatClampNeg), .int ((f (a0 + 3) ((((nI 32) * x2) + x3) + (nI 1)).toNatClampNeg) - (nI 48))] [] _ _ _ _ _ _
            refine cT_go b_M_printAll_112 ?_
            refine cT_go b_M_printAll_171 ?_
            first | have t_145 : (x3 + (nI 1)).toInt = (x3).toInt + ((nI 1)).toInt := t_addn (by omega) | obtain ⟨kt_145, t_145⟩ := t_add x3 (nI 1)
            first | have t_144 : (((x3 + nI 1)) + (nI 1)).toInt = (((x3 + nI 1))).toInt + ((nI 1)).toInt := t_addn (by omega) | obtain ⟨kt_144, t_144⟩ := t_add ((x3 + nI 1)) (nI 1)
            have t_146 : 0 ≤ (f_138 a0 16).toInt ∧ (f_138 a0 16).toInt ≤ 256 := (cI_at hI_139 16 s0).2.2.2.2.2.2.2.1 rfl
            exact ih (by omega) hI_139 hF_141 s0 (by omega) (by omega) (by first | exact w | exact p2) (by first | exact ⟨0, by omega, by omega, by omega⟩ | exact ⟨K + 1, by omega, by omega, by omega⟩ | exact ⟨K + 2, by omega, by omega, by omega⟩ | (obtain ⟨Y, hY⟩ := hY; have hy := mkc_le (f := f0) (t := x2.toNatClampNeg) (show K ≤ Y + 1 by omega); exact ⟨Y + 1, by omega, by omega, by omega⟩)) (by first | exact i6n | exact i6 | exact fun k hk => rfl | exact fun k hk => cg_up_k hk)
          · rw [t_eq] at c_131
            have t_148 : (nI 91).toInt = 91 := nI_toInt (by decide)
            refine cT_if b_M_printAll_118 (fun c_147 => ?_) (fun c_147 => ?_)
            · rw [t_eq] at c_147
              obtain ⟨j0, j1, j2, j3⟩ := (w.2 K (by omega)).2.2 (by omega)
              refine cT_call (b_M_printAll_125 s0) (c_M_endOf hI s0 (by first | omega | assumption | exact sl_4_4 (by assumption)) (by first | omega | assumption | exact sl_4_4 (by assumption)) ⟨j0, by omega, by omega, by rw [hsg]; exact j3⟩) hF (fun o ho => ho.elim) (fun v_149 f_150 hI_151 hG_152 hF_153 hQ_154 => ?_)
              obtain rfl := cF_no hG_152
              obtain ⟨y_155, rfl, hQ_154⟩ := hQ_154
              have hQ_154r := t_rng y_155
              have hy0 : y_155.toInt = y_155.toInt.toNat ∧ x3.toInt ≤ y_155.toInt ∧ y_155.toInt ≤ (j0 : Int) := by have := hQ_154.2.2 j0 (by omega) (by rw [hsg]; exact j3); have := hQ_154.1; omega
              have hY : ∃ Y : Nat, y_155.toInt = Y := ⟨y_155.toInt.toNat, by omega⟩
              show cT 120 135 [.ref a0, .int x1, .int x2, .int x3, .int (f (a0 + 3) (((nI 32) * x2) + x3).toNatClampNeg), .int ((f (a0 + 3) ((((nI 32) * x2) + x3) + (nI 1)).toNatClampNeg) - (nI 48))] [.int y_155, .int x3, .int x2, .int x1, .ref a0] _ _ _ _ _ _
              refine cT_call (b_M_printAll_135 s0) (c_M_hasEmpty hI s0 (by first | omega | assumption | exact sl_4_4 (by assumption)) (by first | omega | assumption | exact sl_4_4 (by assumption)) (by first | omega | assumption | exact sl_4_4 (by assumption)) (by first | omega | assumption | exact sl_4_4 (by assumption)) (fun k h1 h2 => by rw [hsg] at h2; have := (w.2 k (by omega)).1 h2; rw [hsg]; omega)) hF (fun o ho => ho.elim) (fun v_156 f_157 hI_158 hG_159 hF_160 hQ_161 => ?_)
              obtain rfl := cF_no hG_159
              obtain ⟨y_162, rfl, hb_163, hQ_161⟩ := hQ_161
              have hb_163r := t_rng y_162
              show cT 120 138 [.ref a0, .int x1, .int x2, .int x3, .int (f (a0 + 3) (((nI 32) * x2) + x3).toNatClampNeg), .int ((f (a0 + 3) ((((nI 32) * x2) + x3) + (nI 1)).toNatClampNeg) - (nI 48))] [.int y_162] _ _ _ _ _ _
              refine cT_if b_M_printAll_138 (fun c_164 => ?_) (fun c_164 => ?_)
              · rw [t_eq] at c_164
                refine cT_if b_M_printAll_151 (fun c_166 => ?_) (fun c_166 => ?_)
                · rw [t_eq] at c_166
                  refine cT_go b_M_printAll_171 ?_
                  first | have t_167 : (x3 + (nI 1)).toInt = (x3).toInt + ((nI 1)).toInt := t_addn (by omega) | obtain ⟨kt_167, t_167⟩ := t_add x3 (nI 1)
                  have t_169 := t_rng (f (a0 + 3) ((((nI 32) * x2) + x3) + (nI 1)).toNatClampNeg)
                  have t_170 : (nI 48).toInt = 48 := nI_toInt (by decide)
                  first | have t_168 : (((f (a0 + 3) ((((nI 32) * x2) + x3) + (nI 1)).toNatClampNeg)) - ((nI 48))).toInt = (((f (a0 + 3) ((((nI 32) * x2) + x3) + (nI 1)).toNatClampNeg))).toInt - (((nI 48))).toInt := t_subn (by omega) | obtain ⟨kt_168, t_168⟩ := t_sub ((f (a0 + 3) ((((nI 32) * x2) + x3) + (nI 1)).toNatClampNeg)) ((nI 48))
                  have t_171 : 0 ≤ (f a0 16).toInt ∧ (f a0 16).toInt ≤ 256 := (cI_at hI 16 s0).2.2.2.2.2.2.2.1 rfl
                  exact ih (by omega) hI hF s0 (by omega) (by omega) (by first | exact w | exact p2) (by first | exact ⟨0, by omega, by omega, by omega⟩ | exact ⟨K + 1, by omega, by omega, by omega⟩ | exact ⟨K + 2, by omega, by omega, by omega⟩ | (obtain ⟨Y, hY⟩ := hY; have hy := mkc_le (f := f0) (t := x2.toNatClampNeg) (show K ≤ Y + 1 by omega); exact ⟨Y + 1, by omega, by omega, by omega⟩)) (by first | exact i6n | exact i6 | exact fun k hk => rfl | exact fun k hk => cg_up_k hk)
                · rw [t_eq] at c_166
                  have t_173 : (nI 93).toInt = 93 := nI_toInt (by decide)
                  refine cT_if b_M_printAll_158 (fun c_172 => ?_) (fun c_172 => ?_)
                  · rw [t_eq] at c_172
                    refine cT_go b_M_printAll_171 ?_
                    first | have t_174 : (x3 + (nI 1)).toInt = (x3).toInt + ((nI 1)).toInt := t_addn (by omega) | obtain ⟨kt_174, t_174⟩ := t_add x3 (nI 1)
                    have t_176 := t_rng (f (a0 + 3) ((((nI 32) * x2) + x3) + (nI 1)).toNatClampNeg)
                    have t_177 : (nI 48).toInt = 48 := nI_toInt (by decide)
                    first | have t_175 : (((f (a0 + 3) ((((nI 32) * x2) + x3) + (nI 1)).toNatClampNeg)) - ((nI 48))).toInt = (((f (a0 + 3) ((((nI 32) * x2) + x3) + (nI 1)).toNatClampNeg))).toInt - (((nI 48))).toInt := t_subn (by omega) | obtain ⟨kt_175, t_175⟩ := t_sub ((f (a0 + 3) ((((nI 32) * x2) + x3) + (nI 1)).toNatClampNeg)) ((nI 48))
                    have t_178 : 0 ≤ (f a0 16).toInt ∧ (f a0 16).toInt ≤ 256 := (cI_at hI 16 s0).2.2.2.2.2.2.2.1 rfl
                    exact ih (by omega) hI hF s0 (by omega) (by omega) (by first | exact w | exact p2) (by first | exact ⟨0, by omega, by omega, by omega⟩ | exact ⟨K + 1, by omega, by omega, by omega⟩ | exact ⟨K + 2, by omega, by omega, by omega⟩ | (obtain ⟨Y, hY⟩ := hY; have hy := mkc_le (f := f0) (t := x2.toNatClampNeg) (show K ≤ Y + 1 by omega); exact ⟨Y + 1, by omega, by omega, by omega⟩)) (by first | exact i6n | exact i6 | exact fun k hk => rfl | exact fun k hk => cg_up_k hk)
                  · rw [t_eq] at c_172
                    refine cT_call (b_M_printAll_165 s0) (c_M_put hI s0 (by first | omega | assumption | exact sl_4_4 (by assumption))) hF (fun o ho => by omega) (fun v_179 f_180 hI_181 hG_182 hF_183 hQ_184 => ?_)
                    obtain ⟨rfl, hQ_184⟩ := hQ_184
                    have i6n : ∀ k, k ≠ 16 → f_180 a0 k = f0 a0 k := fun k hk => (hQ_184.2 k hk).trans (i6 k hk)
                    show cT 120 171 [.ref a0, .int x1, .int x2, .int x3, .int (f (a0 + 3) (((nI 32) * x2) + x3).toNatClampNeg), .int ((f (a0 + 3) ((((nI 32) * x2) + x3) + (nI 1)).toNatClampNeg) - (nI 48))] [] _ _ _ _ _ _
                    refine cT_go b_M_printAll_171 ?_
                    first | have t_186 : (x3 + (nI 1)).toInt = (x3).toInt + ((nI 1)).toInt := t_addn (by omega) | obtain ⟨kt_186, t_186⟩ := t_add x3 (nI 1)
                    have t_188 := t_rng (f (a0 + 3) ((((nI 32) * x2) + x3) + (nI 1)).toNatClampNeg)
                    have t_189 : (nI 48).toInt = 48 := nI_toInt (by decide)
                    first | have t_187 : (((f (a0 + 3) ((((nI 32) * x2) + x3) + (nI 1)).toNatClampNeg)) - ((nI 48))).toInt = (((f (a0 + 3) ((((nI 32) * x2) + x3) + (nI 1)).toNatClampNeg))).toInt - (((nI 48))).toInt := t_subn (by omega) | obtain ⟨kt_187, t_187⟩ := t_sub ((f (a0 + 3) ((((nI 32) * x2) + x3) + (nI 1)).toNatClampNeg)) ((nI 48))
                    have t_190 : 0 ≤ (f_180 a0 16).toInt ∧ (f_180 a0 16).toInt ≤ 256 := (cI_at hI_181 16 s0).2.2.2.2.2.2.2.1 rfl
                    exact ih (by omega) hI_181 hF_183 s0 (by omega) (by omega) (by first | exact w | exact p2) (by first | exact ⟨0, by omega, by omega, by omega⟩ | exact ⟨K + 1, by omega, by omega, by omega⟩ | exact ⟨K + 2, by omega, by omega, by omega⟩ | (obtain ⟨Y, hY⟩ := hY; have hy := mkc_le (f := f0) (t := x2.toNatClampNeg) (show K ≤ Y + 1 by omega); exact ⟨Y + 1, by omega, by omega, by omega⟩)) (by first | exact i6n | exact i6 | exact fun k hk => rfl | exact fun k hk => cg_up_k hk)
              · rw [t_eq] at c_164
                refine cT_call (b_M_printAll_141 s0) (c_M_endOf hI s0 (by first | omega | assumption | exact sl_4_4 (by assumption)) (by first | omega | assumption | exact sl_4_4 (by assumption)) ⟨j0, by omega, by omega, by rw [hsg]; exact j3⟩) hF (fun o ho => ho.elim) (fun v_191 f_192 hI_193 hG_194 hF_195 hQ_196 => ?_)
                obtain rfl := cF_no hG_194
                obtain ⟨y_197, rfl, hQ_196⟩ := hQ_196
                have hQ_196r := t_rng y_197
                have hy0 : y_197.toInt = y_197.toInt.toNat ∧ x3.toInt ≤ y_197.toInt ∧ y_197.toInt ≤ (j0 : Int) := by have := hQ_196.2.2 j0 (by omega) (by rw [hsg]; exact j3); have := hQ_196.1; omega
                have hY : ∃ Y : Nat, y_197.toInt = Y := ⟨y_197.toInt.toNat, by omega⟩
                show cT 120 147 [.ref a0, .int x1, .int x2, .int x3, .int (f (a0 + 3) (((nI 32) * x2) + x3).toNatClampNeg), .int ((f (a0 + 3) ((((nI 32) * x2) + x3) + (nI 1)).toNatClampNeg) - (nI 48))] [.int y_197] _ _ _ _ _ _
                refine cT_go b_M_printAll_147 ?_
                refine cT_go b_M_printAll_171 ?_
                first | have t_198 : (y_197 + (nI 1)).toInt = (y_197).toInt + ((nI 1)).toInt := t_addn (by omega) | obtain ⟨kt_198, t_198⟩ := t_add y_197 (nI 1)
                have t_200 := t_rng (f (a0 + 3) ((((nI 32) * x2) + x3) + (nI 1)).toNatClampNeg)
                have t_201 : (nI 48).toInt = 48 := nI_toInt (by decide)
                first | have t_199 : (((f (a0 + 3) ((((nI 32) * x2) + x3) + (nI 1)).toNatClampNeg)) - ((nI 48))).toInt = (((f (a0 + 3) ((((nI 32) * x2) + x3) + (nI 1)).toNatClampNeg))).toInt - (((nI 48))).toInt := t_subn (by omega) | obtain ⟨kt_199, t_199⟩ := t_sub ((f (a0 + 3) ((((nI 32) * x2) + x3) + (nI 1)).toNatClampNeg)) ((nI 48))
                have t_202 : 0 ≤ (f a0 16).toInt ∧ (f a0 16).toInt ≤ 256 := (cI_at hI 16 s0).2.2.2.2.2.2.2.1 rfl
                exact ih (by omega) hI hF s0 (by omega) (by omega) (by first | exact w | exact p2) (by first | exact ⟨0, by omega, by omega, by omega⟩ | exact ⟨K + 1, by omega, by omega, by omega⟩ | exact ⟨K + 2, by omega, by omega, by omega⟩ | (obtain ⟨Y, hY⟩ := hY; have hy := mkc_le (f := f0) (t := x2.toNatClampNeg) (show K ≤ Y + 1 by omega); exact ⟨Y + 1, by omega, by omega, by omega⟩)) (by first | exact i6n | exact i6 | exact fun k hk => rfl | exact fun k hk => cg_up_k hk)
            · rw [t_eq] at c_147
              refine cT_if b_M_printAll_151 (fun c_203 => ?_) (fun c_203 => ?_)
              · rw [t_eq] at c_203
                refine cT_go b_M_printAll_171 ?_
                first | have t_204 : (x3 + (nI 1)).toInt = (x3).toInt + ((nI 1)).toInt := t_addn (by omega) | obtain ⟨kt_204, t_204⟩ := t_add x3 (nI 1)
                have t_206 := t_rng (f (a0 + 3) ((((nI 32) * x2) + x3) + (nI 1)).toNatClampNeg)
                have t_207 : (nI 48).toInt = 48 := nI_toInt (by decide)
                first | have t_205 : (((f (a0 + 3) ((((nI 32) * x2) + x3) + (nI 1)).toNatClampNeg)) - ((nI 48))).toInt = (((f (a0 + 3) ((((nI 32) * x2) + x3) + (nI 1)).toNatClampNeg))).toInt - (((nI 48))).toInt := t_subn (by omega) | obtain ⟨kt_205, t_205⟩ := t_sub ((f (a0 + 3) ((((nI 32) * x2) + x3) + (nI 1)).toNatClampNeg)) ((nI 48))
                have t_208 : 0 ≤ (f a0 16).toInt ∧ (f a0 16).toInt ≤ 256 := (cI_at hI 16 s0).2.2.2.2.2.2.2.1 rfl
                exact ih (by omega) hI hF s0 (by omega) (by omega) (by first | exact w | exact p2) (by first | exact ⟨0, by omega, by omega, by omega⟩ | exact ⟨K + 1, by omega, by omega, by omega⟩ | exact ⟨K + 2, by omega, by omega, by omega⟩ | (obtain ⟨Y, hY⟩ := hY; have hy := mkc_le (f := f0) (t := x2.toNatClampNeg) (show K ≤ Y + 1 by omega); exact ⟨Y + 1, by omega, by omega, by omega⟩)) (by first | exact i6n | exact i6 | exact fun k hk => rfl | exact fun k hk => cg_up_k hk)
              · rw [t_eq] at c_203
                have t_210 : (nI 93).toInt = 93 := nI_toInt (by decide)
                refine cT_if b_M_printAll_158 (fun c_209 => ?_) (fun c_209 => ?_)
                · rw [t_eq] at c_209
                  refine cT_go b_M_printAll_171 ?_
                  first | have t_211 : (x3 + (nI 1)).toInt = (x3).toInt + ((nI 1)).toInt := t_addn (by omega) | obtain ⟨kt_211, t_211⟩ := t_add x3 (nI 1)
                  have t_213 := t_rng (f (a0 + 3) ((((nI 32) * x2) + x3) + (nI 1)).toNatClampNeg)
                  have t_214 : (nI 48).toInt = 48 := nI_toInt (by decide)
                  first | have t_212 : (((f (a0 + 3) ((((nI 32) * x2) + x3) + (nI 1)).toNatClampNeg)) - ((nI 48))).toInt = (((f (a0 + 3) ((((nI 32) * x2) + x3) + (nI 1)).toNatClampNeg))).toInt - (((nI 48))).toInt := t_subn (by omega) | obtain ⟨kt_212, t_212⟩ := t_sub ((f (a0 + 3) ((((nI 32) * x2) + x3) + (nI 1)).toNatClampNeg)) ((nI 48))
                  have t_215 : 0 ≤ (f a0 16).toInt ∧ (f a0 16).toInt ≤ 256 := (cI_at hI 16 s0).2.2.2.2.2.2.2.1 rfl
                  exact ih (by omega) hI hF s0 (by omega) (by omega) (by first | exact w | exact p2) (by first | exact ⟨0, by omega, by omega, by omega⟩ | exact ⟨K + 1, by omega, by omega, by omega⟩ | exact ⟨K + 2, by omega, by omega, by omega⟩ | (obtain ⟨Y, hY⟩ := hY; have hy := mkc_le (f := f0) (t := x2.toNatClampNeg) (show K ≤ Y + 1 by omega); exact ⟨Y + 1, by omega, by omega, by omega⟩)) (by first | exact i6n | exact i6 | exact fun k hk => rfl | exact fun k hk => cg_up_k hk)
                · rw [t_eq] at c_209
                  refine cT_call (b_M_printAll_165 s0) (c_M_put hI s0 (by first | omega | assumption | exact sl_4_4 (by assumption))) hF (fun o ho => by omega) (fun v_216 f_217 hI_218 hG_219 hF_220 hQ_221 => ?_)
                  obtain ⟨rfl, hQ_221⟩ := hQ_221
                  have i6n : ∀ k, k ≠ 16 → f_217 a0 k = f0 a0 k := fun k hk => (hQ_221.2 k hk).trans (i6 k hk)
                  show cT 120 171 [.ref a0, .int x1, .int x2, .int x3, .int (f (a0 + 3) (((nI 32) * x2) + x3).toNatClampNeg), .int ((f (a0 + 3) ((((nI 32) * x2) + x3) + (nI 1)).toNatClampNeg) - (nI 48))] [] _ _ _ _ _ _
                  refine cT_go b_M_printAll_171 ?_
                  first | have t_223 : (x3 + (nI 1)).toInt = (x3).toInt + ((nI 1)).toInt := t_addn (by omega) | obtain ⟨kt_223, t_223⟩ := t_add x3 (nI 1)
                  have t_225 := t_rng (f (a0 + 3) ((((nI 32) * x2) + x3) + (nI 1)).toNatClampNeg)
                  have t_226 : (nI 48).toInt = 48 := nI_toInt (by decide)
                  first | have t_224 : (((f (a0 + 3) ((((nI 32) * x2) + x3) + (nI 1)).toNatClampNeg)) - ((nI 48))).toInt = (((f (a0 + 3) ((((nI 32) * x2) + x3) + (nI 1)).toNatClampNeg))).toInt - (((nI 48))).toInt := t_subn (by omega) | obtain ⟨kt_224, t_224⟩ := t_sub ((f (a0 + 3) ((((nI 32) * x2) + x3) + (nI 1)).toNatClampNeg)) ((nI 48))
                  have t_227 : 0 ≤ (f_217 a0 16).toInt ∧ (f_217 a0 16).toInt ≤ 256 := (cI_at hI_218 16 s0).2.2.2.2.2.2.2.1 rfl
                  exact ih (by omega) hI_218 hF_220 s0 (by omega) (by omega) (by first | exact w | exact p2) (by first | exact ⟨0, by omega, by omega, by omega⟩ | exact ⟨K + 1, by omega, by omega, by omega⟩ | exact ⟨K + 2, by omega, by omega, by omega⟩ | (obtain ⟨Y, hY⟩ := hY; have hy := mkc_le (f := f0) (t := x2.toNatClampNeg) (show K ≤ Y + 1 by omega); exact ⟨Y + 1, by omega, by omega, by omega⟩)) (by first | exact i6n | exact i6 | exact fun k hk => rfl | exact fun k hk => cg_up_k hk)
set_option maxHeartbeats 8000000 in
theorem c_M_printAll {L : Nat} {f : cg_G} {e : Nat × Nat} {a0 : Nat} {x1 : Int32} (hI : cI L f) (s0 : sh_ a0 = 7) (p1 : 0 ≤ x1.toInt ∧ x1.toInt < 8) (p2 : wfT f (f (a0 + 4) x1.toNatClampNeg).toNatClampNeg (f (a0 + 2) (f (a0 + 4) x1.toNatClampNeg).toNatClampNeg).toNatClampNeg) : cE 120 [.ref a0, .int x1] L e (fun o => o = a0 ∨ o = a0 + 10) f (fun v f' => v = none ∧ ((0 ≤ (f' a0 16).toInt ∧ (f' a0 16).toInt ≤ 212) ∧ ∀ k, k ≠ 16 → f' a0 k = f a0 k)) := by
  refine cE_of (ls := [.ref a0, .int x1, (.retAddr 0), (.retAddr 0), (.retAddr 0), (.retAddr 0)]) rfl ?_
  have t0 := t_0
  have hF : cF (fun o => o = a0 ∨ o = a0 + 10) f f := cF_rf
  have hm := one_7 s0
  have t_228 := t_rng (x1)
  have t_231 : (nI 0).toInt = 0 := nI_toInt (by decide)
  have hI_229 := cI_up (k := 16) (x := nI 0) hI s0 ⟨(fun h => absurd h (by decide)), (fun h => absurd h (by decide)), (fun h => absurd h (by decide)), (fun h => absurd h (by decide)), (fun h => absurd h (by decide)), (fun h => absurd h (by decide)), (fun h => absurd h (by decide)), (fun _ => by omega), (fun h => absurd h (by decide)), (fun h => absurd h (by decide))⟩
  have hF_230 := cF_up (a := a0) (k := 16) (x := nI 0) hF (by omega)
  refine cT_go (b_M_printAll_0 s0 (by rw [t_in]; omega)) ?_
  have t_232 : 0 ≤ (f (a0 + 4) x1.toNatClampNeg).toInt ∧ (f (a0 + 4) x1.toNatClampNeg).toInt ≤ 5 := (cI_at hI x1.toNatClampNeg (sc_7_9 s0)).2.1 (by omega)
  have t_233 : ((cg_up f a0 16 (nI 0)) a0 16).toInt = (nI 0).toInt := by rw [cg_up_s]
  exact l_M_printAll_14 ((40 - (nI 0).toInt).toNat + 1) (by omega) hI_229 hF_230 s0 (by omega) (by omega) (by first | exact w | exact p2) (by first | exact ⟨0, by omega, by omega, by omega⟩ | exact ⟨K + 1, by omega, by omega, by omega⟩ | exact ⟨K + 2, by omega, by omega, by omega⟩ | (obtain ⟨Y, hY⟩ := hY; have hy := mkc_le (f := f0) (t := x2.toNatClampNeg) (show K ≤ Y + 1 by omega); exact ⟨Y + 1, by omega, by omega, by omega⟩)) (by first | exact i6n | exact i6 | exact fun k hk => rfl | exact fun k hk => cg_up_k hk)
