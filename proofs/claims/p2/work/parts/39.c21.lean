set_option maxHeartbeats 8000000 in
theorem l_M_line_91 {L : Nat} {e : Nat × Nat} {f0 : cg_G} : ∀ (k : Nat) {f : cg_G} {a0 : Nat} {x1 : Int32} {x2 : Int32} {x3 : Int32} {x4 : Int32} {x5 : Int32} {x6 : Int32} {u7 : Value}, (1800 - x6.toInt).toNat < k → cI L f → cF (fun o => o = a0) f0 f → sh_ a0 = 7 → (0 ≤ (f a0 23).toInt ∧ (f a0 23).toInt ≤ 1) → (0 ≤ x6.toInt) → (∀ k, k ≠ 2 → f a0 k = f0 a0 k) → cT 92 91 [.ref a0, .int x1, .int x2, .int x3, .int x4, .int x5, .int x6, u7] [] L e (fun o => o = a0) f0 f (fun v f' => ∃ x : Int32, v = some (.int x) ∧ (∀ k, k ≠ 2 → f' a0 k = f0 a0 k)) := by
  intro k
  induction k with
  | zero => intro f a0 x1 x2 x3 x4 x5 x6 u7 hm; omega
  | succ k ih =>
    intro f a0 x1 x2 x3 x4 x5 x6 u7 hme hI hF s0 i23 i6 hk
    have hm := one_7 s0
    have t_1 := t_rng (x1)
    have t_2 := t_rng (x2)
    have t_3 := t_rng (x3)
    have t_4 := t_rng (x4)
    have t_5 := t_rng (x5)
    have t_6 := t_rng (x6)
    have t_7 : -1 ≤ (f a0 23).toInt ∧ (f a0 23).toInt ≤ 1 := (cI_at hI 23 s0).2.2.2.2.2.2.2.2.2 rfl
    have t_11 : (nI 900).toInt = 900 := nI_toInt (by decide)
    first | have t_10 : (((nI 900)) * ((f a0 23))).toInt = 900 * (((f a0 23))).toInt := t_mulc (by decide) (by omega) | (obtain ⟨kt_10, t_10⟩ := t_mul ((nI 900)) ((f a0 23)); rw [nI_toInt (show 900 < 2 ^ 31 by decide)] at t_10)
    have t_12 : 0 ≤ (f (a0 + 23) (f a0 23).toNatClampNeg).toInt ∧ (f (a0 + 23) (f a0 23).toNatClampNeg).toInt ≤ 900 := (cI_at hI (f a0 23).toNatClampNeg (sc_7_32 s0)).2.2.2.2.2.2.1 (by omega)
    first | have t_9 : ((((nI 900) * (f a0 23))) + ((f (a0 + 23) (f a0 23).toNatClampNeg))).toInt = ((((nI 900) * (f a0 23)))).toInt + (((f (a0 + 23) (f a0 23).toNatClampNeg))).toInt := t_addn (by omega) | obtain ⟨kt_9, t_9⟩ := t_add (((nI 900) * (f a0 23))) ((f (a0 + 23) (f a0 23).toNatClampNeg))
    refine cT_if (b_M_line_91 s0 (by rw [t_in]; omega)) (fun c_8 => ?_) (fun c_8 => ?_)
    · rw [t_le] at c_8; try rw [t_0] at c_8
      exact cT_ret b_M_line_208 hI hF ⟨_, rfl, hk⟩
    · rw [t_le] at c_8; try rw [t_0] at c_8
      have t_14 := t_rng (f (a0 + 28) x6.toNatClampNeg)
      refine cT_if (b_M_line_114 s0 (by rw [t_in]; omega)) (fun c_13 => ?_) (fun c_13 => ?_)
      · rw [t_eq] at c_13; try rw [t_0] at c_13
        have t_17 := t_rng (f (a0 + 29) x6.toNatClampNeg)
        first | have t_16 : (x2 - ((f (a0 + 29) x6.toNatClampNeg))).toInt = (x2).toInt - (((f (a0 + 29) x6.toNatClampNeg))).toInt := t_subn (by omega) | obtain ⟨kt_16, t_16⟩ := t_sub x2 ((f (a0 + 29) x6.toNatClampNeg))
        refine cT_if b_M_line_136 (fun c_15 => ?_) (fun c_15 => ?_)
        · rw [t_lt] at c_15; try rw [t_0] at c_15
          refine cT_go b_M_line_202 ?_
          have t_20 : (nI 1).toInt = 1 := nI_toInt (by decide)
          first | have t_19 : (x6 + (nI 1)).toInt = (x6).toInt + ((nI 1)).toInt := t_addn (by omega) | obtain ⟨kt_19, t_19⟩ := t_add x6 (nI 1)
          exact ih (by omega) hI hF s0 (by omega) (by omega) hk
        · rw [t_lt] at c_15; try rw [t_0] at c_15
          refine cT_call (b_M_line_141 s0) (c_M_high hI s0 (by first | omega | assumption | exact sl_4_4 (by assumption))) hF (fun o ho => ho.elim) (fun v_21 f_22 hI_23 hG_24 hF_25 hQ_26 => ?_)
          obtain rfl := cF_no hG_24
          obtain ⟨y_27, rfl, hQ_26⟩ := hQ_26
          have hQ_26r := t_rng y_27
          show cT 92 149 [.ref a0, .int x1, .int x2, .int x3, .int x4, .int x5, .int x6, .int (x2 - (f (a0 + 29) x6.toNatClampNeg))] [.int y_27, .int (x2 - (f (a0 + 29) x6.toNatClampNeg))] _ _ _ _ _ _
          refine cT_if b_M_line_149 (fun c_28 => ?_) (fun c_28 => ?_)
          · rw [t_le] at c_28; try rw [t_0] at c_28
            refine cT_go b_M_line_202 ?_
            have t_30 : (nI 1).toInt = 1 := nI_toInt (by decide)
            first | have t_29 : (x6 + (nI 1)).toInt = (x6).toInt + ((nI 1)).toInt := t_addn (by omega) | obtain ⟨kt_29, t_29⟩ := t_add x6 (nI 1)
            exact ih (by omega) hI hF s0 (by omega) (by omega) hk
          · rw [t_le] at c_28; try rw [t_0] at c_28
            refine cT_if b_M_line_152 (fun c_31 => ?_) (fun c_31 => ?_)
            · rw [t_eq] at c_31; try rw [t_0] at c_31
              refine cT_go (b_M_line_156 s0 (by rw [t_in]; omega)) ?_
              refine cT_go b_M_line_200 ?_
              refine cT_go b_M_line_202 ?_
              have t_32 : 0 ≤ (f (a0 + 24) x6.toNatClampNeg).toInt ∧ (f (a0 + 24) x6.toNatClampNeg).toInt ≤ 7 := (cI_at hI x6.toNatClampNeg (sc_7_33 s0)).2.2.2.2.2.2.2.1 (by omega)
              have t_34 : (nI 1).toInt = 1 := nI_toInt (by decide)
              first | have t_33 : (x6 + (nI 1)).toInt = (x6).toInt + ((nI 1)).toInt := t_addn (by omega) | obtain ⟨kt_33, t_33⟩ := t_add x6 (nI 1)
              exact ih (by omega) hI hF s0 (by omega) (by omega) hk
            · rw [t_eq] at c_31; try rw [t_0] at c_31
              have t_36 : 0 ≤ (f (a0 + 25) x6.toNatClampNeg).toInt ∧ (f (a0 + 25) x6.toNatClampNeg).toInt ≤ 30 := (cI_at hI x6.toNatClampNeg (sc_7_34 s0)).2.2.2.2.2.2.2.2.2.2.2.1 (by omega)
              refine cT_if (b_M_line_166 s0 (by rw [t_in]; omega)) (fun c_35 => ?_) (fun c_35 => ?_)
              · rw [t_le] at c_35; try rw [t_0] at c_35
                refine cT_go (b_M_line_182 s0 (by rw [t_in]; omega)) ?_
                refine cT_go b_M_line_200 ?_
                refine cT_go b_M_line_202 ?_
                have t_39 := t_rng (f (a0 + 26) x6.toNatClampNeg)
                first | have t_38 : (((f (a0 + 26) x6.toNatClampNeg)) + ((x2 - (f (a0 + 29) x6.toNatClampNeg)))).toInt = (((f (a0 + 26) x6.toNatClampNeg))).toInt + (((x2 - (f (a0 + 29) x6.toNatClampNeg)))).toInt := t_addn (by omega) | obtain ⟨kt_38, t_38⟩ := t_add ((f (a0 + 26) x6.toNatClampNeg)) ((x2 - (f (a0 + 29) x6.toNatClampNeg)))
                first | have t_37 : ((((f (a0 + 26) x6.toNatClampNeg) + (x2 - (f (a0 + 29) x6.toNatClampNeg)))) - ((f (a0 + 25) x6.toNatClampNeg))).toInt = ((((f (a0 + 26) x6.toNatClampNeg) + (x2 - (f (a0 + 29) x6.toNatClampNeg))))).toInt - (((f (a0 + 25) x6.toNatClampNeg))).toInt := t_subn (by omega) | obtain ⟨kt_37, t_37⟩ := t_sub (((f (a0 + 26) x6.toNatClampNeg) + (x2 - (f (a0 + 29) x6.toNatClampNeg)))) ((f (a0 + 25) x6.toNatClampNeg))
                have t_41 : (nI 1).toInt = 1 := nI_toInt (by decide)
                first | have t_40 : (x6 + (nI 1)).toInt = (x6).toInt + ((nI 1)).toInt := t_addn (by omega) | obtain ⟨kt_40, t_40⟩ := t_add x6 (nI 1)
                exact ih (by omega) hI hF s0 (by omega) (by omega) hk
              · rw [t_le] at c_35; try rw [t_0] at c_35
                refine cT_go b_M_line_178 ?_
                refine cT_go b_M_line_200 ?_
                refine cT_go b_M_line_202 ?_
                have t_42 := t_neg1
                have t_44 : (nI 1).toInt = 1 := nI_toInt (by decide)
                first | have t_43 : (x6 + (nI 1)).toInt = (x6).toInt + ((nI 1)).toInt := t_addn (by omega) | obtain ⟨kt_43, t_43⟩ := t_add x6 (nI 1)
                exact ih (by omega) hI hF s0 (by omega) (by omega) hk
      · rw [t_eq] at c_13; try rw [t_0] at c_13
        refine cT_go b_M_line_202 ?_
        have t_46 : (nI 1).toInt = 1 := nI_toInt (by decide)
        first | have t_45 : (x6 + (nI 1)).toInt = (x6).toInt + ((nI 1)).toInt := t_addn (by omega) | obtain ⟨kt_45, t_45⟩ := t_add x6 (nI 1)
        have t_48 := t_rng (f (a0 + 29) x6.toNatClampNeg)
        first | have t_47 : (x2 - ((f (a0 + 29) x6.toNatClampNeg))).toInt = (x2).toInt - (((f (a0 + 29) x6.toNatClampNeg))).toInt := t_subn (by omega) | obtain ⟨kt_47, t_47⟩ := t_sub x2 ((f (a0 + 29) x6.toNatClampNeg))
        exact ih (by omega) hI hF s0 (by omega) (by omega) hk
set_option maxHeartbeats 8000000 in
theorem c_M_line {L : Nat} {f : cg_G} {e : Nat × Nat} {a0 : Nat} {x1 : Int32} {x2 : Int32} {x3 : Int32} (hI : cI L f) (s0 : sh_ a0 = 7)  : cE 92 [.ref a0, .int x1, .int x2, .int x3] L e (fun o => o = a0) f (fun v f' => ∃ x : Int32, v = some (.int x) ∧ (∀ k, k ≠ 2 → f' a0 k = f a0 k)) := by
  refine cE_of (ls := [.ref a0, .int x1, .int x2, .int x3, (.retAddr 0), (.retAddr 0), (.retAddr 0), (.retAddr 0)]) rfl ?_
  have hF : cF (fun o => o = a0) f f := cF_rf
  have hm := one_7 s0
  have t_49 := t_rng (x1)
  have t_50 := t_rng (x2)
  have t_51 := t_rng (x3)
  have t_52 : 3 ≤ (f a0 1).toInt ∧ (f a0 1).toInt ≤ 30 := (cI_at hI 1 s0).2.1 rfl
  refine cT_call (b_M_line_0 s0) (c_M_below hI) hF (fun o ho => ho.elim) (fun v_53 f_54 hI_55 hG_56 hF_57 hQ_58 => ?_)
  obtain rfl := cF_no hG_56
  obtain ⟨y_59, rfl, hb_60, hQ_58⟩ := hQ_58
  have hb_60r := t_b01 hb_60
  show cT 92 8 [.ref a0, .int x1, .int x2, .int x3, ((.retAddr 0)), ((.retAddr 0)), ((.retAddr 0)), ((.retAddr 0))] [.int y_59] _ _ _ _ _ _
  refine cT_if b_M_line_8 (fun c_61 => ?_) (fun c_61 => ?_)
  · rw [t_eq] at c_61; try rw [t_0] at c_61
    refine cT_go b_M_line_51 ?_
    have t_64 : -1 ≤ (f a0 23).toInt ∧ (f a0 23).toInt ≤ 1 := (cI_at hI 23 s0).2.2.2.2.2.2.2.2.2 rfl
    have t_65 := t_neg1
    refine cT_if (b_M_line_52 s0) (fun c_63 => ?_) (fun c_63 => ?_)
    · rw [t_eq] at c_63; try rw [t_0] at c_63
      refine cT_go b_M_line_69 ?_
      have t_66 : (nI 0).toInt = 0 := nI_toInt (by decide)
      refine cT_call (b_M_line_70 s0) (c_M_goes hI s0) hF (fun o ho => by omega) (fun v_67 f_68 hI_69 hG_70 hF_71 hQ_72 => ?_)
      obtain ⟨y_73, rfl, hb_74, hQ_72⟩ := hQ_72
      have hb_74r := t_b01 hb_74
      have t_75 : 0 ≤ (f a0 3).toInt ∧ (f a0 3).toInt ≤ 32 := (cI_at hI 3 s0).2.2.2.1 rfl
      have t_76 : 0 ≤ (f a0 5).toInt ∧ (f a0 5).toInt ≤ 6 := (cI_at hI 5 s0).2.2.2.2.1 rfl
      have t_77 : 0 ≤ (f a0 8).toInt ∧ (f a0 8).toInt ≤ 8 := (cI_at hI 8 s0).2.2.2.2.2.1 rfl
      have t_78 : 0 ≤ (f a0 14).toInt ∧ (f a0 14).toInt ≤ 26 := (cI_at hI 14 s0).2.2.2.2.2.2.1 rfl
      have g_79 : (f_68 a0 1).toInt = (f a0 1).toInt := congrArg Int32.toInt (hQ_72.2.2.2.2 1 (by decide))
      have g_80 : (f_68 a0 3).toInt = (f a0 3).toInt := congrArg Int32.toInt (hQ_72.2.2.2.2 3 (by decide))
      have g_81 : (f_68 a0 5).toInt = (f a0 5).toInt := congrArg Int32.toInt (hQ_72.2.2.2.2 5 (by decide))
      have g_82 : (f_68 a0 8).toInt = (f a0 8).toInt := congrArg Int32.toInt (hQ_72.2.2.2.2 8 (by decide))
      have g_83 : (f_68 a0 14).toInt = (f a0 14).toInt := congrArg Int32.toInt (hQ_72.2.2.2.2 14 (by decide))
      have g_84 : (f_68 a0 23).toInt = (f a0 23).toInt := congrArg Int32.toInt (hQ_72.2.2.2.2 23 (by decide))
      have hk : ∀ k, k ≠ 2 → f_68 a0 k = f a0 k := hQ_72.2.2.2.2
      show cT 92 73 [.ref a0, .int x1, .int x2, .int x3, .int (nI 0), (((((((.retAddr 0))))))), (((((((.retAddr 0))))))), (((((((.retAddr 0)))))))] [.int y_73] _ _ _ _ _ _
      refine cT_if b_M_line_73 (fun c_85 => ?_) (fun c_85 => ?_)
      · rw [t_eq] at c_85; try rw [t_0] at c_85
        exact cT_ret b_M_line_76 hI_69 hF_71 ⟨_, rfl, hk⟩
      · rw [t_eq] at c_85; try rw [t_0] at c_85
        refine cT_go (b_M_line_78 s0) ?_
        have t_87 : (nI 900).toInt = 900 := nI_toInt (by decide)
        have t_88 : -1 ≤ (f_68 a0 23).toInt ∧ (f_68 a0 23).toInt ≤ 1 := (cI_at hI_69 23 s0).2.2.2.2.2.2.2.2.2 rfl
        first | have t_86 : (((nI 900)) * ((f_68 a0 23))).toInt = 900 * (((f_68 a0 23))).toInt := t_mulc (by decide) (by omega) | (obtain ⟨kt_86, t_86⟩ := t_mul ((nI 900)) ((f_68 a0 23)); rw [nI_toInt (show 900 < 2 ^ 31 by decide)] at t_86)
        exact l_M_line_91 ((1800 - ((nI 900) * (f_68 a0 23)).toInt).toNat + 1) (by omega) hI_69 hF_71 s0 (by omega) (by omega) hk
    · rw [t_eq] at c_63; try rw [t_0] at c_63
      refine cT_go b_M_line_65 ?_
      have t_89 : (nI 0).toInt = 0 := nI_toInt (by decide)
      have t_90 : (nI 1).toInt = 1 := nI_toInt (by decide)
      refine cT_call (b_M_line_70 s0) (c_M_goes hI s0) hF (fun o ho => by omega) (fun v_91 f_92 hI_93 hG_94 hF_95 hQ_96 => ?_)
      obtain ⟨y_97, rfl, hb_98, hQ_96⟩ := hQ_96
      have hb_98r := t_b01 hb_98
      have t_99 : 0 ≤ (f a0 3).toInt ∧ (f a0 3).toInt ≤ 32 := (cI_at hI 3 s0).2.2.2.1 rfl
      have t_100 : 0 ≤ (f a0 5).toInt ∧ (f a0 5).toInt ≤ 6 := (cI_at hI 5 s0).2.2.2.2.1 rfl
      have t_101 : 0 ≤ (f a0 8).toInt ∧ (f a0 8).toInt ≤ 8 := (cI_at hI 8 s0).2.2.2.2.2.1 rfl
      have t_102 : 0 ≤ (f a0 14).toInt ∧ (f a0 14).toInt ≤ 26 := (cI_at hI 14 s0).2.2.2.2.2.2.1 rfl
      have g_103 : (f_92 a0 1).toInt = (f a0 1).toInt := congrArg Int32.toInt (hQ_96.2.2.2.2 1 (by decide))
      have g_104 : (f_92 a0 3).toInt = (f a0 3).toInt := congrArg Int32.toInt (hQ_96.2.2.2.2 3 (by decide))
      have g_105 : (f_92 a0 5).toInt = (f a0 5).toInt := congrArg Int32.toInt (hQ_96.2.2.2.2 5 (by decide))
      have g_106 : (f_92 a0 8).toInt = (f a0 8).toInt := congrArg Int32.toInt (hQ_96.2.2.2.2 8 (by decide))
      have g_107 : (f_92 a0 14).toInt = (f a0 14).toInt := congrArg Int32.toInt (hQ_96.2.2.2.2 14 (by decide))
      have g_108 : (f_92 a0 23).toInt = (f a0 23).toInt := congrArg Int32.toInt (hQ_96.2.2.2.2 23 (by decide))
      have hk : ∀ k, k ≠ 2 → f_92 a0 k = f a0 k := hQ_96.2.2.2.2
      show cT 92 73 [.ref a0, .int x1, .int x2, .int x3, .int (nI 0), (((((((.retAddr 0))))))), (((((((.retAddr 0))))))), (((((((.retAddr 0)))))))] [.int y_97] _ _ _ _ _ _
      refine cT_if b_M_line_73 (fun c_109 => ?_) (fun c_109 => ?_)
      · rw [t_eq] at c_109; try rw [t_0] at c_109
        exact cT_ret b_M_line_76 hI_93 hF_95 ⟨_, rfl, hk⟩
      · rw [t_eq] at c_109; try rw [t_0] at c_109
        refine cT_go (b_M_line_78 s0) ?_
        have t_111 : (nI 900).toInt = 900 := nI_toInt (by decide)
        have t_112 : -1 ≤ (f_92 a0 23).toInt ∧ (f_92 a0 23).toInt ≤ 1 := (cI_at hI_93 23 s0).2.2.2.2.2.2.2.2.2 rfl
        first | have t_110 : (((nI 900)) * ((f_92 a0 23))).toInt = 900 * (((f_92 a0 23))).toInt := t_mulc (by decide) (by omega) | (obtain ⟨kt_110, t_110⟩ := t_mul ((nI 900)) ((f_92 a0 23)); rw [nI_toInt (show 900 < 2 ^ 31 by decide)] at t_110)
        exact l_M_line_91 ((1800 - ((nI 900) * (f_92 a0 23)).toInt).toNat + 1) (by omega) hI_93 hF_95 s0 (by omega) (by omega) hk
  · rw [t_eq] at c_61; try rw [t_0] at c_61
    have t_113 : (nI 2).toInt = 2 := nI_toInt (by decide)
    refine cT_call b_M_line_11 (c_M_below hI) hF (fun o ho => ho.elim) (fun v_114 f_115 hI_116 hG_117 hF_118 hQ_119 => ?_)
    obtain rfl := cF_no hG_117
    obtain ⟨y_120, rfl, hb_121, hQ_119⟩ := hQ_119
    have hb_121r := t_b01 hb_121
    show cT 92 16 [.ref a0, .int x1, .int x2, .int x3, ((((.retAddr 0)))), ((((.retAddr 0)))), ((((.retAddr 0)))), ((((.retAddr 0))))] [.int y_120] _ _ _ _ _ _
    refine cT_if b_M_line_16 (fun c_122 => ?_) (fun c_122 => ?_)
    · rw [t_eq] at c_122; try rw [t_0] at c_122
      refine cT_go b_M_line_51 ?_
      have t_124 : -1 ≤ (f a0 23).toInt ∧ (f a0 23).toInt ≤ 1 := (cI_at hI 23 s0).2.2.2.2.2.2.2.2.2 rfl
      have t_125 := t_neg1
      refine cT_if (b_M_line_52 s0) (fun c_123 => ?_) (fun c_123 => ?_)
      · rw [t_eq] at c_123; try rw [t_0] at c_123
        refine cT_go b_M_line_69 ?_
        have t_126 : (nI 0).toInt = 0 := nI_toInt (by decide)
        refine cT_call (b_M_line_70 s0) (c_M_goes hI s0) hF (fun o ho => by omega) (fun v_127 f_128 hI_129 hG_130 hF_131 hQ_132 => ?_)
        obtain ⟨y_133, rfl, hb_134, hQ_132⟩ := hQ_132
        have hb_134r := t_b01 hb_134
        have t_135 : 0 ≤ (f a0 3).toInt ∧ (f a0 3).toInt ≤ 32 := (cI_at hI 3 s0).2.2.2.1 rfl
        have t_136 : 0 ≤ (f a0 5).toInt ∧ (f a0 5).toInt ≤ 6 := (cI_at hI 5 s0).2.2.2.2.1 rfl
        have t_137 : 0 ≤ (f a0 8).toInt ∧ (f a0 8).toInt ≤ 8 := (cI_at hI 8 s0).2.2.2.2.2.1 rfl
        have t_138 : 0 ≤ (f a0 14).toInt ∧ (f a0 14).toInt ≤ 26 := (cI_at hI 14 s0).2.2.2.2.2.2.1 rfl
        have g_139 : (f_128 a0 1).toInt = (f a0 1).toInt := congrArg Int32.toInt (hQ_132.2.2.2.2 1 (by decide))
        have g_140 : (f_128 a0 3).toInt = (f a0 3).toInt := congrArg Int32.toInt (hQ_132.2.2.2.2 3 (by decide))
        have g_141 : (f_128 a0 5).toInt = (f a0 5).toInt := congrArg Int32.toInt (hQ_132.2.2.2.2 5 (by decide))
        have g_142 : (f_128 a0 8).toInt = (f a0 8).toInt := congrArg Int32.toInt (hQ_132.2.2.2.2 8 (by decide))
        have g_143 : (f_128 a0 14).toInt = (f a0 14).toInt := congrArg Int32.toInt (hQ_132.2.2.2.2 14 (by decide))
        have g_144 : (f_128 a0 23).toInt = (f a0 23).toInt := congrArg Int32.toInt (hQ_132.2.2.2.2 23 (by decide))
        have hk : ∀ k, k ≠ 2 → f_128 a0 k = f a0 k := hQ_132.2.2.2.2
        show cT 92 73 [.ref a0, .int x1, .int x2, .int x3, .int (nI 0), (((((((((.retAddr 0))))))))), (((((((((.retAddr 0))))))))), (((((((((.retAddr 0)))))))))] [.int y_133] _ _ _ _ _ _
        refine cT_if b_M_line_73 (fun c_145 => ?_) (fun c_145 => ?_)
        · rw [t_eq] at c_145; try rw [t_0] at c_145
          exact cT_ret b_M_line_76 hI_129 hF_131 ⟨_, rfl, hk⟩
        · rw [t_eq] at c_145; try rw [t_0] at c_145
          refine cT_go (b_M_line_78 s0) ?_
          have t_147 : (nI 900).toInt = 900 := nI_toInt (by decide)
          have t_148 : -1 ≤ (f_128 a0 23).toInt ∧ (f_128 a0 23).toInt ≤ 1 := (cI_at hI_129 23 s0).2.2.2.2.2.2.2.2.2 rfl
          first | have t_146 : (((nI 900)) * ((f_128 a0 23))).toInt = 900 * (((f_128 a0 23))).toInt := t_mulc (by decide) (by omega) | (obtain ⟨kt_146, t_146⟩ := t_mul ((nI 900)) ((f_128 a0 23)); rw [nI_toInt (show 900 < 2 ^ 31 by decide)] at t_146)
          exact l_M_line_91 ((1800 - ((nI 900) * (f_128 a0 23)).toInt).toNat + 1) (by omega) hI_129 hF_131 s0 (by omega) (by omega) hk
      · rw [t_eq] at c_123; try rw [t_0] at c_123
        refine cT_go b_M_line_65 ?_
        have t_149 : (nI 0).toInt = 0 := nI_toInt (by decide)
        have t_150 : (nI 1).toInt = 1 := nI_toInt (by decide)
        refine cT_call (b_M_line_70 s0) (c_M_goes hI s0) hF (fun o ho => by omega) (fun v_151 f_152 hI_153 hG_154 hF_155 hQ_156 => ?_)
        obtain ⟨y_157, rfl, hb_158, hQ_156⟩ := hQ_156
        have hb_158r := t_b01 hb_158
        have t_159 : 0 ≤ (f a0 3).toInt ∧ (f a0 3).toInt ≤ 32 := (cI_at hI 3 s0).2.2.2.1 rfl
        have t_160 : 0 ≤ (f a0 5).toInt ∧ (f a0 5).toInt ≤ 6 := (cI_at hI 5 s0).2.2.2.2.1 rfl
        have t_161 : 0 ≤ (f a0 8).toInt ∧ (f a0 8).toInt ≤ 8 := (cI_at hI 8 s0).2.2.2.2.2.1 rfl
        have t_162 : 0 ≤ (f a0 14).toInt ∧ (f a0 14).toInt ≤ 26 := (cI_at hI 14 s0).2.2.2.2.2.2.1 rfl
        have g_163 : (f_152 a0 1).toInt = (f a0 1).toInt := congrArg Int32.toInt (hQ_156.2.2.2.2 1 (by decide))
        have g_164 : (f_152 a0 3).toInt = (f a0 3).toInt := congrArg Int32.toInt (hQ_156.2.2.2.2 3 (by decide))
        have g_165 : (f_152 a0 5).toInt = (f a0 5).toInt := congrArg Int32.toInt (hQ_156.2.2.2.2 5 (by decide))
        have g_166 : (f_152 a0 8).toInt = (f a0 8).toInt := congrArg Int32.toInt (hQ_156.2.2.2.2 8 (by decide))
        have g_167 : (f_152 a0 14).toInt = (f a0 14).toInt := congrArg Int32.toInt (hQ_156.2.2.2.2 14 (by decide))
        have g_168 : (f_152 a0 23).toInt = (f a0 23).toInt := congrArg Int32.toInt (hQ_156.2.2.2.2 23 (by decide))
        have hk : ∀ k, k ≠ 2 → f_152 a0 k = f a0 k := hQ_156.2.2.2.2
        show cT 92 73 [.ref a0, .int x1, .int x2, .int x3, .int (nI 0), (((((((((.retAddr 0))))))))), (((((((((.retAddr 0))))))))), (((((((((.retAddr 0)))))))))] [.int y_157] _ _ _ _ _ _
        refine cT_if b_M_line_73 (fun c_169 => ?_) (fun c_169 => ?_)
        · rw [t_eq] at c_169; try rw [t_0] at c_169
          exact cT_ret b_M_line_76 hI_153 hF_155 ⟨_, rfl, hk⟩
        · rw [t_eq] at c_169; try rw [t_0] at c_169
          refine cT_go (b_M_line_78 s0) ?_
          have t_171 : (nI 900).toInt = 900 := nI_toInt (by decide)
          have t_172 : -1 ≤ (f_152 a0 23).toInt ∧ (f_152 a0 23).toInt ≤ 1 := (cI_at hI_153 23 s0).2.2.2.2.2.2.2.2.2 rfl
          first | have t_170 : (((nI 900)) * ((f_152 a0 23))).toInt = 900 * (((f_152 a0 23))).toInt := t_mulc (by decide) (by omega) | (obtain ⟨kt_170, t_170⟩ := t_mul ((nI 900)) ((f_152 a0 23)); rw [nI_toInt (show 900 < 2 ^ 31 by decide)] at t_170)
          exact l_M_line_91 ((1800 - ((nI 900) * (f_152 a0 23)).toInt).toNat + 1) (by omega) hI_153 hF_155 s0 (by omega) (by omega) hk
    · rw [t_eq] at c_122; try rw [t_0] at c_122
      have t_174 : -1 ≤ (f a0 23).toInt ∧ (f a0 23).toInt ≤ 1 := (cI_at hI 23 s0).2.2.2.2.2.2.2.2.2 rfl
      have t_175 := t_neg1
      refine cT_if (b_M_line_19 s0) (fun c_173 => ?_) (fun c_173 => ?_)
      · rw [t_eq] at c_173; try rw [t_0] at c_173
        refine cT_go b_M_line_47 ?_
        refine cT_if (b_M_line_52 s0) (fun c_176 => ?_) (fun c_176 => ?_)
        · rw [t_eq] at c_176; try rw [t_0] at c_176
          refine cT_go b_M_line_69 ?_
          have t_177 : (nI 1).toInt = 1 := nI_toInt (by decide)
          have t_178 : (nI 0).toInt = 0 := nI_toInt (by decide)
          refine cT_call (b_M_line_70 s0) (c_M_goes hI s0) hF (fun o ho => by omega) (fun v_179 f_180 hI_181 hG_182 hF_183 hQ_184 => ?_)
          obtain ⟨y_185, rfl, hb_186, hQ_184⟩ := hQ_184
          have hb_186r := t_b01 hb_186
          have t_187 : 0 ≤ (f a0 3).toInt ∧ (f a0 3).toInt ≤ 32 := (cI_at hI 3 s0).2.2.2.1 rfl
          have t_188 : 0 ≤ (f a0 5).toInt ∧ (f a0 5).toInt ≤ 6 := (cI_at hI 5 s0).2.2.2.2.1 rfl
          have t_189 : 0 ≤ (f a0 8).toInt ∧ (f a0 8).toInt ≤ 8 := (cI_at hI 8 s0).2.2.2.2.2.1 rfl
          have t_190 : 0 ≤ (f a0 14).toInt ∧ (f a0 14).toInt ≤ 26 := (cI_at hI 14 s0).2.2.2.2.2.2.1 rfl
          have g_191 : (f_180 a0 1).toInt = (f a0 1).toInt := congrArg Int32.toInt (hQ_184.2.2.2.2 1 (by decide))
          have g_192 : (f_180 a0 3).toInt = (f a0 3).toInt := congrArg Int32.toInt (hQ_184.2.2.2.2 3 (by decide))
          have g_193 : (f_180 a0 5).toInt = (f a0 5).toInt := congrArg Int32.toInt (hQ_184.2.2.2.2 5 (by decide))
          have g_194 : (f_180 a0 8).toInt = (f a0 8).toInt := congrArg Int32.toInt (hQ_184.2.2.2.2 8 (by decide))
          have g_195 : (f_180 a0 14).toInt = (f a0 14).toInt := congrArg Int32.toInt (hQ_184.2.2.2.2 14 (by decide))
          have g_196 : (f_180 a0 23).toInt = (f a0 23).toInt := congrArg Int32.toInt (hQ_184.2.2.2.2 23 (by decide))
          have hk : ∀ k, k ≠ 2 → f_180 a0 k = f a0 k := hQ_184.2.2.2.2
          show cT 92 73 [.ref a0, .int x1, .int x2, .int x3, .int (nI 1), ((((((((((.retAddr 0)))))))))), ((((((((((.retAddr 0)))))))))), ((((((((((.retAddr 0))))))))))] [.int y_185] _ _ _ _ _ _
          refine cT_if b_M_line_73 (fun c_197 => ?_) (fun c_197 => ?_)
          · rw [t_eq] at c_197; try rw [t_0] at c_197
            exact cT_ret b_M_line_76 hI_181 hF_183 ⟨_, rfl, hk⟩
          · rw [t_eq] at c_197; try rw [t_0] at c_197
            refine cT_go (b_M_line_78 s0) ?_
            have t_199 : (nI 900).toInt = 900 := nI_toInt (by decide)
            have t_200 : -1 ≤ (f_180 a0 23).toInt ∧ (f_180 a0 23).toInt ≤ 1 := (cI_at hI_181 23 s0).2.2.2.2.2.2.2.2.2 rfl
            first | have t_198 : (((nI 900)) * ((f_180 a0 23))).toInt = 900 * (((f_180 a0 23))).toInt := t_mulc (by decide) (by omega) | (obtain ⟨kt_198, t_198⟩ := t_mul ((nI 900)) ((f_180 a0 23)); rw [nI_toInt (show 900 < 2 ^ 31 by decide)] at t_198)
            exact l_M_line_91 ((1800 - ((nI 900) * (f_180 a0 23)).toInt).toNat + 1) (by omega) hI_181 hF_183 s0 (by omega) (by omega) hk
        · rw [t_eq] at c_176; try rw [t_0] at c_176
          refine cT_go b_M_line_65 ?_
          have t_201 : (nI 1).toInt = 1 := nI_toInt (by decide)
          refine cT_call (b_M_line_70 s0) (c_M_goes hI s0) hF (fun o ho => by omega) (fun v_202 f_203 hI_204 hG_205 hF_206 hQ_207 => ?_)
          obtain ⟨y_208, rfl, hb_209, hQ_207⟩ := hQ_207
          have hb_209r := t_b01 hb_209
          have t_210 : 0 ≤ (f a0 3).toInt ∧ (f a0 3).toInt ≤ 32 := (cI_at hI 3 s0).2.2.2.1 rfl
          have t_211 : 0 ≤ (f a0 5).toInt ∧ (f a0 5).toInt ≤ 6 := (cI_at hI 5 s0).2.2.2.2.1 rfl
          have t_212 : 0 ≤ (f a0 8).toInt ∧ (f a0 8).toInt ≤ 8 := (cI_at hI 8 s0).2.2.2.2.2.1 rfl
          have t_213 : 0 ≤ (f a0 14).toInt ∧ (f a0 14).toInt ≤ 26 := (cI_at hI 14 s0).2.2.2.2.2.2.1 rfl
          have g_214 : (f_203 a0 1).toInt = (f a0 1).toInt := congrArg Int32.toInt (hQ_207.2.2.2.2 1 (by decide))
          have g_215 : (f_203 a0 3).toInt = (f a0 3).toInt := congrArg Int32.toInt (hQ_207.2.2.2.2 3 (by decide))
          have g_216 : (f_203 a0 5).toInt = (f a0 5).toInt := congrArg Int32.toInt (hQ_207.2.2.2.2 5 (by decide))
          have g_217 : (f_203 a0 8).toInt = (f a0 8).toInt := congrArg Int32.toInt (hQ_207.2.2.2.2 8 (by decide))
          have g_218 : (f_203 a0 14).toInt = (f a0 14).toInt := congrArg Int32.toInt (hQ_207.2.2.2.2 14 (by decide))
          have g_219 : (f_203 a0 23).toInt = (f a0 23).toInt := congrArg Int32.toInt (hQ_207.2.2.2.2 23 (by decide))
          have hk : ∀ k, k ≠ 2 → f_203 a0 k = f a0 k := hQ_207.2.2.2.2
          show cT 92 73 [.ref a0, .int x1, .int x2, .int x3, .int (nI 1), ((((((((((.retAddr 0)))))))))), ((((((((((.retAddr 0)))))))))), ((((((((((.retAddr 0))))))))))] [.int y_208] _ _ _ _ _ _
          refine cT_if b_M_line_73 (fun c_220 => ?_) (fun c_220 => ?_)
          · rw [t_eq] at c_220; try rw [t_0] at c_220
            have t_221 : (nI 0).toInt = 0 := nI_toInt (by decide)
            exact cT_ret b_M_line_76 hI_204 hF_206 ⟨_, rfl, hk⟩
          · rw [t_eq] at c_220; try rw [t_0] at c_220
            refine cT_go (b_M_line_78 s0) ?_
            have t_223 : (nI 900).toInt = 900 := nI_toInt (by decide)
            have t_224 : -1 ≤ (f_203 a0 23).toInt ∧ (f_203 a0 23).toInt ≤ 1 := (cI_at hI_204 23 s0).2.2.2.2.2.2.2.2.2 rfl
            first | have t_222 : (((nI 900)) * ((f_203 a0 23))).toInt = 900 * (((f_203 a0 23))).toInt := t_mulc (by decide) (by omega) | (obtain ⟨kt_222, t_222⟩ := t_mul ((nI 900)) ((f_203 a0 23)); rw [nI_toInt (show 900 < 2 ^ 31 by decide)] at t_222)
            exact l_M_line_91 ((1800 - ((nI 900) * (f_203 a0 23)).toInt).toNat + 1) (by omega) hI_204 hF_206 s0 (by omega) (by omega) hk
      · rw [t_eq] at c_173; try rw [t_0] at c_173
        have t_226 : (nI 1).toInt = 1 := nI_toInt (by decide)
        refine cT_if b_M_line_27 (fun c_225 => ?_) (fun c_225 => ?_)
        · rw [t_lt] at c_225; try rw [t_0] at c_225
          refine cT_go b_M_line_51 ?_
          refine cT_if (b_M_line_52 s0) (fun c_227 => ?_) (fun c_227 => ?_)
          · rw [t_eq] at c_227; try rw [t_0] at c_227
            refine cT_go b_M_line_69 ?_
            have t_228 : (nI 0).toInt = 0 := nI_toInt (by decide)
            refine cT_call (b_M_line_70 s0) (c_M_goes hI s0) hF (fun o ho => by omega) (fun v_229 f_230 hI_231 hG_232 hF_233 hQ_234 => ?_)
            obtain ⟨y_235, rfl, hb_236, hQ_234⟩ := hQ_234
            have hb_236r := t_b01 hb_236
            have t_237 : 0 ≤ (f a0 3).toInt ∧ (f a0 3).toInt ≤ 32 := (cI_at hI 3 s0).2.2.2.1 rfl
            have t_238 : 0 ≤ (f a0 5).toInt ∧ (f a0 5).toInt ≤ 6 := (cI_at hI 5 s0).2.2.2.2.1 rfl
            have t_239 : 0 ≤ (f a0 8).toInt ∧ (f a0 8).toInt ≤ 8 := (cI_at hI 8 s0).2.2.2.2.2.1 rfl
            have t_240 : 0 ≤ (f a0 14).toInt ∧ (f a0 14).toInt ≤ 26 := (cI_at hI 14 s0).2.2.2.2.2.2.1 rfl
            have g_241 : (f_230 a0 1).toInt = (f a0 1).toInt := congrArg Int32.toInt (hQ_234.2.2.2.2 1 (by decide))
            have g_242 : (f_230 a0 3).toInt = (f a0 3).toInt := congrArg Int32.toInt (hQ_234.2.2.2.2 3 (by decide))
            have g_243 : (f_230 a0 5).toInt = (f a0 5).toInt := congrArg Int32.toInt (hQ_234.2.2.2.2 5 (by decide))
            have g_244 : (f_230 a0 8).toInt = (f a0 8).toInt := congrArg Int32.toInt (hQ_234.2.2.2.2 8 (by decide))
            have g_245 : (f_230 a0 14).toInt = (f a0 14).toInt := congrArg Int32.toInt (hQ_234.2.2.2.2 14 (by decide))
            have g_246 : (f_230 a0 23).toInt = (f a0 23).toInt := congrArg Int32.toInt (hQ_234.2.2.2.2 23 (by decide))
            have hk : ∀ k, k ≠ 2 → f_230 a0 k = f a0 k := hQ_234.2.2.2.2
            show cT 92 73 [.ref a0, .int x1, .int x2, .int x3, .int (nI 0), (((((((((((.retAddr 0))))))))))), (((((((((((.retAddr 0))))))))))), (((((((((((.retAddr 0)))))))))))] [.int y_235] _ _ _ _ _ _
            refine cT_if b_M_line_73 (fun c_247 => ?_) (fun c_247 => ?_)
            · rw [t_eq] at c_247; try rw [t_0] at c_247
              exact cT_ret b_M_line_76 hI_231 hF_233 ⟨_, rfl, hk⟩
            · rw [t_eq] at c_247; try rw [t_0] at c_247
              refine cT_go (b_M_line_78 s0) ?_
              have t_249 : (nI 900).toInt = 900 := nI_toInt (by decide)
              have t_250 : -1 ≤ (f_230 a0 23).toInt ∧ (f_230 a0 23).toInt ≤ 1 := (cI_at hI_231 23 s0).2.2.2.2.2.2.2.2.2 rfl
              first | have t_248 : (((nI 900)) * ((f_230 a0 23))).toInt = 900 * (((f_230 a0 23))).toInt := t_mulc (by decide) (by omega) | (obtain ⟨kt_248, t_248⟩ := t_mul ((nI 900)) ((f_230 a0 23)); rw [nI_toInt (show 900 < 2 ^ 31 by decide)] at t_248)
              exact l_M_line_91 ((1800 - ((nI 900) * (f_230 a0 23)).toInt).toNat + 1) (by omega) hI_231 hF_233 s0 (by omega) (by omega) hk
          · rw [t_eq] at c_227; try rw [t_0] at c_227
            refine cT_go b_M_line_65 ?_
            have t_251 : (nI 0).toInt = 0 := nI_toInt (by decide)
            refine cT_call (b_M_line_70 s0) (c_M_goes hI s0) hF (fun o ho => by omega) (fun v_252 f_253 hI_254 hG_255 hF_256 hQ_257 => ?_)
            obtain ⟨y_258, rfl, hb_259, hQ_257⟩ := hQ_257
            have hb_259r := t_b01 hb_259
            have t_260 : 0 ≤ (f a0 3).toInt ∧ (f a0 3).toInt ≤ 32 := (cI_at hI 3 s0).2.2.2.1 rfl
            have t_261 : 0 ≤ (f a0 5).toInt ∧ (f a0 5).toInt ≤ 6 := (cI_at hI 5 s0).2.2.2.2.1 rfl
            have t_262 : 0 ≤ (f a0 8).toInt ∧ (f a0 8).toInt ≤ 8 := (cI_at hI 8 s0).2.2.2.2.2.1 rfl
            have t_263 : 0 ≤ (f a0 14).toInt ∧ (f a0 14).toInt ≤ 26 := (cI_at hI 14 s0).2.2.2.2.2.2.1 rfl
            have g_264 : (f_253 a0 1).toInt = (f a0 1).toInt := congrArg Int32.toInt (hQ_257.2.2.2.2 1 (by decide))
            have g_265 : (f_253 a0 3).toInt = (f a0 3).toInt := congrArg Int32.toInt (hQ_257.2.2.2.2 3 (by decide))
            have g_266 : (f_253 a0 5).toInt = (f a0 5).toInt := congrArg Int32.toInt (hQ_257.2.2.2.2 5 (by decide))
            have g_267 : (f_253 a0 8).toInt = (f a0 8).toInt := congrArg Int32.toInt (hQ_257.2.2.2.2 8 (by decide))
            have g_268 : (f_253 a0 14).toInt = (f a0 14).toInt := congrArg Int32.toInt (hQ_257.2.2.2.2 14 (by decide))
            have g_269 : (f_253 a0 23).toInt = (f a0 23).toInt := congrArg Int32.toInt (hQ_257.2.2.2.2 23 (by decide))
            have hk : ∀ k, k ≠ 2 → f_253 a0 k = f a0 k := hQ_257.2.2.2.2
            show cT 92 73 [.ref a0, .int x1, .int x2, .int x3, .int (nI 0), (((((((((((.retAddr 0))))))))))), (((((((((((.retAddr 0))))))))))), (((((((((((.retAddr 0)))))))))))] [.int y_258] _ _ _ _ _ _
            refine cT_if b_M_line_73 (fun c_270 => ?_) (fun c_270 => ?_)
            · rw [t_eq] at c_270; try rw [t_0] at c_270
              exact cT_ret b_M_line_76 hI_254 hF_256 ⟨_, rfl, hk⟩
            · rw [t_eq] at c_270; try rw [t_0] at c_270
              refine cT_go (b_M_line_78 s0) ?_
              have t_272 : (nI 900).toInt = 900 := nI_toInt (by decide)
              have t_273 : -1 ≤ (f_253 a0 23).toInt ∧ (f_253 a0 23).toInt ≤ 1 := (cI_at hI_254 23 s0).2.2.2.2.2.2.2.2.2 rfl
              first | have t_271 : (((nI 900)) * ((f_253 a0 23))).toInt = 900 * (((f_253 a0 23))).toInt := t_mulc (by decide) (by omega) | (obtain ⟨kt_271, t_271⟩ := t_mul ((nI 900)) ((f_253 a0 23)); rw [nI_toInt (show 900 < 2 ^ 31 by decide)] at t_271)
              exact l_M_line_91 ((1800 - ((nI 900) * (f_253 a0 23)).toInt).toNat + 1) (by omega) hI_254 hF_256 s0 (by omega) (by omega) hk
        · rw [t_lt] at c_225; try rw [t_0] at c_225
          have t_275 : (nI 5).toInt = 5 := nI_toInt (by decide)
          first | have t_274 : (((nI 5)) * ((f a0 23))).toInt = 5 * (((f a0 23))).toInt := t_mulc (by decide) (by omega) | (obtain ⟨kt_274, t_274⟩ := t_mul ((nI 5)) ((f a0 23)); rw [nI_toInt (show 5 < 2 ^ 31 by decide)] at t_274)
          have t_277 := t_rng (f (a0 + 16) ((nI 5) * (f a0 23)).toNatClampNeg)
          refine cT_if (b_M_line_32 s0 (by rw [t_in]; omega)) (fun c_276 => ?_) (fun c_276 => ?_)
          · rw [t_lt] at c_276; try rw [t_0] at c_276
            refine cT_go b_M_line_51 ?_
            refine cT_if (b_M_line_52 s0) (fun c_278 => ?_) (fun c_278 => ?_)
            · rw [t_eq] at c_278; try rw [t_0] at c_278
              refine cT_go b_M_line_69 ?_
              have t_279 : (nI 0).toInt = 0 := nI_toInt (by decide)
              refine cT_call (b_M_line_70 s0) (c_M_goes hI s0) hF (fun o ho => by omega) (fun v_280 f_281 hI_282 hG_283 hF_284 hQ_285 => ?_)
              obtain ⟨y_286, rfl, hb_287, hQ_285⟩ := hQ_285
              have hb_287r := t_b01 hb_287
              have t_288 : 0 ≤ (f a0 3).toInt ∧ (f a0 3).toInt ≤ 32 := (cI_at hI 3 s0).2.2.2.1 rfl
              have t_289 : 0 ≤ (f a0 5).toInt ∧ (f a0 5).toInt ≤ 6 := (cI_at hI 5 s0).2.2.2.2.1 rfl
              have t_290 : 0 ≤ (f a0 8).toInt ∧ (f a0 8).toInt ≤ 8 := (cI_at hI 8 s0).2.2.2.2.2.1 rfl
              have t_291 : 0 ≤ (f a0 14).toInt ∧ (f a0 14).toInt ≤ 26 := (cI_at hI 14 s0).2.2.2.2.2.2.1 rfl
              have g_292 : (f_281 a0 1).toInt = (f a0 1).toInt := congrArg Int32.toInt (hQ_285.2.2.2.2 1 (by decide))
              have g_293 : (f_281 a0 3).toInt = (f a0 3).toInt := congrArg Int32.toInt (hQ_285.2.2.2.2 3 (by decide))
              have g_294 : (f_281 a0 5).toInt = (f a0 5).toInt := congrArg Int32.toInt (hQ_285.2.2.2.2 5 (by decide))
              have g_295 : (f_281 a0 8).toInt = (f a0 8).toInt := congrArg Int32.toInt (hQ_285.2.2.2.2 8 (by decide))
              have g_296 : (f_281 a0 14).toInt = (f a0 14).toInt := congrArg Int32.toInt (hQ_285.2.2.2.2 14 (by decide))
              have g_297 : (f_281 a0 23).toInt = (f a0 23).toInt := congrArg Int32.toInt (hQ_285.2.2.2.2 23 (by decide))
              have hk : ∀ k, k ≠ 2 → f_281 a0 k = f a0 k := hQ_285.2.2.2.2
              show cT 92 73 [.ref a0, .int x1, .int x2, .int x3, .int (nI 0), ((((((((((((.retAddr 0)))))))))))), ((((((((((((.retAddr 0)))))))))))), ((((((((((((.retAddr 0))))))))))))] [.int y_286] _ _ _ _ _ _
              refine cT_if b_M_line_73 (fun c_298 => ?_) (fun c_298 => ?_)
              · rw [t_eq] at c_298; try rw [t_0] at c_298
                exact cT_ret b_M_line_76 hI_282 hF_284 ⟨_, rfl, hk⟩
              · rw [t_eq] at c_298; try rw [t_0] at c_298
                refine cT_go (b_M_line_78 s0) ?_
                have t_300 : (nI 900).toInt = 900 := nI_toInt (by decide)
                have t_301 : -1 ≤ (f_281 a0 23).toInt ∧ (f_281 a0 23).toInt ≤ 1 := (cI_at hI_282 23 s0).2.2.2.2.2.2.2.2.2 rfl
                first | have t_299 : (((nI 900)) * ((f_281 a0 23))).toInt = 900 * (((f_281 a0 23))).toInt := t_mulc (by decide) (by omega) | (obtain ⟨kt_299, t_299⟩ := t_mul ((nI 900)) ((f_281 a0 23)); rw [nI_toInt (show 900 < 2 ^ 31 by decide)] at t_299)
                exact l_M_line_91 ((1800 - ((nI 900) * (f_281 a0 23)).toInt).toNat + 1) (by omega) hI_282 hF_284 s0 (by omega) (by omega) hk
            · rw [t_eq] at c_278; try rw [t_0] at c_278
              refine cT_go b_M_line_65 ?_
              have t_302 : (nI 0).toInt = 0 := nI_toInt (by decide)
              refine cT_call (b_M_line_70 s0) (c_M_goes hI s0) hF (fun o ho => by omega) (fun v_303 f_304 hI_305 hG_306 hF_307 hQ_308 => ?_)
              obtain ⟨y_309, rfl, hb_310, hQ_308⟩ := hQ_308
              have hb_310r := t_b01 hb_310
              have t_311 : 0 ≤ (f a0 3).toInt ∧ (f a0 3).toInt ≤ 32 := (cI_at hI 3 s0).2.2.2.1 rfl
              have t_312 : 0 ≤ (f a0 5).toInt ∧ (f a0 5).toInt ≤ 6 := (cI_at hI 5 s0).2.2.2.2.1 rfl
              have t_313 : 0 ≤ (f a0 8).toInt ∧ (f a0 8).toInt ≤ 8 := (cI_at hI 8 s0).2.2.2.2.2.1 rfl
              have t_314 : 0 ≤ (f a0 14).toInt ∧ (f a0 14).toInt ≤ 26 := (cI_at hI 14 s0).2.2.2.2.2.2.1 rfl
              have g_315 : (f_304 a0 1).toInt = (f a0 1).toInt := congrArg Int32.toInt (hQ_308.2.2.2.2 1 (by decide))
              have g_316 : (f_304 a0 3).toInt = (f a0 3).toInt := congrArg Int32.toInt (hQ_308.2.2.2.2 3 (by decide))
              have g_317 : (f_304 a0 5).toInt = (f a0 5).toInt := congrArg Int32.toInt (hQ_308.2.2.2.2 5 (by decide))
              have g_318 : (f_304 a0 8).toInt = (f a0 8).toInt := congrArg Int32.toInt (hQ_308.2.2.2.2 8 (by decide))
              have g_319 : (f_304 a0 14).toInt = (f a0 14).toInt := congrArg Int32.toInt (hQ_308.2.2.2.2 14 (by decide))
              have g_320 : (f_304 a0 23).toInt = (f a0 23).toInt := congrArg Int32.toInt (hQ_308.2.2.2.2 23 (by decide))
              have hk : ∀ k, k ≠ 2 → f_304 a0 k = f a0 k := hQ_308.2.2.2.2
              show cT 92 73 [.ref a0, .int x1, .int x2, .int x3, .int (nI 0), ((((((((((((.retAddr 0)))))))))))), ((((((((((((.retAddr 0)))))))))))), ((((((((((((.retAddr 0))))))))))))] [.int y_309] _ _ _ _ _ _
              refine cT_if b_M_line_73 (fun c_321 => ?_) (fun c_321 => ?_)
              · rw [t_eq] at c_321; try rw [t_0] at c_321
                exact cT_ret b_M_line_76 hI_305 hF_307 ⟨_, rfl, hk⟩
              · rw [t_eq] at c_321; try rw [t_0] at c_321
                refine cT_go (b_M_line_78 s0) ?_
                have t_323 : (nI 900).toInt = 900 := nI_toInt (by decide)
                have t_324 : -1 ≤ (f_304 a0 23).toInt ∧ (f_304 a0 23).toInt ≤ 1 := (cI_at hI_305 23 s0).2.2.2.2.2.2.2.2.2 rfl
                first | have t_322 : (((nI 900)) * ((f_304 a0 23))).toInt = 900 * (((f_304 a0 23))).toInt := t_mulc (by decide) (by omega) | (obtain ⟨kt_322, t_322⟩ := t_mul ((nI 900)) ((f_304 a0 23)); rw [nI_toInt (show 900 < 2 ^ 31 by decide)] at t_322)
                exact l_M_line_91 ((1800 - ((nI 900) * (f_304 a0 23)).toInt).toNat + 1) (by omega) hI_305 hF_307 s0 (by omega) (by omega) hk
          · rw [t_lt] at c_276; try rw [t_0] at c_276
            refine cT_go b_M_line_47 ?_
            refine cT_if (b_M_line_52 s0) (fun c_325 => ?_) (fun c_325 => ?_)
            · rw [t_eq] at c_325; try rw [t_0] at c_325
              refine cT_go b_M_line_69 ?_
              have t_326 : (nI 0).toInt = 0 := nI_toInt (by decide)
              refine cT_call (b_M_line_70 s0) (c_M_goes hI s0) hF (fun o ho => by omega) (fun v_327 f_328 hI_329 hG_330 hF_331 hQ_332 => ?_)
              obtain ⟨y_333, rfl, hb_334, hQ_332⟩ := hQ_332
              have hb_334r := t_b01 hb_334
              have t_335 : 0 ≤ (f a0 3).toInt ∧ (f a0 3).toInt ≤ 32 := (cI_at hI 3 s0).2.2.2.1 rfl
              have t_336 : 0 ≤ (f a0 5).toInt ∧ (f a0 5).toInt ≤ 6 := (cI_at hI 5 s0).2.2.2.2.1 rfl
              have t_337 : 0 ≤ (f a0 8).toInt ∧ (f a0 8).toInt ≤ 8 := (cI_at hI 8 s0).2.2.2.2.2.1 rfl
              have t_338 : 0 ≤ (f a0 14).toInt ∧ (f a0 14).toInt ≤ 26 := (cI_at hI 14 s0).2.2.2.2.2.2.1 rfl
              have g_339 : (f_328 a0 1).toInt = (f a0 1).toInt := congrArg Int32.toInt (hQ_332.2.2.2.2 1 (by decide))
              have g_340 : (f_328 a0 3).toInt = (f a0 3).toInt := congrArg Int32.toInt (hQ_332.2.2.2.2 3 (by decide))
              have g_341 : (f_328 a0 5).toInt = (f a0 5).toInt := congrArg Int32.toInt (hQ_332.2.2.2.2 5 (by decide))
              have g_342 : (f_328 a0 8).toInt = (f a0 8).toInt := congrArg Int32.toInt (hQ_332.2.2.2.2 8 (by decide))
              have g_343 : (f_328 a0 14).toInt = (f a0 14).toInt := congrArg Int32.toInt (hQ_332.2.2.2.2 14 (by decide))
              have g_344 : (f_328 a0 23).toInt = (f a0 23).toInt := congrArg Int32.toInt (hQ_332.2.2.2.2 23 (by decide))
              have hk : ∀ k, k ≠ 2 → f_328 a0 k = f a0 k := hQ_332.2.2.2.2
              show cT 92 73 [.ref a0, .int x1, .int x2, .int x3, .int (nI 1), ((((((((((((.retAddr 0)))))))))))), ((((((((((((.retAddr 0)))))))))))), ((((((((((((.retAddr 0))))))))))))] [.int y_333] _ _ _ _ _ _
              refine cT_if b_M_line_73 (fun c_345 => ?_) (fun c_345 => ?_)
              · rw [t_eq] at c_345; try rw [t_0] at c_345
                exact cT_ret b_M_line_76 hI_329 hF_331 ⟨_, rfl, hk⟩
              · rw [t_eq] at c_345; try rw [t_0] at c_345
                refine cT_go (b_M_line_78 s0) ?_
                have t_347 : (nI 900).toInt = 900 := nI_toInt (by decide)
                have t_348 : -1 ≤ (f_328 a0 23).toInt ∧ (f_328 a0 23).toInt ≤ 1 := (cI_at hI_329 23 s0).2.2.2.2.2.2.2.2.2 rfl
                first | have t_346 : (((nI 900)) * ((f_328 a0 23))).toInt = 900 * (((f_328 a0 23))).toInt := t_mulc (by decide) (by omega) | (obtain ⟨kt_346, t_346⟩ := t_mul ((nI 900)) ((f_328 a0 23)); rw [nI_toInt (show 900 < 2 ^ 31 by decide)] at t_346)
                exact l_M_line_91 ((1800 - ((nI 900) * (f_328 a0 23)).toInt).toNat + 1) (by omega) hI_329 hF_331 s0 (by omega) (by omega) hk
            · rw [t_eq] at c_325; try rw [t_0] at c_325
              refine cT_go b_M_line_65 ?_
              refine cT_call (b_M_line_70 s0) (c_M_goes hI s0) hF (fun o ho => by omega) (fun v_349 f_350 hI_351 hG_352 hF_353 hQ_354 => ?_)
              obtain ⟨y_355, rfl, hb_356, hQ_354⟩ := hQ_354
              have hb_356r := t_b01 hb_356
              have t_357 : 0 ≤ (f a0 3).toInt ∧ (f a0 3).toInt ≤ 32 := (cI_at hI 3 s0).2.2.2.1 rfl
              have t_358 : 0 ≤ (f a0 5).toInt ∧ (f a0 5).toInt ≤ 6 := (cI_at hI 5 s0).2.2.2.2.1 rfl
              have t_359 : 0 ≤ (f a0 8).toInt ∧ (f a0 8).toInt ≤ 8 := (cI_at hI 8 s0).2.2.2.2.2.1 rfl
              have t_360 : 0 ≤ (f a0 14).toInt ∧ (f a0 14).toInt ≤ 26 := (cI_at hI 14 s0).2.2.2.2.2.2.1 rfl
              have g_361 : (f_350 a0 1).toInt = (f a0 1).toInt := congrArg Int32.toInt (hQ_354.2.2.2.2 1 (by decide))
              have g_362 : (f_350 a0 3).toInt = (f a0 3).toInt := congrArg Int32.toInt (hQ_354.2.2.2.2 3 (by decide))
              have g_363 : (f_350 a0 5).toInt = (f a0 5).toInt := congrArg Int32.toInt (hQ_354.2.2.2.2 5 (by decide))
              have g_364 : (f_350 a0 8).toInt = (f a0 8).toInt := congrArg Int32.toInt (hQ_354.2.2.2.2 8 (by decide))
              have g_365 : (f_350 a0 14).toInt = (f a0 14).toInt := congrArg Int32.toInt (hQ_354.2.2.2.2 14 (by decide))
              have g_366 : (f_350 a0 23).toInt = (f a0 23).toInt := congrArg Int32.toInt (hQ_354.2.2.2.2 23 (by decide))
              have hk : ∀ k, k ≠ 2 → f_350 a0 k = f a0 k := hQ_354.2.2.2.2
              show cT 92 73 [.ref a0, .int x1, .int x2, .int x3, .int (nI 1), ((((((((((((.retAddr 0)))))))))))), ((((((((((((.retAddr 0)))))))))))), ((((((((((((.retAddr 0))))))))))))] [.int y_355] _ _ _ _ _ _
              refine cT_if b_M_line_73 (fun c_367 => ?_) (fun c_367 => ?_)
              · rw [t_eq] at c_367; try rw [t_0] at c_367
                have t_368 : (nI 0).toInt = 0 := nI_toInt (by decide)
                exact cT_ret b_M_line_76 hI_351 hF_353 ⟨_, rfl, hk⟩
              · rw [t_eq] at c_367; try rw [t_0] at c_367
                refine cT_go (b_M_line_78 s0) ?_
                have t_370 : (nI 900).toInt = 900 := nI_toInt (by decide)
                have t_371 : -1 ≤ (f_350 a0 23).toInt ∧ (f_350 a0 23).toInt ≤ 1 := (cI_at hI_351 23 s0).2.2.2.2.2.2.2.2.2 rfl
                first | have t_369 : (((nI 900)) * ((f_350 a0 23))).toInt = 900 * (((f_350 a0 23))).toInt := t_mulc (by decide) (by omega) | (obtain ⟨kt_369, t_369⟩ := t_mul ((nI 900)) ((f_350 a0 23)); rw [nI_toInt (show 900 < 2 ^ 31 by decide)] at t_369)
                exact l_M_line_91 ((1800 - ((nI 900) * (f_350 a0 23)).toInt).toNat + 1) (by omega) hI_351 hF_353 s0 (by omega) (by omega) hk
set_option maxHeartbeats 8000000 in
theorem l_M_sign_109 {L : Nat} {e : Nat × Nat} {f0 : cg_G} : ∀ (k : Nat) {f : cg_G} {a0 : Nat} {x1 : Int32} {x2 : Int32} {x3 : Int32} {x4 : Int32} {x5 : Int32} {x6 : Int32} {u7 : Value} {u8 : Value}, 0 < k → cI L f → cF (fun o => o = a0) f0 f → sh_ a0 = 7 → (0 ≤ x4.toInt ∧ x4.toInt ≤ 1) → (0 ≤ x5.toInt ∧ x5.toInt ≤ 15) → (0 ≤ x6.toInt ∧ x6.toInt ≤ 1) → (f = f0) → (JL (f (a0 + 20)) (f (a0 + 21))) → cT 121 109 [.ref a0, .int x1, .int x2, .int x3, .int x4, .int x5, .int x6, u7, u8] [] L e (fun o => o = a0) f0 f (fun v f' => ∃ x : Int32, v = some (.int x) ∧ (∀ k, k ≠ 2 → f' a0 k = f0 a0 k)) := by
  intro k
  induction k with
  | zero => intro f a0 x1 x2 x3 x4 x5 x6 u7 u8 hm; omega
  | succ k ih =>
    intro f a0 x1 x2 x3 x4 x5 x6 u7 u8 hme hI hF s0 s4 s5 s6 ie jl
    have hm := one_7 s0
    have t_1 := t_rng (x1)
    have t_2 := t_rng (x2)
    have t_3 := t_rng (x3)
    have t_4 := t_rng (x4)
    have t_5 := t_rng (x5)
    have t_6 := t_rng (x6)
    refine cT_go b_M_sign_109 ?_
    refine cT_if b_M_sign_110 (fun c_7 => ?_) (fun c_7 => ?_)
    · rw [t_eq] at c_7; try rw [t_0] at c_7
      refine cT_go b_M_sign_140 ?_
      have t_10 : -1 ≤ (f a0 23).toInt ∧ (f a0 23).toInt ≤ 1 := (cI_at hI 23 s0).2.2.2.2.2.2.2.2.2 rfl
      have t_11 := t_neg1
      refine cT_if (b_M_sign_141 s0) (fun c_9 => ?_) (fun c_9 => ?_)
      · rw [t_eq] at c_9; try rw [t_0] at c_9
        refine cT_go b_M_sign_153 ?_
        have t_12 : (nI 0).toInt = 0 := nI_toInt (by decide)
        refine cT_call (b_M_sign_154 s0) (c_M_goes hI s0) hF (fun o ho => by omega) (fun v_13 f_14 hI_15 hG_16 hF_17 hQ_18 => ?_)
        obtain ⟨y_19, rfl, hb_20, hQ_18⟩ := hQ_18
        have hb_20r := t_b01 hb_20
        have t_21 : 3 ≤ (f a0 1).toInt ∧ (f a0 1).toInt ≤ 30 := (cI_at hI 1 s0).2.1 rfl
        have t_22 : 0 ≤ (f a0 3).toInt ∧ (f a0 3).toInt ≤ 32 := (cI_at hI 3 s0).2.2.2.1 rfl
        have t_23 : 0 ≤ (f a0 5).toInt ∧ (f a0 5).toInt ≤ 6 := (cI_at hI 5 s0).2.2.2.2.1 rfl
        have t_24 : 0 ≤ (f a0 8).toInt ∧ (f a0 8).toInt ≤ 8 := (cI_at hI 8 s0).2.2.2.2.2.1 rfl
        have t_25 : 0 ≤ (f a0 14).toInt ∧ (f a0 14).toInt ≤ 26 := (cI_at hI 14 s0).2.2.2.2.2.2.1 rfl
        have g_26 : (f_14 a0 1).toInt = (f a0 1).toInt := congrArg Int32.toInt (hQ_18.2.2.2.2 1 (by decide))
        have g_27 : (f_14 a0 3).toInt = (f a0 3).toInt := congrArg Int32.toInt (hQ_18.2.2.2.2 3 (by decide))
        have g_28 : (f_14 a0 5).toInt = (f a0 5).toInt := congrArg Int32.toInt (hQ_18.2.2.2.2 5 (by decide))
        have g_29 : (f_14 a0 8).toInt = (f a0 8).toInt := congrArg Int32.toInt (hQ_18.2.2.2.2 8 (by decide))
        have g_30 : (f_14 a0 14).toInt = (f a0 14).toInt := congrArg Int32.toInt (hQ_18.2.2.2.2 14 (by decide))
        have g_31 : (f_14 a0 23).toInt = (f a0 23).toInt := congrArg Int32.toInt (hQ_18.2.2.2.2 23 (by decide))
        have hk : ∀ k, k ≠ 2 → f_14 a0 k = f a0 k := hQ_18.2.2.2.2
        have r20 : f_14 (a0 + 20) = f (a0 + 20) := hG_16 (a0 + 20) (by omega)
        show cT 121 157 [.ref a0, .int x1, .int x2, .int x3, .int x4, .int x5, .int x6, .int (nI 0), u8] [.int y_19] _ _ _ _ _ _
        refine cT_if b_M_sign_157 (fun c_32 => ?_) (fun c_32 => ?_)
        · rw [t_eq] at c_32; try rw [t_0] at c_32
          exact cT_ret b_M_sign_160 hI_15 hF_17 ⟨_, rfl, fun k h => by rw [← ie]; exact hk k h⟩
        · rw [t_eq] at c_32; try rw [t_0] at c_32
          refine cT_if b_M_sign_162 (fun c_33 => ?_) (fun c_33 => ?_)
          · rw [t_eq] at c_33; try rw [t_0] at c_33
            refine cT_go b_M_sign_176 ?_
            refine cT_if b_M_sign_177 (fun c_34 => ?_) (fun c_34 => ?_)
            · rw [t_eq] at c_34; try rw [t_0] at c_34
              refine cT_if b_M_sign_195 (fun c_35 => ?_) (fun c_35 => ?_)
              · rw [t_eq] at c_35; try rw [t_0] at c_35
                have t_38 : (nI 112).toInt = 112 := nI_toInt (by decide)
                first | have t_37 : (((nI 112)) * x5).toInt = 112 * (x5).toInt := t_mulc (by decide) (by omega) | (obtain ⟨kt_37, t_37⟩ := t_mul ((nI 112)) x5; rw [nI_toInt (show 112 < 2 ^ 31 by decide)] at t_37)
                first | have t_36 : ((((nI 112) * x5)) + x2).toInt = ((((nI 112) * x5))).toInt + (x2).toInt := t_addn (by omega) | obtain ⟨kt_36, t_36⟩ := t_add (((nI 112) * x5)) x2
                refine cT_go (b_M_sign_200 s0 (by rw [t_in]; omega)) ?_
                have t_39 := t_rng (f_14 (a0 + 21) (((nI 112) * x5) + x2).toNatClampNeg)
                exact cT_ret b_M_sign_231 hI_15 hF_17 ⟨_, rfl, fun k h => by rw [← ie]; exact hk k h⟩
              · rw [t_eq] at c_35; try rw [t_0] at c_35
                have j1 := jl (((nI 112) * x5) + x2).toNatClampNeg
                have j2 : (f_14 (a0 + 20) (((nI 112) * x5) + x2).toNatClampNeg).toInt = (f (a0 + 20) (((nI 112) * x5) + x2).toNatClampNeg).toInt := by rw [r20]
                have t_42 : (nI 112).toInt = 112 := nI_toInt (by decide)
                first | have t_41 : (((nI 112)) * x5).toInt = 112 * (x5).toInt := t_mulc (by decide) (by omega) | (obtain ⟨kt_41, t_41⟩ := t_mul ((nI 112)) x5; rw [nI_toInt (show 112 < 2 ^ 31 by decide)] at t_41)
                first | have t_40 : ((((nI 112) * x5)) + x2).toInt = ((((nI 112) * x5))).toInt + (x2).toInt := t_addn (by omega) | obtain ⟨kt_40, t_40⟩ := t_add (((nI 112) * x5)) x2
                have t_46 : (nI 240).toInt = 240 := nI_toInt (by decide)
                first | have t_45 : (((nI 240)) * x5).toInt = 240 * (x5).toInt := t_mulc (by decide) (by omega) | (obtain ⟨kt_45, t_45⟩ := t_mul ((nI 240)) x5; rw [nI_toInt (show 240 < 2 ^ 31 by decide)] at t_45)
                have t_47 := t_rng (f_14 (a0 + 20) (((nI 112) * x5) + x2).toNatClampNeg)
                first | have t_44 : ((((nI 240) * x5)) + ((f_14 (a0 + 20) (((nI 112) * x5) + x2).toNatClampNeg))).toInt = ((((nI 240) * x5))).toInt + (((f_14 (a0 + 20) (((nI 112) * x5) + x2).toNatClampNeg))).toInt := t_addn (by omega) | obtain ⟨kt_44, t_44⟩ := t_add (((nI 240) * x5)) ((f_14 (a0 + 20) (((nI 112) * x5) + x2).toNatClampNeg))
                first | have t_43 : (((((nI 240) * x5) + (f_14 (a0 + 20) (((nI 112) * x5) + x2).toNatClampNeg))) + x3).toInt = (((((nI 240) * x5) + (f_14 (a0 + 20) (((nI 112) * x5) + x2).toNatClampNeg)))).toInt + (x3).toInt := t_addn (by omega) | obtain ⟨kt_43, t_43⟩ := t_add ((((nI 240) * x5) + (f_14 (a0 + 20) (((nI 112) * x5) + x2).toNatClampNeg))) x3
                refine cT_go (b_M_sign_210 s0 (by rw [t_in]; omega) (by rw [t_in]; omega)) ?_
                have t_48 := t_rng (f_14 (a0 + 22) ((((nI 240) * x5) + (f_14 (a0 + 20) (((nI 112) * x5) + x2).toNatClampNeg)) + x3).toNatClampNeg)
                exact cT_ret b_M_sign_231 hI_15 hF_17 ⟨_, rfl, fun k h => by rw [← ie]; exact hk k h⟩
            · rw [t_eq] at c_34; try rw [t_0] at c_34
              refine cT_go (b_M_sign_185 s0 (by rw [t_in]; omega)) ?_
              have t_49 : 0 ≤ (f_14 (a0 + 19) x5.toNatClampNeg).toInt ∧ (f_14 (a0 + 19) x5.toNatClampNeg).toInt ≤ 112 := (cI_at hI_15 x5.toNatClampNeg (sc_7_28 s0)).2.2.2.2.2.1 (by omega)
              exact cT_ret b_M_sign_231 hI_15 hF_17 ⟨_, rfl, fun k h => by rw [← ie]; exact hk k h⟩
          · rw [t_eq] at c_33; try rw [t_0] at c_33
            refine cT_go b_M_sign_172 ?_
            refine cT_if b_M_sign_177 (fun c_50 => ?_) (fun c_50 => ?_)
            · rw [t_eq] at c_50; try rw [t_0] at c_50
              refine cT_if b_M_sign_195 (fun c_51 => ?_) (fun c_51 => ?_)
              · rw [t_eq] at c_51; try rw [t_0] at c_51
                have t_54 : (nI 112).toInt = 112 := nI_toInt (by decide)
                first | have t_53 : (((nI 112)) * x5).toInt = 112 * (x5).toInt := t_mulc (by decide) (by omega) | (obtain ⟨kt_53, t_53⟩ := t_mul ((nI 112)) x5; rw [nI_toInt (show 112 < 2 ^ 31 by decide)] at t_53)
                first | have t_52 : ((((nI 112) * x5)) + ((nI 0))).toInt = ((((nI 112) * x5))).toInt + (((nI 0))).toInt := t_addn (by omega) | obtain ⟨kt_52, t_52⟩ := t_add (((nI 112) * x5)) ((nI 0))
                refine cT_go (b_M_sign_200 s0 (by rw [t_in]; omega)) ?_
                have t_55 := t_rng (f_14 (a0 + 21) (((nI 112) * x5) + (nI 0)).toNatClampNeg)
                exact cT_ret b_M_sign_231 hI_15 hF_17 ⟨_, rfl, fun k h => by rw [← ie]; exact hk k h⟩
              · rw [t_eq] at c_51; try rw [t_0] at c_51
                have j1 := jl (((nI 112) * x5) + (nI 0)).toNatClampNeg
                have j2 : (f_14 (a0 + 20) (((nI 112) * x5) + (nI 0)).toNatClampNeg).toInt = (f (a0 + 20) (((nI 112) * x5) + (nI 0)).toNatClampNeg).toInt := by rw [r20]
                have t_58 : (nI 112).toInt = 112 := nI_toInt (by decide)
                first | have t_57 : (((nI 112)) * x5).toInt = 112 * (x5).toInt := t_mulc (by decide) (by omega) | (obtain ⟨kt_57, t_57⟩ := t_mul ((nI 112)) x5; rw [nI_toInt (show 112 < 2 ^ 31 by decide)] at t_57)
                first | have t_56 : ((((nI 112) * x5)) + ((nI 0))).toInt = ((((nI 112) * x5))).toInt + (((nI 0))).toInt := t_addn (by omega) | obtain ⟨kt_56, t_56⟩ := t_add (((nI 112) * x5)) ((nI 0))
                have t_62 : (nI 240).toInt = 240 := nI_toInt (by decide)
                first | have t_61 : (((nI 240)) * x5).toInt = 240 * (x5).toInt := t_mulc (by decide) (by omega) | (obtain ⟨kt_61, t_61⟩ := t_mul ((nI 240)) x5; rw [nI_toInt (show 240 < 2 ^ 31 by decide)] at t_61)
                have t_63 := t_rng (f_14 (a0 + 20) (((nI 112) * x5) + (nI 0)).toNatClampNeg)
                first | have t_60 : ((((nI 240) * x5)) + ((f_14 (a0 + 20) (((nI 112) * x5) + (nI 0)).toNatClampNeg))).toInt = ((((nI 240) * x5))).toInt + (((f_14 (a0 + 20) (((nI 112) * x5) + (nI 0)).toNatClampNeg))).toInt := t_addn (by omega) | obtain ⟨kt_60, t_60⟩ := t_add (((nI 240) * x5)) ((f_14 (a0 + 20) (((nI 112) * x5) + (nI 0)).toNatClampNeg))
                first | have t_59 : (((((nI 240) * x5) + (f_14 (a0 + 20) (((nI 112) * x5) + (nI 0)).toNatClampNeg))) + x3).toInt = (((((nI 240) * x5) + (f_14 (a0 + 20) (((nI 112) * x5) + (nI 0)).toNatClampNeg)))).toInt + (x3).toInt := t_addn (by omega) | obtain ⟨kt_59, t_59⟩ := t_add ((((nI 240) * x5) + (f_14 (a0 + 20) (((nI 112) * x5) + (nI 0)).toNatClampNeg))) x3
                refine cT_go (b_M_sign_210 s0 (by rw [t_in]; omega) (by rw [t_in]; omega)) ?_
                have t_64 := t_rng (f_14 (a0 + 22) ((((nI 240) * x5) + (f_14 (a0 + 20) (((nI 112) * x5) + (nI 0)).toNatClampNeg)) + x3).toNatClampNeg)
                exact cT_ret b_M_sign_231 hI_15 hF_17 ⟨_, rfl, fun k h => by rw [← ie]; exact hk k h⟩
            · rw [t_eq] at c_50; try rw [t_0] at c_50
              refine cT_go (b_M_sign_185 s0 (by rw [t_in]; omega)) ?_
              have t_65 : 0 ≤ (f_14 (a0 + 19) x5.toNatClampNeg).toInt ∧ (f_14 (a0 + 19) x5.toNatClampNeg).toInt ≤ 112 := (cI_at hI_15 x5.toNatClampNeg (sc_7_28 s0)).2.2.2.2.2.1 (by omega)
              exact cT_ret b_M_sign_231 hI_15 hF_17 ⟨_, rfl, fun k h => by rw [← ie]; exact hk k h⟩
      · rw [t_eq] at c_9; try rw [t_0] at c_9
        refine cT_go b_M_sign_149 ?_
        have t_66 : (nI 0).toInt = 0 := nI_toInt (by decide)
        have t_67 : (nI 1).toInt = 1 := nI_toInt (by decide)
        refine cT_call (b_M_sign_154 s0) (c_M_goes hI s0) hF (fun o ho => by omega) (fun v_68 f_69 hI_70 hG_71 hF_72 hQ_73 => ?_)
        obtain ⟨y_74, rfl, hb_75, hQ_73⟩ := hQ_73
        have hb_75r := t_b01 hb_75
        have t_76 : 3 ≤ (f a0 1).toInt ∧ (f a0 1).toInt ≤ 30 := (cI_at hI 1 s0).2.1 rfl
        have t_77 : 0 ≤ (f a0 3).toInt ∧ (f a0 3).toInt ≤ 32 := (cI_at hI 3 s0).2.2.2.1 rfl
        have t_78 : 0 ≤ (f a0 5).toInt ∧ (f a0 5).toInt ≤ 6 := (cI_at hI 5 s0).2.2.2.2.1 rfl
        have t_79 : 0 ≤ (f a0 8).toInt ∧ (f a0 8).toInt ≤ 8 := (cI_at hI 8 s0).2.2.2.2.2.1 rfl
        have t_80 : 0 ≤ (f a0 14).toInt ∧ (f a0 14).toInt ≤ 26 := (cI_at hI 14 s0).2.2.2.2.2.2.1 rfl
        have g_81 : (f_69 a0 1).toInt = (f a0 1).toInt := congrArg Int32.toInt (hQ_73.2.2.2.2 1 (by decide))
        have g_82 : (f_69 a0 3).toInt = (f a0 3).toInt := congrArg Int32.toInt (hQ_73.2.2.2.2 3 (by decide))
        have g_83 : (f_69 a0 5).toInt = (f a0 5).toInt := congrArg Int32.toInt (hQ_73.2.2.2.2 5 (by decide))
        have g_84 : (f_69 a0 8).toInt = (f a0 8).toInt := congrArg Int32.toInt (hQ_73.2.2.2.2 8 (by decide))
        have g_85 : (f_69 a0 14).toInt = (f a0 14).toInt := congrArg Int32.toInt (hQ_73.2.2.2.2 14 (by decide))
        have g_86 : (f_69 a0 23).toInt = (f a0 23).toInt := congrArg Int32.toInt (hQ_73.2.2.2.2 23 (by decide))
        have hk : ∀ k, k ≠ 2 → f_69 a0 k = f a0 k := hQ_73.2.2.2.2
        have r20 : f_69 (a0 + 20) = f (a0 + 20) := hG_71 (a0 + 20) (by omega)
        show cT 121 157 [.ref a0, .int x1, .int x2, .int x3, .int x4, .int x5, .int x6, .int (nI 0), u8] [.int y_74] _ _ _ _ _ _
        refine cT_if b_M_sign_157 (fun c_87 => ?_) (fun c_87 => ?_)
        · rw [t_eq] at c_87; try rw [t_0] at c_87
          exact cT_ret b_M_sign_160 hI_70 hF_72 ⟨_, rfl, fun k h => by rw [← ie]; exact hk k h⟩
        · rw [t_eq] at c_87; try rw [t_0] at c_87
          refine cT_if b_M_sign_162 (fun c_88 => ?_) (fun c_88 => ?_)
          · rw [t_eq] at c_88; try rw [t_0] at c_88
            refine cT_go b_M_sign_176 ?_
            refine cT_if b_M_sign_177 (fun c_89 => ?_) (fun c_89 => ?_)
            · rw [t_eq] at c_89; try rw [t_0] at c_89
              refine cT_if b_M_sign_195 (fun c_90 => ?_) (fun c_90 => ?_)
              · rw [t_eq] at c_90; try rw [t_0] at c_90
                have t_93 : (nI 112).toInt = 112 := nI_toInt (by decide)
                first | have t_92 : (((nI 112)) * x5).toInt = 112 * (x5).toInt := t_mulc (by decide) (by omega) | (obtain ⟨kt_92, t_92⟩ := t_mul ((nI 112)) x5; rw [nI_toInt (show 112 < 2 ^ 31 by decide)] at t_92)
                first | have t_91 : ((((nI 112) * x5)) + x2).toInt = ((((nI 112) * x5))).toInt + (x2).toInt := t_addn (by omega) | obtain ⟨kt_91, t_91⟩ := t_add (((nI 112) * x5)) x2
                refine cT_go (b_M_sign_200 s0 (by rw [t_in]; omega)) ?_
                have t_94 := t_rng (f_69 (a0 + 21) (((nI 112) * x5) + x2).toNatClampNeg)
                exact cT_ret b_M_sign_231 hI_70 hF_72 ⟨_, rfl, fun k h => by rw [← ie]; exact hk k h⟩
              · rw [t_eq] at c_90; try rw [t_0] at c_90
                have j1 := jl (((nI 112) * x5) + x2).toNatClampNeg
                have j2 : (f_69 (a0 + 20) (((nI 112) * x5) + x2).toNatClampNeg).toInt = (f (a0 + 20) (((nI 112) * x5) + x2).toNatClampNeg).toInt := by rw [r20]
                have t_97 : (nI 112).toInt = 112 := nI_toInt (by decide)
                first | have t_96 : (((nI 112)) * x5).toInt = 112 * (x5).toInt := t_mulc (by decide) (by omega) | (obtain ⟨kt_96, t_96⟩ := t_mul ((nI 112)) x5; rw [nI_toInt (show 112 < 2 ^ 31 by decide)] at t_96)
                first | have t_95 : ((((nI 112) * x5)) + x2).toInt = ((((nI 112) * x5))).toInt + (x2).toInt := t_addn (by omega) | obtain ⟨kt_95, t_95⟩ := t_add (((nI 112) * x5)) x2
                have t_101 : (nI 240).toInt = 240 := nI_toInt (by decide)
                first | have t_100 : (((nI 240)) * x5).toInt = 240 * (x5).toInt := t_mulc (by decide) (by omega) | (obtain ⟨kt_100, t_100⟩ := t_mul ((nI 240)) x5; rw [nI_toInt (show 240 < 2 ^ 31 by decide)] at t_100)
                have t_102 := t_rng (f_69 (a0 + 20) (((nI 112) * x5) + x2).toNatClampNeg)
                first | have t_99 : ((((nI 240) * x5)) + ((f_69 (a0 + 20) (((nI 112) * x5) + x2).toNatClampNeg))).toInt = ((((nI 240) * x5))).toInt + (((f_69 (a0 + 20) (((nI 112) * x5) + x2).toNatClampNeg))).toInt := t_addn (by omega) | obtain ⟨kt_99, t_99⟩ := t_add (((nI 240) * x5)) ((f_69 (a0 + 20) (((nI 112) * x5) + x2).toNatClampNeg))
                first | have t_98 : (((((nI 240) * x5) + (f_69 (a0 + 20) (((nI 112) * x5) + x2).toNatClampNeg))) + x3).toInt = (((((nI 240) * x5) + (f_69 (a0 + 20) (((nI 112) * x5) + x2).toNatClampNeg)))).toInt + (x3).toInt := t_addn (by omega) | obtain ⟨kt_98, t_98⟩ := t_add ((((nI 240) * x5) + (f_69 (a0 + 20) (((nI 112) * x5) + x2).toNatClampNeg))) x3
                refine cT_go (b_M_sign_210 s0 (by rw [t_in]; omega) (by rw [t_in]; omega)) ?_
                have t_103 := t_rng (f_69 (a0 + 22) ((((nI 240) * x5) + (f_69 (a0 + 20) (((nI 112) * x5) + x2).toNatClampNeg)) + x3).toNatClampNeg)
                exact cT_ret b_M_sign_231 hI_70 hF_72 ⟨_, rfl, fun k h => by rw [← ie]; exact hk k h⟩
            · rw [t_eq] at c_89; try rw [t_0] at c_89
              refine cT_go (b_M_sign_185 s0 (by rw [t_in]; omega)) ?_
              have t_104 : 0 ≤ (f_69 (a0 + 19) x5.toNatClampNeg).toInt ∧ (f_69 (a0 + 19) x5.toNatClampNeg).toInt ≤ 112 := (cI_at hI_70 x5.toNatClampNeg (sc_7_28 s0)).2.2.2.2.2.1 (by omega)
              exact cT_ret b_M_sign_231 hI_70 hF_72 ⟨_, rfl, fun k h => by rw [← ie]; exact hk k h⟩
          · rw [t_eq] at c_88; try rw [t_0] at c_88
            refine cT_go b_M_sign_172 ?_
            refine cT_if b_M_sign_177 (fun c_105 => ?_) (fun c_105 => ?_)
            · rw [t_eq] at c_105; try rw [t_0] at c_105
              refine cT_if b_M_sign_195 (fun c_106 => ?_) (fun c_106 => ?_)
              · rw [t_eq] at c_106; try rw [t_0] at c_106
                have t_109 : (nI 112).toInt = 112 := nI_toInt (by decide)
                first | have t_108 : (((nI 112)) * x5).toInt = 112 * (x5).toInt := t_mulc (by decide) (by omega) | (obtain ⟨kt_108, t_108⟩ := t_mul ((nI 112)) x5; rw [nI_toInt (show 112 < 2 ^ 31 by decide)] at t_108)
                first | have t_107 : ((((nI 112) * x5)) + ((nI 0))).toInt = ((((nI 112) * x5))).toInt + (((nI 0))).toInt := t_addn (by omega) | obtain ⟨kt_107, t_107⟩ := t_add (((nI 112) * x5)) ((nI 0))
                refine cT_go (b_M_sign_200 s0 (by rw [t_in]; omega)) ?_
                have t_110 := t_rng (f_69 (a0 + 21) (((nI 112) * x5) + (nI 0)).toNatClampNeg)
                exact cT_ret b_M_sign_231 hI_70 hF_72 ⟨_, rfl, fun k h => by rw [← ie]; exact hk k h⟩
              · rw [t_eq] at c_106; try rw [t_0] at c_106
                have j1 := jl (((nI 112) * x5) + (nI 0)).toNatClampNeg
                have j2 : (f_69 (a0 + 20) (((nI 112) * x5) + (nI 0)).toNatClampNeg).toInt = (f (a0 + 20) (((nI 112) * x5) + (nI 0)).toNatClampNeg).toInt := by rw [r20]
                have t_113 : (nI 112).toInt = 112 := nI_toInt (by decide)
                first | have t_112 : (((nI 112)) * x5).toInt = 112 * (x5).toInt := t_mulc (by decide) (by omega) | (obtain ⟨kt_112, t_112⟩ := t_mul ((nI 112)) x5; rw [nI_toInt (show 112 < 2 ^ 31 by decide)] at t_112)
                first | have t_111 : ((((nI 112) * x5)) + ((nI 0))).toInt = ((((nI 112) * x5))).toInt + (((nI 0))).toInt := t_addn (by omega) | obtain ⟨kt_111, t_111⟩ := t_add (((nI 112) * x5)) ((nI 0))
                have t_117 : (nI 240).toInt = 240 := nI_toInt (by decide)
                first | have t_116 : (((nI 240)) * x5).toInt = 240 * (x5).toInt := t_mulc (by decide) (by omega) | (obtain ⟨kt_116, t_116⟩ := t_mul ((nI 240)) x5; rw [nI_toInt (show 240 < 2 ^ 31 by decide)] at t_116)
                have t_118 := t_rng (f_69 (a0 + 20) (((nI 112) * x5) + (nI 0)).toNatClampNeg)
                first | have t_115 : ((((nI 240) * x5)) + ((f_69 (a0 + 20) (((nI 112) * x5) + (nI 0)).toNatClampNeg))).toInt = ((((nI 240) * x5))).toInt + (((f_69 (a0 + 20) (((nI 112) * x5) + (nI 0)).toNatClampNeg))).toInt := t_addn (by omega) | obtain ⟨kt_115, t_115⟩ := t_add (((nI 240) * x5)) ((f_69 (a0 + 20) (((nI 112) * x5) + (nI 0)).toNatClampNeg))
                first | have t_114 : (((((nI 240) * x5) + (f_69 (a0 + 20) (((nI 112) * x5) + (nI 0)).toNatClampNeg))) + x3).toInt = (((((nI 240) * x5) + (f_69 (a0 + 20) (((nI 112) * x5) + (nI 0)).toNatClampNeg)))).toInt + (x3).toInt := t_addn (by omega) | obtain ⟨kt_114, t_114⟩ := t_add ((((nI 240) * x5) + (f_69 (a0 + 20) (((nI 112) * x5) + (nI 0)).toNatClampNeg))) x3
                refine cT_go (b_M_sign_210 s0 (by rw [t_in]; omega) (by rw [t_in]; omega)) ?_
                have t_119 := t_rng (f_69 (a0 + 22) ((((nI 240) * x5) + (f_69 (a0 + 20) (((nI 112) * x5) + (nI 0)).toNatClampNeg)) + x3).toNatClampNeg)
                exact cT_ret b_M_sign_231 hI_70 hF_72 ⟨_, rfl, fun k h => by rw [← ie]; exact hk k h⟩
            · rw [t_eq] at c_105; try rw [t_0] at c_105
              refine cT_go (b_M_sign_185 s0 (by rw [t_in]; omega)) ?_
              have t_120 : 0 ≤ (f_69 (a0 + 19) x5.toNatClampNeg).toInt ∧ (f_69 (a0 + 19) x5.toNatClampNeg).toInt ≤ 112 := (cI_at hI_70 x5.toNatClampNeg (sc_7_28 s0)).2.2.2.2.2.1 (by omega)
              exact cT_ret b_M_sign_231 hI_70 hF_72 ⟨_, rfl, fun k h => by rw [← ie]; exact hk k h⟩
    · rw [t_eq] at c_7; try rw [t_0] at c_7
      have t_122 : -1 ≤ (f a0 23).toInt ∧ (f a0 23).toInt ≤ 1 := (cI_at hI 23 s0).2.2.2.2.2.2.2.2.2 rfl
      have t_123 := t_neg1
      refine cT_if (b_M_sign_118 s0) (fun c_121 => ?_) (fun c_121 => ?_)
      · rw [t_eq] at c_121; try rw [t_0] at c_121
        refine cT_go b_M_sign_136 ?_
        refine cT_if (b_M_sign_141 s0) (fun c_124 => ?_) (fun c_124 => ?_)
        · rw [t_eq] at c_124; try rw [t_0] at c_124
          refine cT_go b_M_sign_153 ?_
          have t_125 : (nI 1).toInt = 1 := nI_toInt (by decide)
          have t_126 : (nI 0).toInt = 0 := nI_toInt (by decide)
          refine cT_call (b_M_sign_154 s0) (c_M_goes hI s0) hF (fun o ho => by omega) (fun v_127 f_128 hI_129 hG_130 hF_131 hQ_132 => ?_)
          obtain ⟨y_133, rfl, hb_134, hQ_132⟩ := hQ_132
          have hb_134r := t_b01 hb_134
          have t_135 : 3 ≤ (f a0 1).toInt ∧ (f a0 1).toInt ≤ 30 := (cI_at hI 1 s0).2.1 rfl
          have t_136 : 0 ≤ (f a0 3).toInt ∧ (f a0 3).toInt ≤ 32 := (cI_at hI 3 s0).2.2.2.1 rfl
          have t_137 : 0 ≤ (f a0 5).toInt ∧ (f a0 5).toInt ≤ 6 := (cI_at hI 5 s0).2.2.2.2.1 rfl
          have t_138 : 0 ≤ (f a0 8).toInt ∧ (f a0 8).toInt ≤ 8 := (cI_at hI 8 s0).2.2.2.2.2.1 rfl
          have t_139 : 0 ≤ (f a0 14).toInt ∧ (f a0 14).toInt ≤ 26 := (cI_at hI 14 s0).2.2.2.2.2.2.1 rfl
          have g_140 : (f_128 a0 1).toInt = (f a0 1).toInt := congrArg Int32.toInt (hQ_132.2.2.2.2 1 (by decide))
          have g_141 : (f_128 a0 3).toInt = (f a0 3).toInt := congrArg Int32.toInt (hQ_132.2.2.2.2 3 (by decide))
          have g_142 : (f_128 a0 5).toInt = (f a0 5).toInt := congrArg Int32.toInt (hQ_132.2.2.2.2 5 (by decide))
          have g_143 : (f_128 a0 8).toInt = (f a0 8).toInt := congrArg Int32.toInt (hQ_132.2.2.2.2 8 (by decide))
          have g_144 : (f_128 a0 14).toInt = (f a0 14).toInt := congrArg Int32.toInt (hQ_132.2.2.2.2 14 (by decide))
          have g_145 : (f_128 a0 23).toInt = (f a0 23).toInt := congrArg Int32.toInt (hQ_132.2.2.2.2 23 (by decide))
          have hk : ∀ k, k ≠ 2 → f_128 a0 k = f a0 k := hQ_132.2.2.2.2
          have r20 : f_128 (a0 + 20) = f (a0 + 20) := hG_130 (a0 + 20) (by omega)
          show cT 121 157 [.ref a0, .int x1, .int x2, .int x3, .int x4, .int x5, .int x6, .int (nI 0), u8] [.int y_133] _ _ _ _ _ _
          refine cT_if b_M_sign_157 (fun c_146 => ?_) (fun c_146 => ?_)
          · rw [t_eq] at c_146; try rw [t_0] at c_146
            exact cT_ret b_M_sign_160 hI_129 hF_131 ⟨_, rfl, fun k h => by rw [← ie]; exact hk k h⟩
          · rw [t_eq] at c_146; try rw [t_0] at c_146
            refine cT_if b_M_sign_162 (fun c_147 => ?_) (fun c_147 => ?_)
            · rw [t_eq] at c_147; try rw [t_0] at c_147
              refine cT_go b_M_sign_176 ?_
              refine cT_if b_M_sign_177 (fun c_148 => ?_) (fun c_148 => ?_)
              · rw [t_eq] at c_148; try rw [t_0] at c_148
                refine cT_if b_M_sign_195 (fun c_149 => ?_) (fun c_149 => ?_)
                · rw [t_eq] at c_149; try rw [t_0] at c_149
                  have t_152 : (nI 112).toInt = 112 := nI_toInt (by decide)
                  first | have t_151 : (((nI 112)) * x5).toInt = 112 * (x5).toInt := t_mulc (by decide) (by omega) | (obtain ⟨kt_151, t_151⟩ := t_mul ((nI 112)) x5; rw [nI_toInt (show 112 < 2 ^ 31 by decide)] at t_151)
                  first | have t_150 : ((((nI 112) * x5)) + x2).toInt = ((((nI 112) * x5))).toInt + (x2).toInt := t_addn (by omega) | obtain ⟨kt_150, t_150⟩ := t_add (((nI 112) * x5)) x2
                  refine cT_go (b_M_sign_200 s0 (by rw [t_in]; omega)) ?_
                  have t_153 := t_rng (f_128 (a0 + 21) (((nI 112) * x5) + x2).toNatClampNeg)
                  exact cT_ret b_M_sign_231 hI_129 hF_131 ⟨_, rfl, fun k h => by rw [← ie]; exact hk k h⟩
                · rw [t_eq] at c_149; try rw [t_0] at c_149
                  have j1 := jl (((nI 112) * x5) + x2).toNatClampNeg
                  have j2 : (f_128 (a0 + 20) (((nI 112) * x5) + x2).toNatClampNeg).toInt = (f (a0 + 20) (((nI 112) * x5) + x2).toNatClampNeg).toInt := by rw [r20]
                  have t_156 : (nI 112).toInt = 112 := nI_toInt (by decide)
                  first | have t_155 : (((nI 112)) * x5).toInt = 112 * (x5).toInt := t_mulc (by decide) (by omega) | (obtain ⟨kt_155, t_155⟩ := t_mul ((nI 112)) x5; rw [nI_toInt (show 112 < 2 ^ 31 by decide)] at t_155)
                  first | have t_154 : ((((nI 112) * x5)) + x2).toInt = ((((nI 112) * x5))).toInt + (x2).toInt := t_addn (by omega) | obtain ⟨kt_154, t_154⟩ := t_add (((nI 112) * x5)) x2
                  have t_160 : (nI 240).toInt = 240 := nI_toInt (by decide)
                  first | have t_159 : (((nI 240)) * x5).toInt = 240 * (x5).toInt := t_mulc (by decide) (by omega) | (obtain ⟨kt_159, t_159⟩ := t_mul ((nI 240)) x5; rw [nI_toInt (show 240 < 2 ^ 31 by decide)] at t_159)
                  have t_161 := t_rng (f_128 (a0 + 20) (((nI 112) * x5) + x2).toNatClampNeg)
                  first | have t_158 : ((((nI 240) * x5)) + ((f_128 (a0 + 20) (((nI 112) * x5) + x2).toNatClampNeg))).toInt = ((((nI 240) * x5))).toInt + (((f_128 (a0 + 20) (((nI 112) * x5) + x2).toNatClampNeg))).toInt := t_addn (by omega) | obtain ⟨kt_158, t_158⟩ := t_add (((nI 240) * x5)) ((f_128 (a0 + 20) (((nI 112) * x5) + x2).toNatClampNeg))
                  first | have t_157 : (((((nI 240) * x5) + (f_128 (a0 + 20) (((nI 112) * x5) + x2).toNatClampNeg))) + x3).toInt = (((((nI 240) * x5) + (f_128 (a0 + 20) (((nI 112) * x5) + x2).toNatClampNeg)))).toInt + (x3).toInt := t_addn (by omega) | obtain ⟨kt_157, t_157⟩ := t_add ((((nI 240) * x5) + (f_128 (a0 + 20) (((nI 112) * x5) + x2).toNatClampNeg))) x3
                  refine cT_go (b_M_sign_210 s0 (by rw [t_in]; omega) (by rw [t_in]; omega)) ?_
                  have t_162 := t_rng (f_128 (a0 + 22) ((((nI 240) * x5) + (f_128 (a0 + 20) (((nI 112) * x5) + x2).toNatClampNeg)) + x3).toNatClampNeg)
                  exact cT_ret b_M_sign_231 hI_129 hF_131 ⟨_, rfl, fun k h => by rw [← ie]; exact hk k h⟩
              · rw [t_eq] at c_148; try rw [t_0] at c_148
                refine cT_go (b_M_sign_185 s0 (by rw [t_in]; omega)) ?_
                have t_163 : 0 ≤ (f_128 (a0 + 19) x5.toNatClampNeg).toInt ∧ (f_128 (a0 + 19) x5.toNatClampNeg).toInt ≤ 112 := (cI_at hI_129 x5.toNatClampNeg (sc_7_28 s0)).2.2.2.2.2.1 (by omega)
                exact cT_ret b_M_sign_231 hI_129 hF_131 ⟨_, rfl, fun k h => by rw [← ie]; exact hk k h⟩
            · rw [t_eq] at c_147; try rw [t_0] at c_147
              refine cT_go b_M_sign_172 ?_
              refine cT_if b_M_sign_177 (fun c_164 => ?_) (fun c_164 => ?_)
              · rw [t_eq] at c_164; try rw [t_0] at c_164
                refine cT_if b_M_sign_195 (fun c_165 => ?_) (fun c_165 => ?_)
                · rw [t_eq] at c_165; try rw [t_0] at c_165
                  have t_168 : (nI 112).toInt = 112 := nI_toInt (by decide)
                  first | have t_167 : (((nI 112)) * x5).toInt = 112 * (x5).toInt := t_mulc (by decide) (by omega) | (obtain ⟨kt_167, t_167⟩ := t_mul ((nI 112)) x5; rw [nI_toInt (show 112 < 2 ^ 31 by decide)] at t_167)
                  first | have t_166 : ((((nI 112) * x5)) + ((nI 0))).toInt = ((((nI 112) * x5))).toInt + (((nI 0))).toInt := t_addn (by omega) | obtain ⟨kt_166, t_166⟩ := t_add (((nI 112) * x5)) ((nI 0))
                  refine cT_go (b_M_sign_200 s0 (by rw [t_in]; omega)) ?_
                  have t_169 := t_rng (f_128 (a0 + 21) (((nI 112) * x5) + (nI 0)).toNatClampNeg)
                  exact cT_ret b_M_sign_231 hI_129 hF_131 ⟨_, rfl, fun k h => by rw [← ie]; exact hk k h⟩
                · rw [t_eq] at c_165; try rw [t_0] at c_165
                  have j1 := jl (((nI 112) * x5) + (nI 0)).toNatClampNeg
                  have j2 : (f_128 (a0 + 20) (((nI 112) * x5) + (nI 0)).toNatClampNeg).toInt = (f (a0 + 20) (((nI 112) * x5) + (nI 0)).toNatClampNeg).toInt := by rw [r20]
                  have t_172 : (nI 112).toInt = 112 := nI_toInt (by decide)
                  first | have t_171 : (((nI 112)) * x5).toInt = 112 * (x5).toInt := t_mulc (by decide) (by omega) | (obtain ⟨kt_171, t_171⟩ := t_mul ((nI 112)) x5; rw [nI_toInt (show 112 < 2 ^ 31 by decide)] at t_171)
                  first | have t_170 : ((((nI 112) * x5)) + ((nI 0))).toInt = ((((nI 112) * x5))).toInt + (((nI 0))).toInt := t_addn (by omega) | obtain ⟨kt_170, t_170⟩ := t_add (((nI 112) * x5)) ((nI 0))
                  have t_176 : (nI 240).toInt = 240 := nI_toInt (by decide)
                  first | have t_175 : (((nI 240)) * x5).toInt = 240 * (x5).toInt := t_mulc (by decide) (by omega) | (obtain ⟨kt_175, t_175⟩ := t_mul ((nI 240)) x5; rw [nI_toInt (show 240 < 2 ^ 31 by decide)] at t_175)
                  have t_177 := t_rng (f_128 (a0 + 20) (((nI 112) * x5) + (nI 0)).toNatClampNeg)
                  first | have t_174 : ((((nI 240) * x5)) + ((f_128 (a0 + 20) (((nI 112) * x5) + (nI 0)).toNatClampNeg))).toInt = ((((nI 240) * x5))).toInt + (((f_128 (a0 + 20) (((nI 112) * x5) + (nI 0)).toNatClampNeg))).toInt := t_addn (by omega) | obtain ⟨kt_174, t_174⟩ := t_add (((nI 240) * x5)) ((f_128 (a0 + 20) (((nI 112) * x5) + (nI 0)).toNatClampNeg))
                  first | have t_173 : (((((nI 240) * x5) + (f_128 (a0 + 20) (((nI 112) * x5) + (nI 0)).toNatClampNeg))) + x3).toInt = (((((nI 240) * x5) + (f_128 (a0 + 20) (((nI 112) * x5) + (nI 0)).toNatClampNeg)))).toInt + (x3).toInt := t_addn (by omega) | obtain ⟨kt_173, t_173⟩ := t_add ((((nI 240) * x5) + (f_128 (a0 + 20) (((nI 112) * x5) + (nI 0)).toNatClampNeg))) x3
                  refine cT_go (b_M_sign_210 s0 (by rw [t_in]; omega) (by rw [t_in]; omega)) ?_
                  have t_178 := t_rng (f_128 (a0 + 22) ((((nI 240) * x5) + (f_128 (a0 + 20) (((nI 112) * x5) + (nI 0)).toNatClampNeg)) + x3).toNatClampNeg)
                  exact cT_ret b_M_sign_231 hI_129 hF_131 ⟨_, rfl, fun k h => by rw [← ie]; exact hk k h⟩
              · rw [t_eq] at c_164; try rw [t_0] at c_164
                refine cT_go (b_M_sign_185 s0 (by rw [t_in]; omega)) ?_
                have t_179 : 0 ≤ (f_128 (a0 + 19) x5.toNatClampNeg).toInt ∧ (f_128 (a0 + 19) x5.toNatClampNeg).toInt ≤ 112 := (cI_at hI_129 x5.toNatClampNeg (sc_7_28 s0)).2.2.2.2.2.1 (by omega)
                exact cT_ret b_M_sign_231 hI_129 hF_131 ⟨_, rfl, fun k h => by rw [← ie]; exact hk k h⟩
        · rw [t_eq] at c_124; try rw [t_0] at c_124
          refine cT_go b_M_sign_149 ?_
          have t_180 : (nI 1).toInt = 1 := nI_toInt (by decide)
          refine cT_call (b_M_sign_154 s0) (c_M_goes hI s0) hF (fun o ho => by omega) (fun v_181 f_182 hI_183 hG_184 hF_185 hQ_186 => ?_)
          obtain ⟨y_187, rfl, hb_188, hQ_186⟩ := hQ_186
          have hb_188r := t_b01 hb_188
          have t_189 : 3 ≤ (f a0 1).toInt ∧ (f a0 1).toInt ≤ 30 := (cI_at hI 1 s0).2.1 rfl
          have t_190 : 0 ≤ (f a0 3).toInt ∧ (f a0 3).toInt ≤ 32 := (cI_at hI 3 s0).2.2.2.1 rfl
          have t_191 : 0 ≤ (f a0 5).toInt ∧ (f a0 5).toInt ≤ 6 := (cI_at hI 5 s0).2.2.2.2.1 rfl
          have t_192 : 0 ≤ (f a0 8).toInt ∧ (f a0 8).toInt ≤ 8 := (cI_at hI 8 s0).2.2.2.2.2.1 rfl
          have t_193 : 0 ≤ (f a0 14).toInt ∧ (f a0 14).toInt ≤ 26 := (cI_at hI 14 s0).2.2.2.2.2.2.1 rfl
          have g_194 : (f_182 a0 1).toInt = (f a0 1).toInt := congrArg Int32.toInt (hQ_186.2.2.2.2 1 (by decide))
          have g_195 : (f_182 a0 3).toInt = (f a0 3).toInt := congrArg Int32.toInt (hQ_186.2.2.2.2 3 (by decide))
          have g_196 : (f_182 a0 5).toInt = (f a0 5).toInt := congrArg Int32.toInt (hQ_186.2.2.2.2 5 (by decide))
          have g_197 : (f_182 a0 8).toInt = (f a0 8).toInt := congrArg Int32.toInt (hQ_186.2.2.2.2 8 (by decide))
          have g_198 : (f_182 a0 14).toInt = (f a0 14).toInt := congrArg Int32.toInt (hQ_186.2.2.2.2 14 (by decide))
          have g_199 : (f_182 a0 23).toInt = (f a0 23).toInt := congrArg Int32.toInt (hQ_186.2.2.2.2 23 (by decide))
          have hk : ∀ k, k ≠ 2 → f_182 a0 k = f a0 k := hQ_186.2.2.2.2
          have r20 : f_182 (a0 + 20) = f (a0 + 20) := hG_184 (a0 + 20) (by omega)
          show cT 121 157 [.ref a0, .int x1, .int x2, .int x3, .int x4, .int x5, .int x6, .int (nI 0), u8] [.int y_187] _ _ _ _ _ _
          refine cT_if b_M_sign_157 (fun c_200 => ?_) (fun c_200 => ?_)
          · rw [t_eq] at c_200; try rw [t_0] at c_200
            have t_201 : (nI 0).toInt = 0 := nI_toInt (by decide)
            exact cT_ret b_M_sign_160 hI_183 hF_185 ⟨_, rfl, fun k h => by rw [← ie]; exact hk k h⟩
          · rw [t_eq] at c_200; try rw [t_0] at c_200
            refine cT_if b_M_sign_162 (fun c_202 => ?_) (fun c_202 => ?_)
            · rw [t_eq] at c_202; try rw [t_0] at c_202
              refine cT_go b_M_sign_176 ?_
              refine cT_if b_M_sign_177 (fun c_203 => ?_) (fun c_203 => ?_)
              · rw [t_eq] at c_203; try rw [t_0] at c_203
                refine cT_if b_M_sign_195 (fun c_204 => ?_) (fun c_204 => ?_)
                · rw [t_eq] at c_204; try rw [t_0] at c_204
                  have t_207 : (nI 112).toInt = 112 := nI_toInt (by decide)
                  first | have t_206 : (((nI 112)) * x5).toInt = 112 * (x5).toInt := t_mulc (by decide) (by omega) | (obtain ⟨kt_206, t_206⟩ := t_mul ((nI 112)) x5; rw [nI_toInt (show 112 < 2 ^ 31 by decide)] at t_206)
                  first | have t_205 : ((((nI 112) * x5)) + x2).toInt = ((((nI 112) * x5))).toInt + (x2).toInt := t_addn (by omega) | obtain ⟨kt_205, t_205⟩ := t_add (((nI 112) * x5)) x2
                  refine cT_go (b_M_sign_200 s0 (by rw [t_in]; omega)) ?_
                  have t_208 := t_rng (f_182 (a0 + 21) (((nI 112) * x5) + x2).toNatClampNeg)
                  exact cT_ret b_M_sign_231 hI_183 hF_185 ⟨_, rfl, fun k h => by rw [← ie]; exact hk k h⟩
                · rw [t_eq] at c_204; try rw [t_0] at c_204
                  have j1 := jl (((nI 112) * x5) + x2).toNatClampNeg
                  have j2 : (f_182 (a0 + 20) (((nI 112) * x5) + x2).toNatClampNeg).toInt = (f (a0 + 20) (((nI 112) * x5) + x2).toNatClampNeg).toInt := by rw [r20]
                  have t_211 : (nI 112).toInt = 112 := nI_toInt (by decide)
                  first | have t_210 : (((nI 112)) * x5).toInt = 112 * (x5).toInt := t_mulc (by decide) (by omega) | (obtain ⟨kt_210, t_210⟩ := t_mul ((nI 112)) x5; rw [nI_toInt (show 112 < 2 ^ 31 by decide)] at t_210)
                  first | have t_209 : ((((nI 112) * x5)) + x2).toInt = ((((nI 112) * x5))).toInt + (x2).toInt := t_addn (by omega) | obtain ⟨kt_209, t_209⟩ := t_add (((nI 112) * x5)) x2
                  have t_215 : (nI 240).toInt = 240 := nI_toInt (by decide)
                  first | have t_214 : (((nI 240)) * x5).toInt = 240 * (x5).toInt := t_mulc (by decide) (by omega) | (obtain ⟨kt_214, t_214⟩ := t_mul ((nI 240)) x5; rw [nI_toInt (show 240 < 2 ^ 31 by decide)] at t_214)
                  have t_216 := t_rng (f_182 (a0 + 20) (((nI 112) * x5) + x2).toNatClampNeg)
                  first | have t_213 : ((((nI 240) * x5)) + ((f_182 (a0 + 20) (((nI 112) * x5) + x2).toNatClampNeg))).toInt = ((((nI 240) * x5))).toInt + (((f_182 (a0 + 20) (((nI 112) * x5) + x2).toNatClampNeg))).toInt := t_addn (by omega) | obtain ⟨kt_213, t_213⟩ := t_add (((nI 240) * x5)) ((f_182 (a0 + 20) (((nI 112) * x5) + x2).toNatClampNeg))
                  first | have t_212 : (((((nI 240) * x5) + (f_182 (a0 + 20) (((nI 112) * x5) + x2).toNatClampNeg))) + x3).toInt = (((((nI 240) * x5) + (f_182 (a0 + 20) (((nI 112) * x5) + x2).toNatClampNeg)))).toInt + (x3).toInt := t_addn (by omega) | obtain ⟨kt_212, t_212⟩ := t_add ((((nI 240) * x5) + (f_182 (a0 + 20) (((nI 112) * x5) + x2).toNatClampNeg))) x3
                  refine cT_go (b_M_sign_210 s0 (by rw [t_in]; omega) (by rw [t_in]; omega)) ?_
                  have t_217 := t_rng (f_182 (a0 + 22) ((((nI 240) * x5) + (f_182 (a0 + 20) (((nI 112) * x5) + x2).toNatClampNeg)) + x3).toNatClampNeg)
                  exact cT_ret b_M_sign_231 hI_183 hF_185 ⟨_, rfl, fun k h => by rw [← ie]; exact hk k h⟩
              · rw [t_eq] at c_203; try rw [t_0] at c_203
                refine cT_go (b_M_sign_185 s0 (by rw [t_in]; omega)) ?_
                have t_218 : 0 ≤ (f_182 (a0 + 19) x5.toNatClampNeg).toInt ∧ (f_182 (a0 + 19) x5.toNatClampNeg).toInt ≤ 112 := (cI_at hI_183 x5.toNatClampNeg (sc_7_28 s0)).2.2.2.2.2.1 (by omega)
                exact cT_ret b_M_sign_231 hI_183 hF_185 ⟨_, rfl, fun k h => by rw [← ie]; exact hk k h⟩
            · rw [t_eq] at c_202; try rw [t_0] at c_202
              refine cT_go b_M_sign_172 ?_
              refine cT_if b_M_sign_177 (fun c_219 => ?_) (fun c_219 => ?_)
              · rw [t_eq] at c_219; try rw [t_0] at c_219
                refine cT_if b_M_sign_195 (fun c_220 => ?_) (fun c_220 => ?_)
                · rw [t_eq] at c_220; try rw [t_0] at c_220
                  have t_223 : (nI 112).toInt = 112 := nI_toInt (by decide)
                  first | have t_222 : (((nI 112)) * x5).toInt = 112 * (x5).toInt := t_mulc (by decide) (by omega) | (obtain ⟨kt_222, t_222⟩ := t_mul ((nI 112)) x5; rw [nI_toInt (show 112 < 2 ^ 31 by decide)] at t_222)
                  have t_224 : (nI 0).toInt = 0 := nI_toInt (by decide)
                  first | have t_221 : ((((nI 112) * x5)) + ((nI 0))).toInt = ((((nI 112) * x5))).toInt + (((nI 0))).toInt := t_addn (by omega) | obtain ⟨kt_221, t_221⟩ := t_add (((nI 112) * x5)) ((nI 0))
                  refine cT_go (b_M_sign_200 s0 (by rw [t_in]; omega)) ?_
                  have t_225 := t_rng (f_182 (a0 + 21) (((nI 112) * x5) + (nI 0)).toNatClampNeg)
                  exact cT_ret b_M_sign_231 hI_183 hF_185 ⟨_, rfl, fun k h => by rw [← ie]; exact hk k h⟩
                · rw [t_eq] at c_220; try rw [t_0] at c_220
                  have j1 := jl (((nI 112) * x5) + (nI 0)).toNatClampNeg
                  have j2 : (f_182 (a0 + 20) (((nI 112) * x5) + (nI 0)).toNatClampNeg).toInt = (f (a0 + 20) (((nI 112) * x5) + (nI 0)).toNatClampNeg).toInt := by rw [r20]
                  have t_228 : (nI 112).toInt = 112 := nI_toInt (by decide)
                  first | have t_227 : (((nI 112)) * x5).toInt = 112 * (x5).toInt := t_mulc (by decide) (by omega) | (obtain ⟨kt_227, t_227⟩ := t_mul ((nI 112)) x5; rw [nI_toInt (show 112 < 2 ^ 31 by decide)] at t_227)
                  have t_229 : (nI 0).toInt = 0 := nI_toInt (by decide)
                  first | have t_226 : ((((nI 112) * x5)) + ((nI 0))).toInt = ((((nI 112) * x5))).toInt + (((nI 0))).toInt := t_addn (by omega) | obtain ⟨kt_226, t_226⟩ := t_add (((nI 112) * x5)) ((nI 0))
                  have t_233 : (nI 240).toInt = 240 := nI_toInt (by decide)
                  first | have t_232 : (((nI 240)) * x5).toInt = 240 * (x5).toInt := t_mulc (by decide) (by omega) | (obtain ⟨kt_232, t_232⟩ := t_mul ((nI 240)) x5; rw [nI_toInt (show 240 < 2 ^ 31 by decide)] at t_232)
                  have t_234 := t_rng (f_182 (a0 + 20) (((nI 112) * x5) + (nI 0)).toNatClampNeg)
                  first | have t_231 : ((((nI 240) * x5)) + ((f_182 (a0 + 20) (((nI 112) * x5) + (nI 0)).toNatClampNeg))).toInt = ((((nI 240) * x5))).toInt + (((f_182 (a0 + 20) (((nI 112) * x5) + (nI 0)).toNatClampNeg))).toInt := t_addn (by omega) | obtain ⟨kt_231, t_231⟩ := t_add (((nI 240) * x5)) ((f_182 (a0 + 20) (((nI 112) * x5) + (nI 0)).toNatClampNeg))
                  first | have t_230 : (((((nI 240) * x5) + (f_182 (a0 + 20) (((nI 112) * x5) + (nI 0)).toNatClampNeg))) + x3).toInt = (((((nI 240) * x5) + (f_182 (a0 + 20) (((nI 112) * x5) + (nI 0)).toNatClampNeg)))).toInt + (x3).toInt := t_addn (by omega) | obtain ⟨kt_230, t_230⟩ := t_add ((((nI 240) * x5) + (f_182 (a0 + 20) (((nI 112) * x5) + (nI 0)).toNatClampNeg))) x3
                  refine cT_go (b_M_sign_210 s0 (by rw [t_in]; omega) (by rw [t_in]; omega)) ?_
                  have t_235 := t_rng (f_182 (a0 + 22) ((((nI 240) * x5) + (f_182 (a0 + 20) (((nI 112) * x5) + (nI 0)).toNatClampNeg)) + x3).toNatClampNeg)
                  exact cT_ret b_M_sign_231 hI_183 hF_185 ⟨_, rfl, fun k h => by rw [← ie]; exact hk k h⟩
              · rw [t_eq] at c_219; try rw [t_0] at c_219
                refine cT_go (b_M_sign_185 s0 (by rw [t_in]; omega)) ?_
                have t_236 : 0 ≤ (f_182 (a0 + 19) x5.toNatClampNeg).toInt ∧ (f_182 (a0 + 19) x5.toNatClampNeg).toInt ≤ 112 := (cI_at hI_183 x5.toNatClampNeg (sc_7_28 s0)).2.2.2.2.2.1 (by omega)
                exact cT_ret b_M_sign_231 hI_183 hF_185 ⟨_, rfl, fun k h => by rw [← ie]; exact hk k h⟩
      · rw [t_eq] at c_121; try rw [t_0] at c_121
        refine cT_if b_M_sign_126 (fun c_237 => ?_) (fun c_237 => ?_)
        · rw [t_eq] at c_237; try rw [t_0] at c_237
          have t_239 : (nI 0).toInt = 0 := nI_toInt (by decide)
          refine cT_if b_M_sign_131 (fun c_238 => ?_) (fun c_238 => ?_)
          · rw [t_eq] at c_238; try rw [t_0] at c_238
            refine cT_go b_M_sign_140 ?_
            refine cT_if (b_M_sign_141 s0) (fun c_240 => ?_) (fun c_240 => ?_)
            · rw [t_eq] at c_240; try rw [t_0] at c_240
              refine cT_go b_M_sign_153 ?_
              refine cT_call (b_M_sign_154 s0) (c_M_goes hI s0) hF (fun o ho => by omega) (fun v_241 f_242 hI_243 hG_244 hF_245 hQ_246 => ?_)
              obtain ⟨y_247, rfl, hb_248, hQ_246⟩ := hQ_246
              have hb_248r := t_b01 hb_248
              have t_249 : 3 ≤ (f a0 1).toInt ∧ (f a0 1).toInt ≤ 30 := (cI_at hI 1 s0).2.1 rfl
              have t_250 : 0 ≤ (f a0 3).toInt ∧ (f a0 3).toInt ≤ 32 := (cI_at hI 3 s0).2.2.2.1 rfl
              have t_251 : 0 ≤ (f a0 5).toInt ∧ (f a0 5).toInt ≤ 6 := (cI_at hI 5 s0).2.2.2.2.1 rfl
              have t_252 : 0 ≤ (f a0 8).toInt ∧ (f a0 8).toInt ≤ 8 := (cI_at hI 8 s0).2.2.2.2.2.1 rfl
              have t_253 : 0 ≤ (f a0 14).toInt ∧ (f a0 14).toInt ≤ 26 := (cI_at hI 14 s0).2.2.2.2.2.2.1 rfl
              have g_254 : (f_242 a0 1).toInt = (f a0 1).toInt := congrArg Int32.toInt (hQ_246.2.2.2.2 1 (by decide))
              have g_255 : (f_242 a0 3).toInt = (f a0 3).toInt := congrArg Int32.toInt (hQ_246.2.2.2.2 3 (by decide))
              have g_256 : (f_242 a0 5).toInt = (f a0 5).toInt := congrArg Int32.toInt (hQ_246.2.2.2.2 5 (by decide))
              have g_257 : (f_242 a0 8).toInt = (f a0 8).toInt := congrArg Int32.toInt (hQ_246.2.2.2.2 8 (by decide))
              have g_258 : (f_242 a0 14).toInt = (f a0 14).toInt := congrArg Int32.toInt (hQ_246.2.2.2.2 14 (by decide))
              have g_259 : (f_242 a0 23).toInt = (f a0 23).toInt := congrArg Int32.toInt (hQ_246.2.2.2.2 23 (by decide))
              have hk : ∀ k, k ≠ 2 → f_242 a0 k = f a0 k := hQ_246.2.2.2.2
              have r20 : f_242 (a0 + 20) = f (a0 + 20) := hG_244 (a0 + 20) (by omega)
              show cT 121 157 [.ref a0, .int x1, .int x2, .int x3, .int x4, .int x5, .int x6, .int (nI 0), u8] [.int y_247] _ _ _ _ _ _
              refine cT_if b_M_sign_157 (fun c_260 => ?_) (fun c_260 => ?_)
              · rw [t_eq] at c_260; try rw [t_0] at c_260
                exact cT_ret b_M_sign_160 hI_243 hF_245 ⟨_, rfl, fun k h => by rw [← ie]; exact hk k h⟩
              · rw [t_eq] at c_260; try rw [t_0] at c_260
                refine cT_if b_M_sign_162 (fun c_261 => ?_) (fun c_261 => ?_)
                · rw [t_eq] at c_261; try rw [t_0] at c_261
                  refine cT_go b_M_sign_176 ?_
                  refine cT_if b_M_sign_177 (fun c_262 => ?_) (fun c_262 => ?_)
                  · rw [t_eq] at c_262; try rw [t_0] at c_262
                    refine cT_if b_M_sign_195 (fun c_263 => ?_) (fun c_263 => ?_)
                    · rw [t_eq] at c_263; try rw [t_0] at c_263
                      have t_266 : (nI 112).toInt = 112 := nI_toInt (by decide)
                      first | have t_265 : (((nI 112)) * x5).toInt = 112 * (x5).toInt := t_mulc (by decide) (by omega) | (obtain ⟨kt_265, t_265⟩ := t_mul ((nI 112)) x5; rw [nI_toInt (show 112 < 2 ^ 31 by decide)] at t_265)
                      first | have t_264 : ((((nI 112) * x5)) + x2).toInt = ((((nI 112) * x5))).toInt + (x2).toInt := t_addn (by omega) | obtain ⟨kt_264, t_264⟩ := t_add (((nI 112) * x5)) x2
                      refine cT_go (b_M_sign_200 s0 (by rw [t_in]; omega)) ?_
                      have t_267 := t_rng (f_242 (a0 + 21) (((nI 112) * x5) + x2).toNatClampNeg)
                      exact cT_ret b_M_sign_231 hI_243 hF_245 ⟨_, rfl, fun k h => by rw [← ie]; exact hk k h⟩
                    · rw [t_eq] at c_263; try rw [t_0] at c_263
                      have j1 := jl (((nI 112) * x5) + x2).toNatClampNeg
                      have j2 : (f_242 (a0 + 20) (((nI 112) * x5) + x2).toNatClampNeg).toInt = (f (a0 + 20) (((nI 112) * x5) + x2).toNatClampNeg).toInt := by rw [r20]
                      have t_270 : (nI 112).toInt = 112 := nI_toInt (by decide)
                      first | have t_269 : (((nI 112)) * x5).toInt = 112 * (x5).toInt := t_mulc (by decide) (by omega) | (obtain ⟨kt_269, t_269⟩ := t_mul ((nI 112)) x5; rw [nI_toInt (show 112 < 2 ^ 31 by decide)] at t_269)
                      first | have t_268 : ((((nI 112) * x5)) + x2).toInt = ((((nI 112) * x5))).toInt + (x2).toInt := t_addn (by omega) | obtain ⟨kt_268, t_268⟩ := t_add (((nI 112) * x5)) x2
                      have t_274 : (nI 240).toInt = 240 := nI_toInt (by decide)
                      first | have t_273 : (((nI 240)) * x5).toInt = 240 * (x5).toInt := t_mulc (by decide) (by omega) | (obtain ⟨kt_273, t_273⟩ := t_mul ((nI 240)) x5; rw [nI_toInt (show 240 < 2 ^ 31 by decide)] at t_273)
                      have t_275 := t_rng (f_242 (a0 + 20) (((nI 112) * x5) + x2).toNatClampNeg)
                      first | have t_272 : ((((nI 240) * x5)) + ((f_242 (a0 + 20) (((nI 112) * x5) + x2).toNatClampNeg))).toInt = ((((nI 240) * x5))).toInt + (((f_242 (a0 + 20) (((nI 112) * x5) + x2).toNatClampNeg))).toInt := t_addn (by omega) | obtain ⟨kt_272, t_272⟩ := t_add (((nI 240) * x5)) ((f_242 (a0 + 20) (((nI 112) * x5) + x2).toNatClampNeg))
                      first | have t_271 : (((((nI 240) * x5) + (f_242 (a0 + 20) (((nI 112) * x5) + x2).toNatClampNeg))) + x3).toInt = (((((nI 240) * x5) + (f_242 (a0 + 20) (((nI 112) * x5) + x2).toNatClampNeg)))).toInt + (x3).toInt := t_addn (by omega) | obtain ⟨kt_271, t_271⟩ := t_add ((((nI 240) * x5) + (f_242 (a0 + 20) (((nI 112) * x5) + x2).toNatClampNeg))) x3
                      refine cT_go (b_M_sign_210 s0 (by rw [t_in]; omega) (by rw [t_in]; omega)) ?_
                      have t_276 := t_rng (f_242 (a0 + 22) ((((nI 240) * x5) + (f_242 (a0 + 20) (((nI 112) * x5) + x2).toNatClampNeg)) + x3).toNatClampNeg)
                      exact cT_ret b_M_sign_231 hI_243 hF_245 ⟨_, rfl, fun k h => by rw [← ie]; exact hk k h⟩
                  · rw [t_eq] at c_262; try rw [t_0] at c_262
                    refine cT_go (b_M_sign_185 s0 (by rw [t_in]; omega)) ?_
                    have t_277 : 0 ≤ (f_242 (a0 + 19) x5.toNatClampNeg).toInt ∧ (f_242 (a0 + 19) x5.toNatClampNeg).toInt ≤ 112 := (cI_at hI_243 x5.toNatClampNeg (sc_7_28 s0)).2.2.2.2.2.1 (by omega)
                    exact cT_ret b_M_sign_231 hI_243 hF_245 ⟨_, rfl, fun k h => by rw [← ie]; exact hk k h⟩
                · rw [t_eq] at c_261; try rw [t_0] at c_261
                  refine cT_go b_M_sign_172 ?_
                  refine cT_if b_M_sign_177 (fun c_278 => ?_) (fun c_278 => ?_)
                  · rw [t_eq] at c_278; try rw [t_0] at c_278
                    refine cT_if b_M_sign_195 (fun c_279 => ?_) (fun c_279 => ?_)
                    · rw [t_eq] at c_279; try rw [t_0] at c_279
                      have t_282 : (nI 112).toInt = 112 := nI_toInt (by decide)
                      first | have t_281 : (((nI 112)) * x5).toInt = 112 * (x5).toInt := t_mulc (by decide) (by omega) | (obtain ⟨kt_281, t_281⟩ := t_mul ((nI 112)) x5; rw [nI_toInt (show 112 < 2 ^ 31 by decide)] at t_281)
                      first | have t_280 : ((((nI 112) * x5)) + ((nI 0))).toInt = ((((nI 112) * x5))).toInt + (((nI 0))).toInt := t_addn (by omega) | obtain ⟨kt_280, t_280⟩ := t_add (((nI 112) * x5)) ((nI 0))
                      refine cT_go (b_M_sign_200 s0 (by rw [t_in]; omega)) ?_
                      have t_283 := t_rng (f_242 (a0 + 21) (((nI 112) * x5) + (nI 0)).toNatClampNeg)
                      exact cT_ret b_M_sign_231 hI_243 hF_245 ⟨_, rfl, fun k h => by rw [← ie]; exact hk k h⟩
                    · rw [t_eq] at c_279; try rw [t_0] at c_279
                      have j1 := jl (((nI 112) * x5) + (nI 0)).toNatClampNeg
                      have j2 : (f_242 (a0 + 20) (((nI 112) * x5) + (nI 0)).toNatClampNeg).toInt = (f (a0 + 20) (((nI 112) * x5) + (nI 0)).toNatClampNeg).toInt := by rw [r20]
                      have t_286 : (nI 112).toInt = 112 := nI_toInt (by decide)
                      first | have t_285 : (((nI 112)) * x5).toInt = 112 * (x5).toInt := t_mulc (by decide) (by omega) | (obtain ⟨kt_285, t_285⟩ := t_mul ((nI 112)) x5; rw [nI_toInt (show 112 < 2 ^ 31 by decide)] at t_285)
                      first | have t_284 : ((((nI 112) * x5)) + ((nI 0))).toInt = ((((nI 112) * x5))).toInt + (((nI 0))).toInt := t_addn (by omega) | obtain ⟨kt_284, t_284⟩ := t_add (((nI 112) * x5)) ((nI 0))
                      have t_290 : (nI 240).toInt = 240 := nI_toInt (by decide)
                      first | have t_289 : (((nI 240)) * x5).toInt = 240 * (x5).toInt := t_mulc (by decide) (by omega) | (obtain ⟨kt_289, t_289⟩ := t_mul ((nI 240)) x5; rw [nI_toInt (show 240 < 2 ^ 31 by decide)] at t_289)
                      have t_291 := t_rng (f_242 (a0 + 20) (((nI 112) * x5) + (nI 0)).toNatClampNeg)
                      first | have t_288 : ((((nI 240) * x5)) + ((f_242 (a0 + 20) (((nI 112) * x5) + (nI 0)).toNatClampNeg))).toInt = ((((nI 240) * x5))).toInt + (((f_242 (a0 + 20) (((nI 112) * x5) + (nI 0)).toNatClampNeg))).toInt := t_addn (by omega) | obtain ⟨kt_288, t_288⟩ := t_add (((nI 240) * x5)) ((f_242 (a0 + 20) (((nI 112) * x5) + (nI 0)).toNatClampNeg))
                      first | have t_287 : (((((nI 240) * x5) + (f_242 (a0 + 20) (((nI 112) * x5) + (nI 0)).toNatClampNeg))) + x3).toInt = (((((nI 240) * x5) + (f_242 (a0 + 20) (((nI 112) * x5) + (nI 0)).toNatClampNeg)))).toInt + (x3).toInt := t_addn (by omega) | obtain ⟨kt_287, t_287⟩ := t_add ((((nI 240) * x5) + (f_242 (a0 + 20) (((nI 112) * x5) + (nI 0)).toNatClampNeg))) x3
                      refine cT_go (b_M_sign_210 s0 (by rw [t_in]; omega) (by rw [t_in]; omega)) ?_
                      have t_292 := t_rng (f_242 (a0 + 22) ((((nI 240) * x5) + (f_242 (a0 + 20) (((nI 112) * x5) + (nI 0)).toNatClampNeg)) + x3).toNatClampNeg)
                      exact cT_ret b_M_sign_231 hI_243 hF_245 ⟨_, rfl, fun k h => by rw [← ie]; exact hk k h⟩
                  · rw [t_eq] at c_278; try rw [t_0] at c_278
                    refine cT_go (b_M_sign_185 s0 (by rw [t_in]; omega)) ?_
                    have t_293 : 0 ≤ (f_242 (a0 + 19) x5.toNatClampNeg).toInt ∧ (f_242 (a0 + 19) x5.toNatClampNeg).toInt ≤ 112 := (cI_at hI_243 x5.toNatClampNeg (sc_7_28 s0)).2.2.2.2.2.1 (by omega)
                    exact cT_ret b_M_sign_231 hI_243 hF_245 ⟨_, rfl, fun k h => by rw [← ie]; exact hk k h⟩
            · rw [t_eq] at c_240; try rw [t_0] at c_240
              refine cT_go b_M_sign_149 ?_
              have t_294 : (nI 1).toInt = 1 := nI_toInt (by decide)
              refine cT_call (b_M_sign_154 s0) (c_M_goes hI s0) hF (fun o ho => by omega) (fun v_295 f_296 hI_297 hG_298 hF_299 hQ_300 => ?_)
              obtain ⟨y_301, rfl, hb_302, hQ_300⟩ := hQ_300
              have hb_302r := t_b01 hb_302
              have t_303 : 3 ≤ (f a0 1).toInt ∧ (f a0 1).toInt ≤ 30 := (cI_at hI 1 s0).2.1 rfl
              have t_304 : 0 ≤ (f a0 3).toInt ∧ (f a0 3).toInt ≤ 32 := (cI_at hI 3 s0).2.2.2.1 rfl
              have t_305 : 0 ≤ (f a0 5).toInt ∧ (f a0 5).toInt ≤ 6 := (cI_at hI 5 s0).2.2.2.2.1 rfl
              have t_306 : 0 ≤ (f a0 8).toInt ∧ (f a0 8).toInt ≤ 8 := (cI_at hI 8 s0).2.2.2.2.2.1 rfl
              have t_307 : 0 ≤ (f a0 14).toInt ∧ (f a0 14).toInt ≤ 26 := (cI_at hI 14 s0).2.2.2.2.2.2.1 rfl
              have g_308 : (f_296 a0 1).toInt = (f a0 1).toInt := congrArg Int32.toInt (hQ_300.2.2.2.2 1 (by decide))
              have g_309 : (f_296 a0 3).toInt = (f a0 3).toInt := congrArg Int32.toInt (hQ_300.2.2.2.2 3 (by decide))
              have g_310 : (f_296 a0 5).toInt = (f a0 5).toInt := congrArg Int32.toInt (hQ_300.2.2.2.2 5 (by decide))
              have g_311 : (f_296 a0 8).toInt = (f a0 8).toInt := congrArg Int32.toInt (hQ_300.2.2.2.2 8 (by decide))
              have g_312 : (f_296 a0 14).toInt = (f a0 14).toInt := congrArg Int32.toInt (hQ_300.2.2.2.2 14 (by decide))
              have g_313 : (f_296 a0 23).toInt = (f a0 23).toInt := congrArg Int32.toInt (hQ_300.2.2.2.2 23 (by decide))
              have hk : ∀ k, k ≠ 2 → f_296 a0 k = f a0 k := hQ_300.2.2.2.2
              have r20 : f_296 (a0 + 20) = f (a0 + 20) := hG_298 (a0 + 20) (by omega)
              show cT 121 157 [.ref a0, .int x1, .int x2, .int x3, .int x4, .int x5, .int x6, .int (nI 0), u8] [.int y_301] _ _ _ _ _ _
              refine cT_if b_M_sign_157 (fun c_314 => ?_) (fun c_314 => ?_)
              · rw [t_eq] at c_314; try rw [t_0] at c_314
                exact cT_ret b_M_sign_160 hI_297 hF_299 ⟨_, rfl, fun k h => by rw [← ie]; exact hk k h⟩
              · rw [t_eq] at c_314; try rw [t_0] at c_314
                refine cT_if b_M_sign_162 (fun c_315 => ?_) (fun c_315 => ?_)
                · rw [t_eq] at c_315; try rw [t_0] at c_315
                  refine cT_go b_M_sign_176 ?_
                  refine cT_if b_M_sign_177 (fun c_316 => ?_) (fun c_316 => ?_)
                  · rw [t_eq] at c_316; try rw [t_0] at c_316
                    refine cT_if b_M_sign_195 (fun c_317 => ?_) (fun c_317 => ?_)
                    · rw [t_eq] at c_317; try rw [t_0] at c_317
                      have t_320 : (nI 112).toInt = 112 := nI_toInt (by decide)
                      first | have t_319 : (((nI 112)) * x5).toInt = 112 * (x5).toInt := t_mulc (by decide) (by omega) | (obtain ⟨kt_319, t_319⟩ := t_mul ((nI 112)) x5; rw [nI_toInt (show 112 < 2 ^ 31 by decide)] at t_319)
                      first | have t_318 : ((((nI 112) * x5)) + x2).toInt = ((((nI 112) * x5))).toInt + (x2).toInt := t_addn (by omega) | obtain ⟨kt_318, t_318⟩ := t_add (((nI 112) * x5)) x2
                      refine cT_go (b_M_sign_200 s0 (by rw [t_in]; omega)) ?_
                      have t_321 := t_rng (f_296 (a0 + 21) (((nI 112) * x5) + x2).toNatClampNeg)
                      exact cT_ret b_M_sign_231 hI_297 hF_299 ⟨_, rfl, fun k h => by rw [← ie]; exact hk k h⟩
                    · rw [t_eq] at c_317; try rw [t_0] at c_317
                      have j1 := jl (((nI 112) * x5) + x2).toNatClampNeg
                      have j2 : (f_296 (a0 + 20) (((nI 112) * x5) + x2).toNatClampNeg).toInt = (f (a0 + 20) (((nI 112) * x5) + x2).toNatClampNeg).toInt := by rw [r20]
                      have t_324 : (nI 112).toInt = 112 := nI_toInt (by decide)
                      first | have t_323 : (((nI 112)) * x5).toInt = 112 * (x5).toInt := t_mulc (by decide) (by omega) | (obtain ⟨kt_323, t_323⟩ := t_mul ((nI 112)) x5; rw [nI_toInt (show 112 < 2 ^ 31 by decide)] at t_323)
                      first | have t_322 : ((((nI 112) * x5)) + x2).toInt = ((((nI 112) * x5))).toInt + (x2).toInt := t_addn (by omega) | obtain ⟨kt_322, t_322⟩ := t_add (((nI 112) * x5)) x2
                      have t_328 : (nI 240).toInt = 240 := nI_toInt (by decide)
                      first | have t_327 : (((nI 240)) * x5).toInt = 240 * (x5).toInt := t_mulc (by decide) (by omega) | (obtain ⟨kt_327, t_327⟩ := t_mul ((nI 240)) x5; rw [nI_toInt (show 240 < 2 ^ 31 by decide)] at t_327)
                      have t_329 := t_rng (f_296 (a0 + 20) (((nI 112) * x5) + x2).toNatClampNeg)
                      first | have t_326 : ((((nI 240) * x5)) + ((f_296 (a0 + 20) (((nI 112) * x5) + x2).toNatClampNeg))).toInt = ((((nI 240) * x5))).toInt + (((f_296 (a0 + 20) (((nI 112) * x5) + x2).toNatClampNeg))).toInt := t_addn (by omega) | obtain ⟨kt_326, t_326⟩ := t_add (((nI 240) * x5)) ((f_296 (a0 + 20) (((nI 112) * x5) + x2).toNatClampNeg))
                      first | have t_325 : (((((nI 240) * x5) + (f_296 (a0 + 20) (((nI 112) * x5) + x2).toNatClampNeg))) + x3).toInt = (((((nI 240) * x5) + (f_296 (a0 + 20) (((nI 112) * x5) + x2).toNatClampNeg)))).toInt + (x3).toInt := t_addn (by omega) | obtain ⟨kt_325, t_325⟩ := t_add ((((nI 240) * x5) + (f_296 (a0 + 20) (((nI 112) * x5) + x2).toNatClampNeg))) x3
                      refine cT_go (b_M_sign_210 s0 (by rw [t_in]; omega) (by rw [t_in]; omega)) ?_
                      have t_330 := t_rng (f_296 (a0 + 22) ((((nI 240) * x5) + (f_296 (a0 + 20) (((nI 112) * x5) + x2).toNatClampNeg)) + x3).toNatClampNeg)
                      exact cT_ret b_M_sign_231 hI_297 hF_299 ⟨_, rfl, fun k h => by rw [← ie]; exact hk k h⟩
                  · rw [t_eq] at c_316; try rw [t_0] at c_316
                    refine cT_go (b_M_sign_185 s0 (by rw [t_in]; omega)) ?_
                    have t_331 : 0 ≤ (f_296 (a0 + 19) x5.toNatClampNeg).toInt ∧ (f_296 (a0 + 19) x5.toNatClampNeg).toInt ≤ 112 := (cI_at hI_297 x5.toNatClampNeg (sc_7_28 s0)).2.2.2.2.2.1 (by omega)
                    exact cT_ret b_M_sign_231 hI_297 hF_299 ⟨_, rfl, fun k h => by rw [← ie]; exact hk k h⟩
                · rw [t_eq] at c_315; try rw [t_0] at c_315
                  refine cT_go b_M_sign_172 ?_
                  refine cT_if b_M_sign_177 (fun c_332 => ?_) (fun c_332 => ?_)
                  · rw [t_eq] at c_332; try rw [t_0] at c_332
                    refine cT_if b_M_sign_195 (fun c_333 => ?_) (fun c_333 => ?_)
                    · rw [t_eq] at c_333; try rw [t_0] at c_333
                      have t_336 : (nI 112).toInt = 112 := nI_toInt (by decide)
                      first | have t_335 : (((nI 112)) * x5).toInt = 112 * (x5).toInt := t_mulc (by decide) (by omega) | (obtain ⟨kt_335, t_335⟩ := t_mul ((nI 112)) x5; rw [nI_toInt (show 112 < 2 ^ 31 by decide)] at t_335)
                      first | have t_334 : ((((nI 112) * x5)) + ((nI 0))).toInt = ((((nI 112) * x5))).toInt + (((nI 0))).toInt := t_addn (by omega) | obtain ⟨kt_334, t_334⟩ := t_add (((nI 112) * x5)) ((nI 0))
                      refine cT_go (b_M_sign_200 s0 (by rw [t_in]; omega)) ?_
                      have t_337 := t_rng (f_296 (a0 + 21) (((nI 112) * x5) + (nI 0)).toNatClampNeg)
                      exact cT_ret b_M_sign_231 hI_297 hF_299 ⟨_, rfl, fun k h => by rw [← ie]; exact hk k h⟩
                    · rw [t_eq] at c_333; try rw [t_0] at c_333
                      have j1 := jl (((nI 112) * x5) + (nI 0)).toNatClampNeg
                      have j2 : (f_296 (a0 + 20) (((nI 112) * x5) + (nI 0)).toNatClampNeg).toInt = (f (a0 + 20) (((nI 112) * x5) + (nI 0)).toNatClampNeg).toInt := by rw [r20]
                      have t_340 : (nI 112).toInt = 112 := nI_toInt (by decide)
                      first | have t_339 : (((nI 112)) * x5).toInt = 112 * (x5).toInt := t_mulc (by decide) (by omega) | (obtain ⟨kt_339, t_339⟩ := t_mul ((nI 112)) x5; rw [nI_toInt (show 112 < 2 ^ 31 by decide)] at t_339)
                      first | have t_338 : ((((nI 112) * x5)) + ((nI 0))).toInt = ((((nI 112) * x5))).toInt + (((nI 0))).toInt := t_addn (by omega) | obtain ⟨kt_338, t_338⟩ := t_add (((nI 112) * x5)) ((nI 0))
                      have t_344 : (nI 240).toInt = 240 := nI_toInt (by decide)
                      first | have t_343 : (((nI 240)) * x5).toInt = 240 * (x5).toInt := t_mulc (by decide) (by omega) | (obtain ⟨kt_343, t_343⟩ := t_mul ((nI 240)) x5; rw [nI_toInt (show 240 < 2 ^ 31 by decide)] at t_343)
                      have t_345 := t_rng (f_296 (a0 + 20) (((nI 112) * x5) + (nI 0)).toNatClampNeg)
                      first | have t_342 : ((((nI 240) * x5)) + ((f_296 (a0 + 20) (((nI 112) * x5) + (nI 0)).toNatClampNeg))).toInt = ((((nI 240) * x5))).toInt + (((f_296 (a0 + 20) (((nI 112) * x5) + (nI 0)).toNatClampNeg))).toInt := t_addn (by omega) | obtain ⟨kt_342, t_342⟩ := t_add (((nI 240) * x5)) ((f_296 (a0 + 20) (((nI 112) * x5) + (nI 0)).toNatClampNeg))
                      first | have t_341 : (((((nI 240) * x5) + (f_296 (a0 + 20) (((nI 112) * x5) + (nI 0)).toNatClampNeg))) + x3).toInt = (((((nI 240) * x5) + (f_296 (a0 + 20) (((nI 112) * x5) + (nI 0)).toNatClampNeg)))).toInt + (x3).toInt := t_addn (by omega) | obtain ⟨kt_341, t_341⟩ := t_add ((((nI 240) * x5) + (f_296 (a0 + 20) (((nI 112) * x5) + (nI 0)).toNatClampNeg))) x3
                      refine cT_go (b_M_sign_210 s0 (by rw [t_in]; omega) (by rw [t_in]; omega)) ?_
                      have t_346 := t_rng (f_296 (a0 + 22) ((((nI 240) * x5) + (f_296 (a0 + 20) (((nI 112) * x5) + (nI 0)).toNatClampNeg)) + x3).toNatClampNeg)
                      exact cT_ret b_M_sign_231 hI_297 hF_299 ⟨_, rfl, fun k h => by rw [← ie]; exact hk k h⟩
                  · rw [t_eq] at c_332; try rw [t_0] at c_332
                    refine cT_go (b_M_sign_185 s0 (by rw [t_in]; omega)) ?_
                    have t_347 : 0 ≤ (f_296 (a0 + 19) x5.toNatClampNeg).toInt ∧ (f_296 (a0 + 19) x5.toNatClampNeg).toInt ≤ 112 := (cI_at hI_297 x5.toNatClampNeg (sc_7_28 s0)).2.2.2.2.2.1 (by omega)
                    exact cT_ret b_M_sign_231 hI_297 hF_299 ⟨_, rfl, fun k h => by rw [← ie]; exact hk k h⟩
          · rw [t_eq] at c_238; try rw [t_0] at c_238
            refine cT_go b_M_sign_136 ?_
            refine cT_if (b_M_sign_141 s0) (fun c_348 => ?_) (fun c_348 => ?_)
            · rw [t_eq] at c_348; try rw [t_0] at c_348
              refine cT_go b_M_sign_153 ?_
              have t_349 : (nI 1).toInt = 1 := nI_toInt (by decide)
              refine cT_call (b_M_sign_154 s0) (c_M_goes hI s0) hF (fun o ho => by omega) (fun v_350 f_351 hI_352 hG_353 hF_354 hQ_355 => ?_)
              obtain ⟨y_356, rfl, hb_357, hQ_355⟩ := hQ_355
              have hb_357r := t_b01 hb_357
              have t_358 : 3 ≤ (f a0 1).toInt ∧ (f a0 1).toInt ≤ 30 := (cI_at hI 1 s0).2.1 rfl
              have t_359 : 0 ≤ (f a0 3).toInt ∧ (f a0 3).toInt ≤ 32 := (cI_at hI 3 s0).2.2.2.1 rfl
              have t_360 : 0 ≤ (f a0 5).toInt ∧ (f a0 5).toInt ≤ 6 := (cI_at hI 5 s0).2.2.2.2.1 rfl
              have t_361 : 0 ≤ (f a0 8).toInt ∧ (f a0 8).toInt ≤ 8 := (cI_at hI 8 s0).2.2.2.2.2.1 rfl
              have t_362 : 0 ≤ (f a0 14).toInt ∧ (f a0 14).toInt ≤ 26 := (cI_at hI 14 s0).2.2.2.2.2.2.1 rfl
              have g_363 : (f_351 a0 1).toInt = (f a0 1).toInt := congrArg Int32.toInt (hQ_355.2.2.2.2 1 (by decide))
              have g_364 : (f_351 a0 3).toInt = (f a0 3).toInt := congrArg Int32.toInt (hQ_355.2.2.2.2 3 (by decide))
              have g_365 : (f_351 a0 5).toInt = (f a0 5).toInt := congrArg Int32.toInt (hQ_355.2.2.2.2 5 (by decide))
              have g_366 : (f_351 a0 8).toInt = (f a0 8).toInt := congrArg Int32.toInt (hQ_355.2.2.2.2 8 (by decide))
              have g_367 : (f_351 a0 14).toInt = (f a0 14).toInt := congrArg Int32.toInt (hQ_355.2.2.2.2 14 (by decide))
              have g_368 : (f_351 a0 23).toInt = (f a0 23).toInt := congrArg Int32.toInt (hQ_355.2.2.2.2 23 (by decide))
              have hk : ∀ k, k ≠ 2 → f_351 a0 k = f a0 k := hQ_355.2.2.2.2
              have r20 : f_351 (a0 + 20) = f (a0 + 20) := hG_353 (a0 + 20) (by omega)
              show cT 121 157 [.ref a0, .int x1, .int x2, .int x3, .int x4, .int x5, .int x6, .int (nI 0), u8] [.int y_356] _ _ _ _ _ _
              refine cT_if b_M_sign_157 (fun c_369 => ?_) (fun c_369 => ?_)
              · rw [t_eq] at c_369; try rw [t_0] at c_369
                exact cT_ret b_M_sign_160 hI_352 hF_354 ⟨_, rfl, fun k h => by rw [← ie]; exact hk k h⟩
              · rw [t_eq] at c_369; try rw [t_0] at c_369
                refine cT_if b_M_sign_162 (fun c_370 => ?_) (fun c_370 => ?_)
                · rw [t_eq] at c_370; try rw [t_0] at c_370
                  refine cT_go b_M_sign_176 ?_
                  refine cT_if b_M_sign_177 (fun c_371 => ?_) (fun c_371 => ?_)
                  · rw [t_eq] at c_371; try rw [t_0] at c_371
                    refine cT_if b_M_sign_195 (fun c_372 => ?_) (fun c_372 => ?_)
                    · rw [t_eq] at c_372; try rw [t_0] at c_372
                      have t_375 : (nI 112).toInt = 112 := nI_toInt (by decide)
                      first | have t_374 : (((nI 112)) * x5).toInt = 112 * (x5).toInt := t_mulc (by decide) (by omega) | (obtain ⟨kt_374, t_374⟩ := t_mul ((nI 112)) x5; rw [nI_toInt (show 112 < 2 ^ 31 by decide)] at t_374)
                      first | have t_373 : ((((nI 112) * x5)) + x2).toInt = ((((nI 112) * x5))).toInt + (x2).toInt := t_addn (by omega) | obtain ⟨kt_373, t_373⟩ := t_add (((nI 112) * x5)) x2
                      refine cT_go (b_M_sign_200 s0 (by rw [t_in]; omega)) ?_
                      have t_376 := t_rng (f_351 (a0 + 21) (((nI 112) * x5) + x2).toNatClampNeg)
                      exact cT_ret b_M_sign_231 hI_352 hF_354 ⟨_, rfl, fun k h => by rw [← ie]; exact hk k h⟩
                    · rw [t_eq] at c_372; try rw [t_0] at c_372
                      have j1 := jl (((nI 112) * x5) + x2).toNatClampNeg
                      have j2 : (f_351 (a0 + 20) (((nI 112) * x5) + x2).toNatClampNeg).toInt = (f (a0 + 20) (((nI 112) * x5) + x2).toNatClampNeg).toInt := by rw [r20]
                      have t_379 : (nI 112).toInt = 112 := nI_toInt (by decide)
                      first | have t_378 : (((nI 112)) * x5).toInt = 112 * (x5).toInt := t_mulc (by decide) (by omega) | (obtain ⟨kt_378, t_378⟩ := t_mul ((nI 112)) x5; rw [nI_toInt (show 112 < 2 ^ 31 by decide)] at t_378)
                      first | have t_377 : ((((nI 112) * x5)) + x2).toInt = ((((nI 112) * x5))).toInt + (x2).toInt := t_addn (by omega) | obtain ⟨kt_377, t_377⟩ := t_add (((nI 112) * x5)) x2
                      have t_383 : (nI 240).toInt = 240 := nI_toInt (by decide)
                      first | have t_382 : (((nI 240)) * x5).toInt = 240 * (x5).toInt := t_mulc (by decide) (by omega) | (obtain ⟨kt_382, t_382⟩ := t_mul ((nI 240)) x5; rw [nI_toInt (show 240 < 2 ^ 31 by decide)] at t_382)
                      have t_384 := t_rng (f_351 (a0 + 20) (((nI 112) * x5) + x2).toNatClampNeg)
                      first | have t_381 : ((((nI 240) * x5)) + ((f_351 (a0 + 20) (((nI 112) * x5) + x2).toNatClampNeg))).toInt = ((((nI 240) * x5))).toInt + (((f_351 (a0 + 20) (((nI 112) * x5) + x2).toNatClampNeg))).toInt := t_addn (by omega) | obtain ⟨kt_381, t_381⟩ := t_add (((nI 240) * x5)) ((f_351 (a0 + 20) (((nI 112) * x5) + x2).toNatClampNeg))
                      first | have t_380 : (((((nI 240) * x5) + (f_351 (a0 + 20) (((nI 112) * x5) + x2).toNatClampNeg))) + x3).toInt = (((((nI 240) * x5) + (f_351 (a0 + 20) (((nI 112) * x5) + x2).toNatClampNeg)))).toInt + (x3).toInt := t_addn (by omega) | obtain ⟨kt_380, t_380⟩ := t_add ((((nI 240) * x5) + (f_351 (a0 + 20) (((nI 112) * x5) + x2).toNatClampNeg))) x3
                      refine cT_go (b_M_sign_210 s0 (by rw [t_in]; omega) (by rw [t_in]; omega)) ?_
                      have t_385 := t_rng (f_351 (a0 + 22) ((((nI 240) * x5) + (f_351 (a0 + 20) (((nI 112) * x5) + x2).toNatClampNeg)) + x3).toNatClampNeg)
                      exact cT_ret b_M_sign_231 hI_352 hF_354 ⟨_, rfl, fun k h => by rw [← ie]; exact hk k h⟩
                  · rw [t_eq] at c_371; try rw [t_0] at c_371
                    refine cT_go (b_M_sign_185 s0 (by rw [t_in]; omega)) ?_
                    have t_386 : 0 ≤ (f_351 (a0 + 19) x5.toNatClampNeg).toInt ∧ (f_351 (a0 + 19) x5.toNatClampNeg).toInt ≤ 112 := (cI_at hI_352 x5.toNatClampNeg (sc_7_28 s0)).2.2.2.2.2.1 (by omega)
                    exact cT_ret b_M_sign_231 hI_352 hF_354 ⟨_, rfl, fun k h => by rw [← ie]; exact hk k h⟩
                · rw [t_eq] at c_370; try rw [t_0] at c_370
                  refine cT_go b_M_sign_172 ?_
                  refine cT_if b_M_sign_177 (fun c_387 => ?_) (fun c_387 => ?_)
                  · rw [t_eq] at c_387; try rw [t_0] at c_387
                    refine cT_if b_M_sign_195 (fun c_388 => ?_) (fun c_388 => ?_)
                    · rw [t_eq] at c_388; try rw [t_0] at c_388
                      have t_391 : (nI 112).toInt = 112 := nI_toInt (by decide)
                      first | have t_390 : (((nI 112)) * x5).toInt = 112 * (x5).toInt := t_mulc (by decide) (by omega) | (obtain ⟨kt_390, t_390⟩ := t_mul ((nI 112)) x5; rw [nI_toInt (show 112 < 2 ^ 31 by decide)] at t_390)
                      first | have t_389 : ((((nI 112) * x5)) + ((nI 0))).toInt = ((((nI 112) * x5))).toInt + (((nI 0))).toInt := t_addn (by omega) | obtain ⟨kt_389, t_389⟩ := t_add (((nI 112) * x5)) ((nI 0))
                      refine cT_go (b_M_sign_200 s0 (by rw [t_in]; omega)) ?_
                      have t_392 := t_rng (f_351 (a0 + 21) (((nI 112) * x5) + (nI 0)).toNatClampNeg)
                      exact cT_ret b_M_sign_231 hI_352 hF_354 ⟨_, rfl, fun k h => by rw [← ie]; exact hk k h⟩
                    · rw [t_eq] at c_388; try rw [t_0] at c_388
                      have j1 := jl (((nI 112) * x5) + (nI 0)).toNatClampNeg
                      have j2 : (f_351 (a0 + 20) (((nI 112) * x5) + (nI 0)).toNatClampNeg).toInt = (f (a0 + 20) (((nI 112) * x5) + (nI 0)).toNatClampNeg).toInt := by rw [r20]
                      have t_395 : (nI 112).toInt = 112 := nI_toInt (by decide)
                      first | have t_394 : (((nI 112)) * x5).toInt = 112 * (x5).toInt := t_mulc (by decide) (by omega) | (obtain ⟨kt_394, t_394⟩ := t_mul ((nI 112)) x5; rw [nI_toInt (show 112 < 2 ^ 31 by decide)] at t_394)
                      first | have t_393 : ((((nI 112) * x5)) + ((nI 0))).toInt = ((((nI 112) * x5))).toInt + (((nI 0))).toInt := t_addn (by omega) | obtain ⟨kt_393, t_393⟩ := t_add (((nI 112) * x5)) ((nI 0))
                      have t_399 : (nI 240).toInt = 240 := nI_toInt (by decide)
                      first | have t_398 : (((nI 240)) * x5).toInt = 240 * (x5).toInt := t_mulc (by decide) (by omega) | (obtain ⟨kt_398, t_398⟩ := t_mul ((nI 240)) x5; rw [nI_toInt (show 240 < 2 ^ 31 by decide)] at t_398)
                      have t_400 := t_rng (f_351 (a0 + 20) (((nI 112) * x5) + (nI 0)).toNatClampNeg)
                      first | have t_397 : ((((nI 240) * x5)) + ((f_351 (a0 + 20) (((nI 112) * x5) + (nI 0)).toNatClampNeg))).toInt = ((((nI 240) * x5))).toInt + (((f_351 (a0 + 20) (((nI 112) * x5) + (nI 0)).toNatClampNeg))).toInt := t_addn (by omega) | obtain ⟨kt_397, t_397⟩ := t_add (((nI 240) * x5)) ((f_351 (a0 + 20) (((nI 112) * x5) + (nI 0)).toNatClampNeg))
                      first | have t_396 : (((((nI 240) * x5) + (f_351 (a0 + 20) (((nI 112) * x5) + (nI 0)).toNatClampNeg))) + x3).toInt = (((((nI 240) * x5) + (f_351 (a0 + 20) (((nI 112) * x5) + (nI 0)).toNatClampNeg)))).toInt + (x3).toInt := t_addn (by omega) | obtain ⟨kt_396, t_396⟩ := t_add ((((nI 240) * x5) + (f_351 (a0 + 20) (((nI 112) * x5) + (nI 0)).toNatClampNeg))) x3
                      refine cT_go (b_M_sign_210 s0 (by rw [t_in]; omega) (by rw [t_in]; omega)) ?_
                      have t_401 := t_rng (f_351 (a0 + 22) ((((nI 240) * x5) + (f_351 (a0 + 20) (((nI 112) * x5) + (nI 0)).toNatClampNeg)) + x3).toNatClampNeg)
                      exact cT_ret b_M_sign_231 hI_352 hF_354 ⟨_, rfl, fun k h => by rw [← ie]; exact hk k h⟩
                  · rw [t_eq] at c_387; try rw [t_0] at c_387
                    refine cT_go (b_M_sign_185 s0 (by rw [t_in]; omega)) ?_
                    have t_402 : 0 ≤ (f_351 (a0 + 19) x5.toNatClampNeg).toInt ∧ (f_351 (a0 + 19) x5.toNatClampNeg).toInt ≤ 112 := (cI_at hI_352 x5.toNatClampNeg (sc_7_28 s0)).2.2.2.2.2.1 (by omega)
                    exact cT_ret b_M_sign_231 hI_352 hF_354 ⟨_, rfl, fun k h => by rw [← ie]; exact hk k h⟩
            · rw [t_eq] at c_348; try rw [t_0] at c_348
              refine cT_go b_M_sign_149 ?_
              have t_403 : (nI 1).toInt = 1 := nI_toInt (by decide)
              refine cT_call (b_M_sign_154 s0) (c_M_goes hI s0) hF (fun o ho => by omega) (fun v_404 f_405 hI_406 hG_407 hF_408 hQ_409 => ?_)
              obtain ⟨y_410, rfl, hb_411, hQ_409⟩ := hQ_409
              have hb_411r := t_b01 hb_411
              have t_412 : 3 ≤ (f a0 1).toInt ∧ (f a0 1).toInt ≤ 30 := (cI_at hI 1 s0).2.1 rfl
              have t_413 : 0 ≤ (f a0 3).toInt ∧ (f a0 3).toInt ≤ 32 := (cI_at hI 3 s0).2.2.2.1 rfl
              have t_414 : 0 ≤ (f a0 5).toInt ∧ (f a0 5).toInt ≤ 6 := (cI_at hI 5 s0).2.2.2.2.1 rfl
              have t_415 : 0 ≤ (f a0 8).toInt ∧ (f a0 8).toInt ≤ 8 := (cI_at hI 8 s0).2.2.2.2.2.1 rfl
              have t_416 : 0 ≤ (f a0 14).toInt ∧ (f a0 14).toInt ≤ 26 := (cI_at hI 14 s0).2.2.2.2.2.2.1 rfl
              have g_417 : (f_405 a0 1).toInt = (f a0 1).toInt := congrArg Int32.toInt (hQ_409.2.2.2.2 1 (by decide))
              have g_418 : (f_405 a0 3).toInt = (f a0 3).toInt := congrArg Int32.toInt (hQ_409.2.2.2.2 3 (by decide))
              have g_419 : (f_405 a0 5).toInt = (f a0 5).toInt := congrArg Int32.toInt (hQ_409.2.2.2.2 5 (by decide))
              have g_420 : (f_405 a0 8).toInt = (f a0 8).toInt := congrArg Int32.toInt (hQ_409.2.2.2.2 8 (by decide))
              have g_421 : (f_405 a0 14).toInt = (f a0 14).toInt := congrArg Int32.toInt (hQ_409.2.2.2.2 14 (by decide))
              have g_422 : (f_405 a0 23).toInt = (f a0 23).toInt := congrArg Int32.toInt (hQ_409.2.2.2.2 23 (by decide))
              have hk : ∀ k, k ≠ 2 → f_405 a0 k = f a0 k := hQ_409.2.2.2.2
              have r20 : f_405 (a0 + 20) = f (a0 + 20) := hG_407 (a0 + 20) (by omega)
              show cT 121 157 [.ref a0, .int x1, .int x2, .int x3, .int x4, .int x5, .int x6, .int (nI 0), u8] [.int y_410] _ _ _ _ _ _
              refine cT_if b_M_sign_157 (fun c_423 => ?_) (fun c_423 => ?_)
              · rw [t_eq] at c_423; try rw [t_0] at c_423
                exact cT_ret b_M_sign_160 hI_406 hF_408 ⟨_, rfl, fun k h => by rw [← ie]; exact hk k h⟩
              · rw [t_eq] at c_423; try rw [t_0] at c_423
                refine cT_if b_M_sign_162 (fun c_424 => ?_) (fun c_424 => ?_)
                · rw [t_eq] at c_424; try rw [t_0] at c_424
                  refine cT_go b_M_sign_176 ?_
                  refine cT_if b_M_sign_177 (fun c_425 => ?_) (fun c_425 => ?_)
                  · rw [t_eq] at c_425; try rw [t_0] at c_425
                    refine cT_if b_M_sign_195 (fun c_426 => ?_) (fun c_426 => ?_)
                    · rw [t_eq] at c_426; try rw [t_0] at c_426
                      have t_429 : (nI 112).toInt = 112 := nI_toInt (by decide)
                      first | have t_428 : (((nI 112)) * x5).toInt = 112 * (x5).toInt := t_mulc (by decide) (by omega) | (obtain ⟨kt_428, t_428⟩ := t_mul ((nI 112)) x5; rw [nI_toInt (show 112 < 2 ^ 31 by decide)] at t_428)
                      first | have t_427 : ((((nI 112) * x5)) + x2).toInt = ((((nI 112) * x5))).toInt + (x2).toInt := t_addn (by omega) | obtain ⟨kt_427, t_427⟩ := t_add (((nI 112) * x5)) x2
                      refine cT_go (b_M_sign_200 s0 (by rw [t_in]; omega)) ?_
                      have t_430 := t_rng (f_405 (a0 + 21) (((nI 112) * x5) + x2).toNatClampNeg)
                      exact cT_ret b_M_sign_231 hI_406 hF_408 ⟨_, rfl, fun k h => by rw [← ie]; exact hk k h⟩
                    · rw [t_eq] at c_426; try rw [t_0] at c_426
                      have j1 := jl (((nI 112) * x5) + x2).toNatClampNeg
                      have j2 : (f_405 (a0 + 20) (((nI 112) * x5) + x2).toNatClampNeg).toInt = (f (a0 + 20) (((nI 112) * x5) + x2).toNatClampNeg).toInt := by rw [r20]
                      have t_433 : (nI 112).toInt = 112 := nI_toInt (by decide)
                      first | have t_432 : (((nI 112)) * x5).toInt = 112 * (x5).toInt := t_mulc (by decide) (by omega) | (obtain ⟨kt_432, t_432⟩ := t_mul ((nI 112)) x5; rw [nI_toInt (show 112 < 2 ^ 31 by decide)] at t_432)
                      first | have t_431 : ((((nI 112) * x5)) + x2).toInt = ((((nI 112) * x5))).toInt + (x2).toInt := t_addn (by omega) | obtain ⟨kt_431, t_431⟩ := t_add (((nI 112) * x5)) x2
                      have t_437 : (nI 240).toInt = 240 := nI_toInt (by decide)
                      first | have t_436 : (((nI 240)) * x5).toInt = 240 * (x5).toInt := t_mulc (by decide) (by omega) | (obtain ⟨kt_436, t_436⟩ := t_mul ((nI 240)) x5; rw [nI_toInt (show 240 < 2 ^ 31 by decide)] at t_436)
                      have t_438 := t_rng (f_405 (a0 + 20) (((nI 112) * x5) + x2).toNatClampNeg)
                      first | have t_435 : ((((nI 240) * x5)) + ((f_405 (a0 + 20) (((nI 112) * x5) + x2).toNatClampNeg))).toInt = ((((nI 240) * x5))).toInt + (((f_405 (a0 + 20) (((nI 112) * x5) + x2).toNatClampNeg))).toInt := t_addn (by omega) | obtain ⟨kt_435, t_435⟩ := t_add (((nI 240) * x5)) ((f_405 (a0 + 20) (((nI 112) * x5) + x2).toNatClampNeg))
                      first | have t_434 : (((((nI 240) * x5) + (f_405 (a0 + 20) (((nI 112) * x5) + x2).toNatClampNeg))) + x3).toInt = (((((nI 240) * x5) + (f_405 (a0 + 20) (((nI 112) * x5) + x2).toNatClampNeg)))).toInt + (x3).toInt := t_addn (by omega) | obtain ⟨kt_434, t_434⟩ := t_add ((((nI 240) * x5) + (f_405 (a0 + 20) (((nI 112) * x5) + x2).toNatClampNeg))) x3
                      refine cT_go (b_M_sign_210 s0 (by rw [t_in]; omega) (by rw [t_in]; omega)) ?_
                      have t_439 := t_rng (f_405 (a0 + 22) ((((nI 240) * x5) + (f_405 (a0 + 20) (((nI 112) * x5) + x2).toNatClampNeg)) + x3).toNatClampNeg)
                      exact cT_ret b_M_sign_231 hI_406 hF_408 ⟨_, rfl, fun k h => by rw [← ie]; exact hk k h⟩
                  · rw [t_eq] at c_425; try rw [t_0] at c_425
                    refine cT_go (b_M_sign_185 s0 (by rw [t_in]; omega)) ?_
                    have t_440 : 0 ≤ (f_405 (a0 + 19) x5.toNatClampNeg).toInt ∧ (f_405 (a0 + 19) x5.toNatClampNeg).toInt ≤ 112 := (cI_at hI_406 x5.toNatClampNeg (sc_7_28 s0)).2.2.2.2.2.1 (by omega)
                    exact cT_ret b_M_sign_231 hI_406 hF_408 ⟨_, rfl, fun k h => by rw [← ie]; exact hk k h⟩
                · rw [t_eq] at c_424; try rw [t_0] at c_424
                  refine cT_go b_M_sign_172 ?_
                  refine cT_if b_M_sign_177 (fun c_441 => ?_) (fun c_441 => ?_)
                  · rw [t_eq] at c_441; try rw [t_0] at c_441
                    refine cT_if b_M_sign_195 (fun c_442 => ?_) (fun c_442 => ?_)
                    · rw [t_eq] at c_442; try rw [t_0] at c_442
                      have t_445 : (nI 112).toInt = 112 := nI_toInt (by decide)
                      first | have t_444 : (((nI 112)) * x5).toInt = 112 * (x5).toInt := t_mulc (by decide) (by omega) | (obtain ⟨kt_444, t_444⟩ := t_mul ((nI 112)) x5; rw [nI_toInt (show 112 < 2 ^ 31 by decide)] at t_444)
                      first | have t_443 : ((((nI 112) * x5)) + ((nI 0))).toInt = ((((nI 112) * x5))).toInt + (((nI 0))).toInt := t_addn (by omega) | obtain ⟨kt_443, t_443⟩ := t_add (((nI 112) * x5)) ((nI 0))
                      refine cT_go (b_M_sign_200 s0 (by rw [t_in]; omega)) ?_
                      have t_446 := t_rng (f_405 (a0 + 21) (((nI 112) * x5) + (nI 0)).toNatClampNeg)
                      exact cT_ret b_M_sign_231 hI_406 hF_408 ⟨_, rfl, fun k h => by rw [← ie]; exact hk k h⟩
                    · rw [t_eq] at c_442; try rw [t_0] at c_442
                      have j1 := jl (((nI 112) * x5) + (nI 0)).toNatClampNeg
                      have j2 : (f_405 (a0 + 20) (((nI 112) * x5) + (nI 0)).toNatClampNeg).toInt = (f (a0 + 20) (((nI 112) * x5) + (nI 0)).toNatClampNeg).toInt := by rw [r20]
                      have t_449 : (nI 112).toInt = 112 := nI_toInt (by decide)
                      first | have t_448 : (((nI 112)) * x5).toInt = 112 * (x5).toInt := t_mulc (by decide) (by omega) | (obtain ⟨kt_448, t_448⟩ := t_mul ((nI 112)) x5; rw [nI_toInt (show 112 < 2 ^ 31 by decide)] at t_448)
                      first | have t_447 : ((((nI 112) * x5)) + ((nI 0))).toInt = ((((nI 112) * x5))).toInt + (((nI 0))).toInt := t_addn (by omega) | obtain ⟨kt_447, t_447⟩ := t_add (((nI 112) * x5)) ((nI 0))
                      have t_453 : (nI 240).toInt = 240 := nI_toInt (by decide)
                      first | have t_452 : (((nI 240)) * x5).toInt = 240 * (x5).toInt := t_mulc (by decide) (by omega) | (obtain ⟨kt_452, t_452⟩ := t_mul ((nI 240)) x5; rw [nI_toInt (show 240 < 2 ^ 31 by decide)] at t_452)
                      have t_454 := t_rng (f_405 (a0 + 20) (((nI 112) * x5) + (nI 0)).toNatClampNeg)
                      first | have t_451 : ((((nI 240) * x5)) + ((f_405 (a0 + 20) (((nI 112) * x5) + (nI 0)).toNatClampNeg))).toInt = ((((nI 240) * x5))).toInt + (((f_405 (a0 + 20) (((nI 112) * x5) + (nI 0)).toNatClampNeg))).toInt := t_addn (by omega) | obtain ⟨kt_451, t_451⟩ := t_add (((nI 240) * x5)) ((f_405 (a0 + 20) (((nI 112) * x5) + (nI 0)).toNatClampNeg))
                      first | have t_450 : (((((nI 240) * x5) + (f_405 (a0 + 20) (((nI 112) * x5) + (nI 0)).toNatClampNeg))) + x3).toInt = (((((nI 240) * x5) + (f_405 (a0 + 20) (((nI 112) * x5) + (nI 0)).toNatClampNeg)))).toInt + (x3).toInt := t_addn (by omega) | obtain ⟨kt_450, t_450⟩ := t_add ((((nI 240) * x5) + (f_405 (a0 + 20) (((nI 112) * x5) + (nI 0)).toNatClampNeg))) x3
                      refine cT_go (b_M_sign_210 s0 (by rw [t_in]; omega) (by rw [t_in]; omega)) ?_
                      have t_455 := t_rng (f_405 (a0 + 22) ((((nI 240) * x5) + (f_405 (a0 + 20) (((nI 112) * x5) + (nI 0)).toNatClampNeg)) + x3).toNatClampNeg)
                      exact cT_ret b_M_sign_231 hI_406 hF_408 ⟨_, rfl, fun k h => by rw [← ie]; exact hk k h⟩
                  · rw [t_eq] at c_441; try rw [t_0] at c_441
                    refine cT_go (b_M_sign_185 s0 (by rw [t_in]; omega)) ?_
                    have t_456 : 0 ≤ (f_405 (a0 + 19) x5.toNatClampNeg).toInt ∧ (f_405 (a0 + 19) x5.toNatClampNeg).toInt ≤ 112 := (cI_at hI_406 x5.toNatClampNeg (sc_7_28 s0)).2.2.2.2.2.1 (by omega)
                    exact cT_ret b_M_sign_231 hI_406 hF_408 ⟨_, rfl, fun k h => by rw [← ie]; exact hk k h⟩
        · rw [t_eq] at c_237; try rw [t_0] at c_237
          refine cT_go b_M_sign_136 ?_
          refine cT_if (b_M_sign_141 s0) (fun c_457 => ?_) (fun c_457 => ?_)
          · rw [t_eq] at c_457; try rw [t_0] at c_457
            refine cT_go b_M_sign_153 ?_
            have t_458 : (nI 1).toInt = 1 := nI_toInt (by decide)
            have t_459 : (nI 0).toInt = 0 := nI_toInt (by decide)
            refine cT_call (b_M_sign_154 s0) (c_M_goes hI s0) hF (fun o ho => by omega) (fun v_460 f_461 hI_462 hG_463 hF_464 hQ_465 => ?_)
            obtain ⟨y_466, rfl, hb_467, hQ_465⟩ := hQ_465
            have hb_467r := t_b01 hb_467
            have t_468 : 3 ≤ (f a0 1).toInt ∧ (f a0 1).toInt ≤ 30 := (cI_at hI 1 s0).2.1 rfl
            have t_469 : 0 ≤ (f a0 3).toInt ∧ (f a0 3).toInt ≤ 32 := (cI_at hI 3 s0).2.2.2.1 rfl
            have t_470 : 0 ≤ (f a0 5).toInt ∧ (f a0 5).toInt ≤ 6 := (cI_at hI 5 s0).2.2.2.2.1 rfl
            have t_471 : 0 ≤ (f a0 8).toInt ∧ (f a0 8).toInt ≤ 8 := (cI_at hI 8 s0).2.2.2.2.2.1 rfl
            have t_472 : 0 ≤ (f a0 14).toInt ∧ (f a0 14).toInt ≤ 26 := (cI_at hI 14 s0).2.2.2.2.2.2.1 rfl
            have g_473 : (f_461 a0 1).toInt = (f a0 1).toInt := congrArg Int32.toInt (hQ_465.2.2.2.2 1 (by decide))
            have g_474 : (f_461 a0 3).toInt = (f a0 3).toInt := congrArg Int32.toInt (hQ_465.2.2.2.2 3 (by decide))
            have g_475 : (f_461 a0 5).toInt = (f a0 5).toInt := congrArg Int32.toInt (hQ_465.2.2.2.2 5 (by decide))
            have g_476 : (f_461 a0 8).toInt = (f a0 8).toInt := congrArg Int32.toInt (hQ_465.2.2.2.2 8 (by decide))
            have g_477 : (f_461 a0 14).toInt = (f a0 14).toInt := congrArg Int32.toInt (hQ_465.2.2.2.2 14 (by decide))
            have g_478 : (f_461 a0 23).toInt = (f a0 23).toInt := congrArg Int32.toInt (hQ_465.2.2.2.2 23 (by decide))
            have hk : ∀ k, k ≠ 2 → f_461 a0 k = f a0 k := hQ_465.2.2.2.2
            have r20 : f_461 (a0 + 20) = f (a0 + 20) := hG_463 (a0 + 20) (by omega)
            show cT 121 157 [.ref a0, .int x1, .int x2, .int x3, .int x4, .int x5, .int x6, .int (nI 0), u8] [.int y_466] _ _ _ _ _ _
            refine cT_if b_M_sign_157 (fun c_479 => ?_) (fun c_479 => ?_)
            · rw [t_eq] at c_479; try rw [t_0] at c_479
              exact cT_ret b_M_sign_160 hI_462 hF_464 ⟨_, rfl, fun k h => by rw [← ie]; exact hk k h⟩
            · rw [t_eq] at c_479; try rw [t_0] at c_479
              refine cT_if b_M_sign_162 (fun c_480 => ?_) (fun c_480 => ?_)
              · rw [t_eq] at c_480; try rw [t_0] at c_480
                refine cT_go b_M_sign_176 ?_
                refine cT_if b_M_sign_177 (fun c_481 => ?_) (fun c_481 => ?_)
                · rw [t_eq] at c_481; try rw [t_0] at c_481
                  refine cT_if b_M_sign_195 (fun c_482 => ?_) (fun c_482 => ?_)
                  · rw [t_eq] at c_482; try rw [t_0] at c_482
                    have t_485 : (nI 112).toInt = 112 := nI_toInt (by decide)
                    first | have t_484 : (((nI 112)) * x5).toInt = 112 * (x5).toInt := t_mulc (by decide) (by omega) | (obtain ⟨kt_484, t_484⟩ := t_mul ((nI 112)) x5; rw [nI_toInt (show 112 < 2 ^ 31 by decide)] at t_484)
                    first | have t_483 : ((((nI 112) * x5)) + x2).toInt = ((((nI 112) * x5))).toInt + (x2).toInt := t_addn (by omega) | obtain ⟨kt_483, t_483⟩ := t_add (((nI 112) * x5)) x2
                    refine cT_go (b_M_sign_200 s0 (by rw [t_in]; omega)) ?_
                    have t_486 := t_rng (f_461 (a0 + 21) (((nI 112) * x5) + x2).toNatClampNeg)
                    exact cT_ret b_M_sign_231 hI_462 hF_464 ⟨_, rfl, fun k h => by rw [← ie]; exact hk k h⟩
                  · rw [t_eq] at c_482; try rw [t_0] at c_482
                    have j1 := jl (((nI 112) * x5) + x2).toNatClampNeg
                    have j2 : (f_461 (a0 + 20) (((nI 112) * x5) + x2).toNatClampNeg).toInt = (f (a0 + 20) (((nI 112) * x5) + x2).toNatClampNeg).toInt := by rw [r20]
                    have t_489 : (nI 112).toInt = 112 := nI_toInt (by decide)
                    first | have t_488 : (((nI 112)) * x5).toInt = 112 * (x5).toInt := t_mulc (by decide) (by omega) | (obtain ⟨kt_488, t_488⟩ := t_mul ((nI 112)) x5; rw [nI_toInt (show 112 < 2 ^ 31 by decide)] at t_488)
                    first | have t_487 : ((((nI 112) * x5)) + x2).toInt = ((((nI 112) * x5))).toInt + (x2).toInt := t_addn (by omega) | obtain ⟨kt_487, t_487⟩ := t_add (((nI 112) * x5)) x2
                    have t_493 : (nI 240).toInt = 240 := nI_toInt (by decide)
                    first | have t_492 : (((nI 240)) * x5).toInt = 240 * (x5).toInt := t_mulc (by decide) (by omega) | (obtain ⟨kt_492, t_492⟩ := t_mul ((nI 240)) x5; rw [nI_toInt (show 240 < 2 ^ 31 by decide)] at t_492)
                    have t_494 := t_rng (f_461 (a0 + 20) (((nI 112) * x5) + x2).toNatClampNeg)
                    first | have t_491 : ((((nI 240) * x5)) + ((f_461 (a0 + 20) (((nI 112) * x5) + x2).toNatClampNeg))).toInt = ((((nI 240) * x5))).toInt + (((f_461 (a0 + 20) (((nI 112) * x5) + x2).toNatClampNeg))).toInt := t_addn (by omega) | obtain ⟨kt_491, t_491⟩ := t_add (((nI 240) * x5)) ((f_461 (a0 + 20) (((nI 112) * x5) + x2).toNatClampNeg))
                    first | have t_490 : (((((nI 240) * x5) + (f_461 (a0 + 20) (((nI 112) * x5) + x2).toNatClampNeg))) + x3).toInt = (((((nI 240) * x5) + (f_461 (a0 + 20) (((nI 112) * x5) + x2).toNatClampNeg)))).toInt + (x3).toInt := t_addn (by omega) | obtain ⟨kt_490, t_490⟩ := t_add ((((nI 240) * x5) + (f_461 (a0 + 20) (((nI 112) * x5) + x2).toNatClampNeg))) x3
                    refine cT_go (b_M_sign_210 s0 (by rw [t_in]; omega) (by rw [t_in]; omega)) ?_
                    have t_495 := t_rng (f_461 (a0 + 22) ((((nI 240) * x5) + (f_461 (a0 + 20) (((nI 112) * x5) + x2).toNatClampNeg)) + x3).toNatClampNeg)
                    exact cT_ret b_M_sign_231 hI_462 hF_464 ⟨_, rfl, fun k h => by rw [← ie]; exact hk k h⟩
                · rw [t_eq] at c_481; try rw [t_0] at c_481
                  refine cT_go (b_M_sign_185 s0 (by rw [t_in]; omega)) ?_
                  have t_496 : 0 ≤ (f_461 (a0 + 19) x5.toNatClampNeg).toInt ∧ (f_461 (a0 + 19) x5.toNatClampNeg).toInt ≤ 112 := (cI_at hI_462 x5.toNatClampNeg (sc_7_28 s0)).2.2.2.2.2.1 (by omega)
                  exact cT_ret b_M_sign_231 hI_462 hF_464 ⟨_, rfl, fun k h => by rw [← ie]; exact hk k h⟩
              · rw [t_eq] at c_480; try rw [t_0] at c_480
                refine cT_go b_M_sign_172 ?_
                refine cT_if b_M_sign_177 (fun c_497 => ?_) (fun c_497 => ?_)
                · rw [t_eq] at c_497; try rw [t_0] at c_497
                  refine cT_if b_M_sign_195 (fun c_498 => ?_) (fun c_498 => ?_)
                  · rw [t_eq] at c_498; try rw [t_0] at c_498
                    have t_501 : (nI 112).toInt = 112 := nI_toInt (by decide)
                    first | have t_500 : (((nI 112)) * x5).toInt = 112 * (x5).toInt := t_mulc (by decide) (by omega) | (obtain ⟨kt_500, t_500⟩ := t_mul ((nI 112)) x5; rw [nI_toInt (show 112 < 2 ^ 31 by decide)] at t_500)
                    first | have t_499 : ((((nI 112) * x5)) + ((nI 0))).toInt = ((((nI 112) * x5))).toInt + (((nI 0))).toInt := t_addn (by omega) | obtain ⟨kt_499, t_499⟩ := t_add (((nI 112) * x5)) ((nI 0))
                    refine cT_go (b_M_sign_200 s0 (by rw [t_in]; omega)) ?_
                    have t_502 := t_rng (f_461 (a0 + 21) (((nI 112) * x5) + (nI 0)).toNatClampNeg)
                    exact cT_ret b_M_sign_231 hI_462 hF_464 ⟨_, rfl, fun k h => by rw [← ie]; exact hk k h⟩
                  · rw [t_eq] at c_498; try rw [t_0] at c_498
                    have j1 := jl (((nI 112) * x5) + (nI 0)).toNatClampNeg
                    have j2 : (f_461 (a0 + 20) (((nI 112) * x5) + (nI 0)).toNatClampNeg).toInt = (f (a0 + 20) (((nI 112) * x5) + (nI 0)).toNatClampNeg).toInt := by rw [r20]
                    have t_505 : (nI 112).toInt = 112 := nI_toInt (by decide)
                    first | have t_504 : (((nI 112)) * x5).toInt = 112 * (x5).toInt := t_mulc (by decide) (by omega) | (obtain ⟨kt_504, t_504⟩ := t_mul ((nI 112)) x5; rw [nI_toInt (show 112 < 2 ^ 31 by decide)] at t_504)
                    first | have t_503 : ((((nI 112) * x5)) + ((nI 0))).toInt = ((((nI 112) * x5))).toInt + (((nI 0))).toInt := t_addn (by omega) | obtain ⟨kt_503, t_503⟩ := t_add (((nI 112) * x5)) ((nI 0))
                    have t_509 : (nI 240).toInt = 240 := nI_toInt (by decide)
                    first | have t_508 : (((nI 240)) * x5).toInt = 240 * (x5).toInt := t_mulc (by decide) (by omega) | (obtain ⟨kt_508, t_508⟩ := t_mul ((nI 240)) x5; rw [nI_toInt (show 240 < 2 ^ 31 by decide)] at t_508)
                    have t_510 := t_rng (f_461 (a0 + 20) (((nI 112) * x5) + (nI 0)).toNatClampNeg)
                    first | have t_507 : ((((nI 240) * x5)) + ((f_461 (a0 + 20) (((nI 112) * x5) + (nI 0)).toNatClampNeg))).toInt = ((((nI 240) * x5))).toInt + (((f_461 (a0 + 20) (((nI 112) * x5) + (nI 0)).toNatClampNeg))).toInt := t_addn (by omega) | obtain ⟨kt_507, t_507⟩ := t_add (((nI 240) * x5)) ((f_461 (a0 + 20) (((nI 112) * x5) + (nI 0)).toNatClampNeg))
                    first | have t_506 : (((((nI 240) * x5) + (f_461 (a0 + 20) (((nI 112) * x5) + (nI 0)).toNatClampNeg))) + x3).toInt = (((((nI 240) * x5) + (f_461 (a0 + 20) (((nI 112) * x5) + (nI 0)).toNatClampNeg)))).toInt + (x3).toInt := t_addn (by omega) | obtain ⟨kt_506, t_506⟩ := t_add ((((nI 240) * x5) + (f_461 (a0 + 20) (((nI 112) * x5) + (nI 0)).toNatClampNeg))) x3
                    refine cT_go (b_M_sign_210 s0 (by rw [t_in]; omega) (by rw [t_in]; omega)) ?_
                    have t_511 := t_rng (f_461 (a0 + 22) ((((nI 240) * x5) + (f_461 (a0 + 20) (((nI 112) * x5) + (nI 0)).toNatClampNeg)) + x3).toNatClampNeg)
                    exact cT_ret b_M_sign_231 hI_462 hF_464 ⟨_, rfl, fun k h => by rw [← ie]; exact hk k h⟩
                · rw [t_eq] at c_497; try rw [t_0] at c_497
                  refine cT_go (b_M_sign_185 s0 (by rw [t_in]; omega)) ?_
                  have t_512 : 0 ≤ (f_461 (a0 + 19) x5.toNatClampNeg).toInt ∧ (f_461 (a0 + 19) x5.toNatClampNeg).toInt ≤ 112 := (cI_at hI_462 x5.toNatClampNeg (sc_7_28 s0)).2.2.2.2.2.1 (by omega)
                  exact cT_ret b_M_sign_231 hI_462 hF_464 ⟨_, rfl, fun k h => by rw [← ie]; exact hk k h⟩
          · rw [t_eq] at c_457; try rw [t_0] at c_457
            refine cT_go b_M_sign_149 ?_
            have t_513 : (nI 1).toInt = 1 := nI_toInt (by decide)
            refine cT_call (b_M_sign_154 s0) (c_M_goes hI s0) hF (fun o ho => by omega) (fun v_514 f_515 hI_516 hG_517 hF_518 hQ_519 => ?_)
            obtain ⟨y_520, rfl, hb_521, hQ_519⟩ := hQ_519
            have hb_521r := t_b01 hb_521
            have t_522 : 3 ≤ (f a0 1).toInt ∧ (f a0 1).toInt ≤ 30 := (cI_at hI 1 s0).2.1 rfl
            have t_523 : 0 ≤ (f a0 3).toInt ∧ (f a0 3).toInt ≤ 32 := (cI_at hI 3 s0).2.2.2.1 rfl
            have t_524 : 0 ≤ (f a0 5).toInt ∧ (f a0 5).toInt ≤ 6 := (cI_at hI 5 s0).2.2.2.2.1 rfl
            have t_525 : 0 ≤ (f a0 8).toInt ∧ (f a0 8).toInt ≤ 8 := (cI_at hI 8 s0).2.2.2.2.2.1 rfl
            have t_526 : 0 ≤ (f a0 14).toInt ∧ (f a0 14).toInt ≤ 26 := (cI_at hI 14 s0).2.2.2.2.2.2.1 rfl
            have g_527 : (f_515 a0 1).toInt = (f a0 1).toInt := congrArg Int32.toInt (hQ_519.2.2.2.2 1 (by decide))
            have g_528 : (f_515 a0 3).toInt = (f a0 3).toInt := congrArg Int32.toInt (hQ_519.2.2.2.2 3 (by decide))
            have g_529 : (f_515 a0 5).toInt = (f a0 5).toInt := congrArg Int32.toInt (hQ_519.2.2.2.2 5 (by decide))
            have g_530 : (f_515 a0 8).toInt = (f a0 8).toInt := congrArg Int32.toInt (hQ_519.2.2.2.2 8 (by decide))
            have g_531 : (f_515 a0 14).toInt = (f a0 14).toInt := congrArg Int32.toInt (hQ_519.2.2.2.2 14 (by decide))
            have g_532 : (f_515 a0 23).toInt = (f a0 23).toInt := congrArg Int32.toInt (hQ_519.2.2.2.2 23 (by decide))
            have hk : ∀ k, k ≠ 2 → f_515 a0 k = f a0 k := hQ_519.2.2.2.2
            have r20 : f_515 (a0 + 20) = f (a0 + 20) := hG_517 (a0 + 20) (by omega)
            show cT 121 157 [.ref a0, .int x1, .int x2, .int x3, .int x4, .int x5, .int x6, .int (nI 0), u8] [.int y_520] _ _ _ _ _ _
            refine cT_if b_M_sign_157 (fun c_533 => ?_) (fun c_533 => ?_)
            · rw [t_eq] at c_533; try rw [t_0] at c_533
              have t_534 : (nI 0).toInt = 0 := nI_toInt (by decide)
              exact cT_ret b_M_sign_160 hI_516 hF_518 ⟨_, rfl, fun k h => by rw [← ie]; exact hk k h⟩
            · rw [t_eq] at c_533; try rw [t_0] at c_533
              refine cT_if b_M_sign_162 (fun c_535 => ?_) (fun c_535 => ?_)
              · rw [t_eq] at c_535; try rw [t_0] at c_535
                refine cT_go b_M_sign_176 ?_
                refine cT_if b_M_sign_177 (fun c_536 => ?_) (fun c_536 => ?_)
                · rw [t_eq] at c_536; try rw [t_0] at c_536
                  refine cT_if b_M_sign_195 (fun c_537 => ?_) (fun c_537 => ?_)
                  · rw [t_eq] at c_537; try rw [t_0] at c_537
                    have t_540 : (nI 112).toInt = 112 := nI_toInt (by decide)
                    first | have t_539 : (((nI 112)) * x5).toInt = 112 * (x5).toInt := t_mulc (by decide) (by omega) | (obtain ⟨kt_539, t_539⟩ := t_mul ((nI 112)) x5; rw [nI_toInt (show 112 < 2 ^ 31 by decide)] at t_539)
                    first | have t_538 : ((((nI 112) * x5)) + x2).toInt = ((((nI 112) * x5))).toInt + (x2).toInt := t_addn (by omega) | obtain ⟨kt_538, t_538⟩ := t_add (((nI 112) * x5)) x2
                    refine cT_go (b_M_sign_200 s0 (by rw [t_in]; omega)) ?_
                    have t_541 := t_rng (f_515 (a0 + 21) (((nI 112) * x5) + x2).toNatClampNeg)
                    exact cT_ret b_M_sign_231 hI_516 hF_518 ⟨_, rfl, fun k h => by rw [← ie]; exact hk k h⟩
                  · rw [t_eq] at c_537; try rw [t_0] at c_537
                    have j1 := jl (((nI 112) * x5) + x2).toNatClampNeg
                    have j2 : (f_515 (a0 + 20) (((nI 112) * x5) + x2).toNatClampNeg).toInt = (f (a0 + 20) (((nI 112) * x5) + x2).toNatClampNeg).toInt := by rw [r20]
                    have t_544 : (nI 112).toInt = 112 := nI_toInt (by decide)
                    first | have t_543 : (((nI 112)) * x5).toInt = 112 * (x5).toInt := t_mulc (by decide) (by omega) | (obtain ⟨kt_543, t_543⟩ := t_mul ((nI 112)) x5; rw [nI_toInt (show 112 < 2 ^ 31 by decide)] at t_543)
                    first | have t_542 : ((((nI 112) * x5)) + x2).toInt = ((((nI 112) * x5))).toInt + (x2).toInt := t_addn (by omega) | obtain ⟨kt_542, t_542⟩ := t_add (((nI 112) * x5)) x2
                    have t_548 : (nI 240).toInt = 240 := nI_toInt (by decide)
                    first | have t_547 : (((nI 240)) * x5).toInt = 240 * (x5).toInt := t_mulc (by decide) (by omega) | (obtain ⟨kt_547, t_547⟩ := t_mul ((nI 240)) x5; rw [nI_toInt (show 240 < 2 ^ 31 by decide)] at t_547)
                    have t_549 := t_rng (f_515 (a0 + 20) (((nI 112) * x5) + x2).toNatClampNeg)
                    first | have t_546 : ((((nI 240) * x5)) + ((f_515 (a0 + 20) (((nI 112) * x5) + x2).toNatClampNeg))).toInt = ((((nI 240) * x5))).toInt + (((f_515 (a0 + 20) (((nI 112) * x5) + x2).toNatClampNeg))).toInt := t_addn (by omega) | obtain ⟨kt_546, t_546⟩ := t_add (((nI 240) * x5)) ((f_515 (a0 + 20) (((nI 112) * x5) + x2).toNatClampNeg))
                    first | have t_545 : (((((nI 240) * x5) + (f_515 (a0 + 20) (((nI 112) * x5) + x2).toNatClampNeg))) + x3).toInt = (((((nI 240) * x5) + (f_515 (a0 + 20) (((nI 112) * x5) + x2).toNatClampNeg)))).toInt + (x3).toInt := t_addn (by omega) | obtain ⟨kt_545, t_545⟩ := t_add ((((nI 240) * x5) + (f_515 (a0 + 20) (((nI 112) * x5) + x2).toNatClampNeg))) x3
                    refine cT_go (b_M_sign_210 s0 (by rw [t_in]; omega) (by rw [t_in]; omega)) ?_
                    have t_550 := t_rng (f_515 (a0 + 22) ((((nI 240) * x5) + (f_515 (a0 + 20) (((nI 112) * x5) + x2).toNatClampNeg)) + x3).toNatClampNeg)
                    exact cT_ret b_M_sign_231 hI_516 hF_518 ⟨_, rfl, fun k h => by rw [← ie]; exact hk k h⟩
                · rw [t_eq] at c_536; try rw [t_0] at c_536
                  refine cT_go (b_M_sign_185 s0 (by rw [t_in]; omega)) ?_
                  have t_551 : 0 ≤ (f_515 (a0 + 19) x5.toNatClampNeg).toInt ∧ (f_515 (a0 + 19) x5.toNatClampNeg).toInt ≤ 112 := (cI_at hI_516 x5.toNatClampNeg (sc_7_28 s0)).2.2.2.2.2.1 (by omega)
                  exact cT_ret b_M_sign_231 hI_516 hF_518 ⟨_, rfl, fun k h => by rw [← ie]; exact hk k h⟩
              · rw [t_eq] at c_535; try rw [t_0] at c_535
                refine cT_go b_M_sign_172 ?_
                refine cT_if b_M_sign_177 (fun c_552 => ?_) (fun c_552 => ?_)
                · rw [t_eq] at c_552; try rw [t_0] at c_552
                  refine cT_if b_M_sign_195 (fun c_553 => ?_) (fun c_553 => ?_)
                  · rw [t_eq] at c_553; try rw [t_0] at c_553
                    have t_556 : (nI 112).toInt = 112 := nI_toInt (by decide)
                    first | have t_555 : (((nI 112)) * x5).toInt = 112 * (x5).toInt := t_mulc (by decide) (by omega) | (obtain ⟨kt_555, t_555⟩ := t_mul ((nI 112)) x5; rw [nI_toInt (show 112 < 2 ^ 31 by decide)] at t_555)
                    have t_557 : (nI 0).toInt = 0 := nI_toInt (by decide)
                    first | have t_554 : ((((nI 112) * x5)) + ((nI 0))).toInt = ((((nI 112) * x5))).toInt + (((nI 0))).toInt := t_addn (by omega) | obtain ⟨kt_554, t_554⟩ := t_add (((nI 112) * x5)) ((nI 0))
                    refine cT_go (b_M_sign_200 s0 (by rw [t_in]; omega)) ?_
                    have t_558 := t_rng (f_515 (a0 + 21) (((nI 112) * x5) + (nI 0)).toNatClampNeg)
                    exact cT_ret b_M_sign_231 hI_516 hF_518 ⟨_, rfl, fun k h => by rw [← ie]; exact hk k h⟩
                  · rw [t_eq] at c_553; try rw [t_0] at c_553
                    have j1 := jl (((nI 112) * x5) + (nI 0)).toNatClampNeg
                    have j2 : (f_515 (a0 + 20) (((nI 112) * x5) + (nI 0)).toNatClampNeg).toInt = (f (a0 + 20) (((nI 112) * x5) + (nI 0)).toNatClampNeg).toInt := by rw [r20]
                    have t_561 : (nI 112).toInt = 112 := nI_toInt (by decide)
                    first | have t_560 : (((nI 112)) * x5).toInt = 112 * (x5).toInt := t_mulc (by decide) (by omega) | (obtain ⟨kt_560, t_560⟩ := t_mul ((nI 112)) x5; rw [nI_toInt (show 112 < 2 ^ 31 by decide)] at t_560)
                    have t_562 : (nI 0).toInt = 0 := nI_toInt (by decide)
                    first | have t_559 : ((((nI 112) * x5)) + ((nI 0))).toInt = ((((nI 112) * x5))).toInt + (((nI 0))).toInt := t_addn (by omega) | obtain ⟨kt_559, t_559⟩ := t_add (((nI 112) * x5)) ((nI 0))
                    have t_566 : (nI 240).toInt = 240 := nI_toInt (by decide)
                    first | have t_565 : (((nI 240)) * x5).toInt = 240 * (x5).toInt := t_mulc (by decide) (by omega) | (obtain ⟨kt_565, t_565⟩ := t_mul ((nI 240)) x5; rw [nI_toInt (show 240 < 2 ^ 31 by decide)] at t_565)
                    have t_567 := t_rng (f_515 (a0 + 20) (((nI 112) * x5) + (nI 0)).toNatClampNeg)
                    first | have t_564 : ((((nI 240) * x5)) + ((f_515 (a0 + 20) (((nI 112) * x5) + (nI 0)).toNatClampNeg))).toInt = ((((nI 240) * x5))).toInt + (((f_515 (a0 + 20) (((nI 112) * x5) + (nI 0)).toNatClampNeg))).toInt := t_addn (by omega) | obtain ⟨kt_564, t_564⟩ := t_add (((nI 240) * x5)) ((f_515 (a0 + 20) (((nI 112) * x5) + (nI 0)).toNatClampNeg))
                    first | have t_563 : (((((nI 240) * x5) + (f_515 (a0 + 20) (((nI 112) * x5) + (nI 0)).toNatClampNeg))) + x3).toInt = (((((nI 240) * x5) + (f_515 (a0 + 20) (((nI 112) * x5) + (nI 0)).toNatClampNeg)))).toInt + (x3).toInt := t_addn (by omega) | obtain ⟨kt_563, t_563⟩ := t_add ((((nI 240) * x5) + (f_515 (a0 + 20) (((nI 112) * x5) + (nI 0)).toNatClampNeg))) x3
                    refine cT_go (b_M_sign_210 s0 (by rw [t_in]; omega) (by rw [t_in]; omega)) ?_
                    have t_568 := t_rng (f_515 (a0 + 22) ((((nI 240) * x5) + (f_515 (a0 + 20) (((nI 112) * x5) + (nI 0)).toNatClampNeg)) + x3).toNatClampNeg)
                    exact cT_ret b_M_sign_231 hI_516 hF_518 ⟨_, rfl, fun k h => by rw [← ie]; exact hk k h⟩
                · rw [t_eq] at c_552; try rw [t_0] at c_552
                  refine cT_go (b_M_sign_185 s0 (by rw [t_in]; omega)) ?_
                  have t_569 : 0 ≤ (f_515 (a0 + 19) x5.toNatClampNeg).toInt ∧ (f_515 (a0 + 19) x5.toNatClampNeg).toInt ≤ 112 := (cI_at hI_516 x5.toNatClampNeg (sc_7_28 s0)).2.2.2.2.2.1 (by omega)
                  exact cT_ret b_M_sign_231 hI_516 hF_518 ⟨_, rfl, fun k h => by rw [← ie]; exact hk k h⟩
set_option maxHeartbeats 8000000 in
theorem l_M_sign_105 {L : Nat} {e : Nat × Nat} {f0 : cg_G} : ∀ (k : Nat) {f : cg_G} {a0 : Nat} {x1 : Int32} {x2 : Int32} {x3 : Int32} {x4 : Int32} {x5 : Int32} {x6 : Int32} {u7 : Value} {u8 : Value}, 0 < k → cI L f → cF (fun o => o = a0) f0 f → sh_ a0 = 7 → (0 ≤ x4.toInt ∧ x4.toInt ≤ 1) → (0 ≤ x5.toInt ∧ x5.toInt ≤ 15) → (0 ≤ x6.toInt ∧ x6.toInt ≤ 1) → (f = f0) → (JL (f (a0 + 20)) (f (a0 + 21))) → (0 ≤ x2.toInt ∧ x2.toInt < 112) → (-1 ≤ x3.toInt ∧ x3.toInt < (f (a0 + 21) (nI 112 * x5 + x2).toNatClampNeg).toInt) → cT 121 105 [.ref a0, .int x1, .int x2, .int x3, .int x4, .int x5, .int x6, u7, u8] [] L e (fun o => o = a0) f0 f (fun v f' => ∃ x : Int32, v = some (.int x) ∧ (∀ k, k ≠ 2 → f' a0 k = f0 a0 k)) := by
  intro k
  induction k with
  | zero => intro f a0 x1 x2 x3 x4 x5 x6 u7 u8 hm; omega
  | succ k ih =>
    intro f a0 x1 x2 x3 x4 x5 x6 u7 u8 hme hI hF s0 s4 s5 s6 ie jl s2 s3
    have hm := one_7 s0
    have t_570 := t_rng (x1)
    have t_571 := t_rng (x2)
    have t_572 := t_rng (x3)
    have t_573 := t_rng (x4)
    have t_574 := t_rng (x5)
    have t_575 := t_rng (x6)
    refine cT_go b_M_sign_105 ?_
    refine cT_if b_M_sign_110 (fun c_576 => ?_) (fun c_576 => ?_)
    · rw [t_eq] at c_576; try rw [t_0] at c_576
      refine cT_go b_M_sign_140 ?_
      have t_579 : -1 ≤ (f a0 23).toInt ∧ (f a0 23).toInt ≤ 1 := (cI_at hI 23 s0).2.2.2.2.2.2.2.2.2 rfl
      have t_580 := t_neg1
      refine cT_if (b_M_sign_141 s0) (fun c_578 => ?_) (fun c_578 => ?_)
      · rw [t_eq] at c_578; try rw [t_0] at c_578
        refine cT_go b_M_sign_153 ?_
        have t_581 : (nI 0).toInt = 0 := nI_toInt (by decide)
        refine cT_call (b_M_sign_154 s0) (c_M_goes hI s0) hF (fun o ho => by omega) (fun v_582 f_583 hI_584 hG_585 hF_586 hQ_587 => ?_)
        obtain ⟨y_588, rfl, hb_589, hQ_587⟩ := hQ_587
        have hb_589r := t_b01 hb_589
        have t_590 : 3 ≤ (f a0 1).toInt ∧ (f a0 1).toInt ≤ 30 := (cI_at hI 1 s0).2.1 rfl
        have t_591 : 0 ≤ (f a0 3).toInt ∧ (f a0 3).toInt ≤ 32 := (cI_at hI 3 s0).2.2.2.1 rfl
        have t_592 : 0 ≤ (f a0 5).toInt ∧ (f a0 5).toInt ≤ 6 := (cI_at hI 5 s0).2.2.2.2.1 rfl
        have t_593 : 0 ≤ (f a0 8).toInt ∧ (f a0 8).toInt ≤ 8 := (cI_at hI 8 s0).2.2.2.2.2.1 rfl
        have t_594 : 0 ≤ (f a0 14).toInt ∧ (f a0 14).toInt ≤ 26 := (cI_at hI 14 s0).2.2.2.2.2.2.1 rfl
        have g_595 : (f_583 a0 1).toInt = (f a0 1).toInt := congrArg Int32.toInt (hQ_587.2.2.2.2 1 (by decide))
        have g_596 : (f_583 a0 3).toInt = (f a0 3).toInt := congrArg Int32.toInt (hQ_587.2.2.2.2 3 (by decide))
        have g_597 : (f_583 a0 5).toInt = (f a0 5).toInt := congrArg Int32.toInt (hQ_587.2.2.2.2 5 (by decide))
        have g_598 : (f_583 a0 8).toInt = (f a0 8).toInt := congrArg Int32.toInt (hQ_587.2.2.2.2 8 (by decide))
        have g_599 : (f_583 a0 14).toInt = (f a0 14).toInt := congrArg Int32.toInt (hQ_587.2.2.2.2 14 (by decide))
        have g_600 : (f_583 a0 23).toInt = (f a0 23).toInt := congrArg Int32.toInt (hQ_587.2.2.2.2 23 (by decide))
        have hk : ∀ k, k ≠ 2 → f_583 a0 k = f a0 k := hQ_587.2.2.2.2
        have r20 : f_583 (a0 + 20) = f (a0 + 20) := hG_585 (a0 + 20) (by omega)
        show cT 121 157 [.ref a0, .int x1, .int x2, .int x3, .int x4, .int x5, .int x6, .int (nI 1), u8] [.int y_588] _ _ _ _ _ _
        refine cT_if b_M_sign_157 (fun c_601 => ?_) (fun c_601 => ?_)
        · rw [t_eq] at c_601; try rw [t_0] at c_601
          exact cT_ret b_M_sign_160 hI_584 hF_586 ⟨_, rfl, fun k h => by rw [← ie]; exact hk k h⟩
        · rw [t_eq] at c_601; try rw [t_0] at c_601
          refine cT_if b_M_sign_162 (fun c_602 => ?_) (fun c_602 => ?_)
          · rw [t_eq] at c_602; try rw [t_0] at c_602
            refine cT_go b_M_sign_176 ?_
            refine cT_if b_M_sign_177 (fun c_603 => ?_) (fun c_603 => ?_)
            · rw [t_eq] at c_603; try rw [t_0] at c_603
              refine cT_if b_M_sign_195 (fun c_604 => ?_) (fun c_604 => ?_)
              · rw [t_eq] at c_604; try rw [t_0] at c_604
                have t_607 : (nI 112).toInt = 112 := nI_toInt (by decide)
                first | have t_606 : (((nI 112)) * x5).toInt = 112 * (x5).toInt := t_mulc (by decide) (by omega) | (obtain ⟨kt_606, t_606⟩ := t_mul ((nI 112)) x5; rw [nI_toInt (show 112 < 2 ^ 31 by decide)] at t_606)
                first | have t_605 : ((((nI 112) * x5)) + x2).toInt = ((((nI 112) * x5))).toInt + (x2).toInt := t_addn (by omega) | obtain ⟨kt_605, t_605⟩ := t_add (((nI 112) * x5)) x2
                refine cT_go (b_M_sign_200 s0 (by rw [t_in]; omega)) ?_
                have t_608 := t_rng (f_583 (a0 + 21) (((nI 112) * x5) + x2).toNatClampNeg)
                exact cT_ret b_M_sign_231 hI_584 hF_586 ⟨_, rfl, fun k h => by rw [← ie]; exact hk k h⟩
              · rw [t_eq] at c_604; try rw [t_0] at c_604
                have j1 := jl (((nI 112) * x5) + x2).toNatClampNeg
                have j2 : (f_583 (a0 + 20) (((nI 112) * x5) + x2).toNatClampNeg).toInt = (f (a0 + 20) (((nI 112) * x5) + x2).toNatClampNeg).toInt := by rw [r20]
                have t_611 : (nI 112).toInt = 112 := nI_toInt (by decide)
                first | have t_610 : (((nI 112)) * x5).toInt = 112 * (x5).toInt := t_mulc (by decide) (by omega) | (obtain ⟨kt_610, t_610⟩ := t_mul ((nI 112)) x5; rw [nI_toInt (show 112 < 2 ^ 31 by decide)] at t_610)
                first | have t_609 : ((((nI 112) * x5)) + x2).toInt = ((((nI 112) * x5))).toInt + (x2).toInt := t_addn (by omega) | obtain ⟨kt_609, t_609⟩ := t_add (((nI 112) * x5)) x2
                have t_615 : (nI 240).toInt = 240 := nI_toInt (by decide)
                first | have t_614 : (((nI 240)) * x5).toInt = 240 * (x5).toInt := t_mulc (by decide) (by omega) | (obtain ⟨kt_614, t_614⟩ := t_mul ((nI 240)) x5; rw [nI_toInt (show 240 < 2 ^ 31 by decide)] at t_614)
                have t_616 := t_rng (f_583 (a0 + 20) (((nI 112) * x5) + x2).toNatClampNeg)
                first | have t_613 : ((((nI 240) * x5)) + ((f_583 (a0 + 20) (((nI 112) * x5) + x2).toNatClampNeg))).toInt = ((((nI 240) * x5))).toInt + (((f_583 (a0 + 20) (((nI 112) * x5) + x2).toNatClampNeg))).toInt := t_addn (by omega) | obtain ⟨kt_613, t_613⟩ := t_add (((nI 240) * x5)) ((f_583 (a0 + 20) (((nI 112) * x5) + x2).toNatClampNeg))
                first | have t_612 : (((((nI 240) * x5) + (f_583 (a0 + 20) (((nI 112) * x5) + x2).toNatClampNeg))) + x3).toInt = (((((nI 240) * x5) + (f_583 (a0 + 20) (((nI 112) * x5) + x2).toNatClampNeg)))).toInt + (x3).toInt := t_addn (by omega) | obtain ⟨kt_612, t_612⟩ := t_add ((((nI 240) * x5) + (f_583 (a0 + 20) (((nI 112) * x5) + x2).toNatClampNeg))) x3
                refine cT_go (b_M_sign_210 s0 (by rw [t_in]; omega) (by rw [t_in]; omega)) ?_
                have t_617 := t_rng (f_583 (a0 + 22) ((((nI 240) * x5) + (f_583 (a0 + 20) (((nI 112) * x5) + x2).toNatClampNeg)) + x3).toNatClampNeg)
                exact cT_ret b_M_sign_231 hI_584 hF_586 ⟨_, rfl, fun k h => by rw [← ie]; exact hk k h⟩
            · rw [t_eq] at c_603; try rw [t_0] at c_603
              refine cT_go (b_M_sign_185 s0 (by rw [t_in]; omega)) ?_
              have t_618 : 0 ≤ (f_583 (a0 + 19) x5.toNatClampNeg).toInt ∧ (f_583 (a0 + 19) x5.toNatClampNeg).toInt ≤ 112 := (cI_at hI_584 x5.toNatClampNeg (sc_7_28 s0)).2.2.2.2.2.1 (by omega)
              exact cT_ret b_M_sign_231 hI_584 hF_586 ⟨_, rfl, fun k h => by rw [← ie]; exact hk k h⟩
          · rw [t_eq] at c_602; try rw [t_0] at c_602
            refine cT_go b_M_sign_172 ?_
            refine cT_if b_M_sign_177 (fun c_619 => ?_) (fun c_619 => ?_)
            · rw [t_eq] at c_619; try rw [t_0] at c_619
              refine cT_if b_M_sign_195 (fun c_620 => ?_) (fun c_620 => ?_)
              · rw [t_eq] at c_620; try rw [t_0] at c_620
                have t_623 : (nI 112).toInt = 112 := nI_toInt (by decide)
                first | have t_622 : (((nI 112)) * x5).toInt = 112 * (x5).toInt := t_mulc (by decide) (by omega) | (obtain ⟨kt_622, t_622⟩ := t_mul ((nI 112)) x5; rw [nI_toInt (show 112 < 2 ^ 31 by decide)] at t_622)
                first | have t_621 : ((((nI 112) * x5)) + ((nI 0))).toInt = ((((nI 112) * x5))).toInt + (((nI 0))).toInt := t_addn (by omega) | obtain ⟨kt_621, t_621⟩ := t_add (((nI 112) * x5)) ((nI 0))
                refine cT_go (b_M_sign_200 s0 (by rw [t_in]; omega)) ?_
                have t_624 := t_rng (f_583 (a0 + 21) (((nI 112) * x5) + (nI 0)).toNatClampNeg)
                exact cT_ret b_M_sign_231 hI_584 hF_586 ⟨_, rfl, fun k h => by rw [← ie]; exact hk k h⟩
              · rw [t_eq] at c_620; try rw [t_0] at c_620
                have j1 := jl (((nI 112) * x5) + (nI 0)).toNatClampNeg
                have j2 : (f_583 (a0 + 20) (((nI 112) * x5) + (nI 0)).toNatClampNeg).toInt = (f (a0 + 20) (((nI 112) * x5) + (nI 0)).toNatClampNeg).toInt := by rw [r20]
                have t_627 : (nI 112).toInt = 112 := nI_toInt (by decide)
                first | have t_626 : (((nI 112)) * x5).toInt = 112 * (x5).toInt := t_mulc (by decide) (by omega) | (obtain ⟨kt_626, t_626⟩ := t_mul ((nI 112)) x5; rw [nI_toInt (show 112 < 2 ^ 31 by decide)] at t_626)
                first | have t_625 : ((((nI 112) * x5)) + ((nI 0))).toInt = ((((nI 112) * x5))).toInt + (((nI 0))).toInt := t_addn (by omega) | obtain ⟨kt_625, t_625⟩ := t_add (((nI 112) * x5)) ((nI 0))
                have t_631 : (nI 240).toInt = 240 := nI_toInt (by decide)
                first | have t_630 : (((nI 240)) * x5).toInt = 240 * (x5).toInt := t_mulc (by decide) (by omega) | (obtain ⟨kt_630, t_630⟩ := t_mul ((nI 240)) x5; rw [nI_toInt (show 240 < 2 ^ 31 by decide)] at t_630)
                have t_632 := t_rng (f_583 (a0 + 20) (((nI 112) * x5) + (nI 0)).toNatClampNeg)
                first | have t_629 : ((((nI 240) * x5)) + ((f_583 (a0 + 20) (((nI 112) * x5) + (nI 0)).toNatClampNeg))).toInt = ((((nI 240) * x5))).toInt + (((f_583 (a0 + 20) (((nI 112) * x5) + (nI 0)).toNatClampNeg))).toInt := t_addn (by omega) | obtain ⟨kt_629, t_629⟩ := t_add (((nI 240) * x5)) ((f_583 (a0 + 20) (((nI 112) * x5) + (nI 0)).toNatClampNeg))
                first | have t_628 : (((((nI 240) * x5) + (f_583 (a0 + 20) (((nI 112) * x5) + (nI 0)).toNatClampNeg))) + x3).toInt = (((((nI 240) * x5) + (f_583 (a0 + 20) (((nI 112) * x5) + (nI 0)).toNatClampNeg)))).toInt + (x3).toInt := t_addn (by omega) | obtain ⟨kt_628, t_628⟩ := t_add ((((nI 240) * x5) + (f_583 (a0 + 20) (((nI 112) * x5) + (nI 0)).toNatClampNeg))) x3
                refine cT_go (b_M_sign_210 s0 (by rw [t_in]; omega) (by rw [t_in]; omega)) ?_
                have t_633 := t_rng (f_583 (a0 + 22) ((((nI 240) * x5) + (f_583 (a0 + 20) (((nI 112) * x5) + (nI 0)).toNatClampNeg)) + x3).toNatClampNeg)
                exact cT_ret b_M_sign_231 hI_584 hF_586 ⟨_, rfl, fun k h => by rw [← ie]; exact hk k h⟩
            · rw [t_eq] at c_619; try rw [t_0] at c_619
              refine cT_go (b_M_sign_185 s0 (by rw [t_in]; omega)) ?_
              have t_634 : 0 ≤ (f_583 (a0 + 19) x5.toNatClampNeg).toInt ∧ (f_583 (a0 + 19) x5.toNatClampNeg).toInt ≤ 112 := (cI_at hI_584 x5.toNatClampNeg (sc_7_28 s0)).2.2.2.2.2.1 (by omega)
              exact cT_ret b_M_sign_231 hI_584 hF_586 ⟨_, rfl, fun k h => by rw [← ie]; exact hk k h⟩
      · rw [t_eq] at c_578; try rw [t_0] at c_578
        refine cT_go b_M_sign_149 ?_
        have t_635 : (nI 0).toInt = 0 := nI_toInt (by decide)
        have t_636 : (nI 1).toInt = 1 := nI_toInt (by decide)
        refine cT_call (b_M_sign_154 s0) (c_M_goes hI s0) hF (fun o ho => by omega) (fun v_637 f_638 hI_639 hG_640 hF_641 hQ_642 => ?_)
        obtain ⟨y_643, rfl, hb_644, hQ_642⟩ := hQ_642
        have hb_644r := t_b01 hb_644
        have t_645 : 3 ≤ (f a0 1).toInt ∧ (f a0 1).toInt ≤ 30 := (cI_at hI 1 s0).2.1 rfl
        have t_646 : 0 ≤ (f a0 3).toInt ∧ (f a0 3).toInt ≤ 32 := (cI_at hI 3 s0).2.2.2.1 rfl
        have t_647 : 0 ≤ (f a0 5).toInt ∧ (f a0 5).toInt ≤ 6 := (cI_at hI 5 s0).2.2.2.2.1 rfl
        have t_648 : 0 ≤ (f a0 8).toInt ∧ (f a0 8).toInt ≤ 8 := (cI_at hI 8 s0).2.2.2.2.2.1 rfl
        have t_649 : 0 ≤ (f a0 14).toInt ∧ (f a0 14).toInt ≤ 26 := (cI_at hI 14 s0).2.2.2.2.2.2.1 rfl
        have g_650 : (f_638 a0 1).toInt = (f a0 1).toInt := congrArg Int32.toInt (hQ_642.2.2.2.2 1 (by decide))
        have g_651 : (f_638 a0 3).toInt = (f a0 3).toInt := congrArg Int32.toInt (hQ_642.2.2.2.2 3 (by decide))
        have g_652 : (f_638 a0 5).toInt = (f a0 5).toInt := congrArg Int32.toInt (hQ_642.2.2.2.2 5 (by decide))
        have g_653 : (f_638 a0 8).toInt = (f a0 8).toInt := congrArg Int32.toInt (hQ_642.2.2.2.2 8 (by decide))
        have g_654 : (f_638 a0 14).toInt = (f a0 14).toInt := congrArg Int32.toInt (hQ_642.2.2.2.2 14 (by decide))
        have g_655 : (f_638 a0 23).toInt = (f a0 23).toInt := congrArg Int32.toInt (hQ_642.2.2.2.2 23 (by decide))
        have hk : ∀ k, k ≠ 2 → f_638 a0 k = f a0 k := hQ_642.2.2.2.2
        have r20 : f_638 (a0 + 20) = f (a0 + 20) := hG_640 (a0 + 20) (by omega)
        show cT 121 157 [.ref a0, .int x1, .int x2, .int x3, .int x4, .int x5, .int x6, .int (nI 1), u8] [.int y_643] _ _ _ _ _ _
        refine cT_if b_M_sign_157 (fun c_656 => ?_) (fun c_656 => ?_)
        · rw [t_eq] at c_656; try rw [t_0] at c_656
          exact cT_ret b_M_sign_160 hI_639 hF_641 ⟨_, rfl, fun k h => by rw [← ie]; exact hk k h⟩
        · rw [t_eq] at c_656; try rw [t_0] at c_656
          refine cT_if b_M_sign_162 (fun c_657 => ?_) (fun c_657 => ?_)
          · rw [t_eq] at c_657; try rw [t_0] at c_657
            refine cT_go b_M_sign_176 ?_
            refine cT_if b_M_sign_177 (fun c_658 => ?_) (fun c_658 => ?_)
            · rw [t_eq] at c_658; try rw [t_0] at c_658
              refine cT_if b_M_sign_195 (fun c_659 => ?_) (fun c_659 => ?_)
              · rw [t_eq] at c_659; try rw [t_0] at c_659
                have t_662 : (nI 112).toInt = 112 := nI_toInt (by decide)
                first | have t_661 : (((nI 112)) * x5).toInt = 112 * (x5).toInt := t_mulc (by decide) (by omega) | (obtain ⟨kt_661, t_661⟩ := t_mul ((nI 112)) x5; rw [nI_toInt (show 112 < 2 ^ 31 by decide)] at t_661)
                first | have t_660 : ((((nI 112) * x5)) + x2).toInt = ((((nI 112) * x5))).toInt + (x2).toInt := t_addn (by omega) | obtain ⟨kt_660, t_660⟩ := t_add (((nI 112) * x5)) x2
                refine cT_go (b_M_sign_200 s0 (by rw [t_in]; omega)) ?_
                have t_663 := t_rng (f_638 (a0 + 21) (((nI 112) * x5) + x2).toNatClampNeg)
                exact cT_ret b_M_sign_231 hI_639 hF_641 ⟨_, rfl, fun k h => by rw [← ie]; exact hk k h⟩
              · rw [t_eq] at c_659; try rw [t_0] at c_659
                have j1 := jl (((nI 112) * x5) + x2).toNatClampNeg
                have j2 : (f_638 (a0 + 20) (((nI 112) * x5) + x2).toNatClampNeg).toInt = (f (a0 + 20) (((nI 112) * x5) + x2).toNatClampNeg).toInt := by rw [r20]
                have t_666 : (nI 112).toInt = 112 := nI_toInt (by decide)
                first | have t_665 : (((nI 112)) * x5).toInt = 112 * (x5).toInt := t_mulc (by decide) (by omega) | (obtain ⟨kt_665, t_665⟩ := t_mul ((nI 112)) x5; rw [nI_toInt (show 112 < 2 ^ 31 by decide)] at t_665)
                first | have t_664 : ((((nI 112) * x5)) + x2).toInt = ((((nI 112) * x5))).toInt + (x2).toInt := t_addn (by omega) | obtain ⟨kt_664, t_664⟩ := t_add (((nI 112) * x5)) x2
                have t_670 : (nI 240).toInt = 240 := nI_toInt (by decide)
                first | have t_669 : (((nI 240)) * x5).toInt = 240 * (x5).toInt := t_mulc (by decide) (by omega) | (obtain ⟨kt_669, t_669⟩ := t_mul ((nI 240)) x5; rw [nI_toInt (show 240 < 2 ^ 31 by decide)] at t_669)
                have t_671 := t_rng (f_638 (a0 + 20) (((nI 112) * x5) + x2).toNatClampNeg)
                first | have t_668 : ((((nI 240) * x5)) + ((f_638 (a0 + 20) (((nI 112) * x5) + x2).toNatClampNeg))).toInt = ((((nI 240) * x5))).toInt + (((f_638 (a0 + 20) (((nI 112) * x5) + x2).toNatClampNeg))).toInt := t_addn (by omega) | obtain ⟨kt_668, t_668⟩ := t_add (((nI 240) * x5)) ((f_638 (a0 + 20) (((nI 112) * x5) + x2).toNatClampNeg))
                first | have t_667 : (((((nI 240) * x5) + (f_638 (a0 + 20) (((nI 112) * x5) + x2).toNatClampNeg))) + x3).toInt = (((((nI 240) * x5) + (f_638 (a0 + 20) (((nI 112) * x5) + x2).toNatClampNeg)))).toInt + (x3).toInt := t_addn (by omega) | obtain ⟨kt_667, t_667⟩ := t_add ((((nI 240) * x5) + (f_638 (a0 + 20) (((nI 112) * x5) + x2).toNatClampNeg))) x3
                refine cT_go (b_M_sign_210 s0 (by rw [t_in]; omega) (by rw [t_in]; omega)) ?_
                have t_672 := t_rng (f_638 (a0 + 22) ((((nI 240) * x5) + (f_638 (a0 + 20) (((nI 112) * x5) + x2).toNatClampNeg)) + x3).toNatClampNeg)
                exact cT_ret b_M_sign_231 hI_639 hF_641 ⟨_, rfl, fun k h => by rw [← ie]; exact hk k h⟩
            · rw [t_eq] at c_658; try rw [t_0] at c_658
              refine cT_go (b_M_sign_185 s0 (by rw [t_in]; omega)) ?_
              have t_673 : 0 ≤ (f_638 (a0 + 19) x5.toNatClampNeg).toInt ∧ (f_638 (a0 + 19) x5.toNatClampNeg).toInt ≤ 112 := (cI_at hI_639 x5.toNatClampNeg (sc_7_28 s0)).2.2.2.2.2.1 (by omega)
              exact cT_ret b_M_sign_231 hI_639 hF_641 ⟨_, rfl, fun k h => by rw [← ie]; exact hk k h⟩
          · rw [t_eq] at c_657; try rw [t_0] at c_657
            refine cT_go b_M_sign_172 ?_
            refine cT_if b_M_sign_177 (fun c_674 => ?_) (fun c_674 => ?_)
            · rw [t_eq] at c_674; try rw [t_0] at c_674
              refine cT_if b_M_sign_195 (fun c_675 => ?_) (fun c_675 => ?_)
              · rw [t_eq] at c_675; try rw [t_0] at c_675
                have t_678 : (nI 112).toInt = 112 := nI_toInt (by decide)
                first | have t_677 : (((nI 112)) * x5).toInt = 112 * (x5).toInt := t_mulc (by decide) (by omega) | (obtain ⟨kt_677, t_677⟩ := t_mul ((nI 112)) x5; rw [nI_toInt (show 112 < 2 ^ 31 by decide)] at t_677)
                first | have t_676 : ((((nI 112) * x5)) + ((nI 0))).toInt = ((((nI 112) * x5))).toInt + (((nI 0))).toInt := t_addn (by omega) | obtain ⟨kt_676, t_676⟩ := t_add (((nI 112) * x5)) ((nI 0))
                refine cT_go (b_M_sign_200 s0 (by rw [t_in]; omega)) ?_
                have t_679 := t_rng (f_638 (a0 + 21) (((nI 112) * x5) + (nI 0)).toNatClampNeg)
                exact cT_ret b_M_sign_231 hI_639 hF_641 ⟨_, rfl, fun k h => by rw [← ie]; exact hk k h⟩
              · rw [t_eq] at c_675; try rw [t_0] at c_675
                have j1 := jl (((nI 112) * x5) + (nI 0)).toNatClampNeg
                have j2 : (f_638 (a0 + 20) (((nI 112) * x5) + (nI 0)).toNatClampNeg).toInt = (f (a0 + 20) (((nI 112) * x5) + (nI 0)).toNatClampNeg).toInt := by rw [r20]
                have t_682 : (nI 112).toInt = 112 := nI_toInt (by decide)
                first | have t_681 : (((nI 112)) * x5).toInt = 112 * (x5).toInt := t_mulc (by decide) (by omega) | (obtain ⟨kt_681, t_681⟩ := t_mul ((nI 112)) x5; rw [nI_toInt (show 112 < 2 ^ 31 by decide)] at t_681)
                first | have t_680 : ((((nI 112) * x5)) + ((nI 0))).toInt = ((((nI 112) * x5))).toInt + (((nI 0))).toInt := t_addn (by omega) | obtain ⟨kt_680, t_680⟩ := t_add (((nI 112) * x5)) ((nI 0))
                have t_686 : (nI 240).toInt = 240 := nI_toInt (by decide)
                first | have t_685 : (((nI 240)) * x5).toInt = 240 * (x5).toInt := t_mulc (by decide) (by omega) | (obtain ⟨kt_685, t_685⟩ := t_mul ((nI 240)) x5; rw [nI_toInt (show 240 < 2 ^ 31 by decide)] at t_685)
                have t_687 := t_rng (f_638 (a0 + 20) (((nI 112) * x5) + (nI 0)).toNatClampNeg)
                first | have t_684 : ((((nI 240) * x5)) + ((f_638 (a0 + 20) (((nI 112) * x5) + (nI 0)).toNatClampNeg))).toInt = ((((nI 240) * x5))).toInt + (((f_638 (a0 + 20) (((nI 112) * x5) + (nI 0)).toNatClampNeg))).toInt := t_addn (by omega) | obtain ⟨kt_684, t_684⟩ := t_add (((nI 240) * x5)) ((f_638 (a0 + 20) (((nI 112) * x5) + (nI 0)).toNatClampNeg))
                first | have t_683 : (((((nI 240) * x5) + (f_638 (a0 + 20) (((nI 112) * x5) + (nI 0)).toNatClampNeg))) + x3).toInt = (((((nI 240) * x5) + (f_638 (a0 + 20) (((nI 112) * x5) + (nI 0)).toNatClampNeg)))).toInt + (x3).toInt := t_addn (by omega) | obtain ⟨kt_683, t_683⟩ := t_add ((((nI 240) * x5) + (f_638 (a0 + 20) (((nI 112) * x5) + (nI 0)).toNatClampNeg))) x3
                refine cT_go (b_M_sign_210 s0 (by rw [t_in]; omega) (by rw [t_in]; omega)) ?_
                have t_688 := t_rng (f_638 (a0 + 22) ((((nI 240) * x5) + (f_638 (a0 + 20) (((nI 112) * x5) + (nI 0)).toNatClampNeg)) + x3).toNatClampNeg)
                exact cT_ret b_M_sign_231 hI_639 hF_641 ⟨_, rfl, fun k h => by rw [← ie]; exact hk k h⟩
            · rw [t_eq] at c_674; try rw [t_0] at c_674
              refine cT_go (b_M_sign_185 s0 (by rw [t_in]; omega)) ?_
              have t_689 : 0 ≤ (f_638 (a0 + 19) x5.toNatClampNeg).toInt ∧ (f_638 (a0 + 19) x5.toNatClampNeg).toInt ≤ 112 := (cI_at hI_639 x5.toNatClampNeg (sc_7_28 s0)).2.2.2.2.2.1 (by omega)
              exact cT_ret b_M_sign_231 hI_639 hF_641 ⟨_, rfl, fun k h => by rw [← ie]; exact hk k h⟩
    · rw [t_eq] at c_576; try rw [t_0] at c_576
      have t_691 : -1 ≤ (f a0 23).toInt ∧ (f a0 23).toInt ≤ 1 := (cI_at hI 23 s0).2.2.2.2.2.2.2.2.2 rfl
      have t_692 := t_neg1
      refine cT_if (b_M_sign_118 s0) (fun c_690 => ?_) (fun c_690 => ?_)
      · rw [t_eq] at c_690; try rw [t_0] at c_690
        refine cT_go b_M_sign_136 ?_
        refine cT_if (b_M_sign_141 s0) (fun c_693 => ?_) (fun c_693 => ?_)
        · rw [t_eq] at c_693; try rw [t_0] at c_693
          refine cT_go b_M_sign_153 ?_
          have t_694 : (nI 1).toInt = 1 := nI_toInt (by decide)
          have t_695 : (nI 0).toInt = 0 := nI_toInt (by decide)
          refine cT_call (b_M_sign_154 s0) (c_M_goes hI s0) hF (fun o ho => by omega) (fun v_696 f_697 hI_698 hG_699 hF_700 hQ_701 => ?_)
          obtain ⟨y_702, rfl, hb_703, hQ_701⟩ := hQ_701
          have hb_703r := t_b01 hb_703
          have t_704 : 3 ≤ (f a0 1).toInt ∧ (f a0 1).toInt ≤ 30 := (cI_at hI 1 s0).2.1 rfl
          have t_705 : 0 ≤ (f a0 3).toInt ∧ (f a0 3).toInt ≤ 32 := (cI_at hI 3 s0).2.2.2.1 rfl
          have t_706 : 0 ≤ (f a0 5).toInt ∧ (f a0 5).toInt ≤ 6 := (cI_at hI 5 s0).2.2.2.2.1 rfl
          have t_707 : 0 ≤ (f a0 8).toInt ∧ (f a0 8).toInt ≤ 8 := (cI_at hI 8 s0).2.2.2.2.2.1 rfl
          have t_708 : 0 ≤ (f a0 14).toInt ∧ (f a0 14).toInt ≤ 26 := (cI_at hI 14 s0).2.2.2.2.2.2.1 rfl
          have g_709 : (f_697 a0 1).toInt = (f a0 1).toInt := congrArg Int32.toInt (hQ_701.2.2.2.2 1 (by decide))
          have g_710 : (f_697 a0 3).toInt = (f a0 3).toInt := congrArg Int32.toInt (hQ_701.2.2.2.2 3 (by decide))
          have g_711 : (f_697 a0 5).toInt = (f a0 5).toInt := congrArg Int32.toInt (hQ_701.2.2.2.2 5 (by decide))
          have g_712 : (f_697 a0 8).toInt = (f a0 8).toInt := congrArg Int32.toInt (hQ_701.2.2.2.2 8 (by decide))
          have g_713 : (f_697 a0 14).toInt = (f a0 14).toInt := congrArg Int32.toInt (hQ_701.2.2.2.2 14 (by decide))
          have g_714 : (f_697 a0 23).toInt = (f a0 23).toInt := congrArg Int32.toInt (hQ_701.2.2.2.2 23 (by decide))
          have hk : ∀ k, k ≠ 2 → f_697 a0 k = f a0 k := hQ_701.2.2.2.2
          have r20 : f_697 (a0 + 20) = f (a0 + 20) := hG_699 (a0 + 20) (by omega)
          show cT 121 157 [.ref a0, .int x1, .int x2, .int x3, .int x4, .int x5, .int x6, .int (nI 1), u8] [.int y_702] _ _ _ _ _ _
          refine cT_if b_M_sign_157 (fun c_715 => ?_) (fun c_715 => ?_)
          · rw [t_eq] at c_715; try rw [t_0] at c_715
            exact cT_ret b_M_sign_160 hI_698 hF_700 ⟨_, rfl, fun k h => by rw [← ie]; exact hk k h⟩
          · rw [t_eq] at c_715; try rw [t_0] at c_715
            refine cT_if b_M_sign_162 (fun c_716 => ?_) (fun c_716 => ?_)
            · rw [t_eq] at c_716; try rw [t_0] at c_716
              refine cT_go b_M_sign_176 ?_
              refine cT_if b_M_sign_177 (fun c_717 => ?_) (fun c_717 => ?_)
              · rw [t_eq] at c_717; try rw [t_0] at c_717
                refine cT_if b_M_sign_195 (fun c_718 => ?_) (fun c_718 => ?_)
                · rw [t_eq] at c_718; try rw [t_0] at c_718
                  have t_721 : (nI 112).toInt = 112 := nI_toInt (by decide)
                  first | have t_720 : (((nI 112)) * x5).toInt = 112 * (x5).toInt := t_mulc (by decide) (by omega) | (obtain ⟨kt_720, t_720⟩ := t_mul ((nI 112)) x5; rw [nI_toInt (show 112 < 2 ^ 31 by decide)] at t_720)
                  first | have t_719 : ((((nI 112) * x5)) + x2).toInt = ((((nI 112) * x5))).toInt + (x2).toInt := t_addn (by omega) | obtain ⟨kt_719, t_719⟩ := t_add (((nI 112) * x5)) x2
                  refine cT_go (b_M_sign_200 s0 (by rw [t_in]; omega)) ?_
                  have t_722 := t_rng (f_697 (a0 + 21) (((nI 112) * x5) + x2).toNatClampNeg)
                  exact cT_ret b_M_sign_231 hI_698 hF_700 ⟨_, rfl, fun k h => by rw [← ie]; exact hk k h⟩
                · rw [t_eq] at c_718; try rw [t_0] at c_718
                  have j1 := jl (((nI 112) * x5) + x2).toNatClampNeg
                  have j2 : (f_697 (a0 + 20) (((nI 112) * x5) + x2).toNatClampNeg).toInt = (f (a0 + 20) (((nI 112) * x5) + x2).toNatClampNeg).toInt := by rw [r20]
                  have t_725 : (nI 112).toInt = 112 := nI_toInt (by decide)
                  first | have t_724 : (((nI 112)) * x5).toInt = 112 * (x5).toInt := t_mulc (by decide) (by omega) | (obtain ⟨kt_724, t_724⟩ := t_mul ((nI 112)) x5; rw [nI_toInt (show 112 < 2 ^ 31 by decide)] at t_724)
                  first | have t_723 : ((((nI 112) * x5)) + x2).toInt = ((((nI 112) * x5))).toInt + (x2).toInt := t_addn (by omega) | obtain ⟨kt_723, t_723⟩ := t_add (((nI 112) * x5)) x2
                  have t_729 : (nI 240).toInt = 240 := nI_toInt (by decide)
                  first | have t_728 : (((nI 240)) * x5).toInt = 240 * (x5).toInt := t_mulc (by decide) (by omega) | (obtain ⟨kt_728, t_728⟩ := t_mul ((nI 240)) x5; rw [nI_toInt (show 240 < 2 ^ 31 by decide)] at t_728)
                  have t_730 := t_rng (f_697 (a0 + 20) (((nI 112) * x5) + x2).toNatClampNeg)
                  first | have t_727 : ((((nI 240) * x5)) + ((f_697 (a0 + 20) (((nI 112) * x5) + x2).toNatClampNeg))).toInt = ((((nI 240) * x5))).toInt + (((f_697 (a0 + 20) (((nI 112) * x5) + x2).toNatClampNeg))).toInt := t_addn (by omega) | obtain ⟨kt_727, t_727⟩ := t_add (((nI 240) * x5)) ((f_697 (a0 + 20) (((nI 112) * x5) + x2).toNatClampNeg))
                  first | have t_726 : (((((nI 240) * x5) + (f_697 (a0 + 20) (((nI 112) * x5) + x2).toNatClampNeg))) + x3).toInt = (((((nI 240) * x5) + (f_697 (a0 + 20) (((nI 112) * x5) + x2).toNatClampNeg)))).toInt + (x3).toInt := t_addn (by omega) | obtain ⟨kt_726, t_726⟩ := t_add ((((nI 240) * x5) + (f_697 (a0 + 20) (((nI 112) * x5) + x2).toNatClampNeg))) x3
                  refine cT_go (b_M_sign_210 s0 (by rw [t_in]; omega) (by rw [t_in]; omega)) ?_
                  have t_731 := t_rng (f_697 (a0 + 22) ((((nI 240) * x5) + (f_697 (a0 + 20) (((nI 112) * x5) + x2).toNatClampNeg)) + x3).toNatClampNeg)
                  exact cT_ret b_M_sign_231 hI_698 hF_700 ⟨_, rfl, fun k h => by rw [← ie]; exact hk k h⟩
              · rw [t_eq] at c_717; try rw [t_0] at c_717
                refine cT_go (b_M_sign_185 s0 (by rw [t_in]; omega)) ?_
                have t_732 : 0 ≤ (f_697 (a0 + 19) x5.toNatClampNeg).toInt ∧ (f_697 (a0 + 19) x5.toNatClampNeg).toInt ≤ 112 := (cI_at hI_698 x5.toNatClampNeg (sc_7_28 s0)).2.2.2.2.2.1 (by omega)
                exact cT_ret b_M_sign_231 hI_698 hF_700 ⟨_, rfl, fun k h => by rw [← ie]; exact hk k h⟩
            · rw [t_eq] at c_716; try rw [t_0] at c_716
              refine cT_go b_M_sign_172 ?_
              refine cT_if b_M_sign_177 (fun c_733 => ?_) (fun c_733 => ?_)
              · rw [t_eq] at c_733; try rw [t_0] at c_733
                refine cT_if b_M_sign_195 (fun c_734 => ?_) (fun c_734 => ?_)
                · rw [t_eq] at c_734; try rw [t_0] at c_734
                  have t_737 : (nI 112).toInt = 112 := nI_toInt (by decide)
                  first | have t_736 : (((nI 112)) * x5).toInt = 112 * (x5).toInt := t_mulc (by decide) (by omega) | (obtain ⟨kt_736, t_736⟩ := t_mul ((nI 112)) x5; rw [nI_toInt (show 112 < 2 ^ 31 by decide)] at t_736)
                  first | have t_735 : ((((nI 112) * x5)) + ((nI 0))).toInt = ((((nI 112) * x5))).toInt + (((nI 0))).toInt := t_addn (by omega) | obtain ⟨kt_735, t_735⟩ := t_add (((nI 112) * x5)) ((nI 0))
                  refine cT_go (b_M_sign_200 s0 (by rw [t_in]; omega)) ?_
                  have t_738 := t_rng (f_697 (a0 + 21) (((nI 112) * x5) + (nI 0)).toNatClampNeg)
                  exact cT_ret b_M_sign_231 hI_698 hF_700 ⟨_, rfl, fun k h => by rw [← ie]; exact hk k h⟩
                · rw [t_eq] at c_734; try rw [t_0] at c_734
                  have j1 := jl (((nI 112) * x5) + (nI 0)).toNatClampNeg
                  have j2 : (f_697 (a0 + 20) (((nI 112) * x5) + (nI 0)).toNatClampNeg).toInt = (f (a0 + 20) (((nI 112) * x5) + (nI 0)).toNatClampNeg).toInt := by rw [r20]
                  have t_741 : (nI 112).toInt = 112 := nI_toInt (by decide)
                  first | have t_740 : (((nI 112)) * x5).toInt = 112 * (x5).toInt := t_mulc (by decide) (by omega) | (obtain ⟨kt_740, t_740⟩ := t_mul ((nI 112)) x5; rw [nI_toInt (show 112 < 2 ^ 31 by decide)] at t_740)
                  first | have t_739 : ((((nI 112) * x5)) + ((nI 0))).toInt = ((((nI 112) * x5))).toInt + (((nI 0))).toInt := t_addn (by omega) | obtain ⟨kt_739, t_739⟩ := t_add (((nI 112) * x5)) ((nI 0))
                  have t_745 : (nI 240).toInt = 240 := nI_toInt (by decide)
                  first | have t_744 : (((nI 240)) * x5).toInt = 240 * (x5).toInt := t_mulc (by decide) (by omega) | (obtain ⟨kt_744, t_744⟩ := t_mul ((nI 240)) x5; rw [nI_toInt (show 240 < 2 ^ 31 by decide)] at t_744)
                  have t_746 := t_rng (f_697 (a0 + 20) (((nI 112) * x5) + (nI 0)).toNatClampNeg)
                  first | have t_743 : ((((nI 240) * x5)) + ((f_697 (a0 + 20) (((nI 112) * x5) + (nI 0)).toNatClampNeg))).toInt = ((((nI 240) * x5))).toInt + (((f_697 (a0 + 20) (((nI 112) * x5) + (nI 0)).toNatClampNeg))).toInt := t_addn (by omega) | obtain ⟨kt_743, t_743⟩ := t_add (((nI 240) * x5)) ((f_697 (a0 + 20) (((nI 112) * x5) + (nI 0)).toNatClampNeg))
                  first | have t_742 : (((((nI 240) * x5) + (f_697 (a0 + 20) (((nI 112) * x5) + (nI 0)).toNatClampNeg))) + x3).toInt = (((((nI 240) * x5) + (f_697 (a0 + 20) (((nI 112) * x5) + (nI 0)).toNatClampNeg)))).toInt + (x3).toInt := t_addn (by omega) | obtain ⟨kt_742, t_742⟩ := t_add ((((nI 240) * x5) + (f_697 (a0 + 20) (((nI 112) * x5) + (nI 0)).toNatClampNeg))) x3
                  refine cT_go (b_M_sign_210 s0 (by rw [t_in]; omega) (by rw [t_in]; omega)) ?_
                  have t_747 := t_rng (f_697 (a0 + 22) ((((nI 240) * x5) + (f_697 (a0 + 20) (((nI 112) * x5) + (nI 0)).toNatClampNeg)) + x3).toNatClampNeg)
                  exact cT_ret b_M_sign_231 hI_698 hF_700 ⟨_, rfl, fun k h => by rw [← ie]; exact hk k h⟩
              · rw [t_eq] at c_733; try rw [t_0] at c_733
                refine cT_go (b_M_sign_185 s0 (by rw [t_in]; omega)) ?_
                have t_748 : 0 ≤ (f_697 (a0 + 19) x5.toNatClampNeg).toInt ∧ (f_697 (a0 + 19) x5.toNatClampNeg).toInt ≤ 112 := (cI_at hI_698 x5.toNatClampNeg (sc_7_28 s0)).2.2.2.2.2.1 (by omega)
                exact cT_ret b_M_sign_231 hI_698 hF_700 ⟨_, rfl, fun k h => by rw [← ie]; exact hk k h⟩
        · rw [t_eq] at c_693; try rw [t_0] at c_693
          refine cT_go b_M_sign_149 ?_
          have t_749 : (nI 1).toInt = 1 := nI_toInt (by decide)
          refine cT_call (b_M_sign_154 s0) (c_M_goes hI s0) hF (fun o ho => by omega) (fun v_750 f_751 hI_752 hG_753 hF_754 hQ_755 => ?_)
          obtain ⟨y_756, rfl, hb_757, hQ_755⟩ := hQ_755
          have hb_757r := t_b01 hb_757
          have t_758 : 3 ≤ (f a0 1).toInt ∧ (f a0 1).toInt ≤ 30 := (cI_at hI 1 s0).2.1 rfl
          have t_759 : 0 ≤ (f a0 3).toInt ∧ (f a0 3).toInt ≤ 32 := (cI_at hI 3 s0).2.2.2.1 rfl
          have t_760 : 0 ≤ (f a0 5).toInt ∧ (f a0 5).toInt ≤ 6 := (cI_at hI 5 s0).2.2.2.2.1 rfl
          have t_761 : 0 ≤ (f a0 8).toInt ∧ (f a0 8).toInt ≤ 8 := (cI_at hI 8 s0).2.2.2.2.2.1 rfl
          have t_762 : 0 ≤ (f a0 14).toInt ∧ (f a0 14).toInt ≤ 26 := (cI_at hI 14 s0).2.2.2.2.2.2.1 rfl
          have g_763 : (f_751 a0 1).toInt = (f a0 1).toInt := congrArg Int32.toInt (hQ_755.2.2.2.2 1 (by decide))
          have g_764 : (f_751 a0 3).toInt = (f a0 3).toInt := congrArg Int32.toInt (hQ_755.2.2.2.2 3 (by decide))
          have g_765 : (f_751 a0 5).toInt = (f a0 5).toInt := congrArg Int32.toInt (hQ_755.2.2.2.2 5 (by decide))
          have g_766 : (f_751 a0 8).toInt = (f a0 8).toInt := congrArg Int32.toInt (hQ_755.2.2.2.2 8 (by decide))
          have g_767 : (f_751 a0 14).toInt = (f a0 14).toInt := congrArg Int32.toInt (hQ_755.2.2.2.2 14 (by decide))
          have g_768 : (f_751 a0 23).toInt = (f a0 23).toInt := congrArg Int32.toInt (hQ_755.2.2.2.2 23 (by decide))
          have hk : ∀ k, k ≠ 2 → f_751 a0 k = f a0 k := hQ_755.2.2.2.2
          have r20 : f_751 (a0 + 20) = f (a0 + 20) := hG_753 (a0 + 20) (by omega)
          show cT 121 157 [.ref a0, .int x1, .int x2, .int x3, .int x4, .int x5, .int x6, .int (nI 1), u8] [.int y_756] _ _ _ _ _ _
          refine cT_if b_M_sign_157 (fun c_769 => ?_) (fun c_769 => ?_)
          · rw [t_eq] at c_769; try rw [t_0] at c_769
            have t_770 : (nI 0).toInt = 0 := nI_toInt (by decide)
            exact cT_ret b_M_sign_160 hI_752 hF_754 ⟨_, rfl, fun k h => by rw [← ie]; exact hk k h⟩
          · rw [t_eq] at c_769; try rw [t_0] at c_769
            refine cT_if b_M_sign_162 (fun c_771 => ?_) (fun c_771 => ?_)
            · rw [t_eq] at c_771; try rw [t_0] at c_771
              refine cT_go b_M_sign_176 ?_
              refine cT_if b_M_sign_177 (fun c_772 => ?_) (fun c_772 => ?_)
              · rw [t_eq] at c_772; try rw [t_0] at c_772
                refine cT_if b_M_sign_195 (fun c_773 => ?_) (fun c_773 => ?_)
                · rw [t_eq] at c_773; try rw [t_0] at c_773
                  have t_776 : (nI 112).toInt = 112 := nI_toInt (by decide)
                  first | have t_775 : (((nI 112)) * x5).toInt = 112 * (x5).toInt := t_mulc (by decide) (by omega) | (obtain ⟨kt_775, t_775⟩ := t_mul ((nI 112)) x5; rw [nI_toInt (show 112 < 2 ^ 31 by decide)] at t_775)
                  first | have t_774 : ((((nI 112) * x5)) + x2).toInt = ((((nI 112) * x5))).toInt + (x2).toInt := t_addn (by omega) | obtain ⟨kt_774, t_774⟩ := t_add (((nI 112) * x5)) x2
                  refine cT_go (b_M_sign_200 s0 (by rw [t_in]; omega)) ?_
                  have t_777 := t_rng (f_751 (a0 + 21) (((nI 112) * x5) + x2).toNatClampNeg)
                  exact cT_ret b_M_sign_231 hI_752 hF_754 ⟨_, rfl, fun k h => by rw [← ie]; exact hk k h⟩
                · rw [t_eq] at c_773; try rw [t_0] at c_773
                  have j1 := jl (((nI 112) * x5) + x2).toNatClampNeg
                  have j2 : (f_751 (a0 + 20) (((nI 112) * x5) + x2).toNatClampNeg).toInt = (f (a0 + 20) (((nI 112) * x5) + x2).toNatClampNeg).toInt := by rw [r20]
                  have t_780 : (nI 112).toInt = 112 := nI_toInt (by decide)
                  first | have t_779 : (((nI 112)) * x5).toInt = 112 * (x5).toInt := t_mulc (by decide) (by omega) | (obtain ⟨kt_779, t_779⟩ := t_mul ((nI 112)) x5; rw [nI_toInt (show 112 < 2 ^ 31 by decide)] at t_779)
                  first | have t_778 : ((((nI 112) * x5)) + x2).toInt = ((((nI 112) * x5))).toInt + (x2).toInt := t_addn (by omega) | obtain ⟨kt_778, t_778⟩ := t_add (((nI 112) * x5)) x2
                  have t_784 : (nI 240).toInt = 240 := nI_toInt (by decide)
                  first | have t_783 : (((nI 240)) * x5).toInt = 240 * (x5).toInt := t_mulc (by decide) (by omega) | (obtain ⟨kt_783, t_783⟩ := t_mul ((nI 240)) x5; rw [nI_toInt (show 240 < 2 ^ 31 by decide)] at t_783)
                  have t_785 := t_rng (f_751 (a0 + 20) (((nI 112) * x5) + x2).toNatClampNeg)
                  first | have t_782 : ((((nI 240) * x5)) + ((f_751 (a0 + 20) (((nI 112) * x5) + x2).toNatClampNeg))).toInt = ((((nI 240) * x5))).toInt + (((f_751 (a0 + 20) (((nI 112) * x5) + x2).toNatClampNeg))).toInt := t_addn (by omega) | obtain ⟨kt_782, t_782⟩ := t_add (((nI 240) * x5)) ((f_751 (a0 + 20) (((nI 112) * x5) + x2).toNatClampNeg))
                  first | have t_781 : (((((nI 240) * x5) + (f_751 (a0 + 20) (((nI 112) * x5) + x2).toNatClampNeg))) + x3).toInt = (((((nI 240) * x5) + (f_751 (a0 + 20) (((nI 112) * x5) + x2).toNatClampNeg)))).toInt + (x3).toInt := t_addn (by omega) | obtain ⟨kt_781, t_781⟩ := t_add ((((nI 240) * x5) + (f_751 (a0 + 20) (((nI 112) * x5) + x2).toNatClampNeg))) x3
                  refine cT_go (b_M_sign_210 s0 (by rw [t_in]; omega) (by rw [t_in]; omega)) ?_
                  have t_786 := t_rng (f_751 (a0 + 22) ((((nI 240) * x5) + (f_751 (a0 + 20) (((nI 112) * x5) + x2).toNatClampNeg)) + x3).toNatClampNeg)
                  exact cT_ret b_M_sign_231 hI_752 hF_754 ⟨_, rfl, fun k h => by rw [← ie]; exact hk k h⟩
              · rw [t_eq] at c_772; try rw [t_0] at c_772
                refine cT_go (b_M_sign_185 s0 (by rw [t_in]; omega)) ?_
                have t_787 : 0 ≤ (f_751 (a0 + 19) x5.toNatClampNeg).toInt ∧ (f_751 (a0 + 19) x5.toNatClampNeg).toInt ≤ 112 := (cI_at hI_752 x5.toNatClampNeg (sc_7_28 s0)).2.2.2.2.2.1 (by omega)
                exact cT_ret b_M_sign_231 hI_752 hF_754 ⟨_, rfl, fun k h => by rw [← ie]; exact hk k h⟩
            · rw [t_eq] at c_771; try rw [t_0] at c_771
              refine cT_go b_M_sign_172 ?_
              refine cT_if b_M_sign_177 (fun c_788 => ?_) (fun c_788 => ?_)
              · rw [t_eq] at c_788; try rw [t_0] at c_788
                refine cT_if b_M_sign_195 (fun c_789 => ?_) (fun c_789 => ?_)
                · rw [t_eq] at c_789; try rw [t_0] at c_789
                  have t_792 : (nI 112).toInt = 112 := nI_toInt (by decide)
                  first | have t_791 : (((nI 112)) * x5).toInt = 112 * (x5).toInt := t_mulc (by decide) (by omega) | (obtain ⟨kt_791, t_791⟩ := t_mul ((nI 112)) x5; rw [nI_toInt (show 112 < 2 ^ 31 by decide)] at t_791)
                  have t_793 : (nI 0).toInt = 0 := nI_toInt (by decide)
                  first | have t_790 : ((((nI 112) * x5)) + ((nI 0))).toInt = ((((nI 112) * x5))).toInt + (((nI 0))).toInt := t_addn (by omega) | obtain ⟨kt_790, t_790⟩ := t_add (((nI 112) * x5)) ((nI 0))
                  refine cT_go (b_M_sign_200 s0 (by rw [t_in]; omega)) ?_
                  have t_794 := t_rng (f_751 (a0 + 21) (((nI 112) * x5) + (nI 0)).toNatClampNeg)
                  exact cT_ret b_M_sign_231 hI_752 hF_754 ⟨_, rfl, fun k h => by rw [← ie]; exact hk k h⟩
                · rw [t_eq] at c_789; try rw [t_0] at c_789
                  have j1 := jl (((nI 112) * x5) + (nI 0)).toNatClampNeg
                  have j2 : (f_751 (a0 + 20) (((nI 112) * x5) + (nI 0)).toNatClampNeg).toInt = (f (a0 + 20) (((nI 112) * x5) + (nI 0)).toNatClampNeg).toInt := by rw [r20]
                  have t_797 : (nI 112).toInt = 112 := nI_toInt (by decide)
                  first | have t_796 : (((nI 112)) * x5).toInt = 112 * (x5).toInt := t_mulc (by decide) (by omega) | (obtain ⟨kt_796, t_796⟩ := t_mul ((nI 112)) x5; rw [nI_toInt (show 112 < 2 ^ 31 by decide)] at t_796)
                  have t_798 : (nI 0).toInt = 0 := nI_toInt (by decide)
                  first | have t_795 : ((((nI 112) * x5)) + ((nI 0))).toInt = ((((nI 112) * x5))).toInt + (((nI 0))).toInt := t_addn (by omega) | obtain ⟨kt_795, t_795⟩ := t_add (((nI 112) * x5)) ((nI 0))
                  have t_802 : (nI 240).toInt = 240 := nI_toInt (by decide)
                  first | have t_801 : (((nI 240)) * x5).toInt = 240 * (x5).toInt := t_mulc (by decide) (by omega) | (obtain ⟨kt_801, t_801⟩ := t_mul ((nI 240)) x5; rw [nI_toInt (show 240 < 2 ^ 31 by decide)] at t_801)
                  have t_803 := t_rng (f_751 (a0 + 20) (((nI 112) * x5) + (nI 0)).toNatClampNeg)
                  first | have t_800 : ((((nI 240) * x5)) + ((f_751 (a0 + 20) (((nI 112) * x5) + (nI 0)).toNatClampNeg))).toInt = ((((nI 240) * x5))).toInt + (((f_751 (a0 + 20) (((nI 112) * x5) + (nI 0)).toNatClampNeg))).toInt := t_addn (by omega) | obtain ⟨kt_800, t_800⟩ := t_add (((nI 240) * x5)) ((f_751 (a0 + 20) (((nI 112) * x5) + (nI 0)).toNatClampNeg))
                  first | have t_799 : (((((nI 240) * x5) + (f_751 (a0 + 20) (((nI 112) * x5) + (nI 0)).toNatClampNeg))) + x3).toInt = (((((nI 240) * x5) + (f_751 (a0 + 20) (((nI 112) * x5) + (nI 0)).toNatClampNeg)))).toInt + (x3).toInt := t_addn (by omega) | obtain ⟨kt_799, t_799⟩ := t_add ((((nI 240) * x5) + (f_751 (a0 + 20) (((nI 112) * x5) + (nI 0)).toNatClampNeg))) x3
                  refine cT_go (b_M_sign_210 s0 (by rw [t_in]; omega) (by rw [t_in]; omega)) ?_
                  have t_804 := t_rng (f_751 (a0 + 22) ((((nI 240) * x5) + (f_751 (a0 + 20) (((nI 112) * x5) + (nI 0)).toNatClampNeg)) + x3).toNatClampNeg)
                  exact cT_ret b_M_sign_231 hI_752 hF_754 ⟨_, rfl, fun k h => by rw [← ie]; exact hk k h⟩
              · rw [t_eq] at c_788; try rw [t_0] at c_788
                refine cT_go (b_M_sign_185 s0 (by rw [t_in]; omega)) ?_
                have t_805 : 0 ≤ (f_751 (a0 + 19) x5.toNatClampNeg).toInt ∧ (f_751 (a0 + 19) x5.toNatClampNeg).toInt ≤ 112 := (cI_at hI_752 x5.toNatClampNeg (sc_7_28 s0)).2.2.2.2.2.1 (by omega)
                exact cT_ret b_M_sign_231 hI_752 hF_754 ⟨_, rfl, fun k h => by rw [← ie]; exact hk k h⟩
      · rw [t_eq] at c_690; try rw [t_0] at c_690
        refine cT_if b_M_sign_126 (fun c_806 => ?_) (fun c_806 => ?_)
        · rw [t_eq] at c_806; try rw [t_0] at c_806
          have t_808 : (nI 1).toInt = 1 := nI_toInt (by decide)
          refine cT_if b_M_sign_131 (fun c_807 => ?_) (fun c_807 => ?_)
          · rw [t_eq] at c_807; try rw [t_0] at c_807
            refine cT_go b_M_sign_140 ?_
            refine cT_if (b_M_sign_141 s0) (fun c_809 => ?_) (fun c_809 => ?_)
            · rw [t_eq] at c_809; try rw [t_0] at c_809
              refine cT_go b_M_sign_153 ?_
              have t_810 : (nI 0).toInt = 0 := nI_toInt (by decide)
              refine cT_call (b_M_sign_154 s0) (c_M_goes hI s0) hF (fun o ho => by omega) (fun v_811 f_812 hI_813 hG_814 hF_815 hQ_816 => ?_)
              obtain ⟨y_817, rfl, hb_818, hQ_816⟩ := hQ_816
              have hb_818r := t_b01 hb_818
              have t_819 : 3 ≤ (f a0 1).toInt ∧ (f a0 1).toInt ≤ 30 := (cI_at hI 1 s0).2.1 rfl
              have t_820 : 0 ≤ (f a0 3).toInt ∧ (f a0 3).toInt ≤ 32 := (cI_at hI 3 s0).2.2.2.1 rfl
              have t_821 : 0 ≤ (f a0 5).toInt ∧ (f a0 5).toInt ≤ 6 := (cI_at hI 5 s0).2.2.2.2.1 rfl
              have t_822 : 0 ≤ (f a0 8).toInt ∧ (f a0 8).toInt ≤ 8 := (cI_at hI 8 s0).2.2.2.2.2.1 rfl
              have t_823 : 0 ≤ (f a0 14).toInt ∧ (f a0 14).toInt ≤ 26 := (cI_at hI 14 s0).2.2.2.2.2.2.1 rfl
              have g_824 : (f_812 a0 1).toInt = (f a0 1).toInt := congrArg Int32.toInt (hQ_816.2.2.2.2 1 (by decide))
              have g_825 : (f_812 a0 3).toInt = (f a0 3).toInt := congrArg Int32.toInt (hQ_816.2.2.2.2 3 (by decide))
              have g_826 : (f_812 a0 5).toInt = (f a0 5).toInt := congrArg Int32.toInt (hQ_816.2.2.2.2 5 (by decide))
              have g_827 : (f_812 a0 8).toInt = (f a0 8).toInt := congrArg Int32.toInt (hQ_816.2.2.2.2 8 (by decide))
              have g_828 : (f_812 a0 14).toInt = (f a0 14).toInt := congrArg Int32.toInt (hQ_816.2.2.2.2 14 (by decide))
              have g_829 : (f_812 a0 23).toInt = (f a0 23).toInt := congrArg Int32.toInt (hQ_816.2.2.2.2 23 (by decide))
              have hk : ∀ k, k ≠ 2 → f_812 a0 k = f a0 k := hQ_816.2.2.2.2
              have r20 : f_812 (a0 + 20) = f (a0 + 20) := hG_814 (a0 + 20) (by omega)
              show cT 121 157 [.ref a0, .int x1, .int x2, .int x3, .int x4, .int x5, .int x6, .int (nI 1), u8] [.int y_817] _ _ _ _ _ _
              refine cT_if b_M_sign_157 (fun c_830 => ?_) (fun c_830 => ?_)
              · rw [t_eq] at c_830; try rw [t_0] at c_830
                exact cT_ret b_M_sign_160 hI_813 hF_815 ⟨_, rfl, fun k h => by rw [← ie]; exact hk k h⟩
              · rw [t_eq] at c_830; try rw [t_0] at c_830
                refine cT_if b_M_sign_162 (fun c_831 => ?_) (fun c_831 => ?_)
                · rw [t_eq] at c_831; try rw [t_0] at c_831
                  refine cT_go b_M_sign_176 ?_
                  refine cT_if b_M_sign_177 (fun c_832 => ?_) (fun c_832 => ?_)
                  · rw [t_eq] at c_832; try rw [t_0] at c_832
                    refine cT_if b_M_sign_195 (fun c_833 => ?_) (fun c_833 => ?_)
                    · rw [t_eq] at c_833; try rw [t_0] at c_833
                      have t_836 : (nI 112).toInt = 112 := nI_toInt (by decide)
                      first | have t_835 : (((nI 112)) * x5).toInt = 112 * (x5).toInt := t_mulc (by decide) (by omega) | (obtain ⟨kt_835, t_835⟩ := t_mul ((nI 112)) x5; rw [nI_toInt (show 112 < 2 ^ 31 by decide)] at t_835)
                      first | have t_834 : ((((nI 112) * x5)) + x2).toInt = ((((nI 112) * x5))).toInt + (x2).toInt := t_addn (by omega) | obtain ⟨kt_834, t_834⟩ := t_add (((nI 112) * x5)) x2
                      refine cT_go (b_M_sign_200 s0 (by rw [t_in]; omega)) ?_
                      have t_837 := t_rng (f_812 (a0 + 21) (((nI 112) * x5) + x2).toNatClampNeg)
                      exact cT_ret b_M_sign_231 hI_813 hF_815 ⟨_, rfl, fun k h => by rw [← ie]; exact hk k h⟩
                    · rw [t_eq] at c_833; try rw [t_0] at c_833
                      have j1 := jl (((nI 112) * x5) + x2).toNatClampNeg
                      have j2 : (f_812 (a0 + 20) (((nI 112) * x5) + x2).toNatClampNeg).toInt = (f (a0 + 20) (((nI 112) * x5) + x2).toNatClampNeg).toInt := by rw [r20]
                      have t_840 : (nI 112).toInt = 112 := nI_toInt (by decide)
                      first | have t_839 : (((nI 112)) * x5).toInt = 112 * (x5).toInt := t_mulc (by decide) (by omega) | (obtain ⟨kt_839, t_839⟩ := t_mul ((nI 112)) x5; rw [nI_toInt (show 112 < 2 ^ 31 by decide)] at t_839)
                      first | have t_838 : ((((nI 112) * x5)) + x2).toInt = ((((nI 112) * x5))).toInt + (x2).toInt := t_addn (by omega) | obtain ⟨kt_838, t_838⟩ := t_add (((nI 112) * x5)) x2
                      have t_844 : (nI 240).toInt = 240 := nI_toInt (by decide)
                      first | have t_843 : (((nI 240)) * x5).toInt = 240 * (x5).toInt := t_mulc (by decide) (by omega) | (obtain ⟨kt_843, t_843⟩ := t_mul ((nI 240)) x5; rw [nI_toInt (show 240 < 2 ^ 31 by decide)] at t_843)
                      have t_845 := t_rng (f_812 (a0 + 20) (((nI 112) * x5) + x2).toNatClampNeg)
                      first | have t_842 : ((((nI 240) * x5)) + ((f_812 (a0 + 20) (((nI 112) * x5) + x2).toNatClampNeg))).toInt = ((((nI 240) * x5))).toInt + (((f_812 (a0 + 20) (((nI 112) * x5) + x2).toNatClampNeg))).toInt := t_addn (by omega) | obtain ⟨kt_842, t_842⟩ := t_add (((nI 240) * x5)) ((f_812 (a0 + 20) (((nI 112) * x5) + x2).toNatClampNeg))
                      first | have t_841 : (((((nI 240) * x5) + (f_812 (a0 + 20) (((nI 112) * x5) + x2).toNatClampNeg))) + x3).toInt = (((((nI 240) * x5) + (f_812 (a0 + 20) (((nI 112) * x5) + x2).toNatClampNeg)))).toInt + (x3).toInt := t_addn (by omega) | obtain ⟨kt_841, t_841⟩ := t_add ((((nI 240) * x5) + (f_812 (a0 + 20) (((nI 112) * x5) + x2).toNatClampNeg))) x3
                      refine cT_go (b_M_sign_210 s0 (by rw [t_in]; omega) (by rw [t_in]; omega)) ?_
                      have t_846 := t_rng (f_812 (a0 + 22) ((((nI 240) * x5) + (f_812 (a0 + 20) (((nI 112) * x5) + x2).toNatClampNeg)) + x3).toNatClampNeg)
                      exact cT_ret b_M_sign_231 hI_813 hF_815 ⟨_, rfl, fun k h => by rw [← ie]; exact hk k h⟩
                  · rw [t_eq] at c_832; try rw [t_0] at c_832
                    refine cT_go (b_M_sign_185 s0 (by rw [t_in]; omega)) ?_
                    have t_847 : 0 ≤ (f_812 (a0 + 19) x5.toNatClampNeg).toInt ∧ (f_812 (a0 + 19) x5.toNatClampNeg).toInt ≤ 112 := (cI_at hI_813 x5.toNatClampNeg (sc_7_28 s0)).2.2.2.2.2.1 (by omega)
                    exact cT_ret b_M_sign_231 hI_813 hF_815 ⟨_, rfl, fun k h => by rw [← ie]; exact hk k h⟩
                · rw [t_eq] at c_831; try rw [t_0] at c_831
                  refine cT_go b_M_sign_172 ?_
                  refine cT_if b_M_sign_177 (fun c_848 => ?_) (fun c_848 => ?_)
                  · rw [t_eq] at c_848; try rw [t_0] at c_848
                    refine cT_if b_M_sign_195 (fun c_849 => ?_) (fun c_849 => ?_)
                    · rw [t_eq] at c_849; try rw [t_0] at c_849
                      have t_852 : (nI 112).toInt = 112 := nI_toInt (by decide)
                      first | have t_851 : (((nI 112)) * x5).toInt = 112 * (x5).toInt := t_mulc (by decide) (by omega) | (obtain ⟨kt_851, t_851⟩ := t_mul ((nI 112)) x5; rw [nI_toInt (show 112 < 2 ^ 31 by decide)] at t_851)
                      first | have t_850 : ((((nI 112) * x5)) + ((nI 0))).toInt = ((((nI 112) * x5))).toInt + (((nI 0))).toInt := t_addn (by omega) | obtain ⟨kt_850, t_850⟩ := t_add (((nI 112) * x5)) ((nI 0))
                      refine cT_go (b_M_sign_200 s0 (by rw [t_in]; omega)) ?_
                      have t_853 := t_rng (f_812 (a0 + 21) (((nI 112) * x5) + (nI 0)).toNatClampNeg)
                      exact cT_ret b_M_sign_231 hI_813 hF_815 ⟨_, rfl, fun k h => by rw [← ie]; exact hk k h⟩
                    · rw [t_eq] at c_849; try rw [t_0] at c_849
                      have j1 := jl (((nI 112) * x5) + (nI 0)).toNatClampNeg
                      have j2 : (f_812 (a0 + 20) (((nI 112) * x5) + (nI 0)).toNatClampNeg).toInt = (f (a0 + 20) (((nI 112) * x5) + (nI 0)).toNatClampNeg).toInt := by rw [r20]
                      have t_856 : (nI 112).toInt = 112 := nI_toInt (by decide)
                      first | have t_855 : (((nI 112)) * x5).toInt = 112 * (x5).toInt := t_mulc (by decide) (by omega) | (obtain ⟨kt_855, t_855⟩ := t_mul ((nI 112)) x5; rw [nI_toInt (show 112 < 2 ^ 31 by decide)] at t_855)
                      first | have t_854 : ((((nI 112) * x5)) + ((nI 0))).toInt = ((((nI 112) * x5))).toInt + (((nI 0))).toInt := t_addn (by omega) | obtain ⟨kt_854, t_854⟩ := t_add (((nI 112) * x5)) ((nI 0))
                      have t_860 : (nI 240).toInt = 240 := nI_toInt (by decide)
                      first | have t_859 : (((nI 240)) * x5).toInt = 240 * (x5).toInt := t_mulc (by decide) (by omega) | (obtain ⟨kt_859, t_859⟩ := t_mul ((nI 240)) x5; rw [nI_toInt (show 240 < 2 ^ 31 by decide)] at t_859)
                      have t_861 := t_rng (f_812 (a0 + 20) (((nI 112) * x5) + (nI 0)).toNatClampNeg)
                      first | have t_858 : ((((nI 240) * x5)) + ((f_812 (a0 + 20) (((nI 112) * x5) + (nI 0)).toNatClampNeg))).toInt = ((((nI 240) * x5))).toInt + (((f_812 (a0 + 20) (((nI 112) * x5) + (nI 0)).toNatClampNeg))).toInt := t_addn (by omega) | obtain ⟨kt_858, t_858⟩ := t_add (((nI 240) * x5)) ((f_812 (a0 + 20) (((nI 112) * x5) + (nI 0)).toNatClampNeg))
                      first | have t_857 : (((((nI 240) * x5) + (f_812 (a0 + 20) (((nI 112) * x5) + (nI 0)).toNatClampNeg))) + x3).toInt = (((((nI 240) * x5) + (f_812 (a0 + 20) (((nI 112) * x5) + (nI 0)).toNatClampNeg)))).toInt + (x3).toInt := t_addn (by omega) | obtain ⟨kt_857, t_857⟩ := t_add ((((nI 240) * x5) + (f_812 (a0 + 20) (((nI 112) * x5) + (nI 0)).toNatClampNeg))) x3
                      refine cT_go (b_M_sign_210 s0 (by rw [t_in]; omega) (by rw [t_in]; omega)) ?_
                      have t_862 := t_rng (f_812 (a0 + 22) ((((nI 240) * x5) + (f_812 (a0 + 20) (((nI 112) * x5) + (nI 0)).toNatClampNeg)) + x3).toNatClampNeg)
                      exact cT_ret b_M_sign_231 hI_813 hF_815 ⟨_, rfl, fun k h => by rw [← ie]; exact hk k h⟩
                  · rw [t_eq] at c_848; try rw [t_0] at c_848
                    refine cT_go (b_M_sign_185 s0 (by rw [t_in]; omega)) ?_
                    have t_863 : 0 ≤ (f_812 (a0 + 19) x5.toNatClampNeg).toInt ∧ (f_812 (a0 + 19) x5.toNatClampNeg).toInt ≤ 112 := (cI_at hI_813 x5.toNatClampNeg (sc_7_28 s0)).2.2.2.2.2.1 (by omega)
                    exact cT_ret b_M_sign_231 hI_813 hF_815 ⟨_, rfl, fun k h => by rw [← ie]; exact hk k h⟩
            · rw [t_eq] at c_809; try rw [t_0] at c_809
              refine cT_go b_M_sign_149 ?_
              have t_864 : (nI 0).toInt = 0 := nI_toInt (by decide)
              refine cT_call (b_M_sign_154 s0) (c_M_goes hI s0) hF (fun o ho => by omega) (fun v_865 f_866 hI_867 hG_868 hF_869 hQ_870 => ?_)
              obtain ⟨y_871, rfl, hb_872, hQ_870⟩ := hQ_870
              have hb_872r := t_b01 hb_872
              have t_873 : 3 ≤ (f a0 1).toInt ∧ (f a0 1).toInt ≤ 30 := (cI_at hI 1 s0).2.1 rfl
              have t_874 : 0 ≤ (f a0 3).toInt ∧ (f a0 3).toInt ≤ 32 := (cI_at hI 3 s0).2.2.2.1 rfl
              have t_875 : 0 ≤ (f a0 5).toInt ∧ (f a0 5).toInt ≤ 6 := (cI_at hI 5 s0).2.2.2.2.1 rfl
              have t_876 : 0 ≤ (f a0 8).toInt ∧ (f a0 8).toInt ≤ 8 := (cI_at hI 8 s0).2.2.2.2.2.1 rfl
              have t_877 : 0 ≤ (f a0 14).toInt ∧ (f a0 14).toInt ≤ 26 := (cI_at hI 14 s0).2.2.2.2.2.2.1 rfl
              have g_878 : (f_866 a0 1).toInt = (f a0 1).toInt := congrArg Int32.toInt (hQ_870.2.2.2.2 1 (by decide))
              have g_879 : (f_866 a0 3).toInt = (f a0 3).toInt := congrArg Int32.toInt (hQ_870.2.2.2.2 3 (by decide))
              have g_880 : (f_866 a0 5).toInt = (f a0 5).toInt := congrArg Int32.toInt (hQ_870.2.2.2.2 5 (by decide))
              have g_881 : (f_866 a0 8).toInt = (f a0 8).toInt := congrArg Int32.toInt (hQ_870.2.2.2.2 8 (by decide))
              have g_882 : (f_866 a0 14).toInt = (f a0 14).toInt := congrArg Int32.toInt (hQ_870.2.2.2.2 14 (by decide))
              have g_883 : (f_866 a0 23).toInt = (f a0 23).toInt := congrArg Int32.toInt (hQ_870.2.2.2.2 23 (by decide))
              have hk : ∀ k, k ≠ 2 → f_866 a0 k = f a0 k := hQ_870.2.2.2.2
              have r20 : f_866 (a0 + 20) = f (a0 + 20) := hG_868 (a0 + 20) (by omega)
              show cT 121 157 [.ref a0, .int x1, .int x2, .int x3, .int x4, .int x5, .int x6, .int (nI 1), u8] [.int y_871] _ _ _ _ _ _
              refine cT_if b_M_sign_157 (fun c_884 => ?_) (fun c_884 => ?_)
              · rw [t_eq] at c_884; try rw [t_0] at c_884
                exact cT_ret b_M_sign_160 hI_867 hF_869 ⟨_, rfl, fun k h => by rw [← ie]; exact hk k h⟩
              · rw [t_eq] at c_884; try rw [t_0] at c_884
                refine cT_if b_M_sign_162 (fun c_885 => ?_) (fun c_885 => ?_)
                · rw [t_eq] at c_885; try rw [t_0] at c_885
                  refine cT_go b_M_sign_176 ?_
                  refine cT_if b_M_sign_177 (fun c_886 => ?_) (fun c_886 => ?_)
                  · rw [t_eq] at c_886; try rw [t_0] at c_886
                    refine cT_if b_M_sign_195 (fun c_887 => ?_) (fun c_887 => ?_)
                    · rw [t_eq] at c_887; try rw [t_0] at c_887
                      have t_890 : (nI 112).toInt = 112 := nI_toInt (by decide)
                      first | have t_889 : (((nI 112)) * x5).toInt = 112 * (x5).toInt := t_mulc (by decide) (by omega) | (obtain ⟨kt_889, t_889⟩ := t_mul ((nI 112)) x5; rw [nI_toInt (show 112 < 2 ^ 31 by decide)] at t_889)
                      first | have t_888 : ((((nI 112) * x5)) + x2).toInt = ((((nI 112) * x5))).toInt + (x2).toInt := t_addn (by omega) | obtain ⟨kt_888, t_888⟩ := t_add (((nI 112) * x5)) x2
                      refine cT_go (b_M_sign_200 s0 (by rw [t_in]; omega)) ?_
                      have t_891 := t_rng (f_866 (a0 + 21) (((nI 112) * x5) + x2).toNatClampNeg)
                      exact cT_ret b_M_sign_231 hI_867 hF_869 ⟨_, rfl, fun k h => by rw [← ie]; exact hk k h⟩
                    · rw [t_eq] at c_887; try rw [t_0] at c_887
                      have j1 := jl (((nI 112) * x5) + x2).toNatClampNeg
                      have j2 : (f_866 (a0 + 20) (((nI 112) * x5) + x2).toNatClampNeg).toInt = (f (a0 + 20) (((nI 112) * x5) + x2).toNatClampNeg).toInt := by rw [r20]
                      have t_894 : (nI 112).toInt = 112 := nI_toInt (by decide)
                      first | have t_893 : (((nI 112)) * x5).toInt = 112 * (x5).toInt := t_mulc (by decide) (by omega) | (obtain ⟨kt_893, t_893⟩ := t_mul ((nI 112)) x5; rw [nI_toInt (show 112 < 2 ^ 31 by decide)] at t_893)
                      first | have t_892 : ((((nI 112) * x5)) + x2).toInt = ((((nI 112) * x5))).toInt + (x2).toInt := t_addn (by omega) | obtain ⟨kt_892, t_892⟩ := t_add (((nI 112) * x5)) x2
                      have t_898 : (nI 240).toInt = 240 := nI_toInt (by decide)
                      first | have t_897 : (((nI 240)) * x5).toInt = 240 * (x5).toInt := t_mulc (by decide) (by omega) | (obtain ⟨kt_897, t_897⟩ := t_mul ((nI 240)) x5; rw [nI_toInt (show 240 < 2 ^ 31 by decide)] at t_897)
                      have t_899 := t_rng (f_866 (a0 + 20) (((nI 112) * x5) + x2).toNatClampNeg)
                      first | have t_896 : ((((nI 240) * x5)) + ((f_866 (a0 + 20) (((nI 112) * x5) + x2).toNatClampNeg))).toInt = ((((nI 240) * x5))).toInt + (((f_866 (a0 + 20) (((nI 112) * x5) + x2).toNatClampNeg))).toInt := t_addn (by omega) | obtain ⟨kt_896, t_896⟩ := t_add (((nI 240) * x5)) ((f_866 (a0 + 20) (((nI 112) * x5) + x2).toNatClampNeg))
                      first | have t_895 : (((((nI 240) * x5) + (f_866 (a0 + 20) (((nI 112) * x5) + x2).toNatClampNeg))) + x3).toInt = (((((nI 240) * x5) + (f_866 (a0 + 20) (((nI 112) * x5) + x2).toNatClampNeg)))).toInt + (x3).toInt := t_addn (by omega) | obtain ⟨kt_895, t_895⟩ := t_add ((((nI 240) * x5) + (f_866 (a0 + 20) (((nI 112) * x5) + x2).toNatClampNeg))) x3
                      refine cT_go (b_M_sign_210 s0 (by rw [t_in]; omega) (by rw [t_in]; omega)) ?_
                      have t_900 := t_rng (f_866 (a0 + 22) ((((nI 240) * x5) + (f_866 (a0 + 20) (((nI 112) * x5) + x2).toNatClampNeg)) + x3).toNatClampNeg)
                      exact cT_ret b_M_sign_231 hI_867 hF_869 ⟨_, rfl, fun k h => by rw [← ie]; exact hk k h⟩
                  · rw [t_eq] at c_886; try rw [t_0] at c_886
                    refine cT_go (b_M_sign_185 s0 (by rw [t_in]; omega)) ?_
                    have t_901 : 0 ≤ (f_866 (a0 + 19) x5.toNatClampNeg).toInt ∧ (f_866 (a0 + 19) x5.toNatClampNeg).toInt ≤ 112 := (cI_at hI_867 x5.toNatClampNeg (sc_7_28 s0)).2.2.2.2.2.1 (by omega)
                    exact cT_ret b_M_sign_231 hI_867 hF_869 ⟨_, rfl, fun k h => by rw [← ie]; exact hk k h⟩
                · rw [t_eq] at c_885; try rw [t_0] at c_885
                  refine cT_go b_M_sign_172 ?_
                  refine cT_if b_M_sign_177 (fun c_902 => ?_) (fun c_902 => ?_)
                  · rw [t_eq] at c_902; try rw [t_0] at c_902
                    refine cT_if b_M_sign_195 (fun c_903 => ?_) (fun c_903 => ?_)
                    · rw [t_eq] at c_903; try rw [t_0] at c_903
                      have t_906 : (nI 112).toInt = 112 := nI_toInt (by decide)
                      first | have t_905 : (((nI 112)) * x5).toInt = 112 * (x5).toInt := t_mulc (by decide) (by omega) | (obtain ⟨kt_905, t_905⟩ := t_mul ((nI 112)) x5; rw [nI_toInt (show 112 < 2 ^ 31 by decide)] at t_905)
                      first | have t_904 : ((((nI 112) * x5)) + ((nI 0))).toInt = ((((nI 112) * x5))).toInt + (((nI 0))).toInt := t_addn (by omega) | obtain ⟨kt_904, t_904⟩ := t_add (((nI 112) * x5)) ((nI 0))
                      refine cT_go (b_M_sign_200 s0 (by rw [t_in]; omega)) ?_
                      have t_907 := t_rng (f_866 (a0 + 21) (((nI 112) * x5) + (nI 0)).toNatClampNeg)
                      exact cT_ret b_M_sign_231 hI_867 hF_869 ⟨_, rfl, fun k h => by rw [← ie]; exact hk k h⟩
                    · rw [t_eq] at c_903; try rw [t_0] at c_903
                      have j1 := jl (((nI 112) * x5) + (nI 0)).toNatClampNeg
                      have j2 : (f_866 (a0 + 20) (((nI 112) * x5) + (nI 0)).toNatClampNeg).toInt = (f (a0 + 20) (((nI 112) * x5) + (nI 0)).toNatClampNeg).toInt := by rw [r20]
                      have t_910 : (nI 112).toInt = 112 := nI_toInt (by decide)
                      first | have t_909 : (((nI 112)) * x5).toInt = 112 * (x5).toInt := t_mulc (by decide) (by omega) | (obtain ⟨kt_909, t_909⟩ := t_mul ((nI 112)) x5; rw [nI_toInt (show 112 < 2 ^ 31 by decide)] at t_909)
                      first | have t_908 : ((((nI 112) * x5)) + ((nI 0))).toInt = ((((nI 112) * x5))).toInt + (((nI 0))).toInt := t_addn (by omega) | obtain ⟨kt_908, t_908⟩ := t_add (((nI 112) * x5)) ((nI 0))
                      have t_914 : (nI 240).toInt = 240 := nI_toInt (by decide)
                      first | have t_913 : (((nI 240)) * x5).toInt = 240 * (x5).toInt := t_mulc (by decide) (by omega) | (obtain ⟨kt_913, t_913⟩ := t_mul ((nI 240)) x5; rw [nI_toInt (show 240 < 2 ^ 31 by decide)] at t_913)
                      have t_915 := t_rng (f_866 (a0 + 20) (((nI 112) * x5) + (nI 0)).toNatClampNeg)
                      first | have t_912 : ((((nI 240) * x5)) + ((f_866 (a0 + 20) (((nI 112) * x5) + (nI 0)).toNatClampNeg))).toInt = ((((nI 240) * x5))).toInt + (((f_866 (a0 + 20) (((nI 112) * x5) + (nI 0)).toNatClampNeg))).toInt := t_addn (by omega) | obtain ⟨kt_912, t_912⟩ := t_add (((nI 240) * x5)) ((f_866 (a0 + 20) (((nI 112) * x5) + (nI 0)).toNatClampNeg))
                      first | have t_911 : (((((nI 240) * x5) + (f_866 (a0 + 20) (((nI 112) * x5) + (nI 0)).toNatClampNeg))) + x3).toInt = (((((nI 240) * x5) + (f_866 (a0 + 20) (((nI 112) * x5) + (nI 0)).toNatClampNeg)))).toInt + (x3).toInt := t_addn (by omega) | obtain ⟨kt_911, t_911⟩ := t_add ((((nI 240) * x5) + (f_866 (a0 + 20) (((nI 112) * x5) + (nI 0)).toNatClampNeg))) x3
                      refine cT_go (b_M_sign_210 s0 (by rw [t_in]; omega) (by rw [t_in]; omega)) ?_
                      have t_916 := t_rng (f_866 (a0 + 22) ((((nI 240) * x5) + (f_866 (a0 + 20) (((nI 112) * x5) + (nI 0)).toNatClampNeg)) + x3).toNatClampNeg)
                      exact cT_ret b_M_sign_231 hI_867 hF_869 ⟨_, rfl, fun k h => by rw [← ie]; exact hk k h⟩
                  · rw [t_eq] at c_902; try rw [t_0] at c_902
                    refine cT_go (b_M_sign_185 s0 (by rw [t_in]; omega)) ?_
                    have t_917 : 0 ≤ (f_866 (a0 + 19) x5.toNatClampNeg).toInt ∧ (f_866 (a0 + 19) x5.toNatClampNeg).toInt ≤ 112 := (cI_at hI_867 x5.toNatClampNeg (sc_7_28 s0)).2.2.2.2.2.1 (by omega)
                    exact cT_ret b_M_sign_231 hI_867 hF_869 ⟨_, rfl, fun k h => by rw [← ie]; exact hk k h⟩
          · rw [t_eq] at c_807; try rw [t_0] at c_807
            refine cT_go b_M_sign_136 ?_
            refine cT_if (b_M_sign_141 s0) (fun c_918 => ?_) (fun c_918 => ?_)
            · rw [t_eq] at c_918; try rw [t_0] at c_918
              refine cT_go b_M_sign_153 ?_
              have t_919 : (nI 0).toInt = 0 := nI_toInt (by decide)
              refine cT_call (b_M_sign_154 s0) (c_M_goes hI s0) hF (fun o ho => by omega) (fun v_920 f_921 hI_922 hG_923 hF_924 hQ_925 => ?_)
              obtain ⟨y_926, rfl, hb_927, hQ_925⟩ := hQ_925
              have hb_927r := t_b01 hb_927
              have t_928 : 3 ≤ (f a0 1).toInt ∧ (f a0 1).toInt ≤ 30 := (cI_at hI 1 s0).2.1 rfl
              have t_929 : 0 ≤ (f a0 3).toInt ∧ (f a0 3).toInt ≤ 32 := (cI_at hI 3 s0).2.2.2.1 rfl
              have t_930 : 0 ≤ (f a0 5).toInt ∧ (f a0 5).toInt ≤ 6 := (cI_at hI 5 s0).2.2.2.2.1 rfl
              have t_931 : 0 ≤ (f a0 8).toInt ∧ (f a0 8).toInt ≤ 8 := (cI_at hI 8 s0).2.2.2.2.2.1 rfl
              have t_932 : 0 ≤ (f a0 14).toInt ∧ (f a0 14).toInt ≤ 26 := (cI_at hI 14 s0).2.2.2.2.2.2.1 rfl
              have g_933 : (f_921 a0 1).toInt = (f a0 1).toInt := congrArg Int32.toInt (hQ_925.2.2.2.2 1 (by decide))
              have g_934 : (f_921 a0 3).toInt = (f a0 3).toInt := congrArg Int32.toInt (hQ_925.2.2.2.2 3 (by decide))
              have g_935 : (f_921 a0 5).toInt = (f a0 5).toInt := congrArg Int32.toInt (hQ_925.2.2.2.2 5 (by decide))
              have g_936 : (f_921 a0 8).toInt = (f a0 8).toInt := congrArg Int32.toInt (hQ_925.2.2.2.2 8 (by decide))
              have g_937 : (f_921 a0 14).toInt = (f a0 14).toInt := congrArg Int32.toInt (hQ_925.2.2.2.2 14 (by decide))
              have g_938 : (f_921 a0 23).toInt = (f a0 23).toInt := congrArg Int32.toInt (hQ_925.2.2.2.2 23 (by decide))
              have hk : ∀ k, k ≠ 2 → f_921 a0 k = f a0 k := hQ_925.2.2.2.2
              have r20 : f_921 (a0 + 20) = f (a0 + 20) := hG_923 (a0 + 20) (by omega)
              show cT 121 157 [.ref a0, .int x1, .int x2, .int x3, .int x4, .int x5, .int x6, .int (nI 1), u8] [.int y_926] _ _ _ _ _ _
              refine cT_if b_M_sign_157 (fun c_939 => ?_) (fun c_939 => ?_)
              · rw [t_eq] at c_939; try rw [t_0] at c_939
                exact cT_ret b_M_sign_160 hI_922 hF_924 ⟨_, rfl, fun k h => by rw [← ie]; exact hk k h⟩
              · rw [t_eq] at c_939; try rw [t_0] at c_939
                refine cT_if b_M_sign_162 (fun c_940 => ?_) (fun c_940 => ?_)
                · rw [t_eq] at c_940; try rw [t_0] at c_940
                  refine cT_go b_M_sign_176 ?_
                  refine cT_if b_M_sign_177 (fun c_941 => ?_) (fun c_941 => ?_)
                  · rw [t_eq] at c_941; try rw [t_0] at c_941
                    refine cT_if b_M_sign_195 (fun c_942 => ?_) (fun c_942 => ?_)
                    · rw [t_eq] at c_942; try rw [t_0] at c_942
                      have t_945 : (nI 112).toInt = 112 := nI_toInt (by decide)
                      first | have t_944 : (((nI 112)) * x5).toInt = 112 * (x5).toInt := t_mulc (by decide) (by omega) | (obtain ⟨kt_944, t_944⟩ := t_mul ((nI 112)) x5; rw [nI_toInt (show 112 < 2 ^ 31 by decide)] at t_944)
                      first | have t_943 : ((((nI 112) * x5)) + x2).toInt = ((((nI 112) * x5))).toInt + (x2).toInt := t_addn (by omega) | obtain ⟨kt_943, t_943⟩ := t_add (((nI 112) * x5)) x2
                      refine cT_go (b_M_sign_200 s0 (by rw [t_in]; omega)) ?_
                      have t_946 := t_rng (f_921 (a0 + 21) (((nI 112) * x5) + x2).toNatClampNeg)
                      exact cT_ret b_M_sign_231 hI_922 hF_924 ⟨_, rfl, fun k h => by rw [← ie]; exact hk k h⟩
                    · rw [t_eq] at c_942; try rw [t_0] at c_942
                      have j1 := jl (((nI 112) * x5) + x2).toNatClampNeg
                      have j2 : (f_921 (a0 + 20) (((nI 112) * x5) + x2).toNatClampNeg).toInt = (f (a0 + 20) (((nI 112) * x5) + x2).toNatClampNeg).toInt := by rw [r20]
                      have t_949 : (nI 112).toInt = 112 := nI_toInt (by decide)
                      first | have t_948 : (((nI 112)) * x5).toInt = 112 * (x5).toInt := t_mulc (by decide) (by omega) | (obtain ⟨kt_948, t_948⟩ := t_mul ((nI 112)) x5; rw [nI_toInt (show 112 < 2 ^ 31 by decide)] at t_948)
                      first | have t_947 : ((((nI 112) * x5)) + x2).toInt = ((((nI 112) * x5))).toInt + (x2).toInt := t_addn (by omega) | obtain ⟨kt_947, t_947⟩ := t_add (((nI 112) * x5)) x2
                      have t_953 : (nI 240).toInt = 240 := nI_toInt (by decide)
                      first | have t_952 : (((nI 240)) * x5).toInt = 240 * (x5).toInt := t_mulc (by decide) (by omega) | (obtain ⟨kt_952, t_952⟩ := t_mul ((nI 240)) x5; rw [nI_toInt (show 240 < 2 ^ 31 by decide)] at t_952)
                      have t_954 := t_rng (f_921 (a0 + 20) (((nI 112) * x5) + x2).toNatClampNeg)
                      first | have t_951 : ((((nI 240) * x5)) + ((f_921 (a0 + 20) (((nI 112) * x5) + x2).toNatClampNeg))).toInt = ((((nI 240) * x5))).toInt + (((f_921 (a0 + 20) (((nI 112) * x5) + x2).toNatClampNeg))).toInt := t_addn (by omega) | obtain ⟨kt_951, t_951⟩ := t_add (((nI 240) * x5)) ((f_921 (a0 + 20) (((nI 112) * x5) + x2).toNatClampNeg))
                      first | have t_950 : (((((nI 240) * x5) + (f_921 (a0 + 20) (((nI 112) * x5) + x2).toNatClampNeg))) + x3).toInt = (((((nI 240) * x5) + (f_921 (a0 + 20) (((nI 112) * x5) + x2).toNatClampNeg)))).toInt + (x3).toInt := t_addn (by omega) | obtain ⟨kt_950, t_950⟩ := t_add ((((nI 240) * x5) + (f_921 (a0 + 20) (((nI 112) * x5) + x2).toNatClampNeg))) x3
                      refine cT_go (b_M_sign_210 s0 (by rw [t_in]; omega) (by rw [t_in]; omega)) ?_
                      have t_955 := t_rng (f_921 (a0 + 22) ((((nI 240) * x5) + (f_921 (a0 + 20) (((nI 112) * x5) + x2).toNatClampNeg)) + x3).toNatClampNeg)
                      exact cT_ret b_M_sign_231 hI_922 hF_924 ⟨_, rfl, fun k h => by rw [← ie]; exact hk k h⟩
                  · rw [t_eq] at c_941; try rw [t_0] at c_941
                    refine cT_go (b_M_sign_185 s0 (by rw [t_in]; omega)) ?_
                    have t_956 : 0 ≤ (f_921 (a0 + 19) x5.toNatClampNeg).toInt ∧ (f_921 (a0 + 19) x5.toNatClampNeg).toInt ≤ 112 := (cI_at hI_922 x5.toNatClampNeg (sc_7_28 s0)).2.2.2.2.2.1 (by omega)
                    exact cT_ret b_M_sign_231 hI_922 hF_924 ⟨_, rfl, fun k h => by rw [← ie]; exact hk k h⟩
                · rw [t_eq] at c_940; try rw [t_0] at c_940
                  refine cT_go b_M_sign_172 ?_
                  refine cT_if b_M_sign_177 (fun c_957 => ?_) (fun c_957 => ?_)
                  · rw [t_eq] at c_957; try rw [t_0] at c_957
                    refine cT_if b_M_sign_195 (fun c_958 => ?_) (fun c_958 => ?_)
                    · rw [t_eq] at c_958; try rw [t_0] at c_958
                      have t_961 : (nI 112).toInt = 112 := nI_toInt (by decide)
                      first | have t_960 : (((nI 112)) * x5).toInt = 112 * (x5).toInt := t_mulc (by decide) (by omega) | (obtain ⟨kt_960, t_960⟩ := t_mul ((nI 112)) x5; rw [nI_toInt (show 112 < 2 ^ 31 by decide)] at t_960)
                      first | have t_959 : ((((nI 112) * x5)) + ((nI 0))).toInt = ((((nI 112) * x5))).toInt + (((nI 0))).toInt := t_addn (by omega) | obtain ⟨kt_959, t_959⟩ := t_add (((nI 112) * x5)) ((nI 0))
                      refine cT_go (b_M_sign_200 s0 (by rw [t_in]; omega)) ?_
                      have t_962 := t_rng (f_921 (a0 + 21) (((nI 112) * x5) + (nI 0)).toNatClampNeg)
                      exact cT_ret b_M_sign_231 hI_922 hF_924 ⟨_, rfl, fun k h => by rw [← ie]; exact hk k h⟩
                    · rw [t_eq] at c_958; try rw [t_0] at c_958
                      have j1 := jl (((nI 112) * x5) + (nI 0)).toNatClampNeg
                      have j2 : (f_921 (a0 + 20) (((nI 112) * x5) + (nI 0)).toNatClampNeg).toInt = (f (a0 + 20) (((nI 112) * x5) + (nI 0)).toNatClampNeg).toInt := by rw [r20]
                      have t_965 : (nI 112).toInt = 112 := nI_toInt (by decide)
                      first | have t_964 : (((nI 112)) * x5).toInt = 112 * (x5).toInt := t_mulc (by decide) (by omega) | (obtain ⟨kt_964, t_964⟩ := t_mul ((nI 112)) x5; rw [nI_toInt (show 112 < 2 ^ 31 by decide)] at t_964)
                      first | have t_963 : ((((nI 112) * x5)) + ((nI 0))).toInt = ((((nI 112) * x5))).toInt + (((nI 0))).toInt := t_addn (by omega) | obtain ⟨kt_963, t_963⟩ := t_add (((nI 112) * x5)) ((nI 0))
                      have t_969 : (nI 240).toInt = 240 := nI_toInt (by decide)
                      first | have t_968 : (((nI 240)) * x5).toInt = 240 * (x5).toInt := t_mulc (by decide) (by omega) | (obtain ⟨kt_968, t_968⟩ := t_mul ((nI 240)) x5; rw [nI_toInt (show 240 < 2 ^ 31 by decide)] at t_968)
                      have t_970 := t_rng (f_921 (a0 + 20) (((nI 112) * x5) + (nI 0)).toNatClampNeg)
                      first | have t_967 : ((((nI 240) * x5)) + ((f_921 (a0 + 20) (((nI 112) * x5) + (nI 0)).toNatClampNeg))).toInt = ((((nI 240) * x5))).toInt + (((f_921 (a0 + 20) (((nI 112) * x5) + (nI 0)).toNatClampNeg))).toInt := t_addn (by omega) | obtain ⟨kt_967, t_967⟩ := t_add (((nI 240) * x5)) ((f_921 (a0 + 20) (((nI 112) * x5) + (nI 0)).toNatClampNeg))
                      first | have t_966 : (((((nI 240) * x5) + (f_921 (a0 + 20) (((nI 112) * x5) + (nI 0)).toNatClampNeg))) + x3).toInt = (((((nI 240) * x5) + (f_921 (a0 + 20) (((nI 112) * x5) + (nI 0)).toNatClampNeg)))).toInt + (x3).toInt := t_addn (by omega) | obtain ⟨kt_966, t_966⟩ := t_add ((((nI 240) * x5) + (f_921 (a0 + 20) (((nI 112) * x5) + (nI 0)).toNatClampNeg))) x3
                      refine cT_go (b_M_sign_210 s0 (by rw [t_in]; omega) (by rw [t_in]; omega)) ?_
                      have t_971 := t_rng (f_921 (a0 + 22) ((((nI 240) * x5) + (f_921 (a0 + 20) (((nI 112) * x5) + (nI 0)).toNatClampNeg)) + x3).toNatClampNeg)
                      exact cT_ret b_M_sign_231 hI_922 hF_924 ⟨_, rfl, fun k h => by rw [← ie]; exact hk k h⟩
                  · rw [t_eq] at c_957; try rw [t_0] at c_957
                    refine cT_go (b_M_sign_185 s0 (by rw [t_in]; omega)) ?_
                    have t_972 : 0 ≤ (f_921 (a0 + 19) x5.toNatClampNeg).toInt ∧ (f_921 (a0 + 19) x5.toNatClampNeg).toInt ≤ 112 := (cI_at hI_922 x5.toNatClampNeg (sc_7_28 s0)).2.2.2.2.2.1 (by omega)
                    exact cT_ret b_M_sign_231 hI_922 hF_924 ⟨_, rfl, fun k h => by rw [← ie]; exact hk k h⟩
            · rw [t_eq] at c_918; try rw [t_0] at c_918
              refine cT_go b_M_sign_149 ?_
              refine cT_call (b_M_sign_154 s0) (c_M_goes hI s0) hF (fun o ho => by omega) (fun v_973 f_974 hI_975 hG_976 hF_977 hQ_978 => ?_)
              obtain ⟨y_979, rfl, hb_980, hQ_978⟩ := hQ_978
              have hb_980r := t_b01 hb_980
              have t_981 : 3 ≤ (f a0 1).toInt ∧ (f a0 1).toInt ≤ 30 := (cI_at hI 1 s0).2.1 rfl
              have t_982 : 0 ≤ (f a0 3).toInt ∧ (f a0 3).toInt ≤ 32 := (cI_at hI 3 s0).2.2.2.1 rfl
              have t_983 : 0 ≤ (f a0 5).toInt ∧ (f a0 5).toInt ≤ 6 := (cI_at hI 5 s0).2.2.2.2.1 rfl
              have t_984 : 0 ≤ (f a0 8).toInt ∧ (f a0 8).toInt ≤ 8 := (cI_at hI 8 s0).2.2.2.2.2.1 rfl
              have t_985 : 0 ≤ (f a0 14).toInt ∧ (f a0 14).toInt ≤ 26 := (cI_at hI 14 s0).2.2.2.2.2.2.1 rfl
              have g_986 : (f_974 a0 1).toInt = (f a0 1).toInt := congrArg Int32.toInt (hQ_978.2.2.2.2 1 (by decide))
              have g_987 : (f_974 a0 3).toInt = (f a0 3).toInt := congrArg Int32.toInt (hQ_978.2.2.2.2 3 (by decide))
              have g_988 : (f_974 a0 5).toInt = (f a0 5).toInt := congrArg Int32.toInt (hQ_978.2.2.2.2 5 (by decide))
              have g_989 : (f_974 a0 8).toInt = (f a0 8).toInt := congrArg Int32.toInt (hQ_978.2.2.2.2 8 (by decide))
              have g_990 : (f_974 a0 14).toInt = (f a0 14).toInt := congrArg Int32.toInt (hQ_978.2.2.2.2 14 (by decide))
              have g_991 : (f_974 a0 23).toInt = (f a0 23).toInt := congrArg Int32.toInt (hQ_978.2.2.2.2 23 (by decide))
              have hk : ∀ k, k ≠ 2 → f_974 a0 k = f a0 k := hQ_978.2.2.2.2
              have r20 : f_974 (a0 + 20) = f (a0 + 20) := hG_976 (a0 + 20) (by omega)
              show cT 121 157 [.ref a0, .int x1, .int x2, .int x3, .int x4, .int x5, .int x6, .int (nI 1), u8] [.int y_979] _ _ _ _ _ _
              refine cT_if b_M_sign_157 (fun c_992 => ?_) (fun c_992 => ?_)
              · rw [t_eq] at c_992; try rw [t_0] at c_992
                have t_993 : (nI 0).toInt = 0 := nI_toInt (by decide)
                exact cT_ret b_M_sign_160 hI_975 hF_977 ⟨_, rfl, fun k h => by rw [← ie]; exact hk k h⟩
              · rw [t_eq] at c_992; try rw [t_0] at c_992
                refine cT_if b_M_sign_162 (fun c_994 => ?_) (fun c_994 => ?_)
                · rw [t_eq] at c_994; try rw [t_0] at c_994
                  refine cT_go b_M_sign_176 ?_
                  refine cT_if b_M_sign_177 (fun c_995 => ?_) (fun c_995 => ?_)
                  · rw [t_eq] at c_995; try rw [t_0] at c_995
                    refine cT_if b_M_sign_195 (fun c_996 => ?_) (fun c_996 => ?_)
                    · rw [t_eq] at c_996; try rw [t_0] at c_996
                      have t_999 : (nI 112).toInt = 112 := nI_toInt (by decide)
                      first | have t_998 : (((nI 112)) * x5).toInt = 112 * (x5).toInt := t_mulc (by decide) (by omega) | (obtain ⟨kt_998, t_998⟩ := t_mul ((nI 112)) x5; rw [nI_toInt (show 112 < 2 ^ 31 by decide)] at t_998)
                      first | have t_997 : ((((nI 112) * x5)) + x2).toInt = ((((nI 112) * x5))).toInt + (x2).toInt := t_addn (by omega) | obtain ⟨kt_997, t_997⟩ := t_add (((nI 112) * x5)) x2
                      refine cT_go (b_M_sign_200 s0 (by rw [t_in]; omega)) ?_
                      have t_1000 := t_rng (f_974 (a0 + 21) (((nI 112) * x5) + x2).toNatClampNeg)
                      exact cT_ret b_M_sign_231 hI_975 hF_977 ⟨_, rfl, fun k h => by rw [← ie]; exact hk k h⟩
                    · rw [t_eq] at c_996; try rw [t_0] at c_996
                      have j1 := jl (((nI 112) * x5) + x2).toNatClampNeg
                      have j2 : (f_974 (a0 + 20) (((nI 112) * x5) + x2).toNatClampNeg).toInt = (f (a0 + 20) (((nI 112) * x5) + x2).toNatClampNeg).toInt := by rw [r20]
                      have t_1003 : (nI 112).toInt = 112 := nI_toInt (by decide)
                      first | have t_1002 : (((nI 112)) * x5).toInt = 112 * (x5).toInt := t_mulc (by decide) (by omega) | (obtain ⟨kt_1002, t_1002⟩ := t_mul ((nI 112)) x5; rw [nI_toInt (show 112 < 2 ^ 31 by decide)] at t_1002)
                      first | have t_1001 : ((((nI 112) * x5)) + x2).toInt = ((((nI 112) * x5))).toInt + (x2).toInt := t_addn (by omega) | obtain ⟨kt_1001, t_1001⟩ := t_add (((nI 112) * x5)) x2
                      have t_1007 : (nI 240).toInt = 240 := nI_toInt (by decide)
                      first | have t_1006 : (((nI 240)) * x5).toInt = 240 * (x5).toInt := t_mulc (by decide) (by omega) | (obtain ⟨kt_1006, t_1006⟩ := t_mul ((nI 240)) x5; rw [nI_toInt (show 240 < 2 ^ 31 by decide)] at t_1006)
                      have t_1008 := t_rng (f_974 (a0 + 20) (((nI 112) * x5) + x2).toNatClampNeg)
                      first | have t_1005 : ((((nI 240) * x5)) + ((f_974 (a0 + 20) (((nI 112) * x5) + x2).toNatClampNeg))).toInt = ((((nI 240) * x5))).toInt + (((f_974 (a0 + 20) (((nI 112) * x5) + x2).toNatClampNeg))).toInt := t_addn (by omega) | obtain ⟨kt_1005, t_1005⟩ := t_add (((nI 240) * x5)) ((f_974 (a0 + 20) (((nI 112) * x5) + x2).toNatClampNeg))
                      first | have t_1004 : (((((nI 240) * x5) + (f_974 (a0 + 20) (((nI 112) * x5) + x2).toNatClampNeg))) + x3).toInt = (((((nI 240) * x5) + (f_974 (a0 + 20) (((nI 112) * x5) + x2).toNatClampNeg)))).toInt + (x3).toInt := t_addn (by omega) | obtain ⟨kt_1004, t_1004⟩ := t_add ((((nI 240) * x5) + (f_974 (a0 + 20) (((nI 112) * x5) + x2).toNatClampNeg))) x3
                      refine cT_go (b_M_sign_210 s0 (by rw [t_in]; omega) (by rw [t_in]; omega)) ?_
                      have t_1009 := t_rng (f_974 (a0 + 22) ((((nI 240) * x5) + (f_974 (a0 + 20) (((nI 112) * x5) + x2).toNatClampNeg)) + x3).toNatClampNeg)
                      exact cT_ret b_M_sign_231 hI_975 hF_977 ⟨_, rfl, fun k h => by rw [← ie]; exact hk k h⟩
                  · rw [t_eq] at c_995; try rw [t_0] at c_995
                    refine cT_go (b_M_sign_185 s0 (by rw [t_in]; omega)) ?_
                    have t_1010 : 0 ≤ (f_974 (a0 + 19) x5.toNatClampNeg).toInt ∧ (f_974 (a0 + 19) x5.toNatClampNeg).toInt ≤ 112 := (cI_at hI_975 x5.toNatClampNeg (sc_7_28 s0)).2.2.2.2.2.1 (by omega)
                    exact cT_ret b_M_sign_231 hI_975 hF_977 ⟨_, rfl, fun k h => by rw [← ie]; exact hk k h⟩
                · rw [t_eq] at c_994; try rw [t_0] at c_994
                  refine cT_go b_M_sign_172 ?_
                  refine cT_if b_M_sign_177 (fun c_1011 => ?_) (fun c_1011 => ?_)
                  · rw [t_eq] at c_1011; try rw [t_0] at c_1011
                    refine cT_if b_M_sign_195 (fun c_1012 => ?_) (fun c_1012 => ?_)
                    · rw [t_eq] at c_1012; try rw [t_0] at c_1012
                      have t_1015 : (nI 112).toInt = 112 := nI_toInt (by decide)
                      first | have t_1014 : (((nI 112)) * x5).toInt = 112 * (x5).toInt := t_mulc (by decide) (by omega) | (obtain ⟨kt_1014, t_1014⟩ := t_mul ((nI 112)) x5; rw [nI_toInt (show 112 < 2 ^ 31 by decide)] at t_1014)
                      have t_1016 : (nI 0).toInt = 0 := nI_toInt (by decide)
                      first | have t_1013 : ((((nI 112) * x5)) + ((nI 0))).toInt = ((((nI 112) * x5))).toInt + (((nI 0))).toInt := t_addn (by omega) | obtain ⟨kt_1013, t_1013⟩ := t_add (((nI 112) * x5)) ((nI 0))
                      refine cT_go (b_M_sign_200 s0 (by rw [t_in]; omega)) ?_
                      have t_1017 := t_rng (f_974 (a0 + 21) (((nI 112) * x5) + (nI 0)).toNatClampNeg)
                      exact cT_ret b_M_sign_231 hI_975 hF_977 ⟨_, rfl, fun k h => by rw [← ie]; exact hk k h⟩
                    · rw [t_eq] at c_1012; try rw [t_0] at c_1012
                      have j1 := jl (((nI 112) * x5) + (nI 0)).toNatClampNeg
                      have j2 : (f_974 (a0 + 20) (((nI 112) * x5) + (nI 0)).toNatClampNeg).toInt = (f (a0 + 20) (((nI 112) * x5) + (nI 0)).toNatClampNeg).toInt := by rw [r20]
                      have t_1020 : (nI 112).toInt = 112 := nI_toInt (by decide)
                      first | have t_1019 : (((nI 112)) * x5).toInt = 112 * (x5).toInt := t_mulc (by decide) (by omega) | (obtain ⟨kt_1019, t_1019⟩ := t_mul ((nI 112)) x5; rw [nI_toInt (show 112 < 2 ^ 31 by decide)] at t_1019)
                      have t_1021 : (nI 0).toInt = 0 := nI_toInt (by decide)
                      first | have t_1018 : ((((nI 112) * x5)) + ((nI 0))).toInt = ((((nI 112) * x5))).toInt + (((nI 0))).toInt := t_addn (by omega) | obtain ⟨kt_1018, t_1018⟩ := t_add (((nI 112) * x5)) ((nI 0))
                      have t_1025 : (nI 240).toInt = 240 := nI_toInt (by decide)
                      first | have t_1024 : (((nI 240)) * x5).toInt = 240 * (x5).toInt := t_mulc (by decide) (by omega) | (obtain ⟨kt_1024, t_1024⟩ := t_mul ((nI 240)) x5; rw [nI_toInt (show 240 < 2 ^ 31 by decide)] at t_1024)
                      have t_1026 := t_rng (f_974 (a0 + 20) (((nI 112) * x5) + (nI 0)).toNatClampNeg)
                      first | have t_1023 : ((((nI 240) * x5)) + ((f_974 (a0 + 20) (((nI 112) * x5) + (nI 0)).toNatClampNeg))).toInt = ((((nI 240) * x5))).toInt + (((f_974 (a0 + 20) (((nI 112) * x5) + (nI 0)).toNatClampNeg))).toInt := t_addn (by omega) | obtain ⟨kt_1023, t_1023⟩ := t_add (((nI 240) * x5)) ((f_974 (a0 + 20) (((nI 112) * x5) + (nI 0)).toNatClampNeg))
                      first | have t_1022 : (((((nI 240) * x5) + (f_974 (a0 + 20) (((nI 112) * x5) + (nI 0)).toNatClampNeg))) + x3).toInt = (((((nI 240) * x5) + (f_974 (a0 + 20) (((nI 112) * x5) + (nI 0)).toNatClampNeg)))).toInt + (x3).toInt := t_addn (by omega) | obtain ⟨kt_1022, t_1022⟩ := t_add ((((nI 240) * x5) + (f_974 (a0 + 20) (((nI 112) * x5) + (nI 0)).toNatClampNeg))) x3
                      refine cT_go (b_M_sign_210 s0 (by rw [t_in]; omega) (by rw [t_in]; omega)) ?_
                      have t_1027 := t_rng (f_974 (a0 + 22) ((((nI 240) * x5) + (f_974 (a0 + 20) (((nI 112) * x5) + (nI 0)).toNatClampNeg)) + x3).toNatClampNeg)
                      exact cT_ret b_M_sign_231 hI_975 hF_977 ⟨_, rfl, fun k h => by rw [← ie]; exact hk k h⟩
                  · rw [t_eq] at c_1011; try rw [t_0] at c_1011
                    refine cT_go (b_M_sign_185 s0 (by rw [t_in]; omega)) ?_
                    have t_1028 : 0 ≤ (f_974 (a0 + 19) x5.toNatClampNeg).toInt ∧ (f_974 (a0 + 19) x5.toNatClampNeg).toInt ≤ 112 := (cI_at hI_975 x5.toNatClampNeg (sc_7_28 s0)).2.2.2.2.2.1 (by omega)
                    exact cT_ret b_M_sign_231 hI_975 hF_977 ⟨_, rfl, fun k h => by rw [← ie]; exact hk k h⟩
        · rw [t_eq] at c_806; try rw [t_0] at c_806
          refine cT_go b_M_sign_136 ?_
          refine cT_if (b_M_sign_141 s0) (fun c_1029 => ?_) (fun c_1029 => ?_)
          · rw [t_eq] at c_1029; try rw [t_0] at c_1029
            refine cT_go b_M_sign_153 ?_
            have t_1030 : (nI 1).toInt = 1 := nI_toInt (by decide)
            have t_1031 : (nI 0).toInt = 0 := nI_toInt (by decide)
            refine cT_call (b_M_sign_154 s0) (c_M_goes hI s0) hF (fun o ho => by omega) (fun v_1032 f_1033 hI_1034 hG_1035 hF_1036 hQ_1037 => ?_)
            obtain ⟨y_1038, rfl, hb_1039, hQ_1037⟩ := hQ_1037
            have hb_1039r := t_b01 hb_1039
            have t_1040 : 3 ≤ (f a0 1).toInt ∧ (f a0 1).toInt ≤ 30 := (cI_at hI 1 s0).2.1 rfl
            have t_1041 : 0 ≤ (f a0 3).toInt ∧ (f a0 3).toInt ≤ 32 := (cI_at hI 3 s0).2.2.2.1 rfl
            have t_1042 : 0 ≤ (f a0 5).toInt ∧ (f a0 5).toInt ≤ 6 := (cI_at hI 5 s0).2.2.2.2.1 rfl
            have t_1043 : 0 ≤ (f a0 8).toInt ∧ (f a0 8).toInt ≤ 8 := (cI_at hI 8 s0).2.2.2.2.2.1 rfl
            have t_1044 : 0 ≤ (f a0 14).toInt ∧ (f a0 14).toInt ≤ 26 := (cI_at hI 14 s0).2.2.2.2.2.2.1 rfl
            have g_1045 : (f_1033 a0 1).toInt = (f a0 1).toInt := congrArg Int32.toInt (hQ_1037.2.2.2.2 1 (by decide))
            have g_1046 : (f_1033 a0 3).toInt = (f a0 3).toInt := congrArg Int32.toInt (hQ_1037.2.2.2.2 3 (by decide))
            have g_1047 : (f_1033 a0 5).toInt = (f a0 5).toInt := congrArg Int32.toInt (hQ_1037.2.2.2.2 5 (by decide))
            have g_1048 : (f_1033 a0 8).toInt = (f a0 8).toInt := congrArg Int32.toInt (hQ_1037.2.2.2.2 8 (by decide))
            have g_1049 : (f_1033 a0 14).toInt = (f a0 14).toInt := congrArg Int32.toInt (hQ_1037.2.2.2.2 14 (by decide))
            have g_1050 : (f_1033 a0 23).toInt = (f a0 23).toInt := congrArg Int32.toInt (hQ_1037.2.2.2.2 23 (by decide))
            have hk : ∀ k, k ≠ 2 → f_1033 a0 k = f a0 k := hQ_1037.2.2.2.2
            have r20 : f_1033 (a0 + 20) = f (a0 + 20) := hG_1035 (a0 + 20) (by omega)
            show cT 121 157 [.ref a0, .int x1, .int x2, .int x3, .int x4, .int x5, .int x6, .int (nI 1), u8] [.int y_1038] _ _ _ _ _ _
            refine cT_if b_M_sign_157 (fun c_1051 => ?_) (fun c_1051 => ?_)
            · rw [t_eq] at c_1051; try rw [t_0] at c_1051
              exact cT_ret b_M_sign_160 hI_1034 hF_1036 ⟨_, rfl, fun k h => by rw [← ie]; exact hk k h⟩
            · rw [t_eq] at c_1051; try rw [t_0] at c_1051
              refine cT_if b_M_sign_162 (fun c_1052 => ?_) (fun c_1052 => ?_)
              · rw [t_eq] at c_1052; try rw [t_0] at c_1052
                refine cT_go b_M_sign_176 ?_
                refine cT_if b_M_sign_177 (fun c_1053 => ?_) (fun c_1053 => ?_)
                · rw [t_eq] at c_1053; try rw [t_0] at c_1053
                  refine cT_if b_M_sign_195 (fun c_1054 => ?_) (fun c_1054 => ?_)
                  · rw [t_eq] at c_1054; try rw [t_0] at c_1054
                    have t_1057 : (nI 112).toInt = 112 := nI_toInt (by decide)
                    first | have t_1056 : (((nI 112)) * x5).toInt = 112 * (x5).toInt := t_mulc (by decide) (by omega) | (obtain ⟨kt_1056, t_1056⟩ := t_mul ((nI 112)) x5; rw [nI_toInt (show 112 < 2 ^ 31 by decide)] at t_1056)
                    first | have t_1055 : ((((nI 112) * x5)) + x2).toInt = ((((nI 112) * x5))).toInt + (x2).toInt := t_addn (by omega) | obtain ⟨kt_1055, t_1055⟩ := t_add (((nI 112) * x5)) x2
                    refine cT_go (b_M_sign_200 s0 (by rw [t_in]; omega)) ?_
                    have t_1058 := t_rng (f_1033 (a0 + 21) (((nI 112) * x5) + x2).toNatClampNeg)
                    exact cT_ret b_M_sign_231 hI_1034 hF_1036 ⟨_, rfl, fun k h => by rw [← ie]; exact hk k h⟩
                  · rw [t_eq] at c_1054; try rw [t_0] at c_1054
                    have j1 := jl (((nI 112) * x5) + x2).toNatClampNeg
                    have j2 : (f_1033 (a0 + 20) (((nI 112) * x5) + x2).toNatClampNeg).toInt = (f (a0 + 20) (((nI 112) * x5) + x2).toNatClampNeg).toInt := by rw [r20]
                    have t_1061 : (nI 112).toInt = 112 := nI_toInt (by decide)
                    first | have t_1060 : (((nI 112)) * x5).toInt = 112 * (x5).toInt := t_mulc (by decide) (by omega) | (obtain ⟨kt_1060, t_1060⟩ := t_mul ((nI 112)) x5; rw [nI_toInt (show 112 < 2 ^ 31 by decide)] at t_1060)
                    first | have t_1059 : ((((nI 112) * x5)) + x2).toInt = ((((nI 112) * x5))).toInt + (x2).toInt := t_addn (by omega) | obtain ⟨kt_1059, t_1059⟩ := t_add (((nI 112) * x5)) x2
                    have t_1065 : (nI 240).toInt = 240 := nI_toInt (by decide)
                    first | have t_1064 : (((nI 240)) * x5).toInt = 240 * (x5).toInt := t_mulc (by decide) (by omega) | (obtain ⟨kt_1064, t_1064⟩ := t_mul ((nI 240)) x5; rw [nI_toInt (show 240 < 2 ^ 31 by decide)] at t_1064)
                    have t_1066 := t_rng (f_1033 (a0 + 20) (((nI 112) * x5) + x2).toNatClampNeg)
                    first | have t_1063 : ((((nI 240) * x5)) + ((f_1033 (a0 + 20) (((nI 112) * x5) + x2).toNatClampNeg))).toInt = ((((nI 240) * x5))).toInt + (((f_1033 (a0 + 20) (((nI 112) * x5) + x2).toNatClampNeg))).toInt := t_addn (by omega) | obtain ⟨kt_1063, t_1063⟩ := t_add (((nI 240) * x5)) ((f_1033 (a0 + 20) (((nI 112) * x5) + x2).toNatClampNeg))
                    first | have t_1062 : (((((nI 240) * x5) + (f_1033 (a0 + 20) (((nI 112) * x5) + x2).toNatClampNeg))) + x3).toInt = (((((nI 240) * x5) + (f_1033 (a0 + 20) (((nI 112) * x5) + x2).toNatClampNeg)))).toInt + (x3).toInt := t_addn (by omega) | obtain ⟨kt_1062, t_1062⟩ := t_add ((((nI 240) * x5) + (f_1033 (a0 + 20) (((nI 112) * x5) + x2).toNatClampNeg))) x3
                    refine cT_go (b_M_sign_210 s0 (by rw [t_in]; omega) (by rw [t_in]; omega)) ?_
                    have t_1067 := t_rng (f_1033 (a0 + 22) ((((nI 240) * x5) + (f_1033 (a0 + 20) (((nI 112) * x5) + x2).toNatClampNeg)) + x3).toNatClampNeg)
                    exact cT_ret b_M_sign_231 hI_1034 hF_1036 ⟨_, rfl, fun k h => by rw [← ie]; exact hk k h⟩
                · rw [t_eq] at c_1053; try rw [t_0] at c_1053
                  refine cT_go (b_M_sign_185 s0 (by rw [t_in]; omega)) ?_
                  have t_1068 : 0 ≤ (f_1033 (a0 + 19) x5.toNatClampNeg).toInt ∧ (f_1033 (a0 + 19) x5.toNatClampNeg).toInt ≤ 112 := (cI_at hI_1034 x5.toNatClampNeg (sc_7_28 s0)).2.2.2.2.2.1 (by omega)
                  exact cT_ret b_M_sign_231 hI_1034 hF_1036 ⟨_, rfl, fun k h => by rw [← ie]; exact hk k h⟩
              · rw [t_eq] at c_1052; try rw [t_0] at c_1052
                refine cT_go b_M_sign_172 ?_
                refine cT_if b_M_sign_177 (fun c_1069 => ?_) (fun c_1069 => ?_)
                · rw [t_eq] at c_1069; try rw [t_0] at c_1069
                  refine cT_if b_M_sign_195 (fun c_1070 => ?_) (fun c_1070 => ?_)
                  · rw [t_eq] at c_1070; try rw [t_0] at c_1070
                    have t_1073 : (nI 112).toInt = 112 := nI_toInt (by decide)
                    first | have t_1072 : (((nI 112)) * x5).toInt = 112 * (x5).toInt := t_mulc (by decide) (by omega) | (obtain ⟨kt_1072, t_1072⟩ := t_mul ((nI 112)) x5; rw [nI_toInt (show 112 < 2 ^ 31 by decide)] at t_1072)
                    first | have t_1071 : ((((nI 112) * x5)) + ((nI 0))).toInt = ((((nI 112) * x5))).toInt + (((nI 0))).toInt := t_addn (by omega) | obtain ⟨kt_1071, t_1071⟩ := t_add (((nI 112) * x5)) ((nI 0))
                    refine cT_go (b_M_sign_200 s0 (by rw [t_in]; omega)) ?_
                    have t_1074 := t_rng (f_1033 (a0 + 21) (((nI 112) * x5) + (nI 0)).toNatClampNeg)
                    exact cT_ret b_M_sign_231 hI_1034 hF_1036 ⟨_, rfl, fun k h => by rw [← ie]; exact hk k h⟩
                  · rw [t_eq] at c_1070; try rw [t_0] at c_1070
                    have j1 := jl (((nI 112) * x5) + (nI 0)).toNatClampNeg
                    have j2 : (f_1033 (a0 + 20) (((nI 112) * x5) + (nI 0)).toNatClampNeg).toInt = (f (a0 + 20) (((nI 112) * x5) + (nI 0)).toNatClampNeg).toInt := by rw [r20]
                    have t_1077 : (nI 112).toInt = 112 := nI_toInt (by decide)
                    first | have t_1076 : (((nI 112)) * x5).toInt = 112 * (x5).toInt := t_mulc (by decide) (by omega) | (obtain ⟨kt_1076, t_1076⟩ := t_mul ((nI 112)) x5; rw [nI_toInt (show 112 < 2 ^ 31 by decide)] at t_1076)
                    first | have t_1075 : ((((nI 112) * x5)) + ((nI 0))).toInt = ((((nI 112) * x5))).toInt + (((nI 0))).toInt := t_addn (by omega) | obtain ⟨kt_1075, t_1075⟩ := t_add (((nI 112) * x5)) ((nI 0))
                    have t_1081 : (nI 240).toInt = 240 := nI_toInt (by decide)
                    first | have t_1080 : (((nI 240)) * x5).toInt = 240 * (x5).toInt := t_mulc (by decide) (by omega) | (obtain ⟨kt_1080, t_1080⟩ := t_mul ((nI 240)) x5; rw [nI_toInt (show 240 < 2 ^ 31 by decide)] at t_1080)
                    have t_1082 := t_rng (f_1033 (a0 + 20) (((nI 112) * x5) + (nI 0)).toNatClampNeg)
                    first | have t_1079 : ((((nI 240) * x5)) + ((f_1033 (a0 + 20) (((nI 112) * x5) + (nI 0)).toNatClampNeg))).toInt = ((((nI 240) * x5))).toInt + (((f_1033 (a0 + 20) (((nI 112) * x5) + (nI 0)).toNatClampNeg))).toInt := t_addn (by omega) | obtain ⟨kt_1079, t_1079⟩ := t_add (((nI 240) * x5)) ((f_1033 (a0 + 20) (((nI 112) * x5) + (nI 0)).toNatClampNeg))
                    first | have t_1078 : (((((nI 240) * x5) + (f_1033 (a0 + 20) (((nI 112) * x5) + (nI 0)).toNatClampNeg))) + x3).toInt = (((((nI 240) * x5) + (f_1033 (a0 + 20) (((nI 112) * x5) + (nI 0)).toNatClampNeg)))).toInt + (x3).toInt := t_addn (by omega) | obtain ⟨kt_1078, t_1078⟩ := t_add ((((nI 240) * x5) + (f_1033 (a0 + 20) (((nI 112) * x5) + (nI 0)).toNatClampNeg))) x3
                    refine cT_go (b_M_sign_210 s0 (by rw [t_in]; omega) (by rw [t_in]; omega)) ?_
                    have t_1083 := t_rng (f_1033 (a0 + 22) ((((nI 240) * x5) + (f_1033 (a0 + 20) (((nI 112) * x5) + (nI 0)).toNatClampNeg)) + x3).toNatClampNeg)
                    exact cT_ret b_M_sign_231 hI_1034 hF_1036 ⟨_, rfl, fun k h => by rw [← ie]; exact hk k h⟩
                · rw [t_eq] at c_1069; try rw [t_0] at c_1069
                  refine cT_go (b_M_sign_185 s0 (by rw [t_in]; omega)) ?_
                  have t_1084 : 0 ≤ (f_1033 (a0 + 19) x5.toNatClampNeg).toInt ∧ (f_1033 (a0 + 19) x5.toNatClampNeg).toInt ≤ 112 := (cI_at hI_1034 x5.toNatClampNeg (sc_7_28 s0)).2.2.2.2.2.1 (by omega)
                  exact cT_ret b_M_sign_231 hI_1034 hF_1036 ⟨_, rfl, fun k h => by rw [← ie]; exact hk k h⟩
          · rw [t_eq] at c_1029; try rw [t_0] at c_1029
            refine cT_go b_M_sign_149 ?_
            have t_1085 : (nI 1).toInt = 1 := nI_toInt (by decide)
            refine cT_call (b_M_sign_154 s0) (c_M_goes hI s0) hF (fun o ho => by omega) (fun v_1086 f_1087 hI_1088 hG_1089 hF_1090 hQ_1091 => ?_)
            obtain ⟨y_1092, rfl, hb_1093, hQ_1091⟩ := hQ_1091
            have hb_1093r := t_b01 hb_1093
            have t_1094 : 3 ≤ (f a0 1).toInt ∧ (f a0 1).toInt ≤ 30 := (cI_at hI 1 s0).2.1 rfl
            have t_1095 : 0 ≤ (f a0 3).toInt ∧ (f a0 3).toInt ≤ 32 := (cI_at hI 3 s0).2.2.2.1 rfl
            have t_1096 : 0 ≤ (f a0 5).toInt ∧ (f a0 5).toInt ≤ 6 := (cI_at hI 5 s0).2.2.2.2.1 rfl
            have t_1097 : 0 ≤ (f a0 8).toInt ∧ (f a0 8).toInt ≤ 8 := (cI_at hI 8 s0).2.2.2.2.2.1 rfl
            have t_1098 : 0 ≤ (f a0 14).toInt ∧ (f a0 14).toInt ≤ 26 := (cI_at hI 14 s0).2.2.2.2.2.2.1 rfl
            have g_1099 : (f_1087 a0 1).toInt = (f a0 1).toInt := congrArg Int32.toInt (hQ_1091.2.2.2.2 1 (by decide))
            have g_1100 : (f_1087 a0 3).toInt = (f a0 3).toInt := congrArg Int32.toInt (hQ_1091.2.2.2.2 3 (by decide))
            have g_1101 : (f_1087 a0 5).toInt = (f a0 5).toInt := congrArg Int32.toInt (hQ_1091.2.2.2.2 5 (by decide))
            have g_1102 : (f_1087 a0 8).toInt = (f a0 8).toInt := congrArg Int32.toInt (hQ_1091.2.2.2.2 8 (by decide))
            have g_1103 : (f_1087 a0 14).toInt = (f a0 14).toInt := congrArg Int32.toInt (hQ_1091.2.2.2.2 14 (by decide))
            have g_1104 : (f_1087 a0 23).toInt = (f a0 23).toInt := congrArg Int32.toInt (hQ_1091.2.2.2.2 23 (by decide))
            have hk : ∀ k, k ≠ 2 → f_1087 a0 k = f a0 k := hQ_1091.2.2.2.2
            have r20 : f_1087 (a0 + 20) = f (a0 + 20) := hG_1089 (a0 + 20) (by omega)
            show cT 121 157 [.ref a0, .int x1, .int x2, .int x3, .int x4, .int x5, .int x6, .int (nI 1), u8] [.int y_1092] _ _ _ _ _ _
            refine cT_if b_M_sign_157 (fun c_1105 => ?_) (fun c_1105 => ?_)
            · rw [t_eq] at c_1105; try rw [t_0] at c_1105
              have t_1106 : (nI 0).toInt = 0 := nI_toInt (by decide)
              exact cT_ret b_M_sign_160 hI_1088 hF_1090 ⟨_, rfl, fun k h => by rw [← ie]; exact hk k h⟩
            · rw [t_eq] at c_1105; try rw [t_0] at c_1105
              refine cT_if b_M_sign_162 (fun c_1107 => ?_) (fun c_1107 => ?_)
              · rw [t_eq] at c_1107; try rw [t_0] at c_1107
                refine cT_go b_M_sign_176 ?_
                refine cT_if b_M_sign_177 (fun c_1108 => ?_) (fun c_1108 => ?_)
                · rw [t_eq] at c_1108; try rw [t_0] at c_1108
                  refine cT_if b_M_sign_195 (fun c_1109 => ?_) (fun c_1109 => ?_)
                  · rw [t_eq] at c_1109; try rw [t_0] at c_1109
                    have t_1112 : (nI 112).toInt = 112 := nI_toInt (by decide)
                    first | have t_1111 : (((nI 112)) * x5).toInt = 112 * (x5).toInt := t_mulc (by decide) (by omega) | (obtain ⟨kt_1111, t_1111⟩ := t_mul ((nI 112)) x5; rw [nI_toInt (show 112 < 2 ^ 31 by decide)] at t_1111)
                    first | have t_1110 : ((((nI 112) * x5)) + x2).toInt = ((((nI 112) * x5))).toInt + (x2).toInt := t_addn (by omega) | obtain ⟨kt_1110, t_1110⟩ := t_add (((nI 112) * x5)) x2
                    refine cT_go (b_M_sign_200 s0 (by rw [t_in]; omega)) ?_
                    have t_1113 := t_rng (f_1087 (a0 + 21) (((nI 112) * x5) + x2).toNatClampNeg)
                    exact cT_ret b_M_sign_231 hI_1088 hF_1090 ⟨_, rfl, fun k h => by rw [← ie]; exact hk k h⟩
                  · rw [t_eq] at c_1109; try rw [t_0] at c_1109
                    have j1 := jl (((nI 112) * x5) + x2).toNatClampNeg
                    have j2 : (f_1087 (a0 + 20) (((nI 112) * x5) + x2).toNatClampNeg).toInt = (f (a0 + 20) (((nI 112) * x5) + x2).toNatClampNeg).toInt := by rw [r20]
                    have t_1116 : (nI 112).toInt = 112 := nI_toInt (by decide)
                    first | have t_1115 : (((nI 112)) * x5).toInt = 112 * (x5).toInt := t_mulc (by decide) (by omega) | (obtain ⟨kt_1115, t_1115⟩ := t_mul ((nI 112)) x5; rw [nI_toInt (show 112 < 2 ^ 31 by decide)] at t_1115)
                    first | have t_1114 : ((((nI 112) * x5)) + x2).toInt = ((((nI 112) * x5))).toInt + (x2).toInt := t_addn (by omega) | obtain ⟨kt_1114, t_1114⟩ := t_add (((nI 112) * x5)) x2
                    have t_1120 : (nI 240).toInt = 240 := nI_toInt (by decide)
                    first | have t_1119 : (((nI 240)) * x5).toInt = 240 * (x5).toInt := t_mulc (by decide) (by omega) | (obtain ⟨kt_1119, t_1119⟩ := t_mul ((nI 240)) x5; rw [nI_toInt (show 240 < 2 ^ 31 by decide)] at t_1119)
                    have t_1121 := t_rng (f_1087 (a0 + 20) (((nI 112) * x5) + x2).toNatClampNeg)
                    first | have t_1118 : ((((nI 240) * x5)) + ((f_1087 (a0 + 20) (((nI 112) * x5) + x2).toNatClampNeg))).toInt = ((((nI 240) * x5))).toInt + (((f_1087 (a0 + 20) (((nI 112) * x5) + x2).toNatClampNeg))).toInt := t_addn (by omega) | obtain ⟨kt_1118, t_1118⟩ := t_add (((nI 240) * x5)) ((f_1087 (a0 + 20) (((nI 112) * x5) + x2).toNatClampNeg))
                    first | have t_1117 : (((((nI 240) * x5) + (f_1087 (a0 + 20) (((nI 112) * x5) + x2).toNatClampNeg))) + x3).toInt = (((((nI 240) * x5) + (f_1087 (a0 + 20) (((nI 112) * x5) + x2).toNatClampNeg)))).toInt + (x3).toInt := t_addn (by omega) | obtain ⟨kt_1117, t_1117⟩ := t_add ((((nI 240) * x5) + (f_1087 (a0 + 20) (((nI 112) * x5) + x2).toNatClampNeg))) x3
                    refine cT_go (b_M_sign_210 s0 (by rw [t_in]; omega) (by rw [t_in]; omega)) ?_
                    have t_1122 := t_rng (f_1087 (a0 + 22) ((((nI 240) * x5) + (f_1087 (a0 + 20) (((nI 112) * x5) + x2).toNatClampNeg)) + x3).toNatClampNeg)
                    exact cT_ret b_M_sign_231 hI_1088 hF_1090 ⟨_, rfl, fun k h => by rw [← ie]; exact hk k h⟩
                · rw [t_eq] at c_1108; try rw [t_0] at c_1108
                  refine cT_go (b_M_sign_185 s0 (by rw [t_in]; omega)) ?_
                  have t_1123 : 0 ≤ (f_1087 (a0 + 19) x5.toNatClampNeg).toInt ∧ (f_1087 (a0 + 19) x5.toNatClampNeg).toInt ≤ 112 := (cI_at hI_1088 x5.toNatClampNeg (sc_7_28 s0)).2.2.2.2.2.1 (by omega)
                  exact cT_ret b_M_sign_231 hI_1088 hF_1090 ⟨_, rfl, fun k h => by rw [← ie]; exact hk k h⟩
              · rw [t_eq] at c_1107; try rw [t_0] at c_1107
                refine cT_go b_M_sign_172 ?_
                refine cT_if b_M_sign_177 (fun c_1124 => ?_) (fun c_1124 => ?_)
                · rw [t_eq] at c_1124; try rw [t_0] at c_1124
                  refine cT_if b_M_sign_195 (fun c_1125 => ?_) (fun c_1125 => ?_)
                  · rw [t_eq] at c_1125; try rw [t_0] at c_1125
                    have t_1128 : (nI 112).toInt = 112 := nI_toInt (by decide)
                    first | have t_1127 : (((nI 112)) * x5).toInt = 112 * (x5).toInt := t_mulc (by decide) (by omega) | (obtain ⟨kt_1127, t_1127⟩ := t_mul ((nI 112)) x5; rw [nI_toInt (show 112 < 2 ^ 31 by decide)] at t_1127)
                    have t_1129 : (nI 0).toInt = 0 := nI_toInt (by decide)
                    first | have t_1126 : ((((nI 112) * x5)) + ((nI 0))).toInt = ((((nI 112) * x5))).toInt + (((nI 0))).toInt := t_addn (by omega) | obtain ⟨kt_1126, t_1126⟩ := t_add (((nI 112) * x5)) ((nI 0))
                    refine cT_go (b_M_sign_200 s0 (by rw [t_in]; omega)) ?_
                    have t_1130 := t_rng (f_1087 (a0 + 21) (((nI 112) * x5) + (nI 0)).toNatClampNeg)
                    exact cT_ret b_M_sign_231 hI_1088 hF_1090 ⟨_, rfl, fun k h => by rw [← ie]; exact hk k h⟩
                  · rw [t_eq] at c_1125; try rw [t_0] at c_1125
                    have j1 := jl (((nI 112) * x5) + (nI 0)).toNatClampNeg
                    have j2 : (f_1087 (a0 + 20) (((nI 112) * x5) + (nI 0)).toNatClampNeg).toInt = (f (a0 + 20) (((nI 112) * x5) + (nI 0)).toNatClampNeg).toInt := by rw [r20]
                    have t_1133 : (nI 112).toInt = 112 := nI_toInt (by decide)
                    first | have t_1132 : (((nI 112)) * x5).toInt = 112 * (x5).toInt := t_mulc (by decide) (by omega) | (obtain ⟨kt_1132, t_1132⟩ := t_mul ((nI 112)) x5; rw [nI_toInt (show 112 < 2 ^ 31 by decide)] at t_1132)
                    have t_1134 : (nI 0).toInt = 0 := nI_toInt (by decide)
                    first | have t_1131 : ((((nI 112) * x5)) + ((nI 0))).toInt = ((((nI 112) * x5))).toInt + (((nI 0))).toInt := t_addn (by omega) | obtain ⟨kt_1131, t_1131⟩ := t_add (((nI 112) * x5)) ((nI 0))
                    have t_1138 : (nI 240).toInt = 240 := nI_toInt (by decide)
                    first | have t_1137 : (((nI 240)) * x5).toInt = 240 * (x5).toInt := t_mulc (by decide) (by omega) | (obtain ⟨kt_1137, t_1137⟩ := t_mul ((nI 240)) x5; rw [nI_toInt (show 240 < 2 ^ 31 by decide)] at t_1137)
                    have t_1139 := t_rng (f_1087 (a0 + 20) (((nI 112) * x5) + (nI 0)).toNatClampNeg)
                    first | have t_1136 : ((((nI 240) * x5)) + ((f_1087 (a0 + 20) (((nI 112) * x5) + (nI 0)).toNatClampNeg))).toInt = ((((nI 240) * x5))).toInt + (((f_1087 (a0 + 20) (((nI 112) * x5) + (nI 0)).toNatClampNeg))).toInt := t_addn (by omega) | obtain ⟨kt_1136, t_1136⟩ := t_add (((nI 240) * x5)) ((f_1087 (a0 + 20) (((nI 112) * x5) + (nI 0)).toNatClampNeg))
                    first | have t_1135 : (((((nI 240) * x5) + (f_1087 (a0 + 20) (((nI 112) * x5) + (nI 0)).toNatClampNeg))) + x3).toInt = (((((nI 240) * x5) + (f_1087 (a0 + 20) (((nI 112) * x5) + (nI 0)).toNatClampNeg)))).toInt + (x3).toInt := t_addn (by omega) | obtain ⟨kt_1135, t_1135⟩ := t_add ((((nI 240) * x5) + (f_1087 (a0 + 20) (((nI 112) * x5) + (nI 0)).toNatClampNeg))) x3
                    refine cT_go (b_M_sign_210 s0 (by rw [t_in]; omega) (by rw [t_in]; omega)) ?_
                    have t_1140 := t_rng (f_1087 (a0 + 22) ((((nI 240) * x5) + (f_1087 (a0 + 20) (((nI 112) * x5) + (nI 0)).toNatClampNeg)) + x3).toNatClampNeg)
                    exact cT_ret b_M_sign_231 hI_1088 hF_1090 ⟨_, rfl, fun k h => by rw [← ie]; exact hk k h⟩
                · rw [t_eq] at c_1124; try rw [t_0] at c_1124
                  refine cT_go (b_M_sign_185 s0 (by rw [t_in]; omega)) ?_
                  have t_1141 : 0 ≤ (f_1087 (a0 + 19) x5.toNatClampNeg).toInt ∧ (f_1087 (a0 + 19) x5.toNatClampNeg).toInt ≤ 112 := (cI_at hI_1088 x5.toNatClampNeg (sc_7_28 s0)).2.2.2.2.2.1 (by omega)
                  exact cT_ret b_M_sign_231 hI_1088 hF_1090 ⟨_, rfl, fun k h => by rw [← ie]; exact hk k h⟩
set_option maxHeartbeats 8000000 in
theorem c_M_sign {L : Nat} {f : cg_G} {e : Nat × Nat} {a0 : Nat} {x1 : Int32} {x2 : Int32} {x3 : Int32} (hI : cI L f) (s0 : sh_ a0 = 7) (jl : JL (f (a0 + 20)) (f (a0 + 21))) : cE 121 [.ref a0, .int x1, .int x2, .int x3] L e (fun o => o = a0) f (fun v f' => ∃ x : Int32, v = some (.int x) ∧ (∀ k, k ≠ 2 → f' a0 k = f a0 k)) := by
  refine cE_of (ls := [.ref a0, .int x1, .int x2, .int x3, (.retAddr 0), (.retAddr 0), (.retAddr 0), (.retAddr 0), (.retAddr 0)]) rfl ?_
  have hF : cF (fun o => o = a0) f f := cF_rf
  have hm := one_7 s0
  have t_1142 := t_rng (x1)
  have t_1143 := t_rng (x2)
  have t_1144 := t_rng (x3)
  refine cT_call (b_M_sign_0 s0) (c_M_wasThere hI s0) hF (fun o ho => ho.elim) (fun v_1145 f_1146 hI_1147 hG_1148 hF_1149 hQ_1150 => ?_)
  obtain rfl := cF_no hG_1148
  obtain ⟨y_1151, rfl, hb_1152, hQ_1150⟩ := hQ_1150
  have hb_1152r := t_b01 hb_1152
  show cT 121 5 [.ref a0, .int x1, .int x2, .int x3, ((.retAddr 0)), ((.retAddr 0)), ((.retAddr 0)), ((.retAddr 0)), ((.retAddr 0))] [.int y_1151] _ _ _ _ _ _
  have t_1154 : -1 ≤ (f a0 23).toInt ∧ (f a0 23).toInt ≤ 1 := (cI_at hI 23 s0).2.2.2.2.2.2.2.2.2 rfl
  have t_1155 := t_neg1
  refine cT_if (b_M_sign_5 s0) (fun c_1153 => ?_) (fun c_1153 => ?_)
  · rw [t_eq] at c_1153; try rw [t_0] at c_1153
    refine cT_go b_M_sign_20 ?_
    refine cT_if b_M_sign_33 (fun c_1156 => ?_) (fun c_1156 => ?_)
    · rw [t_eq] at c_1156; try rw [t_0] at c_1156
      refine cT_if b_M_sign_40 (fun c_1157 => ?_) (fun c_1157 => ?_)
      · rw [t_eq] at c_1157; try rw [t_0] at c_1157
        refine cT_go b_M_sign_45 ?_
        have t_1158 : (nI 0).toInt = 0 := nI_toInt (by decide)
        have t_1159 : 0 ≤ (f (a0 + 19) (nI 0).toNatClampNeg).toInt ∧ (f (a0 + 19) (nI 0).toNatClampNeg).toInt ≤ 112 := (cI_at hI (nI 0).toNatClampNeg (sc_7_28 s0)).2.2.2.2.2.1 (by omega)
        refine cT_call (b_M_sign_50 s0 (by rw [t_in]; omega)) (c_M_below hI) hF (fun o ho => ho.elim) (fun v_1160 f_1161 hI_1162 hG_1163 hF_1164 hQ_1165 => ?_)
        obtain rfl := cF_no hG_1163
        obtain ⟨y_1166, rfl, hb_1167, hQ_1165⟩ := hQ_1165
        have hb_1167r := t_b01 hb_1167
        show cT 121 63 [.ref a0, .int x1, .int x2, .int x3, .int y_1151, .int (nI 0), .int (nI 1), ((((((((.retAddr 0)))))))), ((((((((.retAddr 0))))))))] [.int y_1166] _ _ _ _ _ _
        refine cT_if b_M_sign_63 (fun c_1168 => ?_) (fun c_1168 => ?_)
        · rw [t_eq] at c_1168; try rw [t_0] at c_1168
          have t_1170 : (nI 1).toInt = 1 := nI_toInt (by decide)
          exact l_M_sign_109 (0 + 1) (by omega) hI hF s0 (by omega) (by omega) (by omega) (by first | rfl | exact ie) jl
        · rw [t_eq] at c_1168; try rw [t_0] at c_1168
          refine cT_if b_M_sign_66 (fun c_1171 => ?_) (fun c_1171 => ?_)
          · rw [t_lt] at c_1171; try rw [t_0] at c_1171
            have t_1172 : (nI 1).toInt = 1 := nI_toInt (by decide)
            exact l_M_sign_109 (0 + 1) (by omega) hI hF s0 (by omega) (by omega) (by omega) (by first | rfl | exact ie) jl
          · rw [t_lt] at c_1171; try rw [t_0] at c_1171
            refine cT_call (b_M_sign_71 s0 (by rw [t_in]; omega)) (c_M_below hI) hF (fun o ho => ho.elim) (fun v_1173 f_1174 hI_1175 hG_1176 hF_1177 hQ_1178 => ?_)
            obtain rfl := cF_no hG_1176
            obtain ⟨y_1179, rfl, hb_1180, hQ_1178⟩ := hQ_1178
            have hb_1180r := t_b01 hb_1180
            show cT 121 92 [.ref a0, .int x1, .int x2, .int x3, .int y_1151, .int (nI 0), .int (nI 1), (((((((((((.retAddr 0))))))))))), (((((((((((.retAddr 0)))))))))))] [.int y_1179, .int ((nI 112) * (nI 0)), .ref (a0 + 21), .int x3] _ _ _ _ _ _
            refine cT_if b_M_sign_92 (fun c_1181 => ?_) (fun c_1181 => ?_)
            · rw [t_eq] at c_1181; try rw [t_0] at c_1181
              refine cT_go b_M_sign_99 ?_
              have t_1184 : (nI 112).toInt = 112 := nI_toInt (by decide)
              first | have t_1183 : (((nI 112)) * ((nI 0))).toInt = 112 * (((nI 0))).toInt := t_mulc (by decide) (by omega) | (obtain ⟨kt_1183, t_1183⟩ := t_mul ((nI 112)) ((nI 0)); rw [nI_toInt (show 112 < 2 ^ 31 by decide)] at t_1183)
              first | have t_1182 : ((((nI 112) * (nI 0))) + ((nI 0))).toInt = ((((nI 112) * (nI 0)))).toInt + (((nI 0))).toInt := t_addn (by omega) | obtain ⟨kt_1182, t_1182⟩ := t_add (((nI 112) * (nI 0))) ((nI 0))
              have t_1186 := t_rng (f (a0 + 21) (((nI 112) * (nI 0)) + (nI 0)).toNatClampNeg)
              refine cT_if (b_M_sign_100 (sc_7_30 s0) (by rw [sl_7_30 s0, t_in]; omega)) (fun c_1185 => ?_) (fun c_1185 => ?_)
              · rw [t_le] at c_1185; try rw [t_0] at c_1185
                have t_1187 : (nI 1).toInt = 1 := nI_toInt (by decide)
                exact l_M_sign_109 (0 + 1) (by omega) hI hF s0 (by omega) (by omega) (by omega) (by first | rfl | exact ie) jl
              · rw [t_le] at c_1185; try rw [t_0] at c_1185
                have t_1188 : (nI 1).toInt = 1 := nI_toInt (by decide)
                exact l_M_sign_105 (0 + 1) (by omega) hI hF s0 (by omega) (by omega) (by omega) (by first | rfl | exact ie) jl (by omega) (by omega)
            · rw [t_eq] at c_1181; try rw [t_0] at c_1181
              refine cT_go b_M_sign_95 ?_
              have t_1191 : (nI 112).toInt = 112 := nI_toInt (by decide)
              first | have t_1190 : (((nI 112)) * ((nI 0))).toInt = 112 * (((nI 0))).toInt := t_mulc (by decide) (by omega) | (obtain ⟨kt_1190, t_1190⟩ := t_mul ((nI 112)) ((nI 0)); rw [nI_toInt (show 112 < 2 ^ 31 by decide)] at t_1190)
              first | have t_1189 : ((((nI 112) * (nI 0))) + x2).toInt = ((((nI 112) * (nI 0)))).toInt + (x2).toInt := t_addn (by omega) | obtain ⟨kt_1189, t_1189⟩ := t_add (((nI 112) * (nI 0))) x2
              have t_1193 := t_rng (f (a0 + 21) (((nI 112) * (nI 0)) + x2).toNatClampNeg)
              refine cT_if (b_M_sign_100 (sc_7_30 s0) (by rw [sl_7_30 s0, t_in]; omega)) (fun c_1192 => ?_) (fun c_1192 => ?_)
              · rw [t_le] at c_1192; try rw [t_0] at c_1192
                have t_1194 : (nI 1).toInt = 1 := nI_toInt (by decide)
                exact l_M_sign_109 (0 + 1) (by omega) hI hF s0 (by omega) (by omega) (by omega) (by first | rfl | exact ie) jl
              · rw [t_le] at c_1192; try rw [t_0] at c_1192
                have t_1195 : (nI 1).toInt = 1 := nI_toInt (by decide)
                exact l_M_sign_105 (0 + 1) (by omega) hI hF s0 (by omega) (by omega) (by omega) (by first | rfl | exact ie) jl (by omega) (by omega)
      · rw [t_eq] at c_1157; try rw [t_0] at c_1157
        refine cT_go b_M_sign_49 ?_
        have t_1196 : (nI 0).toInt = 0 := nI_toInt (by decide)
        have t_1197 : 0 ≤ (f (a0 + 19) (nI 0).toNatClampNeg).toInt ∧ (f (a0 + 19) (nI 0).toNatClampNeg).toInt ≤ 112 := (cI_at hI (nI 0).toNatClampNeg (sc_7_28 s0)).2.2.2.2.2.1 (by omega)
        refine cT_call (b_M_sign_50 s0 (by rw [t_in]; omega)) (c_M_below hI) hF (fun o ho => ho.elim) (fun v_1198 f_1199 hI_1200 hG_1201 hF_1202 hQ_1203 => ?_)
        obtain rfl := cF_no hG_1201
        obtain ⟨y_1204, rfl, hb_1205, hQ_1203⟩ := hQ_1203
        have hb_1205r := t_b01 hb_1205
        show cT 121 63 [.ref a0, .int x1, .int x2, .int x3, .int y_1151, .int (nI 0), .int (nI 0), ((((((((.retAddr 0)))))))), ((((((((.retAddr 0))))))))] [.int y_1204] _ _ _ _ _ _
        refine cT_if b_M_sign_63 (fun c_1206 => ?_) (fun c_1206 => ?_)
        · rw [t_eq] at c_1206; try rw [t_0] at c_1206
          exact l_M_sign_109 (0 + 1) (by omega) hI hF s0 (by omega) (by omega) (by omega) (by first | rfl | exact ie) jl
        · rw [t_eq] at c_1206; try rw [t_0] at c_1206
          refine cT_if b_M_sign_66 (fun c_1208 => ?_) (fun c_1208 => ?_)
          · rw [t_lt] at c_1208; try rw [t_0] at c_1208
            exact l_M_sign_109 (0 + 1) (by omega) hI hF s0 (by omega) (by omega) (by omega) (by first | rfl | exact ie) jl
          · rw [t_lt] at c_1208; try rw [t_0] at c_1208
            refine cT_call (b_M_sign_71 s0 (by rw [t_in]; omega)) (c_M_below hI) hF (fun o ho => ho.elim) (fun v_1209 f_1210 hI_1211 hG_1212 hF_1213 hQ_1214 => ?_)
            obtain rfl := cF_no hG_1212
            obtain ⟨y_1215, rfl, hb_1216, hQ_1214⟩ := hQ_1214
            have hb_1216r := t_b01 hb_1216
            show cT 121 92 [.ref a0, .int x1, .int x2, .int x3, .int y_1151, .int (nI 0), .int (nI 0), (((((((((((.retAddr 0))))))))))), (((((((((((.retAddr 0)))))))))))] [.int y_1215, .int ((nI 112) * (nI 0)), .ref (a0 + 21), .int x3] _ _ _ _ _ _
            refine cT_if b_M_sign_92 (fun c_1217 => ?_) (fun c_1217 => ?_)
            · rw [t_eq] at c_1217; try rw [t_0] at c_1217
              refine cT_go b_M_sign_99 ?_
              have t_1220 : (nI 112).toInt = 112 := nI_toInt (by decide)
              first | have t_1219 : (((nI 112)) * ((nI 0))).toInt = 112 * (((nI 0))).toInt := t_mulc (by decide) (by omega) | (obtain ⟨kt_1219, t_1219⟩ := t_mul ((nI 112)) ((nI 0)); rw [nI_toInt (show 112 < 2 ^ 31 by decide)] at t_1219)
              first | have t_1218 : ((((nI 112) * (nI 0))) + ((nI 0))).toInt = ((((nI 112) * (nI 0)))).toInt + (((nI 0))).toInt := t_addn (by omega) | obtain ⟨kt_1218, t_1218⟩ := t_add (((nI 112) * (nI 0))) ((nI 0))
              have t_1222 := t_rng (f (a0 + 21) (((nI 112) * (nI 0)) + (nI 0)).toNatClampNeg)
              refine cT_if (b_M_sign_100 (sc_7_30 s0) (by rw [sl_7_30 s0, t_in]; omega)) (fun c_1221 => ?_) (fun c_1221 => ?_)
              · rw [t_le] at c_1221; try rw [t_0] at c_1221
                exact l_M_sign_109 (0 + 1) (by omega) hI hF s0 (by omega) (by omega) (by omega) (by first | rfl | exact ie) jl
              · rw [t_le] at c_1221; try rw [t_0] at c_1221
                exact l_M_sign_105 (0 + 1) (by omega) hI hF s0 (by omega) (by omega) (by omega) (by first | rfl | exact ie) jl (by omega) (by omega)
            · rw [t_eq] at c_1217; try rw [t_0] at c_1217
              refine cT_go b_M_sign_95 ?_
              have t_1225 : (nI 112).toInt = 112 := nI_toInt (by decide)
              first | have t_1224 : (((nI 112)) * ((nI 0))).toInt = 112 * (((nI 0))).toInt := t_mulc (by decide) (by omega) | (obtain ⟨kt_1224, t_1224⟩ := t_mul ((nI 112)) ((nI 0)); rw [nI_toInt (show 112 < 2 ^ 31 by decide)] at t_1224)
              first | have t_1223 : ((((nI 112) * (nI 0))) + x2).toInt = ((((nI 112) * (nI 0)))).toInt + (x2).toInt := t_addn (by omega) | obtain ⟨kt_1223, t_1223⟩ := t_add (((nI 112) * (nI 0))) x2
              have t_1227 := t_rng (f (a0 + 21) (((nI 112) * (nI 0)) + x2).toNatClampNeg)
              refine cT_if (b_M_sign_100 (sc_7_30 s0) (by rw [sl_7_30 s0, t_in]; omega)) (fun c_1226 => ?_) (fun c_1226 => ?_)
              · rw [t_le] at c_1226; try rw [t_0] at c_1226
                exact l_M_sign_109 (0 + 1) (by omega) hI hF s0 (by omega) (by omega) (by omega) (by first | rfl | exact ie) jl
              · rw [t_le] at c_1226; try rw [t_0] at c_1226
                exact l_M_sign_105 (0 + 1) (by omega) hI hF s0 (by omega) (by omega) (by omega) (by first | rfl | exact ie) jl (by omega) (by omega)
    · rw [t_eq] at c_1156; try rw [t_0] at c_1156
      refine cT_go b_M_sign_49 ?_
      have t_1228 : (nI 0).toInt = 0 := nI_toInt (by decide)
      have t_1229 : 0 ≤ (f (a0 + 19) (nI 0).toNatClampNeg).toInt ∧ (f (a0 + 19) (nI 0).toNatClampNeg).toInt ≤ 112 := (cI_at hI (nI 0).toNatClampNeg (sc_7_28 s0)).2.2.2.2.2.1 (by omega)
      refine cT_call (b_M_sign_50 s0 (by rw [t_in]; omega)) (c_M_below hI) hF (fun o ho => ho.elim) (fun v_1230 f_1231 hI_1232 hG_1233 hF_1234 hQ_1235 => ?_)
      obtain rfl := cF_no hG_1233
      obtain ⟨y_1236, rfl, hb_1237, hQ_1235⟩ := hQ_1235
      have hb_1237r := t_b01 hb_1237
      show cT 121 63 [.ref a0, .int x1, .int x2, .int x3, .int y_1151, .int (nI 0), .int (nI 0), (((((((.retAddr 0))))))), (((((((.retAddr 0)))))))] [.int y_1236] _ _ _ _ _ _
      refine cT_if b_M_sign_63 (fun c_1238 => ?_) (fun c_1238 => ?_)
      · rw [t_eq] at c_1238; try rw [t_0] at c_1238
        exact l_M_sign_109 (0 + 1) (by omega) hI hF s0 (by omega) (by omega) (by omega) (by first | rfl | exact ie) jl
      · rw [t_eq] at c_1238; try rw [t_0] at c_1238
        refine cT_if b_M_sign_66 (fun c_1240 => ?_) (fun c_1240 => ?_)
        · rw [t_lt] at c_1240; try rw [t_0] at c_1240
          exact l_M_sign_109 (0 + 1) (by omega) hI hF s0 (by omega) (by omega) (by omega) (by first | rfl | exact ie) jl
        · rw [t_lt] at c_1240; try rw [t_0] at c_1240
          refine cT_call (b_M_sign_71 s0 (by rw [t_in]; omega)) (c_M_below hI) hF (fun o ho => ho.elim) (fun v_1241 f_1242 hI_1243 hG_1244 hF_1245 hQ_1246 => ?_)
          obtain rfl := cF_no hG_1244
          obtain ⟨y_1247, rfl, hb_1248, hQ_1246⟩ := hQ_1246
          have hb_1248r := t_b01 hb_1248
          show cT 121 92 [.ref a0, .int x1, .int x2, .int x3, .int y_1151, .int (nI 0), .int (nI 0), ((((((((((.retAddr 0)))))))))), ((((((((((.retAddr 0))))))))))] [.int y_1247, .int ((nI 112) * (nI 0)), .ref (a0 + 21), .int x3] _ _ _ _ _ _
          refine cT_if b_M_sign_92 (fun c_1249 => ?_) (fun c_1249 => ?_)
          · rw [t_eq] at c_1249; try rw [t_0] at c_1249
            refine cT_go b_M_sign_99 ?_
            have t_1252 : (nI 112).toInt = 112 := nI_toInt (by decide)
            first | have t_1251 : (((nI 112)) * ((nI 0))).toInt = 112 * (((nI 0))).toInt := t_mulc (by decide) (by omega) | (obtain ⟨kt_1251, t_1251⟩ := t_mul ((nI 112)) ((nI 0)); rw [nI_toInt (show 112 < 2 ^ 31 by decide)] at t_1251)
            first | have t_1250 : ((((nI 112) * (nI 0))) + ((nI 0))).toInt = ((((nI 112) * (nI 0)))).toInt + (((nI 0))).toInt := t_addn (by omega) | obtain ⟨kt_1250, t_1250⟩ := t_add (((nI 112) * (nI 0))) ((nI 0))
            have t_1254 := t_rng (f (a0 + 21) (((nI 112) * (nI 0)) + (nI 0)).toNatClampNeg)
            refine cT_if (b_M_sign_100 (sc_7_30 s0) (by rw [sl_7_30 s0, t_in]; omega)) (fun c_1253 => ?_) (fun c_1253 => ?_)
            · rw [t_le] at c_1253; try rw [t_0] at c_1253
              exact l_M_sign_109 (0 + 1) (by omega) hI hF s0 (by omega) (by omega) (by omega) (by first | rfl | exact ie) jl
            · rw [t_le] at c_1253; try rw [t_0] at c_1253
              exact l_M_sign_105 (0 + 1) (by omega) hI hF s0 (by omega) (by omega) (by omega) (by first | rfl | exact ie) jl (by omega) (by omega)
          · rw [t_eq] at c_1249; try rw [t_0] at c_1249
            refine cT_go b_M_sign_95 ?_
            have t_1257 : (nI 112).toInt = 112 := nI_toInt (by decide)
            first | have t_1256 : (((nI 112)) * ((nI 0))).toInt = 112 * (((nI 0))).toInt := t_mulc (by decide) (by omega) | (obtain ⟨kt_1256, t_1256⟩ := t_mul ((nI 112)) ((nI 0)); rw [nI_toInt (show 112 < 2 ^ 31 by decide)] at t_1256)
            first | have t_1255 : ((((nI 112) * (nI 0))) + x2).toInt = ((((nI 112) * (nI 0)))).toInt + (x2).toInt := t_addn (by omega) | obtain ⟨kt_1255, t_1255⟩ := t_add (((nI 112) * (nI 0))) x2
            have t_1259 := t_rng (f (a0 + 21) (((nI 112) * (nI 0)) + x2).toNatClampNeg)
            refine cT_if (b_M_sign_100 (sc_7_30 s0) (by rw [sl_7_30 s0, t_in]; omega)) (fun c_1258 => ?_) (fun c_1258 => ?_)
            · rw [t_le] at c_1258; try rw [t_0] at c_1258
              exact l_M_sign_109 (0 + 1) (by omega) hI hF s0 (by omega) (by omega) (by omega) (by first | rfl | exact ie) jl
            · rw [t_le] at c_1258; try rw [t_0] at c_1258
              exact l_M_sign_105 (0 + 1) (by omega) hI hF s0 (by omega) (by omega) (by omega) (by first | rfl | exact ie) jl (by omega) (by omega)
  · rw [t_eq] at c_1153; try rw [t_0] at c_1153
    refine cT_if b_M_sign_15 (fun c_1260 => ?_) (fun c_1260 => ?_)
    · rw [t_eq] at c_1260; try rw [t_0] at c_1260
      refine cT_go b_M_sign_20 ?_
      refine cT_if b_M_sign_33 (fun c_1262 => ?_) (fun c_1262 => ?_)
      · rw [t_eq] at c_1262; try rw [t_0] at c_1262
        refine cT_if b_M_sign_40 (fun c_1263 => ?_) (fun c_1263 => ?_)
        · rw [t_eq] at c_1263; try rw [t_0] at c_1263
          refine cT_go b_M_sign_45 ?_
          have t_1264 : (nI 0).toInt = 0 := nI_toInt (by decide)
          have t_1265 : 0 ≤ (f (a0 + 19) (nI 0).toNatClampNeg).toInt ∧ (f (a0 + 19) (nI 0).toNatClampNeg).toInt ≤ 112 := (cI_at hI (nI 0).toNatClampNeg (sc_7_28 s0)).2.2.2.2.2.1 (by omega)
          refine cT_call (b_M_sign_50 s0 (by rw [t_in]; omega)) (c_M_below hI) hF (fun o ho => ho.elim) (fun v_1266 f_1267 hI_1268 hG_1269 hF_1270 hQ_1271 => ?_)
          obtain rfl := cF_no hG_1269
          obtain ⟨y_1272, rfl, hb_1273, hQ_1271⟩ := hQ_1271
          have hb_1273r := t_b01 hb_1273
          show cT 121 63 [.ref a0, .int x1, .int x2, .int x3, .int y_1151, .int (nI 0), .int (nI 1), (((((((((.retAddr 0))))))))), (((((((((.retAddr 0)))))))))] [.int y_1272] _ _ _ _ _ _
          refine cT_if b_M_sign_63 (fun c_1274 => ?_) (fun c_1274 => ?_)
          · rw [t_eq] at c_1274; try rw [t_0] at c_1274
            have t_1275 : (nI 1).toInt = 1 := nI_toInt (by decide)
            exact l_M_sign_109 (0 + 1) (by omega) hI hF s0 (by omega) (by omega) (by omega) (by first | rfl | exact ie) jl
          · rw [t_eq] at c_1274; try rw [t_0] at c_1274
            refine cT_if b_M_sign_66 (fun c_1276 => ?_) (fun c_1276 => ?_)
            · rw [t_lt] at c_1276; try rw [t_0] at c_1276
              have t_1277 : (nI 1).toInt = 1 := nI_toInt (by decide)
              exact l_M_sign_109 (0 + 1) (by omega) hI hF s0 (by omega) (by omega) (by omega) (by first | rfl | exact ie) jl
            · rw [t_lt] at c_1276; try rw [t_0] at c_1276
              refine cT_call (b_M_sign_71 s0 (by rw [t_in]; omega)) (c_M_below hI) hF (fun o ho => ho.elim) (fun v_1278 f_1279 hI_1280 hG_1281 hF_1282 hQ_1283 => ?_)
              obtain rfl := cF_no hG_1281
              obtain ⟨y_1284, rfl, hb_1285, hQ_1283⟩ := hQ_1283
              have hb_1285r := t_b01 hb_1285
              show cT 121 92 [.ref a0, .int x1, .int x2, .int x3, .int y_1151, .int (nI 0), .int (nI 1), ((((((((((((.retAddr 0)))))))))))), ((((((((((((.retAddr 0))))))))))))] [.int y_1284, .int ((nI 112) * (nI 0)), .ref (a0 + 21), .int x3] _ _ _ _ _ _
              refine cT_if b_M_sign_92 (fun c_1286 => ?_) (fun c_1286 => ?_)
              · rw [t_eq] at c_1286; try rw [t_0] at c_1286
                refine cT_go b_M_sign_99 ?_
                have t_1289 : (nI 112).toInt = 112 := nI_toInt (by decide)
                first | have t_1288 : (((nI 112)) * ((nI 0))).toInt = 112 * (((nI 0))).toInt := t_mulc (by decide) (by omega) | (obtain ⟨kt_1288, t_1288⟩ := t_mul ((nI 112)) ((nI 0)); rw [nI_toInt (show 112 < 2 ^ 31 by decide)] at t_1288)
                first | have t_1287 : ((((nI 112) * (nI 0))) + ((nI 0))).toInt = ((((nI 112) * (nI 0)))).toInt + (((nI 0))).toInt := t_addn (by omega) | obtain ⟨kt_1287, t_1287⟩ := t_add (((nI 112) * (nI 0))) ((nI 0))
                have t_1291 := t_rng (f (a0 + 21) (((nI 112) * (nI 0)) + (nI 0)).toNatClampNeg)
                refine cT_if (b_M_sign_100 (sc_7_30 s0) (by rw [sl_7_30 s0, t_in]; omega)) (fun c_1290 => ?_) (fun c_1290 => ?_)
                · rw [t_le] at c_1290; try rw [t_0] at c_1290
                  have t_1292 : (nI 1).toInt = 1 := nI_toInt (by decide)
                  exact l_M_sign_109 (0 + 1) (by omega) hI hF s0 (by omega) (by omega) (by omega) (by first | rfl | exact ie) jl
                · rw [t_le] at c_1290; try rw [t_0] at c_1290
                  have t_1293 : (nI 1).toInt = 1 := nI_toInt (by decide)
                  exact l_M_sign_105 (0 + 1) (by omega) hI hF s0 (by omega) (by omega) (by omega) (by first | rfl | exact ie) jl (by omega) (by omega)
              · rw [t_eq] at c_1286; try rw [t_0] at c_1286
                refine cT_go b_M_sign_95 ?_
                have t_1296 : (nI 112).toInt = 112 := nI_toInt (by decide)
                first | have t_1295 : (((nI 112)) * ((nI 0))).toInt = 112 * (((nI 0))).toInt := t_mulc (by decide) (by omega) | (obtain ⟨kt_1295, t_1295⟩ := t_mul ((nI 112)) ((nI 0)); rw [nI_toInt (show 112 < 2 ^ 31 by decide)] at t_1295)
                first | have t_1294 : ((((nI 112) * (nI 0))) + x2).toInt = ((((nI 112) * (nI 0)))).toInt + (x2).toInt := t_addn (by omega) | obtain ⟨kt_1294, t_1294⟩ := t_add (((nI 112) * (nI 0))) x2
                have t_1298 := t_rng (f (a0 + 21) (((nI 112) * (nI 0)) + x2).toNatClampNeg)
                refine cT_if (b_M_sign_100 (sc_7_30 s0) (by rw [sl_7_30 s0, t_in]; omega)) (fun c_1297 => ?_) (fun c_1297 => ?_)
                · rw [t_le] at c_1297; try rw [t_0] at c_1297
                  have t_1299 : (nI 1).toInt = 1 := nI_toInt (by decide)
                  exact l_M_sign_109 (0 + 1) (by omega) hI hF s0 (by omega) (by omega) (by omega) (by first | rfl | exact ie) jl
                · rw [t_le] at c_1297; try rw [t_0] at c_1297
                  have t_1300 : (nI 1).toInt = 1 := nI_toInt (by decide)
                  exact l_M_sign_105 (0 + 1) (by omega) hI hF s0 (by omega) (by omega) (by omega) (by first | rfl | exact ie) jl (by omega) (by omega)
        · rw [t_eq] at c_1263; try rw [t_0] at c_1263
          refine cT_go b_M_sign_49 ?_
          have t_1301 : (nI 0).toInt = 0 := nI_toInt (by decide)
          have t_1302 : 0 ≤ (f (a0 + 19) (nI 0).toNatClampNeg).toInt ∧ (f (a0 + 19) (nI 0).toNatClampNeg).toInt ≤ 112 := (cI_at hI (nI 0).toNatClampNeg (sc_7_28 s0)).2.2.2.2.2.1 (by omega)
          refine cT_call (b_M_sign_50 s0 (by rw [t_in]; omega)) (c_M_below hI) hF (fun o ho => ho.elim) (fun v_1303 f_1304 hI_1305 hG_1306 hF_1307 hQ_1308 => ?_)
          obtain rfl := cF_no hG_1306
          obtain ⟨y_1309, rfl, hb_1310, hQ_1308⟩ := hQ_1308
          have hb_1310r := t_b01 hb_1310
          show cT 121 63 [.ref a0, .int x1, .int x2, .int x3, .int y_1151, .int (nI 0), .int (nI 0), (((((((((.retAddr 0))))))))), (((((((((.retAddr 0)))))))))] [.int y_1309] _ _ _ _ _ _
          refine cT_if b_M_sign_63 (fun c_1311 => ?_) (fun c_1311 => ?_)
          · rw [t_eq] at c_1311; try rw [t_0] at c_1311
            exact l_M_sign_109 (0 + 1) (by omega) hI hF s0 (by omega) (by omega) (by omega) (by first | rfl | exact ie) jl
          · rw [t_eq] at c_1311; try rw [t_0] at c_1311
            refine cT_if b_M_sign_66 (fun c_1312 => ?_) (fun c_1312 => ?_)
            · rw [t_lt] at c_1312; try rw [t_0] at c_1312
              exact l_M_sign_109 (0 + 1) (by omega) hI hF s0 (by omega) (by omega) (by omega) (by first | rfl | exact ie) jl
            · rw [t_lt] at c_1312; try rw [t_0] at c_1312
              refine cT_call (b_M_sign_71 s0 (by rw [t_in]; omega)) (c_M_below hI) hF (fun o ho => ho.elim) (fun v_1313 f_1314 hI_1315 hG_1316 hF_1317 hQ_1318 => ?_)
              obtain rfl := cF_no hG_1316
              obtain ⟨y_1319, rfl, hb_1320, hQ_1318⟩ := hQ_1318
              have hb_1320r := t_b01 hb_1320
              show cT 121 92 [.ref a0, .int x1, .int x2, .int x3, .int y_1151, .int (nI 0), .int (nI 0), ((((((((((((.retAddr 0)))))))))))), ((((((((((((.retAddr 0))))))))))))] [.int y_1319, .int ((nI 112) * (nI 0)), .ref (a0 + 21), .int x3] _ _ _ _ _ _
              refine cT_if b_M_sign_92 (fun c_1321 => ?_) (fun c_1321 => ?_)
              · rw [t_eq] at c_1321; try rw [t_0] at c_1321
                refine cT_go b_M_sign_99 ?_
                have t_1324 : (nI 112).toInt = 112 := nI_toInt (by decide)
                first | have t_1323 : (((nI 112)) * ((nI 0))).toInt = 112 * (((nI 0))).toInt := t_mulc (by decide) (by omega) | (obtain ⟨kt_1323, t_1323⟩ := t_mul ((nI 112)) ((nI 0)); rw [nI_toInt (show 112 < 2 ^ 31 by decide)] at t_1323)
                first | have t_1322 : ((((nI 112) * (nI 0))) + ((nI 0))).toInt = ((((nI 112) * (nI 0)))).toInt + (((nI 0))).toInt := t_addn (by omega) | obtain ⟨kt_1322, t_1322⟩ := t_add (((nI 112) * (nI 0))) ((nI 0))
                have t_1326 := t_rng (f (a0 + 21) (((nI 112) * (nI 0)) + (nI 0)).toNatClampNeg)
                refine cT_if (b_M_sign_100 (sc_7_30 s0) (by rw [sl_7_30 s0, t_in]; omega)) (fun c_1325 => ?_) (fun c_1325 => ?_)
                · rw [t_le] at c_1325; try rw [t_0] at c_1325
                  exact l_M_sign_109 (0 + 1) (by omega) hI hF s0 (by omega) (by omega) (by omega) (by first | rfl | exact ie) jl
                · rw [t_le] at c_1325; try rw [t_0] at c_1325
                  exact l_M_sign_105 (0 + 1) (by omega) hI hF s0 (by omega) (by omega) (by omega) (by first | rfl | exact ie) jl (by omega) (by omega)
              · rw [t_eq] at c_1321; try rw [t_0] at c_1321
                refine cT_go b_M_sign_95 ?_
                have t_1329 : (nI 112).toInt = 112 := nI_toInt (by decide)
                first | have t_1328 : (((nI 112)) * ((nI 0))).toInt = 112 * (((nI 0))).toInt := t_mulc (by decide) (by omega) | (obtain ⟨kt_1328, t_1328⟩ := t_mul ((nI 112)) ((nI 0)); rw [nI_toInt (show 112 < 2 ^ 31 by decide)] at t_1328)
                first | have t_1327 : ((((nI 112) * (nI 0))) + x2).toInt = ((((nI 112) * (nI 0)))).toInt + (x2).toInt := t_addn (by omega) | obtain ⟨kt_1327, t_1327⟩ := t_add (((nI 112) * (nI 0))) x2
                have t_1331 := t_rng (f (a0 + 21) (((nI 112) * (nI 0)) + x2).toNatClampNeg)
                refine cT_if (b_M_sign_100 (sc_7_30 s0) (by rw [sl_7_30 s0, t_in]; omega)) (fun c_1330 => ?_) (fun c_1330 => ?_)
                · rw [t_le] at c_1330; try rw [t_0] at c_1330
                  exact l_M_sign_109 (0 + 1) (by omega) hI hF s0 (by omega) (by omega) (by omega) (by first | rfl | exact ie) jl
                · rw [t_le] at c_1330; try rw [t_0] at c_1330
                  exact l_M_sign_105 (0 + 1) (by omega) hI hF s0 (by omega) (by omega) (by omega) (by first | rfl | exact ie) jl (by omega) (by omega)
      · rw [t_eq] at c_1262; try rw [t_0] at c_1262
        refine cT_go b_M_sign_49 ?_
        have t_1332 : (nI 0).toInt = 0 := nI_toInt (by decide)
        have t_1333 : 0 ≤ (f (a0 + 19) (nI 0).toNatClampNeg).toInt ∧ (f (a0 + 19) (nI 0).toNatClampNeg).toInt ≤ 112 := (cI_at hI (nI 0).toNatClampNeg (sc_7_28 s0)).2.2.2.2.2.1 (by omega)
        refine cT_call (b_M_sign_50 s0 (by rw [t_in]; omega)) (c_M_below hI) hF (fun o ho => ho.elim) (fun v_1334 f_1335 hI_1336 hG_1337 hF_1338 hQ_1339 => ?_)
        obtain rfl := cF_no hG_1337
        obtain ⟨y_1340, rfl, hb_1341, hQ_1339⟩ := hQ_1339
        have hb_1341r := t_b01 hb_1341
        show cT 121 63 [.ref a0, .int x1, .int x2, .int x3, .int y_1151, .int (nI 0), .int (nI 0), ((((((((.retAddr 0)))))))), ((((((((.retAddr 0))))))))] [.int y_1340] _ _ _ _ _ _
        refine cT_if b_M_sign_63 (fun c_1342 => ?_) (fun c_1342 => ?_)
        · rw [t_eq] at c_1342; try rw [t_0] at c_1342
          exact l_M_sign_109 (0 + 1) (by omega) hI hF s0 (by omega) (by omega) (by omega) (by first | rfl | exact ie) jl
        · rw [t_eq] at c_1342; try rw [t_0] at c_1342
          refine cT_if b_M_sign_66 (fun c_1343 => ?_) (fun c_1343 => ?_)
          · rw [t_lt] at c_1343; try rw [t_0] at c_1343
            exact l_M_sign_109 (0 + 1) (by omega) hI hF s0 (by omega) (by omega) (by omega) (by first | rfl | exact ie) jl
          · rw [t_lt] at c_1343; try rw [t_0] at c_1343
            refine cT_call (b_M_sign_71 s0 (by rw [t_in]; omega)) (c_M_below hI) hF (fun o ho => ho.elim) (fun v_1344 f_1345 hI_1346 hG_1347 hF_1348 hQ_1349 => ?_)
            obtain rfl := cF_no hG_1347
            obtain ⟨y_1350, rfl, hb_1351, hQ_1349⟩ := hQ_1349
            have hb_1351r := t_b01 hb_1351
            show cT 121 92 [.ref a0, .int x1, .int x2, .int x3, .int y_1151, .int (nI 0), .int (nI 0), (((((((((((.retAddr 0))))))))))), (((((((((((.retAddr 0)))))))))))] [.int y_1350, .int ((nI 112) * (nI 0)), .ref (a0 + 21), .int x3] _ _ _ _ _ _
            refine cT_if b_M_sign_92 (fun c_1352 => ?_) (fun c_1352 => ?_)
            · rw [t_eq] at c_1352; try rw [t_0] at c_1352
              refine cT_go b_M_sign_99 ?_
              have t_1355 : (nI 112).toInt = 112 := nI_toInt (by decide)
              first | have t_1354 : (((nI 112)) * ((nI 0))).toInt = 112 * (((nI 0))).toInt := t_mulc (by decide) (by omega) | (obtain ⟨kt_1354, t_1354⟩ := t_mul ((nI 112)) ((nI 0)); rw [nI_toInt (show 112 < 2 ^ 31 by decide)] at t_1354)
              first | have t_1353 : ((((nI 112) * (nI 0))) + ((nI 0))).toInt = ((((nI 112) * (nI 0)))).toInt + (((nI 0))).toInt := t_addn (by omega) | obtain ⟨kt_1353, t_1353⟩ := t_add (((nI 112) * (nI 0))) ((nI 0))
              have t_1357 := t_rng (f (a0 + 21) (((nI 112) * (nI 0)) + (nI 0)).toNatClampNeg)
              refine cT_if (b_M_sign_100 (sc_7_30 s0) (by rw [sl_7_30 s0, t_in]; omega)) (fun c_1356 => ?_) (fun c_1356 => ?_)
              · rw [t_le] at c_1356; try rw [t_0] at c_1356
                exact l_M_sign_109 (0 + 1) (by omega) hI hF s0 (by omega) (by omega) (by omega) (by first | rfl | exact ie) jl
              · rw [t_le] at c_1356; try rw [t_0] at c_1356
                exact l_M_sign_105 (0 + 1) (by omega) hI hF s0 (by omega) (by omega) (by omega) (by first | rfl | exact ie) jl (by omega) (by omega)
            · rw [t_eq] at c_1352; try rw [t_0] at c_1352
              refine cT_go b_M_sign_95 ?_
              have t_1360 : (nI 112).toInt = 112 := nI_toInt (by decide)
              first | have t_1359 : (((nI 112)) * ((nI 0))).toInt = 112 * (((nI 0))).toInt := t_mulc (by decide) (by omega) | (obtain ⟨kt_1359, t_1359⟩ := t_mul ((nI 112)) ((nI 0)); rw [nI_toInt (show 112 < 2 ^ 31 by decide)] at t_1359)
              first | have t_1358 : ((((nI 112) * (nI 0))) + x2).toInt = ((((nI 112) * (nI 0)))).toInt + (x2).toInt := t_addn (by omega) | obtain ⟨kt_1358, t_1358⟩ := t_add (((nI 112) * (nI 0))) x2
              have t_1362 := t_rng (f (a0 + 21) (((nI 112) * (nI 0)) + x2).toNatClampNeg)
              refine cT_if (b_M_sign_100 (sc_7_30 s0) (by rw [sl_7_30 s0, t_in]; omega)) (fun c_1361 => ?_) (fun c_1361 => ?_)
              · rw [t_le] at c_1361; try rw [t_0] at c_1361
                exact l_M_sign_109 (0 + 1) (by omega) hI hF s0 (by omega) (by omega) (by omega) (by first | rfl | exact ie) jl
              · rw [t_le] at c_1361; try rw [t_0] at c_1361
                exact l_M_sign_105 (0 + 1) (by omega) hI hF s0 (by omega) (by omega) (by omega) (by first | rfl | exact ie) jl (by omega) (by omega)
    · rw [t_eq] at c_1260; try rw [t_0] at c_1260
      refine cT_go (b_M_sign_24 s0) ?_
      refine cT_if b_M_sign_33 (fun c_1363 => ?_) (fun c_1363 => ?_)
      · rw [t_eq] at c_1363; try rw [t_0] at c_1363
        refine cT_if b_M_sign_40 (fun c_1364 => ?_) (fun c_1364 => ?_)
        · rw [t_eq] at c_1364; try rw [t_0] at c_1364
          refine cT_go b_M_sign_45 ?_
          have t_1367 : (nI 8).toInt = 8 := nI_toInt (by decide)
          first | have t_1366 : (((nI 8)) * ((f a0 23))).toInt = 8 * (((f a0 23))).toInt := t_mulc (by decide) (by omega) | (obtain ⟨kt_1366, t_1366⟩ := t_mul ((nI 8)) ((f a0 23)); rw [nI_toInt (show 8 < 2 ^ 31 by decide)] at t_1366)
          first | have t_1365 : ((((nI 8) * (f a0 23))) + x1).toInt = ((((nI 8) * (f a0 23)))).toInt + (x1).toInt := t_addn (by omega) | obtain ⟨kt_1365, t_1365⟩ := t_add (((nI 8) * (f a0 23))) x1
          have t_1368 : 0 ≤ (f (a0 + 19) (((nI 8) * (f a0 23)) + x1).toNatClampNeg).toInt ∧ (f (a0 + 19) (((nI 8) * (f a0 23)) + x1).toNatClampNeg).toInt ≤ 112 := (cI_at hI (((nI 8) * (f a0 23)) + x1).toNatClampNeg (sc_7_28 s0)).2.2.2.2.2.1 (by omega)
          refine cT_call (b_M_sign_50 s0 (by rw [t_in]; omega)) (c_M_below hI) hF (fun o ho => ho.elim) (fun v_1369 f_1370 hI_1371 hG_1372 hF_1373 hQ_1374 => ?_)
          obtain rfl := cF_no hG_1372
          obtain ⟨y_1375, rfl, hb_1376, hQ_1374⟩ := hQ_1374
          have hb_1376r := t_b01 hb_1376
          show cT 121 63 [.ref a0, .int x1, .int x2, .int x3, .int y_1151, .int (((nI 8) * (f a0 23)) + x1), .int (nI 1), (((((((((.retAddr 0))))))))), (((((((((.retAddr 0)))))))))] [.int y_1375] _ _ _ _ _ _
          refine cT_if b_M_sign_63 (fun c_1377 => ?_) (fun c_1377 => ?_)
          · rw [t_eq] at c_1377; try rw [t_0] at c_1377
            have t_1378 : (nI 1).toInt = 1 := nI_toInt (by decide)
            exact l_M_sign_109 (0 + 1) (by omega) hI hF s0 (by omega) (by omega) (by omega) (by first | rfl | exact ie) jl
          · rw [t_eq] at c_1377; try rw [t_0] at c_1377
            refine cT_if b_M_sign_66 (fun c_1379 => ?_) (fun c_1379 => ?_)
            · rw [t_lt] at c_1379; try rw [t_0] at c_1379
              have t_1380 : (nI 1).toInt = 1 := nI_toInt (by decide)
              exact l_M_sign_109 (0 + 1) (by omega) hI hF s0 (by omega) (by omega) (by omega) (by first | rfl | exact ie) jl
            · rw [t_lt] at c_1379; try rw [t_0] at c_1379
              refine cT_call (b_M_sign_71 s0 (by rw [t_in]; omega)) (c_M_below hI) hF (fun o ho => ho.elim) (fun v_1381 f_1382 hI_1383 hG_1384 hF_1385 hQ_1386 => ?_)
              obtain rfl := cF_no hG_1384
              obtain ⟨y_1387, rfl, hb_1388, hQ_1386⟩ := hQ_1386
              have hb_1388r := t_b01 hb_1388
              show cT 121 92 [.ref a0, .int x1, .int x2, .int x3, .int y_1151, .int (((nI 8) * (f a0 23)) + x1), .int (nI 1), ((((((((((((.retAddr 0)))))))))))), ((((((((((((.retAddr 0))))))))))))] [.int y_1387, .int ((nI 112) * (((nI 8) * (f a0 23)) + x1)), .ref (a0 + 21), .int x3] _ _ _ _ _ _
              refine cT_if b_M_sign_92 (fun c_1389 => ?_) (fun c_1389 => ?_)
              · rw [t_eq] at c_1389; try rw [t_0] at c_1389
                refine cT_go b_M_sign_99 ?_
                have t_1392 : (nI 112).toInt = 112 := nI_toInt (by decide)
                first | have t_1391 : (((nI 112)) * ((((nI 8) * (f a0 23)) + x1))).toInt = 112 * (((((nI 8) * (f a0 23)) + x1))).toInt := t_mulc (by decide) (by omega) | (obtain ⟨kt_1391, t_1391⟩ := t_mul ((nI 112)) ((((nI 8) * (f a0 23)) + x1)); rw [nI_toInt (show 112 < 2 ^ 31 by decide)] at t_1391)
                have t_1393 : (nI 0).toInt = 0 := nI_toInt (by decide)
                first | have t_1390 : ((((nI 112) * (((nI 8) * (f a0 23)) + x1))) + ((nI 0))).toInt = ((((nI 112) * (((nI 8) * (f a0 23)) + x1)))).toInt + (((nI 0))).toInt := t_addn (by omega) | obtain ⟨kt_1390, t_1390⟩ := t_add (((nI 112) * (((nI 8) * (f a0 23)) + x1))) ((nI 0))
                have t_1395 := t_rng (f (a0 + 21) (((nI 112) * (((nI 8) * (f a0 23)) + x1)) + (nI 0)).toNatClampNeg)
                refine cT_if (b_M_sign_100 (sc_7_30 s0) (by rw [sl_7_30 s0, t_in]; omega)) (fun c_1394 => ?_) (fun c_1394 => ?_)
                · rw [t_le] at c_1394; try rw [t_0] at c_1394
                  have t_1396 : (nI 1).toInt = 1 := nI_toInt (by decide)
                  exact l_M_sign_109 (0 + 1) (by omega) hI hF s0 (by omega) (by omega) (by omega) (by first | rfl | exact ie) jl
                · rw [t_le] at c_1394; try rw [t_0] at c_1394
                  have t_1397 : (nI 1).toInt = 1 := nI_toInt (by decide)
                  exact l_M_sign_105 (0 + 1) (by omega) hI hF s0 (by omega) (by omega) (by omega) (by first | rfl | exact ie) jl (by omega) (by omega)
              · rw [t_eq] at c_1389; try rw [t_0] at c_1389
                refine cT_go b_M_sign_95 ?_
                have t_1400 : (nI 112).toInt = 112 := nI_toInt (by decide)
                first | have t_1399 : (((nI 112)) * ((((nI 8) * (f a0 23)) + x1))).toInt = 112 * (((((nI 8) * (f a0 23)) + x1))).toInt := t_mulc (by decide) (by omega) | (obtain ⟨kt_1399, t_1399⟩ := t_mul ((nI 112)) ((((nI 8) * (f a0 23)) + x1)); rw [nI_toInt (show 112 < 2 ^ 31 by decide)] at t_1399)
                first | have t_1398 : ((((nI 112) * (((nI 8) * (f a0 23)) + x1))) + x2).toInt = ((((nI 112) * (((nI 8) * (f a0 23)) + x1)))).toInt + (x2).toInt := t_addn (by omega) | obtain ⟨kt_1398, t_1398⟩ := t_add (((nI 112) * (((nI 8) * (f a0 23)) + x1))) x2
                have t_1402 := t_rng (f (a0 + 21) (((nI 112) * (((nI 8) * (f a0 23)) + x1)) + x2).toNatClampNeg)
                refine cT_if (b_M_sign_100 (sc_7_30 s0) (by rw [sl_7_30 s0, t_in]; omega)) (fun c_1401 => ?_) (fun c_1401 => ?_)
                · rw [t_le] at c_1401; try rw [t_0] at c_1401
                  have t_1403 : (nI 1).toInt = 1 := nI_toInt (by decide)
                  exact l_M_sign_109 (0 + 1) (by omega) hI hF s0 (by omega) (by omega) (by omega) (by first | rfl | exact ie) jl
                · rw [t_le] at c_1401; try rw [t_0] at c_1401
                  have t_1404 : (nI 1).toInt = 1 := nI_toInt (by decide)
                  exact l_M_sign_105 (0 + 1) (by omega) hI hF s0 (by omega) (by omega) (by omega) (by first | rfl | exact ie) jl (by omega) (by omega)
        · rw [t_eq] at c_1364; try rw [t_0] at c_1364
          refine cT_go b_M_sign_49 ?_
          have t_1407 : (nI 8).toInt = 8 := nI_toInt (by decide)
          first | have t_1406 : (((nI 8)) * ((f a0 23))).toInt = 8 * (((f a0 23))).toInt := t_mulc (by decide) (by omega) | (obtain ⟨kt_1406, t_1406⟩ := t_mul ((nI 8)) ((f a0 23)); rw [nI_toInt (show 8 < 2 ^ 31 by decide)] at t_1406)
          first | have t_1405 : ((((nI 8) * (f a0 23))) + x1).toInt = ((((nI 8) * (f a0 23)))).toInt + (x1).toInt := t_addn (by omega) | obtain ⟨kt_1405, t_1405⟩ := t_add (((nI 8) * (f a0 23))) x1
          have t_1408 : 0 ≤ (f (a0 + 19) (((nI 8) * (f a0 23)) + x1).toNatClampNeg).toInt ∧ (f (a0 + 19) (((nI 8) * (f a0 23)) + x1).toNatClampNeg).toInt ≤ 112 := (cI_at hI (((nI 8) * (f a0 23)) + x1).toNatClampNeg (sc_7_28 s0)).2.2.2.2.2.1 (by omega)
          refine cT_call (b_M_sign_50 s0 (by rw [t_in]; omega)) (c_M_below hI) hF (fun o ho => ho.elim) (fun v_1409 f_1410 hI_1411 hG_1412 hF_1413 hQ_1414 => ?_)
          obtain rfl := cF_no hG_1412
          obtain ⟨y_1415, rfl, hb_1416, hQ_1414⟩ := hQ_1414
          have hb_1416r := t_b01 hb_1416
          show cT 121 63 [.ref a0, .int x1, .int x2, .int x3, .int y_1151, .int (((nI 8) * (f a0 23)) + x1), .int (nI 0), (((((((((.retAddr 0))))))))), (((((((((.retAddr 0)))))))))] [.int y_1415] _ _ _ _ _ _
          refine cT_if b_M_sign_63 (fun c_1417 => ?_) (fun c_1417 => ?_)
          · rw [t_eq] at c_1417; try rw [t_0] at c_1417
            have t_1418 : (nI 0).toInt = 0 := nI_toInt (by decide)
            exact l_M_sign_109 (0 + 1) (by omega) hI hF s0 (by omega) (by omega) (by omega) (by first | rfl | exact ie) jl
          · rw [t_eq] at c_1417; try rw [t_0] at c_1417
            refine cT_if b_M_sign_66 (fun c_1419 => ?_) (fun c_1419 => ?_)
            · rw [t_lt] at c_1419; try rw [t_0] at c_1419
              have t_1420 : (nI 0).toInt = 0 := nI_toInt (by decide)
              exact l_M_sign_109 (0 + 1) (by omega) hI hF s0 (by omega) (by omega) (by omega) (by first | rfl | exact ie) jl
            · rw [t_lt] at c_1419; try rw [t_0] at c_1419
              refine cT_call (b_M_sign_71 s0 (by rw [t_in]; omega)) (c_M_below hI) hF (fun o ho => ho.elim) (fun v_1421 f_1422 hI_1423 hG_1424 hF_1425 hQ_1426 => ?_)
              obtain rfl := cF_no hG_1424
              obtain ⟨y_1427, rfl, hb_1428, hQ_1426⟩ := hQ_1426
              have hb_1428r := t_b01 hb_1428
              show cT 121 92 [.ref a0, .int x1, .int x2, .int x3, .int y_1151, .int (((nI 8) * (f a0 23)) + x1), .int (nI 0), ((((((((((((.retAddr 0)))))))))))), ((((((((((((.retAddr 0))))))))))))] [.int y_1427, .int ((nI 112) * (((nI 8) * (f a0 23)) + x1)), .ref (a0 + 21), .int x3] _ _ _ _ _ _
              refine cT_if b_M_sign_92 (fun c_1429 => ?_) (fun c_1429 => ?_)
              · rw [t_eq] at c_1429; try rw [t_0] at c_1429
                refine cT_go b_M_sign_99 ?_
                have t_1432 : (nI 112).toInt = 112 := nI_toInt (by decide)
                first | have t_1431 : (((nI 112)) * ((((nI 8) * (f a0 23)) + x1))).toInt = 112 * (((((nI 8) * (f a0 23)) + x1))).toInt := t_mulc (by decide) (by omega) | (obtain ⟨kt_1431, t_1431⟩ := t_mul ((nI 112)) ((((nI 8) * (f a0 23)) + x1)); rw [nI_toInt (show 112 < 2 ^ 31 by decide)] at t_1431)
                have t_1433 : (nI 0).toInt = 0 := nI_toInt (by decide)
                first | have t_1430 : ((((nI 112) * (((nI 8) * (f a0 23)) + x1))) + ((nI 0))).toInt = ((((nI 112) * (((nI 8) * (f a0 23)) + x1)))).toInt + (((nI 0))).toInt := t_addn (by omega) | obtain ⟨kt_1430, t_1430⟩ := t_add (((nI 112) * (((nI 8) * (f a0 23)) + x1))) ((nI 0))
                have t_1435 := t_rng (f (a0 + 21) (((nI 112) * (((nI 8) * (f a0 23)) + x1)) + (nI 0)).toNatClampNeg)
                refine cT_if (b_M_sign_100 (sc_7_30 s0) (by rw [sl_7_30 s0, t_in]; omega)) (fun c_1434 => ?_) (fun c_1434 => ?_)
                · rw [t_le] at c_1434; try rw [t_0] at c_1434
                  exact l_M_sign_109 (0 + 1) (by omega) hI hF s0 (by omega) (by omega) (by omega) (by first | rfl | exact ie) jl
                · rw [t_le] at c_1434; try rw [t_0] at c_1434
                  exact l_M_sign_105 (0 + 1) (by omega) hI hF s0 (by omega) (by omega) (by omega) (by first | rfl | exact ie) jl (by omega) (by omega)
              · rw [t_eq] at c_1429; try rw [t_0] at c_1429
                refine cT_go b_M_sign_95 ?_
                have t_1438 : (nI 112).toInt = 112 := nI_toInt (by decide)
                first | have t_1437 : (((nI 112)) * ((((nI 8) * (f a0 23)) + x1))).toInt = 112 * (((((nI 8) * (f a0 23)) + x1))).toInt := t_mulc (by decide) (by omega) | (obtain ⟨kt_1437, t_1437⟩ := t_mul ((nI 112)) ((((nI 8) * (f a0 23)) + x1)); rw [nI_toInt (show 112 < 2 ^ 31 by decide)] at t_1437)
                first | have t_1436 : ((((nI 112) * (((nI 8) * (f a0 23)) + x1))) + x2).toInt = ((((nI 112) * (((nI 8) * (f a0 23)) + x1)))).toInt + (x2).toInt := t_addn (by omega) | obtain ⟨kt_1436, t_1436⟩ := t_add (((nI 112) * (((nI 8) * (f a0 23)) + x1))) x2
                have t_1440 := t_rng (f (a0 + 21) (((nI 112) * (((nI 8) * (f a0 23)) + x1)) + x2).toNatClampNeg)
                refine cT_if (b_M_sign_100 (sc_7_30 s0) (by rw [sl_7_30 s0, t_in]; omega)) (fun c_1439 => ?_) (fun c_1439 => ?_)
                · rw [t_le] at c_1439; try rw [t_0] at c_1439
                  have t_1441 : (nI 0).toInt = 0 := nI_toInt (by decide)
                  exact l_M_sign_109 (0 + 1) (by omega) hI hF s0 (by omega) (by omega) (by omega) (by first | rfl | exact ie) jl
                · rw [t_le] at c_1439; try rw [t_0] at c_1439
                  have t_1442 : (nI 0).toInt = 0 := nI_toInt (by decide)
                  exact l_M_sign_105 (0 + 1) (by omega) hI hF s0 (by omega) (by omega) (by omega) (by first | rfl | exact ie) jl (by omega) (by omega)
      · rw [t_eq] at c_1363; try rw [t_0] at c_1363
        refine cT_go b_M_sign_49 ?_
        have t_1445 : (nI 8).toInt = 8 := nI_toInt (by decide)
        first | have t_1444 : (((nI 8)) * ((f a0 23))).toInt = 8 * (((f a0 23))).toInt := t_mulc (by decide) (by omega) | (obtain ⟨kt_1444, t_1444⟩ := t_mul ((nI 8)) ((f a0 23)); rw [nI_toInt (show 8 < 2 ^ 31 by decide)] at t_1444)
        first | have t_1443 : ((((nI 8) * (f a0 23))) + x1).toInt = ((((nI 8) * (f a0 23)))).toInt + (x1).toInt := t_addn (by omega) | obtain ⟨kt_1443, t_1443⟩ := t_add (((nI 8) * (f a0 23))) x1
        have t_1446 : 0 ≤ (f (a0 + 19) (((nI 8) * (f a0 23)) + x1).toNatClampNeg).toInt ∧ (f (a0 + 19) (((nI 8) * (f a0 23)) + x1).toNatClampNeg).toInt ≤ 112 := (cI_at hI (((nI 8) * (f a0 23)) + x1).toNatClampNeg (sc_7_28 s0)).2.2.2.2.2.1 (by omega)
        refine cT_call (b_M_sign_50 s0 (by rw [t_in]; omega)) (c_M_below hI) hF (fun o ho => ho.elim) (fun v_1447 f_1448 hI_1449 hG_1450 hF_1451 hQ_1452 => ?_)
        obtain rfl := cF_no hG_1450
        obtain ⟨y_1453, rfl, hb_1454, hQ_1452⟩ := hQ_1452
        have hb_1454r := t_b01 hb_1454
        show cT 121 63 [.ref a0, .int x1, .int x2, .int x3, .int y_1151, .int (((nI 8) * (f a0 23)) + x1), .int (nI 0), ((((((((.retAddr 0)))))))), ((((((((.retAddr 0))))))))] [.int y_1453] _ _ _ _ _ _
        refine cT_if b_M_sign_63 (fun c_1455 => ?_) (fun c_1455 => ?_)
        · rw [t_eq] at c_1455; try rw [t_0] at c_1455
          have t_1456 : (nI 0).toInt = 0 := nI_toInt (by decide)
          exact l_M_sign_109 (0 + 1) (by omega) hI hF s0 (by omega) (by omega) (by omega) (by first | rfl | exact ie) jl
        · rw [t_eq] at c_1455; try rw [t_0] at c_1455
          refine cT_if b_M_sign_66 (fun c_1457 => ?_) (fun c_1457 => ?_)
          · rw [t_lt] at c_1457; try rw [t_0] at c_1457
            have t_1458 : (nI 0).toInt = 0 := nI_toInt (by decide)
            exact l_M_sign_109 (0 + 1) (by omega) hI hF s0 (by omega) (by omega) (by omega) (by first | rfl | exact ie) jl
          · rw [t_lt] at c_1457; try rw [t_0] at c_1457
            refine cT_call (b_M_sign_71 s0 (by rw [t_in]; omega)) (c_M_below hI) hF (fun o ho => ho.elim) (fun v_1459 f_1460 hI_1461 hG_1462 hF_1463 hQ_1464 => ?_)
            obtain rfl := cF_no hG_1462
            obtain ⟨y_1465, rfl, hb_1466, hQ_1464⟩ := hQ_1464
            have hb_1466r := t_b01 hb_1466
            show cT 121 92 [.ref a0, .int x1, .int x2, .int x3, .int y_1151, .int (((nI 8) * (f a0 23)) + x1), .int (nI 0), (((((((((((.retAddr 0))))))))))), (((((((((((.retAddr 0)))))))))))] [.int y_1465, .int ((nI 112) * (((nI 8) * (f a0 23)) + x1)), .ref (a0 + 21), .int x3] _ _ _ _ _ _
            refine cT_if b_M_sign_92 (fun c_1467 => ?_) (fun c_1467 => ?_)
            · rw [t_eq] at c_1467; try rw [t_0] at c_1467
              refine cT_go b_M_sign_99 ?_
              have t_1470 : (nI 112).toInt = 112 := nI_toInt (by decide)
              first | have t_1469 : (((nI 112)) * ((((nI 8) * (f a0 23)) + x1))).toInt = 112 * (((((nI 8) * (f a0 23)) + x1))).toInt := t_mulc (by decide) (by omega) | (obtain ⟨kt_1469, t_1469⟩ := t_mul ((nI 112)) ((((nI 8) * (f a0 23)) + x1)); rw [nI_toInt (show 112 < 2 ^ 31 by decide)] at t_1469)
              have t_1471 : (nI 0).toInt = 0 := nI_toInt (by decide)
              first | have t_1468 : ((((nI 112) * (((nI 8) * (f a0 23)) + x1))) + ((nI 0))).toInt = ((((nI 112) * (((nI 8) * (f a0 23)) + x1)))).toInt + (((nI 0))).toInt := t_addn (by omega) | obtain ⟨kt_1468, t_1468⟩ := t_add (((nI 112) * (((nI 8) * (f a0 23)) + x1))) ((nI 0))
              have t_1473 := t_rng (f (a0 + 21) (((nI 112) * (((nI 8) * (f a0 23)) + x1)) + (nI 0)).toNatClampNeg)
              refine cT_if (b_M_sign_100 (sc_7_30 s0) (by rw [sl_7_30 s0, t_in]; omega)) (fun c_1472 => ?_) (fun c_1472 => ?_)
              · rw [t_le] at c_1472; try rw [t_0] at c_1472
                exact l_M_sign_109 (0 + 1) (by omega) hI hF s0 (by omega) (by omega) (by omega) (by first | rfl | exact ie) jl
              · rw [t_le] at c_1472; try rw [t_0] at c_1472
                exact l_M_sign_105 (0 + 1) (by omega) hI hF s0 (by omega) (by omega) (by omega) (by first | rfl | exact ie) jl (by omega) (by omega)
            · rw [t_eq] at c_1467; try rw [t_0] at c_1467
              refine cT_go b_M_sign_95 ?_
              have t_1476 : (nI 112).toInt = 112 := nI_toInt (by decide)
              first | have t_1475 : (((nI 112)) * ((((nI 8) * (f a0 23)) + x1))).toInt = 112 * (((((nI 8) * (f a0 23)) + x1))).toInt := t_mulc (by decide) (by omega) | (obtain ⟨kt_1475, t_1475⟩ := t_mul ((nI 112)) ((((nI 8) * (f a0 23)) + x1)); rw [nI_toInt (show 112 < 2 ^ 31 by decide)] at t_1475)
              first | have t_1474 : ((((nI 112) * (((nI 8) * (f a0 23)) + x1))) + x2).toInt = ((((nI 112) * (((nI 8) * (f a0 23)) + x1)))).toInt + (x2).toInt := t_addn (by omega) | obtain ⟨kt_1474, t_1474⟩ := t_add (((nI 112) * (((nI 8) * (f a0 23)) + x1))) x2
              have t_1478 := t_rng (f (a0 + 21) (((nI 112) * (((nI 8) * (f a0 23)) + x1)) + x2).toNatClampNeg)
              refine cT_if (b_M_sign_100 (sc_7_30 s0) (by rw [sl_7_30 s0, t_in]; omega)) (fun c_1477 => ?_) (fun c_1477 => ?_)
              · rw [t_le] at c_1477; try rw [t_0] at c_1477
                have t_1479 : (nI 0).toInt = 0 := nI_toInt (by decide)
                exact l_M_sign_109 (0 + 1) (by omega) hI hF s0 (by omega) (by omega) (by omega) (by first | rfl | exact ie) jl
              · rw [t_le] at c_1477; try rw [t_0] at c_1477
                have t_1480 : (nI 0).toInt = 0 := nI_toInt (by decide)
                exact l_M_sign_105 (0 + 1) (by omega) hI hF s0 (by omega) (by omega) (by omega) (by first | rfl | exact ie) jl (by omega) (by omega)
