theorem c_M_unit {L : Nat} {f : cg_G} {e : Nat × Nat} {a0 : Nat} {x1 : Int32} {x2 : Int32} (hI : cI L f) (s0 : sh_ a0 = 7)  : cE 98 [.ref a0, .int x1, .int x2] L e (fun o => o = a0 ∨ o = a0 + 1) f (fun v f' => ∃ x : Int32, v = some (.int x) ∧ ((((32 < (f a0 3).toInt + (cnz x1 4 : Nat) + (cnz x2 4 : Nat) ∧ (f' a0 2).toInt = 1) ∨ ((f a0 3).toInt + (cnz x1 4 : Nat) + (cnz x2 4 : Nat) ≤ 32 ∧ ¬ (cbd x1 4 = 0 ∧ cbd x2 4 = 0) ∧ (f' a0 2).toInt = 2)) ∧ f' (a0 + 1) = f (a0 + 1) ∧ (f' a0 3).toInt = (f a0 3).toInt ∨ (((f a0 3).toInt + (cnz x1 4 : Nat) + (cnz x2 4 : Nat) ≤ 32 ∧ cbd x1 4 = 0 ∧ cbd x2 4 = 0) ∧ (f' a0 2).toInt = 0 ∧ x.toInt = (f a0 3).toInt + (cnz x1 4 : Nat) + (cnz x2 4 : Nat)) ∧ (∃ g1 n1, padI (f (a0 + 1)) g1 (f a0 3).toNatClampNeg x1 4 ∧ padI g1 (f' (a0 + 1)) n1 x2 4 ∧ n1 = (f a0 3).toNatClampNeg + cnz x1 4) ∧ (f' a0 3).toInt = (f a0 3).toInt + (cnz x1 4 : Nat) + (cnz x2 4 : Nat)) ∧ ∀ k, k ≠ 2 → k ≠ 3 → f' a0 k = f a0 k)) := by
  refine cE_of (ls := [.ref a0, .int x1, .int x2]) rfl ?_
  have t0 := t_0
  have hF : cF (fun o => o = a0 ∨ o = a0 + 1) f f := cF_rf
  have hm := one_7 s0
  have hb0 := (cI_at hI 3 s0).2.2.2.1 rfl
  obtain ⟨fo, hfo⟩ : ∃ g : cg_G, g = f := ⟨_, rfl⟩
  have t_1 := t_rng (x1)
  have t_2 := t_rng (x2)
  refine cT_call (b_M_unit_0 s0) (c_M_signsOf hI) hF (fun o ho => ho.elim) (fun v_3 f_4 hI_5 hG_6 hF_7 hQ_8 => ?_)
  obtain rfl := cF_no hG_6
  obtain ⟨y_9, rfl, hQ_8⟩ := hQ_8
  have hQ_8r := t_rng y_9
  show cT 98 9 [.ref a0, .int x1, .int x2] [.int y_9, .int (f a0 3), .ref a0] _ _ _ _ _ _
  refine cT_call b_M_unit_9 (c_M_signsOf hI) hF (fun o ho => ho.elim) (fun v_10 f_11 hI_12 hG_13 hF_14 hQ_15 => ?_)
  obtain rfl := cF_no hG_13
  obtain ⟨y_16, rfl, hQ_15⟩ := hQ_15
  have hQ_15r := t_rng y_16
  show cT 98 14 [.ref a0, .int x1, .int x2] [.int y_16, .int ((f a0 3) + y_9), .ref a0] _ _ _ _ _ _
  have t_18 : (nI 32).toInt = 32 := nI_toInt (by decide)
  have t_21 : 0 ≤ (f a0 3).toInt ∧ (f a0 3).toInt ≤ 32 := (cI_at hI 3 s0).2.2.2.1 rfl
  first | have t_20 : (((f a0 3)) + y_9).toInt = (((f a0 3))).toInt + (y_9).toInt := t_addn (by omega) | obtain ⟨kt_20, t_20⟩ := t_add ((f a0 3)) y_9
  first | have t_19 : ((((f a0 3) + y_9)) + y_16).toInt = ((((f a0 3) + y_9))).toInt + (y_16).toInt := t_addn (by omega) | obtain ⟨kt_19, t_19⟩ := t_add (((f a0 3) + y_9)) y_16
  refine cT_if b_M_unit_14 (fun c_17 => ?_) (fun c_17 => ?_)
  · rw [t_lt] at c_17
    refine cT_go b_M_unit_24 ?_
    refine cT_call b_M_unit_25 (c_M_arePlain hI) hF (fun o ho => ho.elim) (fun v_22 f_23 hI_24 hG_25 hF_26 hQ_27 => ?_)
    obtain rfl := cF_no hG_25
    obtain ⟨y_28, rfl, hb_29, hQ_27⟩ := hQ_27
    have hb_29r := t_rng y_28
    show cT 98 29 [.ref a0, .int x1, .int x2] [.int y_28, .int (nI 0), .ref a0] _ _ _ _ _ _
    refine cT_if b_M_unit_29 (fun c_30 => ?_) (fun c_30 => ?_)
    · rw [t_eq] at c_30
      refine cT_go b_M_unit_43 ?_
      have t_32 : (nI 0).toInt = 0 := nI_toInt (by decide)
      refine cT_call (b_M_unit_44 s0) (c_M_goes hI s0) hF (fun o ho => by omega) (fun v_33 f_34 hI_35 hG_36 hF_37 hQ_38 => ?_)
      obtain ⟨y_39, rfl, hb_40, hQ_38⟩ := hQ_38
      have hb_40r := t_rng y_39
      have t_41 : 3 ≤ (f a0 1).toInt ∧ (f a0 1).toInt ≤ 30 := (cI_at hI 1 s0).2.1 rfl
      have t_42 : 0 ≤ (f a0 5).toInt ∧ (f a0 5).toInt ≤ 6 := (cI_at hI 5 s0).2.2.2.2.1 rfl
      have t_43 : 0 ≤ (f a0 8).toInt ∧ (f a0 8).toInt ≤ 8 := (cI_at hI 8 s0).2.2.2.2.2.1 rfl
      have t_44 : 0 ≤ (f a0 14).toInt ∧ (f a0 14).toInt ≤ 26 := (cI_at hI 14 s0).2.2.2.2.2.2.1 rfl
      have t_45 : -1 ≤ (f a0 23).toInt ∧ (f a0 23).toInt ≤ 1 := (cI_at hI 23 s0).2.2.2.2.2.2.2.2.2 rfl
      have g_46 : (f_34 a0 1).toInt = (f a0 1).toInt := congrArg Int32.toInt (hQ_38.2.2.2.2 1 (by decide))
      have g_47 : (f_34 a0 3).toInt = (f a0 3).toInt := congrArg Int32.toInt (hQ_38.2.2.2.2 3 (by decide))
      have g_48 : (f_34 a0 5).toInt = (f a0 5).toInt := congrArg Int32.toInt (hQ_38.2.2.2.2 5 (by decide))
      have g_49 : (f_34 a0 8).toInt = (f a0 8).toInt := congrArg Int32.toInt (hQ_38.2.2.2.2 8 (by decide))
      have g_50 : (f_34 a0 14).toInt = (f a0 14).toInt := congrArg Int32.toInt (hQ_38.2.2.2.2 14 (by decide))
      have g_51 : (f_34 a0 23).toInt = (f a0 23).toInt := congrArg Int32.toInt (hQ_38.2.2.2.2 23 (by decide))
      have hrow : f_34 (a0 + 1) = f (a0 + 1) := hG_36 (a0 + 1) (by omega)
      have hsz : f_34 a0 3 = f a0 3 := hQ_38.2.2.2.2 3 (by decide)
      have hkk : ∀ k, k ≠ 2 → k ≠ 3 → f_34 a0 k = fo a0 k := fun k h2 _ => by rw [hQ_38.2.2.2.2 k h2, hfo]
      show cT 98 47 [.ref a0, .int x1, .int x2] [.int y_39] _ _ _ _ _ _
      refine cT_if b_M_unit_47 (fun c_52 => ?_) (fun c_52 => ?_)
      · rw [t_eq] at c_52
        exact cT_ret b_M_unit_50 hI_35 hF_37 ⟨_, rfl, ⟨by first | exact Or.inl ⟨by omega, hrow, by omega⟩ | exact Or.inr ⟨by omega, ⟨by refine ⟨?_, ?_, ?_, ?_, ?_⟩; rotate_left 2; (rw [← hrow, ← hsz]; assumption); assumption; (rw [t_cl, t_cl]; omega), by omega⟩⟩, fun k h2 h3 => by rw [hkk k h2 h3, hfo]⟩⟩
      · rw [t_eq] at c_52
        refine cT_call (b_M_unit_52 s0) (c_M_take hI_35 s0 (by first | omega | assumption | exact sl_4_4 (by assumption))) hF_37 (fun o ho => by omega) (fun v_53 f_54 hI_55 hG_56 hF_57 hQ_58 => ?_)
        obtain ⟨rfl, hQ_58⟩ := hQ_58
        have g_60 : padI (f_34 (a0 + 1)) (f_54 (a0 + 1)) (f_34 a0 3).toNatClampNeg x1 4 := hQ_58.1
        have g_61 : (f_54 a0 3).toInt = (f_34 a0 3).toInt + (cnz x1 4 : Nat) := hQ_58.2.1
        have g_62 : (f_54 a0 2).toInt = (f_34 a0 2).toInt := congrArg Int32.toInt (hQ_58.2.2 2 (by decide))
        have hkk : ∀ k, k ≠ 2 → k ≠ 3 → f_54 a0 k = fo a0 k := fun k h2 h3 => (hQ_58.2.2 k h3).trans (hkk k h2 h3)
        show cT 98 57 [.ref a0, .int x1, .int x2] [] _ _ _ _ _ _
        refine cT_call (b_M_unit_57 s0) (c_M_take hI_55 s0 (by first | omega | assumption | exact sl_4_4 (by assumption))) hF_57 (fun o ho => by omega) (fun v_63 f_64 hI_65 hG_66 hF_67 hQ_68 => ?_)
        obtain ⟨rfl, hQ_68⟩ := hQ_68
        have g_70 : padI (f_54 (a0 + 1)) (f_64 (a0 + 1)) (f_54 a0 3).toNatClampNeg x2 4 := hQ_68.1
        have g_71 : (f_64 a0 3).toInt = (f_54 a0 3).toInt + (cnz x2 4 : Nat) := hQ_68.2.1
        have g_72 : (f_64 a0 2).toInt = (f_54 a0 2).toInt := congrArg Int32.toInt (hQ_68.2.2 2 (by decide))
        have hkk : ∀ k, k ≠ 2 → k ≠ 3 → f_64 a0 k = fo a0 k := fun k h2 h3 => (hQ_68.2.2 k h3).trans (hkk k h2 h3)
        show cT 98 62 [.ref a0, .int x1, .int x2] [] _ _ _ _ _ _
        have t_73 : 0 ≤ (f_64 a0 3).toInt ∧ (f_64 a0 3).toInt ≤ 32 := (cI_at hI_65 3 s0).2.2.2.1 rfl
        exact cT_ret (b_M_unit_62 s0) hI_65 hF_67 ⟨_, rfl, ⟨by first | exact Or.inl ⟨by omega, hrow, by omega⟩ | exact Or.inr ⟨by omega, ⟨by refine ⟨?_, ?_, ?_, ?_, ?_⟩; rotate_left 2; (rw [← hrow, ← hsz]; assumption); assumption; (rw [t_cl, t_cl]; omega), by omega⟩⟩, fun k h2 h3 => by rw [hkk k h2 h3, hfo]⟩⟩
    · rw [t_eq] at c_30
      refine cT_call b_M_unit_32 (c_M_arePlain hI) hF (fun o ho => ho.elim) (fun v_74 f_75 hI_76 hG_77 hF_78 hQ_79 => ?_)
      obtain rfl := cF_no hG_77
      obtain ⟨y_80, rfl, hb_81, hQ_79⟩ := hQ_79
      have hb_81r := t_rng y_80
      show cT 98 36 [.ref a0, .int x1, .int x2] [.int y_80, .int (nI 0), .ref a0] _ _ _ _ _ _
      refine cT_if b_M_unit_36 (fun c_82 => ?_) (fun c_82 => ?_)
      · rw [t_eq] at c_82
        refine cT_go b_M_unit_43 ?_
        have t_83 : (nI 0).toInt = 0 := nI_toInt (by decide)
        refine cT_call (b_M_unit_44 s0) (c_M_goes hI s0) hF (fun o ho => by omega) (fun v_84 f_85 hI_86 hG_87 hF_88 hQ_89 => ?_)
        obtain ⟨y_90, rfl, hb_91, hQ_89⟩ := hQ_89
        have hb_91r := t_rng y_90
        have t_92 : 3 ≤ (f a0 1).toInt ∧ (f a0 1).toInt ≤ 30 := (cI_at hI 1 s0).2.1 rfl
        have t_93 : 0 ≤ (f a0 5).toInt ∧ (f a0 5).toInt ≤ 6 := (cI_at hI 5 s0).2.2.2.2.1 rfl
        have t_94 : 0 ≤ (f a0 8).toInt ∧ (f a0 8).toInt ≤ 8 := (cI_at hI 8 s0).2.2.2.2.2.1 rfl
        have t_95 : 0 ≤ (f a0 14).toInt ∧ (f a0 14).toInt ≤ 26 := (cI_at hI 14 s0).2.2.2.2.2.2.1 rfl
        have t_96 : -1 ≤ (f a0 23).toInt ∧ (f a0 23).toInt ≤ 1 := (cI_at hI 23 s0).2.2.2.2.2.2.2.2.2 rfl
        have g_97 : (f_85 a0 1).toInt = (f a0 1).toInt := congrArg Int32.toInt (hQ_89.2.2.2.2 1 (by decide))
        have g_98 : (f_85 a0 3).toInt = (f a0 3).toInt := congrArg Int32.toInt (hQ_89.2.2.2.2 3 (by decide))
        have g_99 : (f_85 a0 5).toInt = (f a0 5).toInt := congrArg Int32.toInt (hQ_89.2.2.2.2 5 (by decide))
        have g_100 : (f_85 a0 8).toInt = (f a0 8).toInt := congrArg Int32.toInt (hQ_89.2.2.2.2 8 (by decide))
        have g_101 : (f_85 a0 14).toInt = (f a0 14).toInt := congrArg Int32.toInt (hQ_89.2.2.2.2 14 (by decide))
        have g_102 : (f_85 a0 23).toInt = (f a0 23).toInt := congrArg Int32.toInt (hQ_89.2.2.2.2 23 (by decide))
        have hrow : f_85 (a0 + 1) = f (a0 + 1) := hG_87 (a0 + 1) (by omega)
        have hsz : f_85 a0 3 = f a0 3 := hQ_89.2.2.2.2 3 (by decide)
        have hkk : ∀ k, k ≠ 2 → k ≠ 3 → f_85 a0 k = fo a0 k := fun k h2 _ => by rw [hQ_89.2.2.2.2 k h2, hfo]
        show cT 98 47 [.ref a0, .int x1, .int x2] [.int y_90] _ _ _ _ _ _
        refine cT_if b_M_unit_47 (fun c_103 => ?_) (fun c_103 => ?_)
        · rw [t_eq] at c_103
          exact cT_ret b_M_unit_50 hI_86 hF_88 ⟨_, rfl, ⟨by first | exact Or.inl ⟨by omega, hrow, by omega⟩ | exact Or.inr ⟨by omega, ⟨by refine ⟨?_, ?_, ?_, ?_, ?_⟩; rotate_left 2; (rw [← hrow, ← hsz]; assumption); assumption; (rw [t_cl, t_cl]; omega), by omega⟩⟩, fun k h2 h3 => by rw [hkk k h2 h3, hfo]⟩⟩
        · rw [t_eq] at c_103
          refine cT_call (b_M_unit_52 s0) (c_M_take hI_86 s0 (by first | omega | assumption | exact sl_4_4 (by assumption))) hF_88 (fun o ho => by omega) (fun v_104 f_105 hI_106 hG_107 hF_108 hQ_109 => ?_)
          obtain ⟨rfl, hQ_109⟩ := hQ_109
          have g_111 : padI (f_85 (a0 + 1)) (f_105 (a0 + 1)) (f_85 a0 3).toNatClampNeg x1 4 := hQ_109.1
          have g_112 : (f_105 a0 3).toInt = (f_85 a0 3).toInt + (cnz x1 4 : Nat) := hQ_109.2.1
          have g_113 : (f_105 a0 2).toInt = (f_85 a0 2).toInt := congrArg Int32.toInt (hQ_109.2.2 2 (by decide))
          have hkk : ∀ k, k ≠ 2 → k ≠ 3 → f_105 a0 k = fo a0 k := fun k h2 h3 => (hQ_109.2.2 k h3).trans (hkk k h2 h3)
          show cT 98 57 [.ref a0, .int x1, .int x2] [] _ _ _ _ _ _
          refine cT_call (b_M_unit_57 s0) (c_M_take hI_106 s0 (by first | omega | assumption | exact sl_4_4 (by assumption))) hF_108 (fun o ho => by omega) (fun v_114 f_115 hI_116 hG_117 hF_118 hQ_119 => ?_)
          obtain ⟨rfl, hQ_119⟩ := hQ_119
          have g_121 : padI (f_105 (a0 + 1)) (f_115 (a0 + 1)) (f_105 a0 3).toNatClampNeg x2 4 := hQ_119.1
          have g_122 : (f_115 a0 3).toInt = (f_105 a0 3).toInt + (cnz x2 4 : Nat) := hQ_119.2.1
          have g_123 : (f_115 a0 2).toInt = (f_105 a0 2).toInt := congrArg Int32.toInt (hQ_119.2.2 2 (by decide))
          have hkk : ∀ k, k ≠ 2 → k ≠ 3 → f_115 a0 k = fo a0 k := fun k h2 h3 => (hQ_119.2.2 k h3).trans (hkk k h2 h3)
          show cT 98 62 [.ref a0, .int x1, .int x2] [] _ _ _ _ _ _
          have t_124 : 0 ≤ (f_115 a0 3).toInt ∧ (f_115 a0 3).toInt ≤ 32 := (cI_at hI_116 3 s0).2.2.2.1 rfl
          exact cT_ret (b_M_unit_62 s0) hI_116 hF_118 ⟨_, rfl, ⟨by first | exact Or.inl ⟨by omega, hrow, by omega⟩ | exact Or.inr ⟨by omega, ⟨by refine ⟨?_, ?_, ?_, ?_, ?_⟩; rotate_left 2; (rw [← hrow, ← hsz]; assumption); assumption; (rw [t_cl, t_cl]; omega), by omega⟩⟩, fun k h2 h3 => by rw [hkk k h2 h3, hfo]⟩⟩
      · rw [t_eq] at c_82
        refine cT_go b_M_unit_39 ?_
        have t_125 : (nI 0).toInt = 0 := nI_toInt (by decide)
        have t_126 : (nI 1).toInt = 1 := nI_toInt (by decide)
        refine cT_call (b_M_unit_44 s0) (c_M_goes hI s0) hF (fun o ho => by omega) (fun v_127 f_128 hI_129 hG_130 hF_131 hQ_132 => ?_)
        obtain ⟨y_133, rfl, hb_134, hQ_132⟩ := hQ_132
        have hb_134r := t_rng y_133
        have t_135 : 3 ≤ (f a0 1).toInt ∧ (f a0 1).toInt ≤ 30 := (cI_at hI 1 s0).2.1 rfl
        have t_136 : 0 ≤ (f a0 5).toInt ∧ (f a0 5).toInt ≤ 6 := (cI_at hI 5 s0).2.2.2.2.1 rfl
        have t_137 : 0 ≤ (f a0 8).toInt ∧ (f a0 8).toInt ≤ 8 := (cI_at hI 8 s0).2.2.2.2.2.1 rfl
        have t_138 : 0 ≤ (f a0 14).toInt ∧ (f a0 14).toInt ≤ 26 := (cI_at hI 14 s0).2.2.2.2.2.2.1 rfl
        have t_139 : -1 ≤ (f a0 23).toInt ∧ (f a0 23).toInt ≤ 1 := (cI_at hI 23 s0).2.2.2.2.2.2.2.2.2 rfl
        have g_140 : (f_128 a0 1).toInt = (f a0 1).toInt := congrArg Int32.toInt (hQ_132.2.2.2.2 1 (by decide))
        have g_141 : (f_128 a0 3).toInt = (f a0 3).toInt := congrArg Int32.toInt (hQ_132.2.2.2.2 3 (by decide))
        have g_142 : (f_128 a0 5).toInt = (f a0 5).toInt := congrArg Int32.toInt (hQ_132.2.2.2.2 5 (by decide))
        have g_143 : (f_128 a0 8).toInt = (f a0 8).toInt := congrArg Int32.toInt (hQ_132.2.2.2.2 8 (by decide))
        have g_144 : (f_128 a0 14).toInt = (f a0 14).toInt := congrArg Int32.toInt (hQ_132.2.2.2.2 14 (by decide))
        have g_145 : (f_128 a0 23).toInt = (f a0 23).toInt := congrArg Int32.toInt (hQ_132.2.2.2.2 23 (by decide))
        have hrow : f_128 (a0 + 1) = f (a0 + 1) := hG_130 (a0 + 1) (by omega)
        have hsz : f_128 a0 3 = f a0 3 := hQ_132.2.2.2.2 3 (by decide)
        have hkk : ∀ k, k ≠ 2 → k ≠ 3 → f_128 a0 k = fo a0 k := fun k h2 _ => by rw [hQ_132.2.2.2.2 k h2, hfo]
        show cT 98 47 [.ref a0, .int x1, .int x2] [.int y_133] _ _ _ _ _ _
        refine cT_if b_M_unit_47 (fun c_146 => ?_) (fun c_146 => ?_)
        · rw [t_eq] at c_146
          exact cT_ret b_M_unit_50 hI_129 hF_131 ⟨_, rfl, ⟨by first | exact Or.inl ⟨by omega, hrow, by omega⟩ | exact Or.inr ⟨by omega, ⟨by refine ⟨?_, ?_, ?_, ?_, ?_⟩; rotate_left 2; (rw [← hrow, ← hsz]; assumption); assumption; (rw [t_cl, t_cl]; omega), by omega⟩⟩, fun k h2 h3 => by rw [hkk k h2 h3, hfo]⟩⟩
        · rw [t_eq] at c_146
          refine cT_call (b_M_unit_52 s0) (c_M_take hI_129 s0 (by first | omega | assumption | exact sl_4_4 (by assumption))) hF_131 (fun o ho => by omega) (fun v_147 f_148 hI_149 hG_150 hF_151 hQ_152 => ?_)
          obtain ⟨rfl, hQ_152⟩ := hQ_152
          have g_154 : padI (f_128 (a0 + 1)) (f_148 (a0 + 1)) (f_128 a0 3).toNatClampNeg x1 4 := hQ_152.1
          have g_155 : (f_148 a0 3).toInt = (f_128 a0 3).toInt + (cnz x1 4 : Nat) := hQ_152.2.1
          have g_156 : (f_148 a0 2).toInt = (f_128 a0 2).toInt := congrArg Int32.toInt (hQ_152.2.2 2 (by decide))
          have hkk : ∀ k, k ≠ 2 → k ≠ 3 → f_148 a0 k = fo a0 k := fun k h2 h3 => (hQ_152.2.2 k h3).trans (hkk k h2 h3)
          show cT 98 57 [.ref a0, .int x1, .int x2] [] _ _ _ _ _ _
          refine cT_call (b_M_unit_57 s0) (c_M_take hI_149 s0 (by first | omega | assumption | exact sl_4_4 (by assumption))) hF_151 (fun o ho => by omega) (fun v_157 f_158 hI_159 hG_160 hF_161 hQ_162 => ?_)
          obtain ⟨rfl, hQ_162⟩ := hQ_162
          have g_164 : padI (f_148 (a0 + 1)) (f_158 (a0 + 1)) (f_148 a0 3).toNatClampNeg x2 4 := hQ_162.1
          have g_165 : (f_158 a0 3).toInt = (f_148 a0 3).toInt + (cnz x2 4 : Nat) := hQ_162.2.1
          have g_166 : (f_158 a0 2).toInt = (f_148 a0 2).toInt := congrArg Int32.toInt (hQ_162.2.2 2 (by decide))
          have hkk : ∀ k, k ≠ 2 → k ≠ 3 → f_158 a0 k = fo a0 k := fun k h2 h3 => (hQ_162.2.2 k h3).trans (hkk k h2 h3)
          show cT 98 62 [.ref a0, .int x1, .int x2] [] _ _ _ _ _ _
          have t_167 : 0 ≤ (f_158 a0 3).toInt ∧ (f_158 a0 3).toInt ≤ 32 := (cI_at hI_159 3 s0).2.2.2.1 rfl
          exact cT_ret (b_M_unit_62 s0) hI_159 hF_161 ⟨_, rfl, ⟨by first | exact Or.inl ⟨by omega, hrow, by omega⟩ | exact Or.inr ⟨by omega, ⟨by refine ⟨?_, ?_, ?_, ?_, ?_⟩; rotate_left 2; (rw [← hrow, ← hsz]; assumption); assumption; (rw [t_cl, t_cl]; omega), by omega⟩⟩, fun k h2 h3 => by rw [hkk k h2 h3, hfo]⟩⟩
  · rw [t_lt] at c_17
    refine cT_go b_M_unit_20 ?_
    refine cT_call b_M_unit_25 (c_M_arePlain hI) hF (fun o ho => ho.elim) (fun v_168 f_169 hI_170 hG_171 hF_172 hQ_173 => ?_)
    obtain rfl := cF_no hG_171
    obtain ⟨y_174, rfl, hb_175, hQ_173⟩ := hQ_173
    have hb_175r := t_rng y_174
    show cT 98 29 [.ref a0, .int x1, .int x2] [.int y_174, .int (nI 1), .ref a0] _ _ _ _ _ _
    refine cT_if b_M_unit_29 (fun c_176 => ?_) (fun c_176 => ?_)
    · rw [t_eq] at c_176
      refine cT_go b_M_unit_43 ?_
      have t_178 : (nI 1).toInt = 1 := nI_toInt (by decide)
      have t_179 : (nI 0).toInt = 0 := nI_toInt (by decide)
      refine cT_call (b_M_unit_44 s0) (c_M_goes hI s0) hF (fun o ho => by omega) (fun v_180 f_181 hI_182 hG_183 hF_184 hQ_185 => ?_)
      obtain ⟨y_186, rfl, hb_187, hQ_185⟩ := hQ_185
      have hb_187r := t_rng y_186
      have t_188 : 3 ≤ (f a0 1).toInt ∧ (f a0 1).toInt ≤ 30 := (cI_at hI 1 s0).2.1 rfl
      have t_189 : 0 ≤ (f a0 5).toInt ∧ (f a0 5).toInt ≤ 6 := (cI_at hI 5 s0).2.2.2.2.1 rfl
      have t_190 : 0 ≤ (f a0 8).toInt ∧ (f a0 8).toInt ≤ 8 := (cI_at hI 8 s0).2.2.2.2.2.1 rfl
      have t_191 : 0 ≤ (f a0 14).toInt ∧ (f a0 14).toInt ≤ 26 := (cI_at hI 14 s0).2.2.2.2.2.2.1 rfl
      have t_192 : -1 ≤ (f a0 23).toInt ∧ (f a0 23).toInt ≤ 1 := (cI_at hI 23 s0).2.2.2.2.2.2.2.2.2 rfl
      have g_193 : (f_181 a0 1).toInt = (f a0 1).toInt := congrArg Int32.toInt (hQ_185.2.2.2.2 1 (by decide))
      have g_194 : (f_181 a0 3).toInt = (f a0 3).toInt := congrArg Int32.toInt (hQ_185.2.2.2.2 3 (by decide))
      have g_195 : (f_181 a0 5).toInt = (f a0 5).toInt := congrArg Int32.toInt (hQ_185.2.2.2.2 5 (by decide))
      have g_196 : (f_181 a0 8).toInt = (f a0 8).toInt := congrArg Int32.toInt (hQ_185.2.2.2.2 8 (by decide))
      have g_197 : (f_181 a0 14).toInt = (f a0 14).toInt := congrArg Int32.toInt (hQ_185.2.2.2.2 14 (by decide))
      have g_198 : (f_181 a0 23).toInt = (f a0 23).toInt := congrArg Int32.toInt (hQ_185.2.2.2.2 23 (by decide))
      have hrow : f_181 (a0 + 1) = f (a0 + 1) := hG_183 (a0 + 1) (by omega)
      have hsz : f_181 a0 3 = f a0 3 := hQ_185.2.2.2.2 3 (by decide)
      have hkk : ∀ k, k ≠ 2 → k ≠ 3 → f_181 a0 k = fo a0 k := fun k h2 _ => by rw [hQ_185.2.2.2.2 k h2, hfo]
      show cT 98 47 [.ref a0, .int x1, .int x2] [.int y_186] _ _ _ _ _ _
      refine cT_if b_M_unit_47 (fun c_199 => ?_) (fun c_199 => ?_)
      · rw [t_eq] at c_199
        exact cT_ret b_M_unit_50 hI_182 hF_184 ⟨_, rfl, ⟨by first | exact Or.inl ⟨by omega, hrow, by omega⟩ | exact Or.inr ⟨by omega, ⟨by refine ⟨?_, ?_, ?_, ?_, ?_⟩; rotate_left 2; (rw [← hrow, ← hsz]; assumption); assumption; (rw [t_cl, t_cl]; omega), by omega⟩⟩, fun k h2 h3 => by rw [hkk k h2 h3, hfo]⟩⟩
      · rw [t_eq] at c_199
        refine cT_call (b_M_unit_52 s0) (c_M_take hI_182 s0 (by first | omega | assumption | exact sl_4_4 (by assumption))) hF_184 (fun o ho => by omega) (fun v_200 f_201 hI_202 hG_203 hF_204 hQ_205 => ?_)
        obtain ⟨rfl, hQ_205⟩ := hQ_205
        have g_207 : padI (f_181 (a0 + 1)) (f_201 (a0 + 1)) (f_181 a0 3).toNatClampNeg x1 4 := hQ_205.1
        have g_208 : (f_201 a0 3).toInt = (f_181 a0 3).toInt + (cnz x1 4 : Nat) := hQ_205.2.1
        have g_209 : (f_201 a0 2).toInt = (f_181 a0 2).toInt := congrArg Int32.toInt (hQ_205.2.2 2 (by decide))
        have hkk : ∀ k, k ≠ 2 → k ≠ 3 → f_201 a0 k = fo a0 k := fun k h2 h3 => (hQ_205.2.2 k h3).trans (hkk k h2 h3)
        show cT 98 57 [.ref a0, .int x1, .int x2] [] _ _ _ _ _ _
        refine cT_call (b_M_unit_57 s0) (c_M_take hI_202 s0 (by first | omega | assumption | exact sl_4_4 (by assumption))) hF_204 (fun o ho => by omega) (fun v_210 f_211 hI_212 hG_213 hF_214 hQ_215 => ?_)
        obtain ⟨rfl, hQ_215⟩ := hQ_215
        have g_217 : padI (f_201 (a0 + 1)) (f_211 (a0 + 1)) (f_201 a0 3).toNatClampNeg x2 4 := hQ_215.1
        have g_218 : (f_211 a0 3).toInt = (f_201 a0 3).toInt + (cnz x2 4 : Nat) := hQ_215.2.1
        have g_219 : (f_211 a0 2).toInt = (f_201 a0 2).toInt := congrArg Int32.toInt (hQ_215.2.2 2 (by decide))
        have hkk : ∀ k, k ≠ 2 → k ≠ 3 → f_211 a0 k = fo a0 k := fun k h2 h3 => (hQ_215.2.2 k h3).trans (hkk k h2 h3)
        show cT 98 62 [.ref a0, .int x1, .int x2] [] _ _ _ _ _ _
        have t_220 : 0 ≤ (f_211 a0 3).toInt ∧ (f_211 a0 3).toInt ≤ 32 := (cI_at hI_212 3 s0).2.2.2.1 rfl
        exact cT_ret (b_M_unit_62 s0) hI_212 hF_214 ⟨_, rfl, ⟨by first | exact Or.inl ⟨by omega, hrow, by omega⟩ | exact Or.inr ⟨by omega, ⟨by refine ⟨?_, ?_, ?_, ?_, ?_⟩; rotate_left 2; (rw [← hrow, ← hsz]; assumption); assumption; (rw [t_cl, t_cl]; omega), by omega⟩⟩, fun k h2 h3 => by rw [hkk k h2 h3, hfo]⟩⟩
    · rw [t_eq] at c_176
      refine cT_call b_M_unit_32 (c_M_arePlain hI) hF (fun o ho => ho.elim) (fun v_221 f_222 hI_223 hG_224 hF_225 hQ_226 => ?_)
      obtain rfl := cF_no hG_224
      obtain ⟨y_227, rfl, hb_228, hQ_226⟩ := hQ_226
      have hb_228r := t_rng y_227
      show cT 98 36 [.ref a0, .int x1, .int x2] [.int y_227, .int (nI 1), .ref a0] _ _ _ _ _ _
      refine cT_if b_M_unit_36 (fun c_229 => ?_) (fun c_229 => ?_)
      · rw [t_eq] at c_229
        refine cT_go b_M_unit_43 ?_
        have t_230 : (nI 1).toInt = 1 := nI_toInt (by decide)
        have t_231 : (nI 0).toInt = 0 := nI_toInt (by decide)
        refine cT_call (b_M_unit_44 s0) (c_M_goes hI s0) hF (fun o ho => by omega) (fun v_232 f_233 hI_234 hG_235 hF_236 hQ_237 => ?_)
        obtain ⟨y_238, rfl, hb_239, hQ_237⟩ := hQ_237
        have hb_239r := t_rng y_238
        have t_240 : 3 ≤ (f a0 1).toInt ∧ (f a0 1).toInt ≤ 30 := (cI_at hI 1 s0).2.1 rfl
        have t_241 : 0 ≤ (f a0 5).toInt ∧ (f a0 5).toInt ≤ 6 := (cI_at hI 5 s0).2.2.2.2.1 rfl
        have t_242 : 0 ≤ (f a0 8).toInt ∧ (f a0 8).toInt ≤ 8 := (cI_at hI 8 s0).2.2.2.2.2.1 rfl
        have t_243 : 0 ≤ (f a0 14).toInt ∧ (f a0 14).toInt ≤ 26 := (cI_at hI 14 s0).2.2.2.2.2.2.1 rfl
        have t_244 : -1 ≤ (f a0 23).toInt ∧ (f a0 23).toInt ≤ 1 := (cI_at hI 23 s0).2.2.2.2.2.2.2.2.2 rfl
        have g_245 : (f_233 a0 1).toInt = (f a0 1).toInt := congrArg Int32.toInt (hQ_237.2.2.2.2 1 (by decide))
        have g_246 : (f_233 a0 3).toInt = (f a0 3).toInt := congrArg Int32.toInt (hQ_237.2.2.2.2 3 (by decide))
        have g_247 : (f_233 a0 5).toInt = (f a0 5).toInt := congrArg Int32.toInt (hQ_237.2.2.2.2 5 (by decide))
        have g_248 : (f_233 a0 8).toInt = (f a0 8).toInt := congrArg Int32.toInt (hQ_237.2.2.2.2 8 (by decide))
        have g_249 : (f_233 a0 14).toInt = (f a0 14).toInt := congrArg Int32.toInt (hQ_237.2.2.2.2 14 (by decide))
        have g_250 : (f_233 a0 23).toInt = (f a0 23).toInt := congrArg Int32.toInt (hQ_237.2.2.2.2 23 (by decide))
        have hrow : f_233 (a0 + 1) = f (a0 + 1) := hG_235 (a0 + 1) (by omega)
        have hsz : f_233 a0 3 = f a0 3 := hQ_237.2.2.2.2 3 (by decide)
        have hkk : ∀ k, k ≠ 2 → k ≠ 3 → f_233 a0 k = fo a0 k := fun k h2 _ => by rw [hQ_237.2.2.2.2 k h2, hfo]
        show cT 98 47 [.ref a0, .int x1, .int x2] [.int y_238] _ _ _ _ _ _
        refine cT_if b_M_unit_47 (fun c_251 => ?_) (fun c_251 => ?_)
        · rw [t_eq] at c_251
          exact cT_ret b_M_unit_50 hI_234 hF_236 ⟨_, rfl, ⟨by first | exact Or.inl ⟨by omega, hrow, by omega⟩ | exact Or.inr ⟨by omega, ⟨by refine ⟨?_, ?_, ?_, ?_, ?_⟩; rotate_left 2; (rw [← hrow, ← hsz]; assumption); assumption; (rw [t_cl, t_cl]; omega), by omega⟩⟩, fun k h2 h3 => by rw [hkk k h2 h3, hfo]⟩⟩
        · rw [t_eq] at c_251
          refine cT_call (b_M_unit_52 s0) (c_M_take hI_234 s0 (by first | omega | assumption | exact sl_4_4 (by assumption))) hF_236 (fun o ho => by omega) (fun v_252 f_253 hI_254 hG_255 hF_256 hQ_257 => ?_)
          obtain ⟨rfl, hQ_257⟩ := hQ_257
          have g_259 : padI (f_233 (a0 + 1)) (f_253 (a0 + 1)) (f_233 a0 3).toNatClampNeg x1 4 := hQ_257.1
          have g_260 : (f_253 a0 3).toInt = (f_233 a0 3).toInt + (cnz x1 4 : Nat) := hQ_257.2.1
          have g_261 : (f_253 a0 2).toInt = (f_233 a0 2).toInt := congrArg Int32.toInt (hQ_257.2.2 2 (by decide))
          have hkk : ∀ k, k ≠ 2 → k ≠ 3 → f_253 a0 k = fo a0 k := fun k h2 h3 => (hQ_257.2.2 k h3).trans (hkk k h2 h3)
          show cT 98 57 [.ref a0, .int x1, .int x2] [] _ _ _ _ _ _
          refine cT_call (b_M_unit_57 s0) (c_M_take hI_254 s0 (by first | omega | assumption | exact sl_4_4 (by assumption))) hF_256 (fun o ho => by omega) (fun v_262 f_263 hI_264 hG_265 hF_266 hQ_267 => ?_)
          obtain ⟨rfl, hQ_267⟩ := hQ_267
          have g_269 : padI (f_253 (a0 + 1)) (f_263 (a0 + 1)) (f_253 a0 3).toNatClampNeg x2 4 := hQ_267.1
          have g_270 : (f_263 a0 3).toInt = (f_253 a0 3).toInt + (cnz x2 4 : Nat) := hQ_267.2.1
          have g_271 : (f_263 a0 2).toInt = (f_253 a0 2).toInt := congrArg Int32.toInt (hQ_267.2.2 2 (by decide))
          have hkk : ∀ k, k ≠ 2 → k ≠ 3 → f_263 a0 k = fo a0 k := fun k h2 h3 => (hQ_267.2.2 k h3).trans (hkk k h2 h3)
          show cT 98 62 [.ref a0, .int x1, .int x2] [] _ _ _ _ _ _
          have t_272 : 0 ≤ (f_263 a0 3).toInt ∧ (f_263 a0 3).toInt ≤ 32 := (cI_at hI_264 3 s0).2.2.2.1 rfl
          exact cT_ret (b_M_unit_62 s0) hI_264 hF_266 ⟨_, rfl, ⟨by first | exact Or.inl ⟨by omega, hrow, by omega⟩ | exact Or.inr ⟨by omega, ⟨by refine ⟨?_, ?_, ?_, ?_, ?_⟩; rotate_left 2; (rw [← hrow, ← hsz]; assumption); assumption; (rw [t_cl, t_cl]; omega), by omega⟩⟩, fun k h2 h3 => by rw [hkk k h2 h3, hfo]⟩⟩
      · rw [t_eq] at c_229
        refine cT_go b_M_unit_39 ?_
        have t_273 : (nI 1).toInt = 1 := nI_toInt (by decide)
        refine cT_call (b_M_unit_44 s0) (c_M_goes hI s0) hF (fun o ho => by omega) (fun v_274 f_275 hI_276 hG_277 hF_278 hQ_279 => ?_)
        obtain ⟨y_280, rfl, hb_281, hQ_279⟩ := hQ_279
        have hb_281r := t_rng y_280
        have t_282 : 3 ≤ (f a0 1).toInt ∧ (f a0 1).toInt ≤ 30 := (cI_at hI 1 s0).2.1 rfl
        have t_283 : 0 ≤ (f a0 5).toInt ∧ (f a0 5).toInt ≤ 6 := (cI_at hI 5 s0).2.2.2.2.1 rfl
        have t_284 : 0 ≤ (f a0 8).toInt ∧ (f a0 8).toInt ≤ 8 := (cI_at hI 8 s0).2.2.2.2.2.1 rfl
        have t_285 : 0 ≤ (f a0 14).toInt ∧ (f a0 14).toInt ≤ 26 := (cI_at hI 14 s0).2.2.2.2.2.2.1 rfl
        have t_286 : -1 ≤ (f a0 23).toInt ∧ (f a0 23).toInt ≤ 1 := (cI_at hI 23 s0).2.2.2.2.2.2.2.2.2 rfl
        have g_287 : (f_275 a0 1).toInt = (f a0 1).toInt := congrArg Int32.toInt (hQ_279.2.2.2.2 1 (by decide))
        have g_288 : (f_275 a0 3).toInt = (f a0 3).toInt := congrArg Int32.toInt (hQ_279.2.2.2.2 3 (by decide))
        have g_289 : (f_275 a0 5).toInt = (f a0 5).toInt := congrArg Int32.toInt (hQ_279.2.2.2.2 5 (by decide))
        have g_290 : (f_275 a0 8).toInt = (f a0 8).toInt := congrArg Int32.toInt (hQ_279.2.2.2.2 8 (by decide))
        have g_291 : (f_275 a0 14).toInt = (f a0 14).toInt := congrArg Int32.toInt (hQ_279.2.2.2.2 14 (by decide))
        have g_292 : (f_275 a0 23).toInt = (f a0 23).toInt := congrArg Int32.toInt (hQ_279.2.2.2.2 23 (by decide))
        have hrow : f_275 (a0 + 1) = f (a0 + 1) := hG_277 (a0 + 1) (by omega)
        have hsz : f_275 a0 3 = f a0 3 := hQ_279.2.2.2.2 3 (by decide)
        have hkk : ∀ k, k ≠ 2 → k ≠ 3 → f_275 a0 k = fo a0 k := fun k h2 _ => by rw [hQ_279.2.2.2.2 k h2, hfo]
        show cT 98 47 [.ref a0, .int x1, .int x2] [.int y_280] _ _ _ _ _ _
        refine cT_if b_M_unit_47 (fun c_293 => ?_) (fun c_293 => ?_)
        · rw [t_eq] at c_293
          have t_294 : (nI 0).toInt = 0 := nI_toInt (by decide)
          exact cT_ret b_M_unit_50 hI_276 hF_278 ⟨_, rfl, ⟨by first | exact Or.inl ⟨by omega, hrow, by omega⟩ | exact Or.inr ⟨by omega, ⟨by refine ⟨?_, ?_, ?_, ?_, ?_⟩; rotate_left 2; (rw [← hrow, ← hsz]; assumption); assumption; (rw [t_cl, t_cl]; omega), by omega⟩⟩, fun k h2 h3 => by rw [hkk k h2 h3, hfo]⟩⟩
        · rw [t_eq] at c_293
          refine cT_call (b_M_unit_52 s0) (c_M_take hI_276 s0 (by first | omega | assumption | exact sl_4_4 (by assumption))) hF_278 (fun o ho => by omega) (fun v_295 f_296 hI_297 hG_298 hF_299 hQ_300 => ?_)
          obtain ⟨rfl, hQ_300⟩ := hQ_300
          have g_302 : padI (f_275 (a0 + 1)) (f_296 (a0 + 1)) (f_275 a0 3).toNatClampNeg x1 4 := hQ_300.1
          have g_303 : (f_296 a0 3).toInt = (f_275 a0 3).toInt + (cnz x1 4 : Nat) := hQ_300.2.1
          have g_304 : (f_296 a0 2).toInt = (f_275 a0 2).toInt := congrArg Int32.toInt (hQ_300.2.2 2 (by decide))
          have hkk : ∀ k, k ≠ 2 → k ≠ 3 → f_296 a0 k = fo a0 k := fun k h2 h3 => (hQ_300.2.2 k h3).trans (hkk k h2 h3)
          show cT 98 57 [.ref a0, .int x1, .int x2] [] _ _ _ _ _ _
          refine cT_call (b_M_unit_57 s0) (c_M_take hI_297 s0 (by first | omega | assumption | exact sl_4_4 (by assumption))) hF_299 (fun o ho => by omega) (fun v_305 f_306 hI_307 hG_308 hF_309 hQ_310 => ?_)
          obtain ⟨rfl, hQ_310⟩ := hQ_310
          have g_312 : padI (f_296 (a0 + 1)) (f_306 (a0 + 1)) (f_296 a0 3).toNatClampNeg x2 4 := hQ_310.1
          have g_313 : (f_306 a0 3).toInt = (f_296 a0 3).toInt + (cnz x2 4 : Nat) := hQ_310.2.1
          have g_314 : (f_306 a0 2).toInt = (f_296 a0 2).toInt := congrArg Int32.toInt (hQ_310.2.2 2 (by decide))
          have hkk : ∀ k, k ≠ 2 → k ≠ 3 → f_306 a0 k = fo a0 k := fun k h2 h3 => (hQ_310.2.2 k h3).trans (hkk k h2 h3)
          show cT 98 62 [.ref a0, .int x1, .int x2] [] _ _ _ _ _ _
          have t_315 : 0 ≤ (f_306 a0 3).toInt ∧ (f_306 a0 3).toInt ≤ 32 := (cI_at hI_307 3 s0).2.2.2.1 rfl
          exact cT_ret (b_M_unit_62 s0) hI_307 hF_309 ⟨_, rfl, ⟨by first | exact Or.inl ⟨by omega, hrow, by omega⟩ | exact Or.inr ⟨by omega, ⟨by refine ⟨?_, ?_, ?_, ?_, ?_⟩; rotate_left 2; (rw [← hrow, ← hsz]; assumption); assumption; (rw [t_cl, t_cl]; omega), by omega⟩⟩, fun k h2 h3 => by rw [hkk k h2 h3, hfo]⟩⟩
