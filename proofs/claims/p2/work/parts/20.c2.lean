theorem c_Entry_textOf {L : Nat} {f : cg_G} {e : Nat × Nat} {a0 : Nat} {x1 : Int32} (hI : cI L f) (s0 : sh_ a0 = 2)  : cE 14 [.ref a0, .int x1] L e (fun o => False) f (fun v f' => ∃ c : Nat, v = some (.ref c) ∧ sh_ c = 6 ∧ (0 ≤ x1.toInt ∧ x1.toInt < 4 → c = a0 + 1 + 4 + 2 * x1.toNatClampNeg)) := by
  refine cE_of (ls := [.ref a0, .int x1]) rfl ?_
  have t0 := t_0
  have hF : cF (fun o => False) f f := cF_rf
  have t_1 := t_rng (x1)
  refine cT_if (b_Entry_textOf_0 s0) (fun c_2 => ?_) (fun c_2 => ?_)
  · rw [t_lt] at c_2
    refine cT_go b_Entry_textOf_13 ?_
    have t_4 : (nI 0).toInt = 0 := nI_toInt (by decide)
    exact cT_ret (b_Entry_textOf_18 (sc_2_0 s0) (by rw [t_in]; omega)) hI hF ⟨_, rfl, (sa_106 (sc_2_0 s0) (cg_in_lt (by rw [t_in]; omega))), by first | exact fun _ => rfl | exact fun h => absurd h (by omega)⟩
  · rw [t_lt] at c_2
    have t_6 : (nI 4).toInt = 4 := nI_toInt (by decide)
    refine cT_if b_Entry_textOf_8 (fun c_5 => ?_) (fun c_5 => ?_)
    · rw [t_lt] at c_5
      refine cT_go b_Entry_textOf_17 ?_
      exact cT_ret (b_Entry_textOf_18 (sc_2_0 s0) (by rw [t_in]; omega)) hI hF ⟨_, rfl, (sa_106 (sc_2_0 s0) (cg_in_lt (by rw [t_in]; omega))), by first | exact fun _ => rfl | exact fun h => absurd h (by omega)⟩
    · rw [t_lt] at c_5
      refine cT_go b_Entry_textOf_13 ?_
      have t_7 : (nI 0).toInt = 0 := nI_toInt (by decide)
      exact cT_ret (b_Entry_textOf_18 (sc_2_0 s0) (by rw [t_in]; omega)) hI hF ⟨_, rfl, (sa_106 (sc_2_0 s0) (cg_in_lt (by rw [t_in]; omega))), by first | exact fun _ => rfl | exact fun h => absurd h (by omega)⟩
theorem c_Entry_pictureHeight {L : Nat} {f : cg_G} {e : Nat × Nat} {a0 : Nat} (hI : cI L f) (s0 : sh_ a0 = 2)  : cE 12 [.ref a0] L e (fun o => False) f (fun v f' => ∃ x : Int32, v = some (.int x) ∧ (True)) := by
  refine cE_of (ls := [.ref a0]) rfl ?_
  have t0 := t_0
  have hF : cF (fun o => False) f f := cF_rf
  have t_1 : 0 ≤ (f a0 3).toInt ∧ (f a0 3).toInt ≤ 30 := (cI_at hI 3 s0).2 rfl
  exact cT_ret (b_Entry_pictureHeight_0 s0) hI hF ⟨_, rfl, trivial⟩
theorem l_Entry_hasUnsourcedClaim_2 {L : Nat} {e : Nat × Nat} {f0 : cg_G} : ∀ (k : Nat) {f : cg_G} {a0 : Nat} {x1 : Int32}, (4 - x1.toInt).toNat < k → cI L f → cF (fun o => False) f0 f → sh_ a0 = 2 → (0 ≤ x1.toInt) → cT 11 2 [.ref a0, .int x1] [] L e (fun o => False) f0 f (fun v f' => ∃ x : Int32, v = some (.int x) ∧ (x = 0 ∨ x = 1) ∧ (True)) := by
  intro k
  induction k with
  | zero => intro f a0 x1 hm; omega
  | succ k ih =>
    intro f a0 x1 hme hI hF s0 i1
    have t0 := t_0
    have t_1 := t_rng (x1)
    have t_3 : (nI 4).toInt = 4 := nI_toInt (by decide)
    refine cT_if b_Entry_hasUnsourcedClaim_2 (fun c_2 => ?_) (fun c_2 => ?_)
    · rw [t_le] at c_2
      have t_4 : (nI 0).toInt = 0 := nI_toInt (by decide)
      exact cT_ret b_Entry_hasUnsourcedClaim_24 hI hF ⟨_, rfl, (by decide), trivial⟩
    · rw [t_le] at c_2
      have t_6 := t_rng (f (a0 + 2) x1.toNatClampNeg)
      refine cT_if (b_Entry_hasUnsourcedClaim_7 s0 (by rw [t_in]; omega)) (fun c_5 => ?_) (fun c_5 => ?_)
      · rw [t_eq] at c_5
        have t_8 : (nI 1).toInt = 1 := nI_toInt (by decide)
        exact cT_ret b_Entry_hasUnsourcedClaim_16 hI hF ⟨_, rfl, (by decide), trivial⟩
      · rw [t_eq] at c_5
        refine cT_go b_Entry_hasUnsourcedClaim_18 ?_
        have t_10 : (nI 1).toInt = 1 := nI_toInt (by decide)
        first | have t_9 : (x1 + (nI 1)).toInt = (x1).toInt + ((nI 1)).toInt := t_addn (by omega) | obtain ⟨kt_9, t_9⟩ := t_add x1 (nI 1)
        exact ih (by omega) hI hF s0 (by omega)
theorem c_Entry_hasUnsourcedClaim {L : Nat} {f : cg_G} {e : Nat × Nat} {a0 : Nat} (hI : cI L f) (s0 : sh_ a0 = 2)  : cE 11 [.ref a0] L e (fun o => False) f (fun v f' => ∃ x : Int32, v = some (.int x) ∧ (x = 0 ∨ x = 1) ∧ (True)) := by
  refine cE_of (ls := [.ref a0, (.retAddr 0)]) rfl ?_
  have t0 := t_0
  have hF : cF (fun o => False) f f := cF_rf
  refine cT_go b_Entry_hasUnsourcedClaim_0 ?_
  have t_11 : (nI 0).toInt = 0 := nI_toInt (by decide)
  exact l_Entry_hasUnsourcedClaim_2 ((4 - (nI 0).toInt).toNat + 1) (by omega) hI hF s0 (by omega)
theorem c_Entry_printNumber {L : Nat} {f : cg_G} {e : Nat × Nat} {a0 : Nat} {x1 : Int32} (hI : cI L f) (s0 : sh_ a0 = 6)  : cE 76 [.ref a0, .int x1] L e (fun o => o = a0 ∨ o = a0 + 1) f (fun v f' => v = none ∧ (True)) := by
  refine cE_of (ls := [.ref a0, .int x1]) rfl ?_
  have t0 := t_0
  have hF : cF (fun o => o = a0 ∨ o = a0 + 1) f f := cF_rf
  have t_1 := t_rng (x1)
  have t_3 : (nI 100).toInt = 100 := nI_toInt (by decide)
  refine cT_if b_Entry_printNumber_0 (fun c_2 => ?_) (fun c_2 => ?_)
  · rw [t_lt] at c_2
    have t_5 : (nI 10).toInt = 10 := nI_toInt (by decide)
    refine cT_if b_Entry_printNumber_20 (fun c_4 => ?_) (fun c_4 => ?_)
    · rw [t_lt] at c_4
      have t_7 : (nI 48).toInt = 48 := nI_toInt (by decide)
      have t_10 := t_rng (x1 / (nI 10))
      first | have t_9 : ((x1 / (nI 10)) * ((nI 10))).toInt = ((x1 / (nI 10))).toInt * 10 := t_mulc' (by decide) (by omega) | (obtain ⟨kt_9, t_9⟩ := t_mul (x1 / (nI 10)) ((nI 10)); rw [nI_toInt (show 10 < 2 ^ 31 by decide)] at t_9)
      first | have t_8 : (x1 - (x1 / (nI 10) * (nI 10))).toInt = (x1).toInt - ((x1 / (nI 10) * (nI 10))).toInt := t_subn (by omega) | obtain ⟨kt_8, t_8⟩ := t_sub x1 (x1 / (nI 10) * (nI 10))
      first | have t_6 : (((nI 48)) + ((x1 - x1 / (nI 10) * (nI 10)))).toInt = (((nI 48))).toInt + (((x1 - x1 / (nI 10) * (nI 10)))).toInt := t_addn (by omega) | obtain ⟨kt_6, t_6⟩ := t_add ((nI 48)) ((x1 - x1 / (nI 10) * (nI 10)))
      refine cT_call (b_Entry_printNumber_40 s0) (c_Signs_add hI s0) hF (fun o ho => by omega) (fun v_11 f_12 hI_13 hG_14 hF_15 hQ_16 => ?_)
      obtain ⟨rfl, hQ_16⟩ := hQ_16
      show cT 76 51 [.ref a0, .int x1] [] _ _ _ _ _ _
      exact cT_ret b_Entry_printNumber_51 hI_13 hF_15 ⟨rfl, trivial⟩
    · rw [t_lt] at c_4
      have t_19 : (nI 48).toInt = 48 := nI_toInt (by decide)
      have t_21 := t_rng (x1 / (nI 10))
      have t_23 := t_rng ((x1 / (nI 10)) / (nI 10))
      first | have t_22 : (((x1 / (nI 10)) / (nI 10)) * ((nI 10))).toInt = (((x1 / (nI 10)) / (nI 10))).toInt * 10 := t_mulc' (by decide) (by omega) | (obtain ⟨kt_22, t_22⟩ := t_mul ((x1 / (nI 10)) / (nI 10)) ((nI 10)); rw [nI_toInt (show 10 < 2 ^ 31 by decide)] at t_22)
      first | have t_20 : (((x1 / (nI 10))) - ((x1 / (nI 10)) / (nI 10) * (nI 10))).toInt = (((x1 / (nI 10)))).toInt - (((x1 / (nI 10)) / (nI 10) * (nI 10))).toInt := t_subn (by omega) | obtain ⟨kt_20, t_20⟩ := t_sub ((x1 / (nI 10))) ((x1 / (nI 10)) / (nI 10) * (nI 10))
      first | have t_18 : (((nI 48)) + (((x1 / (nI 10)) - (x1 / (nI 10)) / (nI 10) * (nI 10)))).toInt = (((nI 48))).toInt + ((((x1 / (nI 10)) - (x1 / (nI 10)) / (nI 10) * (nI 10)))).toInt := t_addn (by omega) | obtain ⟨kt_18, t_18⟩ := t_add ((nI 48)) (((x1 / (nI 10)) - (x1 / (nI 10)) / (nI 10) * (nI 10)))
      refine cT_call (b_Entry_printNumber_26 s0) (c_Signs_add hI s0) hF (fun o ho => by omega) (fun v_24 f_25 hI_26 hG_27 hF_28 hQ_29 => ?_)
      obtain ⟨rfl, hQ_29⟩ := hQ_29
      show cT 76 40 [.ref a0, .int x1] [] _ _ _ _ _ _
      first | have t_33 : ((x1 / (nI 10)) * ((nI 10))).toInt = ((x1 / (nI 10))).toInt * 10 := t_mulc' (by decide) (by omega) | (obtain ⟨kt_33, t_33⟩ := t_mul (x1 / (nI 10)) ((nI 10)); rw [nI_toInt (show 10 < 2 ^ 31 by decide)] at t_33)
      first | have t_32 : (x1 - (x1 / (nI 10) * (nI 10))).toInt = (x1).toInt - ((x1 / (nI 10) * (nI 10))).toInt := t_subn (by omega) | obtain ⟨kt_32, t_32⟩ := t_sub x1 (x1 / (nI 10) * (nI 10))
      first | have t_31 : (((nI 48)) + ((x1 - x1 / (nI 10) * (nI 10)))).toInt = (((nI 48))).toInt + (((x1 - x1 / (nI 10) * (nI 10)))).toInt := t_addn (by omega) | obtain ⟨kt_31, t_31⟩ := t_add ((nI 48)) ((x1 - x1 / (nI 10) * (nI 10)))
      refine cT_call (b_Entry_printNumber_40 s0) (c_Signs_add hI_26 s0) hF_28 (fun o ho => by omega) (fun v_34 f_35 hI_36 hG_37 hF_38 hQ_39 => ?_)
      obtain ⟨rfl, hQ_39⟩ := hQ_39
      show cT 76 51 [.ref a0, .int x1] [] _ _ _ _ _ _
      exact cT_ret b_Entry_printNumber_51 hI_36 hF_38 ⟨rfl, trivial⟩
  · rw [t_lt] at c_2
    have t_42 : (nI 48).toInt = 48 := nI_toInt (by decide)
    have t_44 := t_rng (x1 / (nI 100))
    have t_46 := t_rng ((x1 / (nI 100)) / (nI 10))
    have t_47 : (nI 10).toInt = 10 := nI_toInt (by decide)
    first | have t_45 : (((x1 / (nI 100)) / (nI 10)) * ((nI 10))).toInt = (((x1 / (nI 100)) / (nI 10))).toInt * 10 := t_mulc' (by decide) (by omega) | (obtain ⟨kt_45, t_45⟩ := t_mul ((x1 / (nI 100)) / (nI 10)) ((nI 10)); rw [nI_toInt (show 10 < 2 ^ 31 by decide)] at t_45)
    first | have t_43 : (((x1 / (nI 100))) - ((x1 / (nI 100)) / (nI 10) * (nI 10))).toInt = (((x1 / (nI 100)))).toInt - (((x1 / (nI 100)) / (nI 10) * (nI 10))).toInt := t_subn (by omega) | obtain ⟨kt_43, t_43⟩ := t_sub ((x1 / (nI 100))) ((x1 / (nI 100)) / (nI 10) * (nI 10))
    first | have t_41 : (((nI 48)) + (((x1 / (nI 100)) - (x1 / (nI 100)) / (nI 10) * (nI 10)))).toInt = (((nI 48))).toInt + ((((x1 / (nI 100)) - (x1 / (nI 100)) / (nI 10) * (nI 10)))).toInt := t_addn (by omega) | obtain ⟨kt_41, t_41⟩ := t_add ((nI 48)) (((x1 / (nI 100)) - (x1 / (nI 100)) / (nI 10) * (nI 10)))
    refine cT_call (b_Entry_printNumber_6 s0) (c_Signs_add hI s0) hF (fun o ho => by omega) (fun v_48 f_49 hI_50 hG_51 hF_52 hQ_53 => ?_)
    obtain ⟨rfl, hQ_53⟩ := hQ_53
    show cT 76 20 [.ref a0, .int x1] [] _ _ _ _ _ _
    refine cT_if b_Entry_printNumber_20 (fun c_55 => ?_) (fun c_55 => ?_)
    · rw [t_lt] at c_55
      have t_59 := t_rng (x1 / (nI 10))
      first | have t_58 : ((x1 / (nI 10)) * ((nI 10))).toInt = ((x1 / (nI 10))).toInt * 10 := t_mulc' (by decide) (by omega) | (obtain ⟨kt_58, t_58⟩ := t_mul (x1 / (nI 10)) ((nI 10)); rw [nI_toInt (show 10 < 2 ^ 31 by decide)] at t_58)
      first | have t_57 : (x1 - (x1 / (nI 10) * (nI 10))).toInt = (x1).toInt - ((x1 / (nI 10) * (nI 10))).toInt := t_subn (by omega) | obtain ⟨kt_57, t_57⟩ := t_sub x1 (x1 / (nI 10) * (nI 10))
      first | have t_56 : (((nI 48)) + ((x1 - x1 / (nI 10) * (nI 10)))).toInt = (((nI 48))).toInt + (((x1 - x1 / (nI 10) * (nI 10)))).toInt := t_addn (by omega) | obtain ⟨kt_56, t_56⟩ := t_add ((nI 48)) ((x1 - x1 / (nI 10) * (nI 10)))
      refine cT_call (b_Entry_printNumber_40 s0) (c_Signs_add hI_50 s0) hF_52 (fun o ho => by omega) (fun v_60 f_61 hI_62 hG_63 hF_64 hQ_65 => ?_)
      obtain ⟨rfl, hQ_65⟩ := hQ_65
      show cT 76 51 [.ref a0, .int x1] [] _ _ _ _ _ _
      exact cT_ret b_Entry_printNumber_51 hI_62 hF_64 ⟨rfl, trivial⟩
    · rw [t_lt] at c_55
      have t_69 := t_rng (x1 / (nI 10))
      have t_71 := t_rng ((x1 / (nI 10)) / (nI 10))
      first | have t_70 : (((x1 / (nI 10)) / (nI 10)) * ((nI 10))).toInt = (((x1 / (nI 10)) / (nI 10))).toInt * 10 := t_mulc' (by decide) (by omega) | (obtain ⟨kt_70, t_70⟩ := t_mul ((x1 / (nI 10)) / (nI 10)) ((nI 10)); rw [nI_toInt (show 10 < 2 ^ 31 by decide)] at t_70)
      first | have t_68 : (((x1 / (nI 10))) - ((x1 / (nI 10)) / (nI 10) * (nI 10))).toInt = (((x1 / (nI 10)))).toInt - (((x1 / (nI 10)) / (nI 10) * (nI 10))).toInt := t_subn (by omega) | obtain ⟨kt_68, t_68⟩ := t_sub ((x1 / (nI 10))) ((x1 / (nI 10)) / (nI 10) * (nI 10))
      first | have t_67 : (((nI 48)) + (((x1 / (nI 10)) - (x1 / (nI 10)) / (nI 10) * (nI 10)))).toInt = (((nI 48))).toInt + ((((x1 / (nI 10)) - (x1 / (nI 10)) / (nI 10) * (nI 10)))).toInt := t_addn (by omega) | obtain ⟨kt_67, t_67⟩ := t_add ((nI 48)) (((x1 / (nI 10)) - (x1 / (nI 10)) / (nI 10) * (nI 10)))
      refine cT_call (b_Entry_printNumber_26 s0) (c_Signs_add hI_50 s0) hF_52 (fun o ho => by omega) (fun v_72 f_73 hI_74 hG_75 hF_76 hQ_77 => ?_)
      obtain ⟨rfl, hQ_77⟩ := hQ_77
      show cT 76 40 [.ref a0, .int x1] [] _ _ _ _ _ _
      first | have t_81 : ((x1 / (nI 10)) * ((nI 10))).toInt = ((x1 / (nI 10))).toInt * 10 := t_mulc' (by decide) (by omega) | (obtain ⟨kt_81, t_81⟩ := t_mul (x1 / (nI 10)) ((nI 10)); rw [nI_toInt (show 10 < 2 ^ 31 by decide)] at t_81)
      first | have t_80 : (x1 - (x1 / (nI 10) * (nI 10))).toInt = (x1).toInt - ((x1 / (nI 10) * (nI 10))).toInt := t_subn (by omega) | obtain ⟨kt_80, t_80⟩ := t_sub x1 (x1 / (nI 10) * (nI 10))
      first | have t_79 : (((nI 48)) + ((x1 - x1 / (nI 10) * (nI 10)))).toInt = (((nI 48))).toInt + (((x1 - x1 / (nI 10) * (nI 10)))).toInt := t_addn (by omega) | obtain ⟨kt_79, t_79⟩ := t_add ((nI 48)) ((x1 - x1 / (nI 10) * (nI 10)))
      refine cT_call (b_Entry_printNumber_40 s0) (c_Signs_add hI_74 s0) hF_76 (fun o ho => by omega) (fun v_82 f_83 hI_84 hG_85 hF_86 hQ_87 => ?_)
      obtain ⟨rfl, hQ_87⟩ := hQ_87
      show cT 76 51 [.ref a0, .int x1] [] _ _ _ _ _ _
      exact cT_ret b_Entry_printNumber_51 hI_84 hF_86 ⟨rfl, trivial⟩
theorem c_Entry_printMark {L : Nat} {f : cg_G} {e : Nat × Nat} {a0 : Nat} {a1 : Nat} {x2 : Int32} {x3 : Int32} {a4 : Nat} (hI : cI L f) (s0 : sh_ a0 = 2) (s1 : sh_ a1 = 6) (s4 : sh_ a4 = 100) (q4 : a4 ≠ 0) : cE 107 [.ref a0, .ref a1, .int x2, .int x3, .ref a4] L e (fun o => o = a1 ∨ o = a1 + 1) f (fun v f' => v = none ∧ (True)) := by
  refine cE_of (ls := [.ref a0, .ref a1, .int x2, .int x3, .ref a4]) rfl ?_
  have t0 := t_0
  have hF : cF (fun o => o = a1 ∨ o = a1 + 1) f f := cF_rf
  have t_1 := t_rng (x2)
  have t_2 := t_rng (x3)
  have t_4 : (nI 35).toInt = 35 := nI_toInt (by decide)
  refine cT_if b_Entry_printMark_0 (fun c_3 => ?_) (fun c_3 => ?_)
  · rw [t_eq] at c_3
    refine cT_call (b_Entry_printMark_6 s0) (c_Entry_textOf hI s0) hF (fun o ho => ho.elim) (fun v_5 f_6 hI_7 hG_8 hF_9 hQ_10 => ?_)
    obtain rfl := cF_no hG_8
    obtain ⟨y_11, rfl, hs_12, hQ_10⟩ := hQ_10
    show cT 107 12 [.ref a0, .ref a1, .int x2, .int x3, .ref a4] [.ref y_11, .ref a1] _ _ _ _ _ _
    refine cT_call (b_Entry_printMark_12 s1) (c_Signs_addAll hI s1 hs_12) hF (fun o ho => by omega) (fun v_13 f_14 hI_15 hG_16 hF_17 hQ_18 => ?_)
    obtain ⟨rfl, hQ_18⟩ := hQ_18
    show cT 107 15 [.ref a0, .ref a1, .int x2, .int x3, .ref a4] [] _ _ _ _ _ _
    refine cT_go b_Entry_printMark_15 ?_
    exact cT_ret b_Entry_printMark_37 hI_15 hF_17 ⟨rfl, trivial⟩
  · rw [t_eq] at c_3
    refine cT_if b_Entry_printMark_18 (fun c_20 => ?_) (fun c_20 => ?_)
    · rw [t_lt] at c_20
      exact cT_ret b_Entry_printMark_37 hI hF ⟨rfl, trivial⟩
    · rw [t_lt] at c_20
      have t_23 : (nI (ln_ L a4)).toInt = (ln_ L a4 : Nat) := nI_toInt (ln_small (by omega))
      refine cT_if (b_Entry_printMark_22 s4) (fun c_22 => ?_) (fun c_22 => ?_)
      · rw [t_le] at c_22
        exact cT_ret b_Entry_printMark_37 hI hF ⟨rfl, trivial⟩
      · rw [t_le] at c_22
        have t_24 := t_rng (f a4 x3.toNatClampNeg)
        refine cT_call (b_Entry_printMark_29 s4 (by rw [t_in]; omega)) (c_Entry_printNumber hI s1) hF (fun o ho => by omega) (fun v_25 f_26 hI_27 hG_28 hF_29 hQ_30 => ?_)
        obtain ⟨rfl, hQ_30⟩ := hQ_30
        show cT 107 37 [.ref a0, .ref a1, .int x2, .int x3, .ref a4] [] _ _ _ _ _ _
        exact cT_ret b_Entry_printMark_37 hI_27 hF_29 ⟨rfl, trivial⟩
theorem l_Entry_partEnd_2 {L : Nat} {e : Nat × Nat} {f0 : cg_G} : ∀ (k : Nat) {f : cg_G} {a0 : Nat} {x1 : Int32} {x2 : Int32}, (4096 - x2.toInt).toNat < k → cI L f → cF (fun o => False) f0 f → sh_ a0 = 2 → (0 ≤ x1.toInt ∧ x1.toInt < 4096) → (x1.toInt ≤ x2.toInt) → cT 75 2 [.ref a0, .int x1, .int x2] [] L e (fun o => False) f0 f (fun v f' => ∃ x : Int32, v = some (.int x) ∧ (0 ≤ x.toInt ∧ x.toInt < 4096 ∧ (x1.toInt ≤ (f (f a0 2).toNatClampNeg 1).toInt → x1.toInt ≤ x.toInt))) := by
  intro k
  induction k with
  | zero => intro f a0 x1 x2 hm; omega
  | succ k ih =>
    intro f a0 x1 x2 hme hI hF s0 i1 i2
    have t0 := t_0
    have t_1 := t_rng (x1)
    have t_2 := t_rng (x2)
    refine cT_call (b_Entry_partEnd_2 s0 (mo_sh hI s0)) (c_Signs_size hI (mo_sh hI s0)) hF (fun o ho => ho.elim) (fun v_3 f_4 hI_5 hG_6 hF_7 hQ_8 => ?_)
    obtain rfl := cF_no hG_6
    obtain ⟨y_9, rfl, hQ_8⟩ := hQ_8
    have hQ_8r := t_rng y_9
    show cT 75 10 [.ref a0, .int x1, .int x2] [.int y_9, .int x2] _ _ _ _ _ _
    refine cT_if b_Entry_partEnd_10 (fun c_10 => ?_) (fun c_10 => ?_)
    · rw [t_le] at c_10
      refine cT_call (b_Entry_partEnd_34 s0 (mo_sh hI s0)) (c_Signs_size hI (mo_sh hI s0)) hF (fun o ho => ho.elim) (fun v_11 f_12 hI_13 hG_14 hF_15 hQ_16 => ?_)
      obtain rfl := cF_no hG_14
      obtain ⟨y_17, rfl, hQ_16⟩ := hQ_16
      have hQ_16r := t_rng y_17
      show cT 75 41 [.ref a0, .int x1, .int x2] [.int y_17] _ _ _ _ _ _
      exact cT_ret b_Entry_partEnd_41 hI hF ⟨_, rfl, by omega⟩
    · rw [t_le] at c_10
      refine cT_call (b_Entry_partEnd_13 s0 (mo_sh hI s0)) (c_Signs_at hI (mo_sh hI s0)) hF (fun o ho => ho.elim) (fun v_18 f_19 hI_20 hG_21 hF_22 hQ_23 => ?_)
      obtain rfl := cF_no hG_21
      obtain ⟨y_24, rfl, hQ_23⟩ := hQ_23
      have hQ_23r := t_rng y_24
      show cT 75 21 [.ref a0, .int x1, .int x2] [.int y_24] _ _ _ _ _ _
      have t_26 : (nI 93).toInt = 93 := nI_toInt (by decide)
      refine cT_if b_Entry_partEnd_21 (fun c_25 => ?_) (fun c_25 => ?_)
      · rw [t_eq] at c_25
        exact cT_ret b_Entry_partEnd_26 hI hF ⟨_, rfl, by omega⟩
      · rw [t_eq] at c_25
        refine cT_go b_Entry_partEnd_28 ?_
        have t_28 : (nI 1).toInt = 1 := nI_toInt (by decide)
        first | have t_27 : (x2 + (nI 1)).toInt = (x2).toInt + ((nI 1)).toInt := t_addn (by omega) | obtain ⟨kt_27, t_27⟩ := t_add x2 (nI 1)
        exact ih (by omega) hI hF s0 (by omega) (by omega)
theorem c_Entry_partEnd {L : Nat} {f : cg_G} {e : Nat × Nat} {a0 : Nat} {x1 : Int32} (hI : cI L f) (s0 : sh_ a0 = 2) (p1 : 0 ≤ x1.toInt ∧ x1.toInt < 4096) : cE 75 [.ref a0, .int x1] L e (fun o => False) f (fun v f' => ∃ x : Int32, v = some (.int x) ∧ (0 ≤ x.toInt ∧ x.toInt < 4096 ∧ (x1.toInt ≤ (f (f a0 2).toNatClampNeg 1).toInt → x1.toInt ≤ x.toInt))) := by
  refine cE_of (ls := [.ref a0, .int x1, (.retAddr 0)]) rfl ?_
  have t0 := t_0
  have hF : cF (fun o => False) f f := cF_rf
  have t_29 := t_rng (x1)
  refine cT_go b_Entry_partEnd_0 ?_
  exact l_Entry_partEnd_2 ((4096 - x1.toInt).toNat + 1) (by omega) hI hF s0 (by omega) (by omega)
theorem l_Entry_isPartWhole_8 {L : Nat} {e : Nat × Nat} {f0 : cg_G} : ∀ (k : Nat) {f : cg_G} {a0 : Nat} {x1 : Int32} {x2 : Int32} {x3 : Int32}, (4096 - x3.toInt).toNat < k → cI L f → cF (fun o => False) f0 f → sh_ a0 = 2 → (x2.toInt < 4096) → (0 ≤ x3.toInt) → cT 106 8 [.ref a0, .int x1, .int x2, .int x3] [] L e (fun o => False) f0 f (fun v f' => ∃ x : Int32, v = some (.int x) ∧ (x = 0 ∨ x = 1) ∧ (True)) := by
  intro k
  induction k with
  | zero => intro f a0 x1 x2 x3 hm; omega
  | succ k ih =>
    intro f a0 x1 x2 x3 hme hI hF s0 i2 i3
    have t0 := t_0
    have t_1 := t_rng (x1)
    have t_2 := t_rng (x2)
    have t_3 := t_rng (x3)
    refine cT_if b_Entry_isPartWhole_8 (fun c_4 => ?_) (fun c_4 => ?_)
    · rw [t_le] at c_4
      have t_5 : (nI 1).toInt = 1 := nI_toInt (by decide)
      exact cT_ret b_Entry_isPartWhole_57 hI hF ⟨_, rfl, (by decide), trivial⟩
    · rw [t_le] at c_4
      refine cT_call (b_Entry_isPartWhole_13 s0 (mo_sh hI s0)) (c_Signs_at hI (mo_sh hI s0)) hF (fun o ho => ho.elim) (fun v_6 f_7 hI_8 hG_9 hF_10 hQ_11 => ?_)
      obtain rfl := cF_no hG_9
      obtain ⟨y_12, rfl, hQ_11⟩ := hQ_11
      have hQ_11r := t_rng y_12
      show cT 106 21 [.ref a0, .int x1, .int x2, .int x3] [.int y_12] _ _ _ _ _ _
      have t_14 : (nI 35).toInt = 35 := nI_toInt (by decide)
      refine cT_if b_Entry_isPartWhole_21 (fun c_13 => ?_) (fun c_13 => ?_)
      · rw [t_eq] at c_13
        have t_16 : (nI 1).toInt = 1 := nI_toInt (by decide)
        first | have t_15 : (x3 + ((nI 1))).toInt = (x3).toInt + (((nI 1))).toInt := t_addn (by omega) | obtain ⟨kt_15, t_15⟩ := t_add x3 ((nI 1))
        refine cT_call (b_Entry_isPartWhole_26 s0 (mo_sh hI s0)) (c_Signs_at hI (mo_sh hI s0)) hF (fun o ho => ho.elim) (fun v_17 f_18 hI_19 hG_20 hF_21 hQ_22 => ?_)
        obtain rfl := cF_no hG_20
        obtain ⟨y_23, rfl, hQ_22⟩ := hQ_22
        have hQ_22r := t_rng y_23
        show cT 106 37 [.ref a0, .int x1, .int x2, .int x3] [.int y_23, .ref a0] _ _ _ _ _ _
        have t_25 : (nI 48).toInt = 48 := nI_toInt (by decide)
        first | have t_24 : (y_23 - ((nI 48))).toInt = (y_23).toInt - (((nI 48))).toInt := t_subn (by omega) | obtain ⟨kt_24, t_24⟩ := t_sub y_23 ((nI 48))
        refine cT_call (b_Entry_isPartWhole_37 s0) (c_Entry_textOf hI s0) hF (fun o ho => ho.elim) (fun v_26 f_27 hI_28 hG_29 hF_30 hQ_31 => ?_)
        obtain rfl := cF_no hG_29
        obtain ⟨y_32, rfl, hs_33, hQ_31⟩ := hQ_31
        show cT 106 43 [.ref a0, .int x1, .int x2, .int x3] [.ref y_32] _ _ _ _ _ _
        refine cT_call (b_Entry_isPartWhole_43 hs_33) (c_Signs_size hI hs_33) hF (fun o ho => ho.elim) (fun v_34 f_35 hI_36 hG_37 hF_38 hQ_39 => ?_)
        obtain rfl := cF_no hG_37
        obtain ⟨y_40, rfl, hQ_39⟩ := hQ_39
        have hQ_39r := t_rng y_40
        show cT 106 46 [.ref a0, .int x1, .int x2, .int x3] [.int y_40] _ _ _ _ _ _
        refine cT_if b_Entry_isPartWhole_46 (fun c_41 => ?_) (fun c_41 => ?_)
        · rw [t_eq] at c_41
          have t_43 : (nI 0).toInt = 0 := nI_toInt (by decide)
          exact cT_ret b_Entry_isPartWhole_49 hI hF ⟨_, rfl, (by decide), trivial⟩
        · rw [t_eq] at c_41
          refine cT_go b_Entry_isPartWhole_51 ?_
          first | have t_44 : (x3 + (nI 1)).toInt = (x3).toInt + ((nI 1)).toInt := t_addn (by omega) | obtain ⟨kt_44, t_44⟩ := t_add x3 (nI 1)
          exact ih (by omega) hI hF s0 (by omega) (by omega)
      · rw [t_eq] at c_13
        refine cT_go b_Entry_isPartWhole_51 ?_
        have t_46 : (nI 1).toInt = 1 := nI_toInt (by decide)
        first | have t_45 : (x3 + (nI 1)).toInt = (x3).toInt + ((nI 1)).toInt := t_addn (by omega) | obtain ⟨kt_45, t_45⟩ := t_add x3 (nI 1)
        exact ih (by omega) hI hF s0 (by omega) (by omega)
theorem c_Entry_isPartWhole {L : Nat} {f : cg_G} {e : Nat × Nat} {a0 : Nat} {x1 : Int32} (hI : cI L f) (s0 : sh_ a0 = 2) (p1 : 0 ≤ x1.toInt ∧ x1.toInt < 4096) : cE 106 [.ref a0, .int x1] L e (fun o => False) f (fun v f' => ∃ x : Int32, v = some (.int x) ∧ (x = 0 ∨ x = 1) ∧ (True)) := by
  refine cE_of (ls := [.ref a0, .int x1, (.retAddr 0), (.retAddr 0)]) rfl ?_
  have t0 := t_0
  have hF : cF (fun o => False) f f := cF_rf
  have t_47 := t_rng (x1)
  refine cT_call (b_Entry_isPartWhole_0 s0) (c_Entry_partEnd hI s0 (by first | omega | assumption | exact sl_4_4 (by assumption))) hF (fun o ho => ho.elim) (fun v_48 f_49 hI_50 hG_51 hF_52 hQ_53 => ?_)
  obtain rfl := cF_no hG_51
  obtain ⟨y_54, rfl, hQ_53⟩ := hQ_53
  have hQ_53r := t_rng y_54
  show cT 106 5 [.ref a0, .int x1, ((.retAddr 0)), ((.retAddr 0))] [.int y_54] _ _ _ _ _ _
  refine cT_go b_Entry_isPartWhole_5 ?_
  exact l_Entry_isPartWhole_8 ((4096 - x1.toInt).toNat + 1) (by omega) hI hF s0 (by omega) (by omega)
theorem l_Entry_printTo_6 {L : Nat} {e : Nat × Nat} {f0 : cg_G} : ∀ (k : Nat) {f : cg_G} {a0 : Nat} {a1 : Nat} {a2 : Nat} {x3 : Int32} {u4 : Value}, (4097 - x3.toInt).toNat < k → cI L f → cF (fun o => o = a1 ∨ o = a1 + 1) f0 f → sh_ a0 = 2 → sh_ a1 = 6 → sh_ a2 = 100 → (0 ≤ x3.toInt) → (a2 ≠ 0) → cT 130 6 [.ref a0, .ref a1, .ref a2, .int x3, u4] [] L e (fun o => o = a1 ∨ o = a1 + 1) f0 f (fun v f' => v = none ∧ (True)) := by
  intro k
  induction k with
  | zero => intro f a0 a1 a2 x3 u4 hm; omega
  | succ k ih =>
    intro f a0 a1 a2 x3 u4 hme hI hF s0 s1 s2 i3 q2
    have t0 := t_0
    have t_1 := t_rng (x3)
    refine cT_call (b_Entry_printTo_6 s0 (mo_sh hI s0)) (c_Signs_size hI (mo_sh hI s0)) hF (fun o ho => ho.elim) (fun v_2 f_3 hI_4 hG_5 hF_6 hQ_7 => ?_)
    obtain rfl := cF_no hG_5
    obtain ⟨y_8, rfl, hQ_7⟩ := hQ_7
    have hQ_7r := t_rng y_8
    show cT 130 14 [.ref a0, .ref a1, .ref a2, .int x3, u4] [.int y_8, .int x3] _ _ _ _ _ _
    refine cT_if b_Entry_printTo_14 (fun c_9 => ?_) (fun c_9 => ?_)
    · rw [t_le] at c_9
      exact cT_ret b_Entry_printTo_116 hI hF ⟨rfl, trivial⟩
    · rw [t_le] at c_9
      refine cT_call (b_Entry_printTo_17 s0 (mo_sh hI s0)) (c_Signs_at hI (mo_sh hI s0)) hF (fun o ho => ho.elim) (fun v_10 f_11 hI_12 hG_13 hF_14 hQ_15 => ?_)
      obtain rfl := cF_no hG_13
      obtain ⟨y_16, rfl, hQ_15⟩ := hQ_15
      have hQ_15r := t_rng y_16
      show cT 130 25 [.ref a0, .ref a1, .ref a2, .int x3, u4] [.int y_16] _ _ _ _ _ _
      have t_18 : (nI 91).toInt = 91 := nI_toInt (by decide)
      refine cT_if b_Entry_printTo_25 (fun c_17 => ?_) (fun c_17 => ?_)
      · rw [t_eq] at c_17
        refine cT_call (b_Entry_printTo_34 s0) (c_Entry_isPartWhole hI s0 (by first | omega | assumption | exact sl_4_4 (by assumption))) hF (fun o ho => ho.elim) (fun v_19 f_20 hI_21 hG_22 hF_23 hQ_24 => ?_)
        obtain rfl := cF_no hG_22
        obtain ⟨y_25, rfl, hb_26, hQ_24⟩ := hQ_24
        have hb_26r := t_rng y_25
        show cT 130 39 [.ref a0, .ref a1, .ref a2, .int x3, .int y_16] [.int y_25] _ _ _ _ _ _
        refine cT_if b_Entry_printTo_39 (fun c_27 => ?_) (fun c_27 => ?_)
        · rw [t_eq] at c_27
          refine cT_call (b_Entry_printTo_42 s0) (c_Entry_partEnd hI s0 (by first | omega | assumption | exact sl_4_4 (by assumption))) hF (fun o ho => ho.elim) (fun v_29 f_30 hI_31 hG_32 hF_33 hQ_34 => ?_)
          obtain rfl := cF_no hG_32
          obtain ⟨y_35, rfl, hQ_34⟩ := hQ_34
          have hQ_34r := t_rng y_35
          show cT 130 47 [.ref a0, .ref a1, .ref a2, .int x3, .int y_16] [.int y_35] _ _ _ _ _ _
          refine cT_go b_Entry_printTo_47 ?_
          refine cT_go b_Entry_printTo_110 ?_
          have t_37 : (nI 1).toInt = 1 := nI_toInt (by decide)
          first | have t_36 : (y_35 + (nI 1)).toInt = (y_35).toInt + ((nI 1)).toInt := t_addn (by omega) | obtain ⟨kt_36, t_36⟩ := t_add y_35 (nI 1)
          exact ih (by omega) hI hF s0 s1 s2 (by omega) (by omega)
        · rw [t_eq] at c_27
          have t_39 : (nI 35).toInt = 35 := nI_toInt (by decide)
          refine cT_if b_Entry_printTo_51 (fun c_38 => ?_) (fun c_38 => ?_)
          · rw [t_eq] at c_38
            have t_41 : (nI 1).toInt = 1 := nI_toInt (by decide)
            first | have t_40 : (x3 + (nI 1)).toInt = (x3).toInt + ((nI 1)).toInt := t_addn (by omega) | obtain ⟨kt_40, t_40⟩ := t_add x3 (nI 1)
            refine cT_call (b_Entry_printTo_65 s0 (mo_sh hI s0)) (c_Signs_at hI (mo_sh hI s0)) hF (fun o ho => ho.elim) (fun v_42 f_43 hI_44 hG_45 hF_46 hQ_47 => ?_)
            obtain rfl := cF_no hG_45
            obtain ⟨y_48, rfl, hQ_47⟩ := hQ_47
            have hQ_47r := t_rng y_48
            show cT 130 80 [.ref a0, .ref a1, .ref a2, .int (x3 + nI 1), .int y_16] [.int y_48, .int y_16, .ref a1, .ref a0] _ _ _ _ _ _
            have t_50 : (nI 48).toInt = 48 := nI_toInt (by decide)
            first | have t_49 : (y_48 - ((nI 48))).toInt = (y_48).toInt - (((nI 48))).toInt := t_subn (by omega) | obtain ⟨kt_49, t_49⟩ := t_sub y_48 ((nI 48))
            refine cT_call (b_Entry_printTo_80 s0) (c_Entry_printMark hI s0 s1 s2 (by first | omega | assumption | exact sl_4_4 (by assumption))) hF (fun o ho => by omega) (fun v_51 f_52 hI_53 hG_54 hF_55 hQ_56 => ?_)
            obtain ⟨rfl, hQ_56⟩ := hQ_56
            show cT 130 87 [.ref a0, .ref a1, .ref a2, .int (x3 + nI 1), .int y_16] [] _ _ _ _ _ _
            refine cT_go b_Entry_printTo_87 ?_
            refine cT_go b_Entry_printTo_110 ?_
            first | have t_58 : (((x3 + nI 1)) + (nI 1)).toInt = (((x3 + nI 1))).toInt + ((nI 1)).toInt := t_addn (by omega) | obtain ⟨kt_58, t_58⟩ := t_add ((x3 + nI 1)) (nI 1)
            exact ih (by omega) hI_53 hF_55 s0 s1 s2 (by omega) (by omega)
          · rw [t_eq] at c_38
            have t_60 : (nI 64).toInt = 64 := nI_toInt (by decide)
            refine cT_if b_Entry_printTo_58 (fun c_59 => ?_) (fun c_59 => ?_)
            · rw [t_eq] at c_59
              have t_62 : (nI 1).toInt = 1 := nI_toInt (by decide)
              first | have t_61 : (x3 + (nI 1)).toInt = (x3).toInt + ((nI 1)).toInt := t_addn (by omega) | obtain ⟨kt_61, t_61⟩ := t_add x3 (nI 1)
              refine cT_call (b_Entry_printTo_65 s0 (mo_sh hI s0)) (c_Signs_at hI (mo_sh hI s0)) hF (fun o ho => ho.elim) (fun v_63 f_64 hI_65 hG_66 hF_67 hQ_68 => ?_)
              obtain rfl := cF_no hG_66
              obtain ⟨y_69, rfl, hQ_68⟩ := hQ_68
              have hQ_68r := t_rng y_69
              show cT 130 80 [.ref a0, .ref a1, .ref a2, .int (x3 + nI 1), .int y_16] [.int y_69, .int y_16, .ref a1, .ref a0] _ _ _ _ _ _
              have t_71 : (nI 48).toInt = 48 := nI_toInt (by decide)
              first | have t_70 : (y_69 - ((nI 48))).toInt = (y_69).toInt - (((nI 48))).toInt := t_subn (by omega) | obtain ⟨kt_70, t_70⟩ := t_sub y_69 ((nI 48))
              refine cT_call (b_Entry_printTo_80 s0) (c_Entry_printMark hI s0 s1 s2 (by first | omega | assumption | exact sl_4_4 (by assumption))) hF (fun o ho => by omega) (fun v_72 f_73 hI_74 hG_75 hF_76 hQ_77 => ?_)
              obtain ⟨rfl, hQ_77⟩ := hQ_77
              show cT 130 87 [.ref a0, .ref a1, .ref a2, .int (x3 + nI 1), .int y_16] [] _ _ _ _ _ _
              refine cT_go b_Entry_printTo_87 ?_
              refine cT_go b_Entry_printTo_110 ?_
              first | have t_79 : (((x3 + nI 1)) + (nI 1)).toInt = (((x3 + nI 1))).toInt + ((nI 1)).toInt := t_addn (by omega) | obtain ⟨kt_79, t_79⟩ := t_add ((x3 + nI 1)) (nI 1)
              exact ih (by omega) hI_74 hF_76 s0 s1 s2 (by omega) (by omega)
            · rw [t_eq] at c_59
              refine cT_if b_Entry_printTo_90 (fun c_80 => ?_) (fun c_80 => ?_)
              · rw [t_eq] at c_80
                refine cT_go b_Entry_printTo_110 ?_
                have t_82 : (nI 1).toInt = 1 := nI_toInt (by decide)
                first | have t_81 : (x3 + (nI 1)).toInt = (x3).toInt + ((nI 1)).toInt := t_addn (by omega) | obtain ⟨kt_81, t_81⟩ := t_add x3 (nI 1)
                exact ih (by omega) hI hF s0 s1 s2 (by omega) (by omega)
              · rw [t_eq] at c_80
                have t_84 : (nI 93).toInt = 93 := nI_toInt (by decide)
                refine cT_if b_Entry_printTo_97 (fun c_83 => ?_) (fun c_83 => ?_)
                · rw [t_eq] at c_83
                  refine cT_go b_Entry_printTo_110 ?_
                  have t_86 : (nI 1).toInt = 1 := nI_toInt (by decide)
                  first | have t_85 : (x3 + (nI 1)).toInt = (x3).toInt + ((nI 1)).toInt := t_addn (by omega) | obtain ⟨kt_85, t_85⟩ := t_add x3 (nI 1)
                  exact ih (by omega) hI hF s0 s1 s2 (by omega) (by omega)
                · rw [t_eq] at c_83
                  refine cT_call (b_Entry_printTo_104 s1) (c_Signs_add hI s1) hF (fun o ho => by omega) (fun v_87 f_88 hI_89 hG_90 hF_91 hQ_92 => ?_)
                  obtain ⟨rfl, hQ_92⟩ := hQ_92
                  show cT 130 110 [.ref a0, .ref a1, .ref a2, .int x3, .int y_16] [] _ _ _ _ _ _
                  refine cT_go b_Entry_printTo_110 ?_
                  have t_95 : (nI 1).toInt = 1 := nI_toInt (by decide)
                  first | have t_94 : (x3 + (nI 1)).toInt = (x3).toInt + ((nI 1)).toInt := t_addn (by omega) | obtain ⟨kt_94, t_94⟩ := t_add x3 (nI 1)
                  exact ih (by omega) hI_89 hF_91 s0 s1 s2 (by omega) (by omega)
      · rw [t_eq] at c_17
        have t_97 : (nI 35).toInt = 35 := nI_toInt (by decide)
        refine cT_if b_Entry_printTo_51 (fun c_96 => ?_) (fun c_96 => ?_)
        · rw [t_eq] at c_96
          have t_99 : (nI 1).toInt = 1 := nI_toInt (by decide)
          first | have t_98 : (x3 + (nI 1)).toInt = (x3).toInt + ((nI 1)).toInt := t_addn (by omega) | obtain ⟨kt_98, t_98⟩ := t_add x3 (nI 1)
          refine cT_call (b_Entry_printTo_65 s0 (mo_sh hI s0)) (c_Signs_at hI (mo_sh hI s0)) hF (fun o ho => ho.elim) (fun v_100 f_101 hI_102 hG_103 hF_104 hQ_105 => ?_)
          obtain rfl := cF_no hG_103
          obtain ⟨y_106, rfl, hQ_105⟩ := hQ_105
          have hQ_105r := t_rng y_106
          show cT 130 80 [.ref a0, .ref a1, .ref a2, .int (x3 + nI 1), .int y_16] [.int y_106, .int y_16, .ref a1, .ref a0] _ _ _ _ _ _
          have t_108 : (nI 48).toInt = 48 := nI_toInt (by decide)
          first | have t_107 : (y_106 - ((nI 48))).toInt = (y_106).toInt - (((nI 48))).toInt := t_subn (by omega) | obtain ⟨kt_107, t_107⟩ := t_sub y_106 ((nI 48))
          refine cT_call (b_Entry_printTo_80 s0) (c_Entry_printMark hI s0 s1 s2 (by first | omega | assumption | exact sl_4_4 (by assumption))) hF (fun o ho => by omega) (fun v_109 f_110 hI_111 hG_112 hF_113 hQ_114 => ?_)
          obtain ⟨rfl, hQ_114⟩ := hQ_114
          show cT 130 87 [.ref a0, .ref a1, .ref a2, .int (x3 + nI 1), .int y_16] [] _ _ _ _ _ _
          refine cT_go b_Entry_printTo_87 ?_
          refine cT_go b_Entry_printTo_110 ?_
          first | have t_116 : (((x3 + nI 1)) + (nI 1)).toInt = (((x3 + nI 1))).toInt + ((nI 1)).toInt := t_addn (by omega) | obtain ⟨kt_116, t_116⟩ := t_add ((x3 + nI 1)) (nI 1)
          exact ih (by omega) hI_111 hF_113 s0 s1 s2 (by omega) (by omega)
        · rw [t_eq] at c_96
          have t_118 : (nI 64).toInt = 64 := nI_toInt (by decide)
          refine cT_if b_Entry_printTo_58 (fun c_117 => ?_) (fun c_117 => ?_)
          · rw [t_eq] at c_117
            have t_120 : (nI 1).toInt = 1 := nI_toInt (by decide)
            first | have t_119 : (x3 + (nI 1)).toInt = (x3).toInt + ((nI 1)).toInt := t_addn (by omega) | obtain ⟨kt_119, t_119⟩ := t_add x3 (nI 1)
            refine cT_call (b_Entry_printTo_65 s0 (mo_sh hI s0)) (c_Signs_at hI (mo_sh hI s0)) hF (fun o ho => ho.elim) (fun v_121 f_122 hI_123 hG_124 hF_125 hQ_126 => ?_)
            obtain rfl := cF_no hG_124
            obtain ⟨y_127, rfl, hQ_126⟩ := hQ_126
            have hQ_126r := t_rng y_127
            show cT 130 80 [.ref a0, .ref a1, .ref a2, .int (x3 + nI 1), .int y_16] [.int y_127, .int y_16, .ref a1, .ref a0] _ _ _ _ _ _
            have t_129 : (nI 48).toInt = 48 := nI_toInt (by decide)
            first | have t_128 : (y_127 - ((nI 48))).toInt = (y_127).toInt - (((nI 48))).toInt := t_subn (by omega) | obtain ⟨kt_128, t_128⟩ := t_sub y_127 ((nI 48))
            refine cT_call (b_Entry_printTo_80 s0) (c_Entry_printMark hI s0 s1 s2 (by first | omega | assumption | exact sl_4_4 (by assumption))) hF (fun o ho => by omega) (fun v_130 f_131 hI_132 hG_133 hF_134 hQ_135 => ?_)
            obtain ⟨rfl, hQ_135⟩ := hQ_135
            show cT 130 87 [.ref a0, .ref a1, .ref a2, .int (x3 + nI 1), .int y_16] [] _ _ _ _ _ _
            refine cT_go b_Entry_printTo_87 ?_
            refine cT_go b_Entry_printTo_110 ?_
            first | have t_137 : (((x3 + nI 1)) + (nI 1)).toInt = (((x3 + nI 1))).toInt + ((nI 1)).toInt := t_addn (by omega) | obtain ⟨kt_137, t_137⟩ := t_add ((x3 + nI 1)) (nI 1)
            exact ih (by omega) hI_132 hF_134 s0 s1 s2 (by omega) (by omega)
          · rw [t_eq] at c_117
            refine cT_if b_Entry_printTo_90 (fun c_138 => ?_) (fun c_138 => ?_)
            · rw [t_eq] at c_138
              refine cT_go b_Entry_printTo_110 ?_
              have t_140 : (nI 1).toInt = 1 := nI_toInt (by decide)
              first | have t_139 : (x3 + (nI 1)).toInt = (x3).toInt + ((nI 1)).toInt := t_addn (by omega) | obtain ⟨kt_139, t_139⟩ := t_add x3 (nI 1)
              exact ih (by omega) hI hF s0 s1 s2 (by omega) (by omega)
            · rw [t_eq] at c_138
              have t_142 : (nI 93).toInt = 93 := nI_toInt (by decide)
              refine cT_if b_Entry_printTo_97 (fun c_141 => ?_) (fun c_141 => ?_)
              · rw [t_eq] at c_141
                refine cT_go b_Entry_printTo_110 ?_
                have t_144 : (nI 1).toInt = 1 := nI_toInt (by decide)
                first | have t_143 : (x3 + (nI 1)).toInt = (x3).toInt + ((nI 1)).toInt := t_addn (by omega) | obtain ⟨kt_143, t_143⟩ := t_add x3 (nI 1)
                exact ih (by omega) hI hF s0 s1 s2 (by omega) (by omega)
              · rw [t_eq] at c_141
                refine cT_call (b_Entry_printTo_104 s1) (c_Signs_add hI s1) hF (fun o ho => by omega) (fun v_145 f_146 hI_147 hG_148 hF_149 hQ_150 => ?_)
                obtain ⟨rfl, hQ_150⟩ := hQ_150
                show cT 130 110 [.ref a0, .ref a1, .ref a2, .int x3, .int y_16] [] _ _ _ _ _ _
                refine cT_go b_Entry_printTo_110 ?_
                have t_153 : (nI 1).toInt = 1 := nI_toInt (by decide)
                first | have t_152 : (x3 + (nI 1)).toInt = (x3).toInt + ((nI 1)).toInt := t_addn (by omega) | obtain ⟨kt_152, t_152⟩ := t_add x3 (nI 1)
                exact ih (by omega) hI_147 hF_149 s0 s1 s2 (by omega) (by omega)
theorem c_Entry_printTo {L : Nat} {f : cg_G} {e : Nat × Nat} {a0 : Nat} {a1 : Nat} {a2 : Nat} (hI : cI L f) (s0 : sh_ a0 = 2) (s1 : sh_ a1 = 6) (s2 : sh_ a2 = 100) (q2 : a2 ≠ 0) : cE 130 [.ref a0, .ref a1, .ref a2] L e (fun o => o = a1 ∨ o = a1 + 1) f (fun v f' => v = none ∧ (True)) := by
  refine cE_of (ls := [.ref a0, .ref a1, .ref a2, (.retAddr 0), (.retAddr 0)]) rfl ?_
  have t0 := t_0
  have hF : cF (fun o => o = a1 ∨ o = a1 + 1) f f := cF_rf
  refine cT_call (b_Entry_printTo_0 s1) (c_Signs_clear hI s1) hF (fun o ho => by omega) (fun v_154 f_155 hI_156 hG_157 hF_158 hQ_159 => ?_)
  obtain ⟨rfl, hQ_159⟩ := hQ_159
  show cT 130 4 [.ref a0, .ref a1, .ref a2, ((.retAddr 0)), ((.retAddr 0))] [] _ _ _ _ _ _
  refine cT_go b_Entry_printTo_4 ?_
  have t_161 : (nI 0).toInt = 0 := nI_toInt (by decide)
  exact l_Entry_printTo_6 ((4097 - (nI 0).toInt).toNat + 1) (by omega) hI_156 hF_158 s0 s1 s2 (by omega) (by omega)
theorem c_Block_lines {L : Nat} {f : cg_G} {e : Nat × Nat} {a0 : Nat} (hI : cI L f) (s0 : sh_ a0 = 1)  : cE 7 [.ref a0] L e (fun o => False) f (fun v f' => ∃ x : Int32, v = some (.int x) ∧ (0 ≤ x.toInt ∧ x.toInt ≤ 106)) := by
  refine cE_of (ls := [.ref a0]) rfl ?_
  have t0 := t_0
  have hF : cF (fun o => False) f f := cF_rf
  have t_1 : 0 ≤ (f a0 2).toInt ∧ (f a0 2).toInt ≤ 106 := (cI_at hI 2 s0) rfl
  exact cT_ret (b_Block_lines_0 s0) hI hF ⟨_, rfl, by omega⟩
theorem c_Block_lengthOf {L : Nat} {f : cg_G} {e : Nat × Nat} {a0 : Nat} {x1 : Int32} (hI : cI L f) (s0 : sh_ a0 = 1)  : cE 5 [.ref a0, .int x1] L e (fun o => False) f (fun v f' => ∃ x : Int32, v = some (.int x) ∧ (0 < x.toInt → 0 ≤ x1.toInt ∧ x1.toInt < 106)) := by
  refine cE_of (ls := [.ref a0, .int x1]) rfl ?_
  have t0 := t_0
  have hF : cF (fun o => False) f f := cF_rf
  have t_1 := t_rng (x1)
  refine cT_if b_Block_lengthOf_0 (fun c_2 => ?_) (fun c_2 => ?_)
  · rw [t_lt] at c_2
    refine cT_go b_Block_lengthOf_32 ?_
    have t_4 : (nI 0).toInt = 0 := nI_toInt (by decide)
    exact cT_ret b_Block_lengthOf_33 hI hF ⟨_, rfl, by omega⟩
  · rw [t_lt] at c_2
    have t_6 : 0 ≤ (f a0 2).toInt ∧ (f a0 2).toInt ≤ 106 := (cI_at hI 2 s0) rfl
    refine cT_if (b_Block_lengthOf_4 s0) (fun c_5 => ?_) (fun c_5 => ?_)
    · rw [t_le] at c_5
      refine cT_go b_Block_lengthOf_32 ?_
      have t_7 : (nI 0).toInt = 0 := nI_toInt (by decide)
      exact cT_ret b_Block_lengthOf_33 hI hF ⟨_, rfl, by omega⟩
    · rw [t_le] at c_5
      have t_9 : (nI 1).toInt = 1 := nI_toInt (by decide)
      first | have t_8 : (x1 + ((nI 1))).toInt = (x1).toInt + (((nI 1))).toInt := t_addn (by omega) | obtain ⟨kt_8, t_8⟩ := t_add x1 ((nI 1))
      refine cT_go (b_Block_lengthOf_12 s0 (by rw [t_in]; omega) (by rw [t_in]; omega)) ?_
      have t_12 := t_rng (f (a0 + 3) (x1 + (nI 1)).toNatClampNeg)
      first | have t_11 : (((f (a0 + 3) (x1 + (nI 1)).toNatClampNeg)) - ((nI 1))).toInt = (((f (a0 + 3) (x1 + (nI 1)).toNatClampNeg))).toInt - (((nI 1))).toInt := t_subn (by omega) | obtain ⟨kt_11, t_11⟩ := t_sub ((f (a0 + 3) (x1 + (nI 1)).toNatClampNeg)) ((nI 1))
      have t_13 := t_rng (f (a0 + 3) x1.toNatClampNeg)
      first | have t_10 : ((((f (a0 + 3) (x1 + (nI 1)).toNatClampNeg) - (nI 1))) - ((f (a0 + 3) x1.toNatClampNeg))).toInt = ((((f (a0 + 3) (x1 + (nI 1)).toNatClampNeg) - (nI 1)))).toInt - (((f (a0 + 3) x1.toNatClampNeg))).toInt := t_subn (by omega) | obtain ⟨kt_10, t_10⟩ := t_sub (((f (a0 + 3) (x1 + (nI 1)).toNatClampNeg) - (nI 1))) ((f (a0 + 3) x1.toNatClampNeg))
      exact cT_ret b_Block_lengthOf_33 hI hF ⟨_, rfl, by omega⟩
theorem c_Block_takePicture {L : Nat} {f : cg_G} {e : Nat × Nat} {a0 : Nat} {x1 : Int32} (hI : cI L f) (s0 : sh_ a0 = 1)  : cE 8 [.ref a0, .int x1] L e (fun o => 124 ≤ o ∧ o < 206) f (fun v f' => v = none ∧ (True)) := by
  refine cE_of (ls := [.ref a0, .int x1]) rfl ?_
  have t0 := t_0
  have hF : cF (fun o => 124 ≤ o ∧ o < 206) f f := cF_rf
  have hr := rg_1 s0
  have t_1 := t_rng (x1)
  have hI_2 := cI_up (k := 3) (x := x1) hI s0 (fun h => absurd h (by decide))
  have hF_3 := cF_up (a := a0) (k := 3) (x := x1) hF (by omega)
  exact cT_ret (b_Block_takePicture_0 s0) hI_2 hF_3 ⟨rfl, trivial⟩
theorem c_Block_units {L : Nat} {f : cg_G} {e : Nat × Nat} {a0 : Nat} (hI : cI L f) (s0 : sh_ a0 = 1)  : cE 9 [.ref a0] L e (fun o => False) f (fun v f' => ∃ x : Int32, v = some (.int x) ∧ (0 ≤ x.toInt ∧ x.toInt ≤ 106)) := by
  refine cE_of (ls := [.ref a0]) rfl ?_
  have t0 := t_0
  have hF : cF (fun o => False) f f := cF_rf
  have t_2 : 0 ≤ (f a0 2).toInt ∧ (f a0 2).toInt ≤ 106 := (cI_at hI 2 s0) rfl
  refine cT_if (b_Block_units_0 s0) (fun c_1 => ?_) (fun c_1 => ?_)
  · rw [t_eq] at c_1
    have t_5 := t_rng (f a0 3)
    refine cT_if (b_Block_units_7 s0) (fun c_4 => ?_) (fun c_4 => ?_)
    · rw [t_le] at c_4
      refine cT_go b_Block_units_18 ?_
      have t_6 : (nI 0).toInt = 0 := nI_toInt (by decide)
      exact cT_ret b_Block_units_19 hI hF ⟨_, rfl, by omega⟩
    · rw [t_le] at c_4
      refine cT_go b_Block_units_14 ?_
      have t_7 : (nI 1).toInt = 1 := nI_toInt (by decide)
      exact cT_ret b_Block_units_19 hI hF ⟨_, rfl, by omega⟩
  · rw [t_eq] at c_1
    have t_9 : (nI 1).toInt = 1 := nI_toInt (by decide)
    first | have t_10 : (((f a0 2)) - ((nI 1))).toInt = (((f a0 2))).toInt - (((nI 1))).toInt := t_subn (by omega) | obtain ⟨kt_10, t_10⟩ := t_sub ((f a0 2)) ((nI 1))
    have t_8 := t_ite (a := (nI 1)) (b := ((f a0 2) - (nI 1))) (x := ((f a0 2) - (nI 1))) (y := (nI 1))
    exact cT_ret (b_Block_units_20 s0) hI hF ⟨_, rfl, by omega⟩
theorem c_Block_heightOfUnit {L : Nat} {f : cg_G} {e : Nat × Nat} {a0 : Nat} {x1 : Int32} (hI : cI L f) (s0 : sh_ a0 = 1)  : cE 4 [.ref a0, .int x1] L e (fun o => False) f (fun v f' => ∃ x : Int32, v = some (.int x) ∧ (True)) := by
  refine cE_of (ls := [.ref a0, .int x1]) rfl ?_
  have t0 := t_0
  have hF : cF (fun o => False) f f := cF_rf
  have t_1 := t_rng (x1)
  refine cT_if b_Block_heightOfUnit_0 (fun c_2 => ?_) (fun c_2 => ?_)
  · rw [t_eq] at c_2
    refine cT_go (b_Block_heightOfUnit_4 s0) ?_
    have t_5 := t_rng (f a0 3)
    have t_7 : 0 ≤ (f a0 2).toInt ∧ (f a0 2).toInt ≤ 106 := (cI_at hI 2 s0) rfl
    have t_8 : (nI 2).toInt = 2 := nI_toInt (by decide)
    have t_6 := t_ite (a := (f a0 2)) (b := (nI 2)) (x := (f a0 2)) (y := (nI 2))
    first | have t_4 : (((f a0 3)) + ((if (f a0 2) < (nI 2) then (f a0 2) else (nI 2)))).toInt = (((f a0 3))).toInt + (((if (f a0 2) < (nI 2) then (f a0 2) else (nI 2)))).toInt := t_addn (by omega) | obtain ⟨kt_4, t_4⟩ := t_add ((f a0 3)) ((if (f a0 2) < (nI 2) then (f a0 2) else (nI 2)))
    exact cT_ret b_Block_heightOfUnit_21 hI hF ⟨_, rfl, trivial⟩
  · rw [t_eq] at c_2
    refine cT_go b_Block_heightOfUnit_20 ?_
    have t_9 : (nI 1).toInt = 1 := nI_toInt (by decide)
    exact cT_ret b_Block_heightOfUnit_21 hI hF ⟨_, rfl, trivial⟩
theorem l_Block_takeWords_12 {L : Nat} {e : Nat × Nat} {f0 : cg_G} : ∀ (k : Nat) {f : cg_G} {a0 : Nat} {a1 : Nat} {a2 : Nat} {x3 : Int32} {x4 : Int32} {u5 : Value}, (4096 - x4.toInt).toNat < k → cI L f → cF (fun o => 124 ≤ o ∧ o < 206) f0 f → sh_ a0 = 1 → sh_ a1 = 6 → sh_ a2 = 3 → (0 ≤ x4.toInt) → cT 73 12 [.ref a0, .ref a1, .ref a2, .int x3, .int x4, u5] [] L e (fun o => 124 ≤ o ∧ o < 206) f0 f (fun v f' => v = none ∧ (True)) := by
  intro k
  induction k with
  | zero => intro f a0 a1 a2 x3 x4 u5 hm; omega
  | succ k ih =>
    intro f a0 a1 a2 x3 x4 u5 hme hI hF s0 s1 s2 i4
    have t0 := t_0
    have hr := rg_1 s0
    have hr2 := rg_3 s2
    have t_1 := t_rng (x3)
    have t_2 := t_rng (x4)
    refine cT_call (b_Block_takeWords_12 s1) (c_Signs_size hI s1) hF (fun o ho => ho.elim) (fun v_3 f_4 hI_5 hG_6 hF_7 hQ_8 => ?_)
    obtain rfl := cF_no hG_6
    obtain ⟨y_9, rfl, hQ_8⟩ := hQ_8
    have hQ_8r := t_rng y_9
    show cT 73 18 [.ref a0, .ref a1, .ref a2, .int x3, .int x4, u5] [.int y_9, .int x4] _ _ _ _ _ _
    refine cT_if b_Block_takeWords_18 (fun c_10 => ?_) (fun c_10 => ?_)
    · rw [t_le] at c_10
      refine cT_if b_Block_takeWords_91 (fun c_11 => ?_) (fun c_11 => ?_)
      · rw [t_le] at c_11
        exact cT_ret b_Block_takeWords_100 hI hF ⟨rfl, trivial⟩
      · rw [t_le] at c_11
        refine cT_call (b_Block_takeWords_95 s2) (c_Filling_add hI s2) hF (fun o ho => by omega) (fun v_13 f_14 hI_15 hG_16 hF_17 hQ_18 => ?_)
        obtain ⟨rfl, hQ_18⟩ := hQ_18
        show cT 73 100 [.ref a0, .ref a1, .ref a2, .int x3, .int x4, u5] [] _ _ _ _ _ _
        exact cT_ret b_Block_takeWords_100 hI_15 hF_17 ⟨rfl, trivial⟩
    · rw [t_le] at c_10
      refine cT_call (b_Block_takeWords_21 s1) (c_Signs_at hI s1) hF (fun o ho => ho.elim) (fun v_20 f_21 hI_22 hG_23 hF_24 hQ_25 => ?_)
      obtain rfl := cF_no hG_23
      obtain ⟨y_26, rfl, hQ_25⟩ := hQ_25
      have hQ_25r := t_rng y_26
      show cT 73 27 [.ref a0, .ref a1, .ref a2, .int x3, .int x4, u5] [.int y_26] _ _ _ _ _ _
      have t_28 : (nI 32).toInt = 32 := nI_toInt (by decide)
      refine cT_if b_Block_takeWords_27 (fun c_27 => ?_) (fun c_27 => ?_)
      · rw [t_eq] at c_27
        refine cT_if b_Block_takeWords_74 (fun c_29 => ?_) (fun c_29 => ?_)
        · rw [t_le] at c_29
          refine cT_go b_Block_takeWords_85 ?_
          have t_32 : (nI 1).toInt = 1 := nI_toInt (by decide)
          first | have t_31 : (x4 + (nI 1)).toInt = (x4).toInt + ((nI 1)).toInt := t_addn (by omega) | obtain ⟨kt_31, t_31⟩ := t_add x4 (nI 1)
          exact ih (by omega) hI hF s0 s1 s2 (by omega)
        · rw [t_le] at c_29
          refine cT_call (b_Block_takeWords_78 s2) (c_Filling_add hI s2) hF (fun o ho => by omega) (fun v_33 f_34 hI_35 hG_36 hF_37 hQ_38 => ?_)
          obtain ⟨rfl, hQ_38⟩ := hQ_38
          show cT 73 83 [.ref a0, .ref a1, .ref a2, .int x3, .int x4, .int y_26] [] _ _ _ _ _ _
          refine cT_go b_Block_takeWords_83 ?_
          refine cT_go b_Block_takeWords_85 ?_
          have t_40 : (nI 0).toInt = 0 := nI_toInt (by decide)
          have t_42 : (nI 1).toInt = 1 := nI_toInt (by decide)
          first | have t_41 : (x4 + (nI 1)).toInt = (x4).toInt + ((nI 1)).toInt := t_addn (by omega) | obtain ⟨kt_41, t_41⟩ := t_add x4 (nI 1)
          exact ih (by omega) hI_35 hF_37 s0 s1 s2 (by omega)
      · rw [t_eq] at c_27
        refine cT_if b_Block_takeWords_36 (fun c_43 => ?_) (fun c_43 => ?_)
        · rw [t_eq] at c_43
          refine cT_call (b_Block_takeWords_40 s0) (c_Signs_size hI (sc_1_0 s0)) hF (fun o ho => ho.elim) (fun v_45 f_46 hI_47 hG_48 hF_49 hQ_50 => ?_)
          obtain rfl := cF_no hG_48
          obtain ⟨y_51, rfl, hQ_50⟩ := hQ_50
          have hQ_50r := t_rng y_51
          show cT 73 47 [.ref a0, .ref a1, .ref a2, .int x3, .int x4, .int y_26] [.int y_51] _ _ _ _ _ _
          refine cT_if b_Block_takeWords_47 (fun c_52 => ?_) (fun c_52 => ?_)
          · rw [t_le] at c_52
            refine cT_call (b_Block_takeWords_59 s0) (c_Signs_add hI (sc_1_0 s0)) hF (fun o ho => by omega) (fun v_53 f_54 hI_55 hG_56 hF_57 hQ_58 => ?_)
            obtain ⟨rfl, hQ_58⟩ := hQ_58
            show cT 73 68 [.ref a0, .ref a1, .ref a2, .int x3, .int x4, .int y_26] [] _ _ _ _ _ _
            refine cT_go b_Block_takeWords_68 ?_
            refine cT_go b_Block_takeWords_85 ?_
            have t_61 : (nI 1).toInt = 1 := nI_toInt (by decide)
            first | have t_60 : (x3 + (nI 1)).toInt = (x3).toInt + ((nI 1)).toInt := t_addn (by omega) | obtain ⟨kt_60, t_60⟩ := t_add x3 (nI 1)
            first | have t_62 : (x4 + (nI 1)).toInt = (x4).toInt + ((nI 1)).toInt := t_addn (by omega) | obtain ⟨kt_62, t_62⟩ := t_add x4 (nI 1)
            exact ih (by omega) hI_55 hF_57 s0 s1 s2 (by omega)
          · rw [t_le] at c_52
            refine cT_call (b_Block_takeWords_50 s0) (c_Signs_add hI (sc_1_0 s0)) hF (fun o ho => by omega) (fun v_63 f_64 hI_65 hG_66 hF_67 hQ_68 => ?_)
            obtain ⟨rfl, hQ_68⟩ := hQ_68
            show cT 73 59 [.ref a0, .ref a1, .ref a2, .int x3, .int x4, .int y_26] [] _ _ _ _ _ _
            refine cT_call (b_Block_takeWords_59 s0) (c_Signs_add hI_65 (sc_1_0 s0)) hF_67 (fun o ho => by omega) (fun v_70 f_71 hI_72 hG_73 hF_74 hQ_75 => ?_)
            obtain ⟨rfl, hQ_75⟩ := hQ_75
            show cT 73 68 [.ref a0, .ref a1, .ref a2, .int x3, .int x4, .int y_26] [] _ _ _ _ _ _
            refine cT_go b_Block_takeWords_68 ?_
            refine cT_go b_Block_takeWords_85 ?_
            have t_78 : (nI 1).toInt = 1 := nI_toInt (by decide)
            first | have t_77 : (x3 + (nI 1)).toInt = (x3).toInt + ((nI 1)).toInt := t_addn (by omega) | obtain ⟨kt_77, t_77⟩ := t_add x3 (nI 1)
            first | have t_79 : (x4 + (nI 1)).toInt = (x4).toInt + ((nI 1)).toInt := t_addn (by omega) | obtain ⟨kt_79, t_79⟩ := t_add x4 (nI 1)
            exact ih (by omega) hI_72 hF_74 s0 s1 s2 (by omega)
        · rw [t_eq] at c_43
          refine cT_call (b_Block_takeWords_59 s0) (c_Signs_add hI (sc_1_0 s0)) hF (fun o ho => by omega) (fun v_80 f_81 hI_82 hG_83 hF_84 hQ_85 => ?_)
          obtain ⟨rfl, hQ_85⟩ := hQ_85
          show cT 73 68 [.ref a0, .ref a1, .ref a2, .int x3, .int x4, .int y_26] [] _ _ _ _ _ _
          refine cT_go b_Block_takeWords_68 ?_
          refine cT_go b_Block_takeWords_85 ?_
          have t_88 : (nI 1).toInt = 1 := nI_toInt (by decide)
          first | have t_87 : (x3 + (nI 1)).toInt = (x3).toInt + ((nI 1)).toInt := t_addn (by omega) | obtain ⟨kt_87, t_87⟩ := t_add x3 (nI 1)
          first | have t_89 : (x4 + (nI 1)).toInt = (x4).toInt + ((nI 1)).toInt := t_addn (by omega) | obtain ⟨kt_89, t_89⟩ := t_add x4 (nI 1)
          exact ih (by omega) hI_82 hF_84 s0 s1 s2 (by omega)
theorem c_Block_takeWords {L : Nat} {f : cg_G} {e : Nat × Nat} {a0 : Nat} {a1 : Nat} {a2 : Nat} (hI : cI L f) (s0 : sh_ a0 = 1) (s1 : sh_ a1 = 6) (s2 : sh_ a2 = 3)  : cE 73 [.ref a0, .ref a1, .ref a2] L e (fun o => 124 ≤ o ∧ o < 206) f (fun v f' => v = none ∧ (True)) := by
  refine cE_of (ls := [.ref a0, .ref a1, .ref a2, (.retAddr 0), (.retAddr 0), (.retAddr 0)]) rfl ?_
  have t0 := t_0
  have hF : cF (fun o => 124 ≤ o ∧ o < 206) f f := cF_rf
  have hr := rg_1 s0
  have hr2 := rg_3 s2
  refine cT_call (b_Block_takeWords_0 s0) (c_Signs_clear hI (sc_1_0 s0)) hF (fun o ho => by omega) (fun v_90 f_91 hI_92 hG_93 hF_94 hQ_95 => ?_)
  obtain ⟨rfl, hQ_95⟩ := hQ_95
  show cT 73 7 [.ref a0, .ref a1, .ref a2, ((.retAddr 0)), ((.retAddr 0)), ((.retAddr 0))] [] _ _ _ _ _ _
  refine cT_go b_Block_takeWords_7 ?_
  have t_97 : (nI 0).toInt = 0 := nI_toInt (by decide)
  exact l_Block_takeWords_12 ((4096 - (nI 0).toInt).toNat + 1) (by omega) hI_92 hF_94 s0 s1 s2 (by omega)
theorem l_Block_markLines_51 {L : Nat} {e : Nat × Nat} {f0 : cg_G} {Q : Option Value → cg_G → Prop} {f : cg_G} {a0 : Nat} {a1 : Nat} {x3 : Int32} {x4 : Int32} (hI : cI L f) (hF : cF (fun o => 124 ≤ o ∧ o < 206) f0 f) (s0 : sh_ a0 = 1) (s1 : sh_ a1 = 3)  : ∀ (k : Nat) {x2 : Int32} {x5 : Int32}, (x4.toInt - x5.toInt).toNat < k → (∀ (x2' : Int32) (x5' : Int32), cT 71 75 [.ref a0, .ref a1, .int x2', .int x3, .int x4, .int x5'] [] L e (fun o => 124 ≤ o ∧ o < 206) f0 f Q) → cT 71 51 [.ref a0, .ref a1, .int x2, .int x3, .int x4, .int x5] [] L e (fun o => 124 ≤ o ∧ o < 206) f0 f Q := by
  intro k
  induction k with
  | zero => intro x2 x5 hm; omega
  | succ k ih =>
    intro x2 x5 hm  hx
    have t0 := t_0
    have hr := rg_1 s0
    have t_1 := t_rng (x2)
    have t_2 := t_rng (x3)
    have t_3 := t_rng (x4)
    have t_4 := t_rng (x5)
    refine cT_if b_Block_markLines_51 (fun c_5 => ?_) (fun c_5 => ?_)
    · rw [t_le] at c_5
      exact hx _ _ 
    · rw [t_le] at c_5
      refine cT_call (b_Block_markLines_58 s1) (c_Filling_sizeOf hI s1) hF (fun o ho => ho.elim) (fun v_6 f_7 hI_8 hG_9 hF_10 hQ_11 => ?_)
      obtain rfl := cF_no hG_9
      obtain ⟨y_12, rfl, hQ_11⟩ := hQ_11
      have hQ_11r := t_rng y_12
      show cT 71 65 [.ref a0, .ref a1, .int x2, .int x3, .int x4, .int x5] [.int y_12, .int x2] _ _ _ _ _ _
      refine cT_go b_Block_markLines_65 ?_
      have t_15 : (nI 1).toInt = 1 := nI_toInt (by decide)
      first | have t_14 : (y_12 + ((nI 1))).toInt = (y_12).toInt + (((nI 1))).toInt := t_addn (by omega) | obtain ⟨kt_14, t_14⟩ := t_add y_12 ((nI 1))
      first | have t_13 : (x2 + ((y_12 + (nI 1)))).toInt = (x2).toInt + (((y_12 + (nI 1)))).toInt := t_addn (by omega) | obtain ⟨kt_13, t_13⟩ := t_add x2 ((y_12 + (nI 1)))
      first | have t_16 : (x5 + (nI 1)).toInt = (x5).toInt + ((nI 1)).toInt := t_addn (by omega) | obtain ⟨kt_16, t_16⟩ := t_add x5 (nI 1)
      exact ih (by omega) hx
theorem l_Block_markLines_4 {L : Nat} {e : Nat × Nat} {f0 : cg_G} : ∀ (k : Nat) {f : cg_G} {a0 : Nat} {a1 : Nat} {x2 : Int32} {x3 : Int32} {u4 : Value} {u5 : Value}, (106 - (f a0 2).toInt).toNat < k → cI L f → cF (fun o => 124 ≤ o ∧ o < 206) f0 f → sh_ a0 = 1 → sh_ a1 = 3 → cT 71 4 [.ref a0, .ref a1, .int x2, .int x3, u4, u5] [] L e (fun o => 124 ≤ o ∧ o < 206) f0 f (fun v f' => v = none ∧ (True)) := by
  intro k
  induction k with
  | zero => intro f a0 a1 x2 x3 u4 u5 hm; omega
  | succ k ih =>
    intro f a0 a1 x2 x3 u4 u5 hme hI hF s0 s1 
    have t0 := t_0
    have hr := rg_1 s0
    have t_17 := t_rng (x2)
    have t_18 := t_rng (x3)
    refine cT_call (b_Block_markLines_4 s1) (c_Filling_items hI s1) hF (fun o ho => ho.elim) (fun v_19 f_20 hI_21 hG_22 hF_23 hQ_24 => ?_)
    obtain rfl := cF_no hG_22
    obtain ⟨y_25, rfl, hQ_24⟩ := hQ_24
    have hQ_24r := t_rng y_25
    show cT 71 9 [.ref a0, .ref a1, .int x2, .int x3, u4, u5] [.int y_25, .int x3] _ _ _ _ _ _
    refine cT_if b_Block_markLines_9 (fun c_26 => ?_) (fun c_26 => ?_)
    · rw [t_le] at c_26
      have hI_27 := cI_up (k := (f a0 2).toNatClampNeg) (x := x2) hI (sc_1_1 s0) (ok100 (by omega))
      have hF_28 := cF_up (a := a0 + 3) (k := (f a0 2).toNatClampNeg) (x := x2) hF (by omega)
      have t_29 : 0 ≤ (f a0 2).toInt ∧ (f a0 2).toInt ≤ 106 := (cI_at hI 2 s0) rfl
      exact cT_ret (b_Block_markLines_81 s0 (by rw [t_in]; omega)) hI_27 hF_28 ⟨rfl, trivial⟩
    · rw [t_le] at c_26
      have t_31 : (nI 106).toInt = 106 := nI_toInt (by decide)
      have t_32 : 0 ≤ (f a0 2).toInt ∧ (f a0 2).toInt ≤ 106 := (cI_at hI 2 s0) rfl
      refine cT_if (b_Block_markLines_12 s0) (fun c_30 => ?_) (fun c_30 => ?_)
      · rw [t_le] at c_30
        have hI_33 := cI_up (k := (f a0 2).toNatClampNeg) (x := x2) hI (sc_1_1 s0) (ok100 (by omega))
        have hF_34 := cF_up (a := a0 + 3) (k := (f a0 2).toNatClampNeg) (x := x2) hF (by omega)
        exact cT_ret (b_Block_markLines_81 s0 (by rw [t_in]; omega)) hI_33 hF_34 ⟨rfl, trivial⟩
      · rw [t_le] at c_30
        have hI_35 := cI_up (k := (f a0 2).toNatClampNeg) (x := x2) hI (sc_1_1 s0) (ok100 (by omega))
        have hF_36 := cF_up (a := a0 + 3) (k := (f a0 2).toNatClampNeg) (x := x2) hF (by omega)
        have t_40 : ((cg_up f (a0 + 3) (f a0 2).toNatClampNeg x2) a0 2).toInt = (f a0 2).toInt := by rw [cg_up_o (ne_sh s0 (sc_1_1 s0) (by decide))]
        have t_41 : (nI 1).toInt = 1 := nI_toInt (by decide)
        first | have t_39 : ((((cg_up f (a0 + 3) (f a0 2).toNatClampNeg x2) a0 2)) + ((nI 1))).toInt = ((((cg_up f (a0 + 3) (f a0 2).toNatClampNeg x2) a0 2))).toInt + (((nI 1))).toInt := t_addn (by omega) | obtain ⟨kt_39, t_39⟩ := t_add (((cg_up f (a0 + 3) (f a0 2).toNatClampNeg x2) a0 2)) ((nI 1))
        have hI_37 := cI_up (k := 2) (x := ((cg_up f (a0 + 3) (f a0 2).toNatClampNeg x2) a0 2) + (nI 1)) hI_35 s0 (fun _ => by omega)
        have hF_38 := cF_up (a := a0) (k := 2) (x := ((cg_up f (a0 + 3) (f a0 2).toNatClampNeg x2) a0 2) + (nI 1)) hF_36 (by omega)
        refine cT_call (b_Block_markLines_21 s0 (by rw [t_in]; omega) s1) (c_Filling_endOfRow hI_37 s1) hF_38 (fun o ho => ho.elim) (fun v_42 f_43 hI_44 hG_45 hF_46 hQ_47 => ?_)
        obtain rfl := cF_no hG_45
        obtain ⟨y_48, rfl, hQ_47⟩ := hQ_47
        have hQ_47r := t_rng y_48
        show cT 71 46 [.ref a0, .ref a1, .int x2, .int x3, u4, u5] [.int y_48] _ _ _ _ _ _
        refine cT_go b_Block_markLines_46 ?_
        refine l_Block_markLines_51 hI_37 hF_38 s0 s1 ((y_48.toInt - x3.toInt).toNat + 1) (by omega) (fun x2vw49 x5vw50 => ?_)
        have t_54 := t_rng (x2vw49)
        have t_55 := t_rng (x5vw50)
        refine cT_go b_Block_markLines_75 ?_
        have t_56 : ((cg_up (cg_up f (a0 + 3) (f a0 2).toNatClampNeg x2) a0 2 (((cg_up f (a0 + 3) (f a0 2).toNatClampNeg x2) a0 2) + (nI 1))) a0 2).toInt = (((cg_up f (a0 + 3) (f a0 2).toNatClampNeg x2) a0 2) + (nI 1)).toInt := by rw [cg_up_s]
        exact ih (by omega) hI_37 hF_38 s0 s1
theorem c_Block_markLines {L : Nat} {f : cg_G} {e : Nat × Nat} {a0 : Nat} {a1 : Nat} (hI : cI L f) (s0 : sh_ a0 = 1) (s1 : sh_ a1 = 3)  : cE 71 [.ref a0, .ref a1] L e (fun o => 124 ≤ o ∧ o < 206) f (fun v f' => v = none ∧ (True)) := by
  refine cE_of (ls := [.ref a0, .ref a1, (.retAddr 0), (.retAddr 0), (.retAddr 0), (.retAddr 0)]) rfl ?_
  have t0 := t_0
  have hF : cF (fun o => 124 ≤ o ∧ o < 206) f f := cF_rf
  have hr := rg_1 s0
  refine cT_go b_Block_markLines_0 ?_
  have t_57 : (nI 0).toInt = 0 := nI_toInt (by decide)
  have t_58 : 0 ≤ (f a0 2).toInt ∧ (f a0 2).toInt ≤ 106 := (cI_at hI 2 s0) rfl
  exact l_Block_markLines_4 ((106 - (f a0 2).toInt).toNat + 1) (by omega) hI hF s0 s1
theorem c_Block_breakLines {L : Nat} {f : cg_G} {e : Nat × Nat} {a0 : Nat} {a1 : Nat} {x2 : Int32} {a3 : Nat} (hI : cI L f) (s0 : sh_ a0 = 1) (s1 : sh_ a1 = 6) (s3 : sh_ a3 = 3)  : cE 129 [.ref a0, .ref a1, .int x2, .ref a3] L e (fun o => 124 ≤ o ∧ o < 206) f (fun v f' => ∃ x : Int32, v = some (.int x) ∧ (x = 0 ∨ x = 1) ∧ (True)) := by
  refine cE_of (ls := [.ref a0, .ref a1, .int x2, .ref a3]) rfl ?_
  have t0 := t_0
  have hF : cF (fun o => 124 ≤ o ∧ o < 206) f f := cF_rf
  have hr := rg_1 s0
  have hr2 := rg_3 s3
  have t_1 := t_rng (x2)
  have t_4 : (nI 0).toInt = 0 := nI_toInt (by decide)
  have hI_2 := cI_up (k := 2) (x := nI 0) hI s0 (fun _ => by omega)
  have hF_3 := cF_up (a := a0) (k := 2) (x := nI 0) hF (by omega)
  have t_5 : (nI 1).toInt = 1 := nI_toInt (by decide)
  refine cT_call (b_Block_breakLines_0 s0 s3) (c_Filling_start hI_2 s3) hF_3 (fun o ho => by omega) (fun v_6 f_7 hI_8 hG_9 hF_10 hQ_11 => ?_)
  obtain ⟨rfl, hQ_11⟩ := hQ_11
  show cT 129 11 [.ref a0, .ref a1, .int x2, .ref a3] [] _ _ _ _ _ _
  refine cT_call (b_Block_breakLines_11 s0) (c_Block_takeWords hI_8 s0 s1 s3) hF_10 (fun o ho => by omega) (fun v_13 f_14 hI_15 hG_16 hF_17 hQ_18 => ?_)
  obtain ⟨rfl, hQ_18⟩ := hQ_18
  show cT 129 17 [.ref a0, .ref a1, .int x2, .ref a3] [] _ _ _ _ _ _
  refine cT_call (b_Block_breakLines_17 s3) (c_Filling_hasRoomForEach hI_15 s3) hF_17 (fun o ho => ho.elim) (fun v_20 f_21 hI_22 hG_23 hF_24 hQ_25 => ?_)
  obtain rfl := cF_no hG_23
  obtain ⟨y_26, rfl, hb_27, hQ_25⟩ := hQ_25
  have hb_27r := t_rng y_26
  show cT 129 21 [.ref a0, .ref a1, .int x2, .ref a3] [.int y_26] _ _ _ _ _ _
  refine cT_if b_Block_breakLines_21 (fun c_28 => ?_) (fun c_28 => ?_)
  · rw [t_eq] at c_28
    exact cT_ret b_Block_breakLines_24 hI_15 hF_17 ⟨_, rfl, (by decide), trivial⟩
  · rw [t_eq] at c_28
    refine cT_call (b_Block_breakLines_26 s3) (c_Filling_solve hI_15 s3) hF_17 (fun o ho => by omega) (fun v_30 f_31 hI_32 hG_33 hF_34 hQ_35 => ?_)
    obtain ⟨rfl, hQ_35⟩ := hQ_35
    show cT 129 30 [.ref a0, .ref a1, .int x2, .ref a3] [] _ _ _ _ _ _
    refine cT_call (b_Block_breakLines_30 s0) (c_Block_markLines hI_32 s0 s3) hF_34 (fun o ho => by omega) (fun v_37 f_38 hI_39 hG_40 hF_41 hQ_42 => ?_)
    obtain ⟨rfl, hQ_42⟩ := hQ_42
    show cT 129 35 [.ref a0, .ref a1, .int x2, .ref a3] [] _ _ _ _ _ _
    exact cT_ret b_Block_breakLines_35 hI_39 hF_41 ⟨_, rfl, (by decide), trivial⟩
