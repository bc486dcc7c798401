/-! the start: bounds, the relation, the law up to its loop -/
theorem hC_b (h : Int32) : 3 ≤ (hC h).toInt ∧ (hC h).toInt ≤ 30 := by
  have z3 : (nI 3).toInt = 3 := nI_toInt (by decide)
  have z30 : (nI 30).toInt = 30 := nI_toInt (by decide)
  have t1 := t_ite (a := h) (b := nI 30) (x := h) (y := nI 30)
  have t2 := t_ite (a := nI 3) (b := if h < nI 30 then h else nI 30) (x := if h < nI 30 then h else nI 30) (y := nI 3)
  unfold hC
  omega
theorem okz_1 {L a k : Nat} : okv L 1 a k 0 := fun _ => ⟨by decide, by decide⟩
theorem okz_3 {L a k : Nat} : okv L 3 a k 0 := fun _ => ⟨by decide, by decide⟩
theorem okz_5 {L a k : Nat} : okv L 5 a k 0 := ⟨fun _ => ⟨by decide, by decide⟩, fun _ => ⟨by decide, by decide⟩, fun _ => ⟨by decide, by decide⟩⟩
theorem okz_6 {L a k : Nat} : okv L 6 a k 0 := fun _ => ⟨by decide, by rw [t_0]; omega⟩
theorem okz_100 {L a k : Nat} : okv L 100 a k 0 := by
  have z := t_0
  refine ⟨?_, ?_, ?_, ?_, ?_, ?_, ?_, ?_, ?_, ?_, ?_, ?_, ?_⟩ <;> intro q <;> rw [z] <;> omega
theorem ok_214 {L k : Nat} {x : Int32} : okv L 100 214 k x := ⟨fun q => absurd q (by decide), fun q => absurd q (by decide), fun q => absurd q (by decide), fun q => absurd q (by decide), fun q => absurd q (by decide), fun q => absurd q (by decide), fun q => absurd q (by decide), fun q => absurd q (by decide), fun q => absurd q (by decide), fun q => absurd q (by decide), fun q => absurd q (by decide), fun q => absurd q (by decide), fun q => absurd q (by decide)⟩
theorem okz_2 {L a k : Nat} : okv L 2 a k (if k = 2 then nI (a + 3) else 0) := ⟨fun q => Or.inr (by rw [if_pos q]), fun q => by rw [if_neg (by omega), t_0]; omega⟩
theorem okz_0 {L a k : Nat} {h : Int32} : okv L 0 a k (if k = 0 then hC h else if k = 9 then nI 132 else if k = 10 then nI 169 else 0) := by
  have b := hC_b h
  have z := t_0
  refine ⟨fun q => ?_, fun q => ?_, fun q => ?_, fun q => ?_, fun q => ?_, fun q => ?_⟩ <;> subst q
  · exact b
  · show 0 ≤ (0 : Int32).toInt ∧ (0 : Int32).toInt ≤ 6; decide
  · show 0 ≤ (0 : Int32).toInt ∧ (0 : Int32).toInt ≤ 8; decide
  · show 0 ≤ (0 : Int32).toInt ∧ (0 : Int32).toInt ≤ 1; decide
  · exact Or.inl rfl
  · exact Or.inr rfl
theorem okz_7 {L a k : Nat} {v1 v2 : Int32} (h1 : 6 ≤ v1.toInt ∧ v1.toInt ≤ 40) (h2 : 3 ≤ v2.toInt ∧ v2.toInt ≤ 30) : okv L 7 a k (if k = 0 then v1 else if k = 1 then v2 else if k = 23 then - nI 1 else 0) := by
  refine ⟨fun q => ?_, fun q => ?_, fun q => ?_, fun q => ?_, fun q => ?_, fun q => ?_, fun q => ?_, fun q => ?_, fun q => ?_, fun q => ?_⟩ <;> subst q
  · exact h1
  · exact h2
  · show 0 ≤ (0 : Int32).toInt ∧ (0 : Int32).toInt ≤ 2; decide
  · show 0 ≤ (0 : Int32).toInt ∧ (0 : Int32).toInt ≤ 32; decide
  · show 0 ≤ (0 : Int32).toInt ∧ (0 : Int32).toInt ≤ 6; decide
  · show 0 ≤ (0 : Int32).toInt ∧ (0 : Int32).toInt ≤ 8; decide
  · show 0 ≤ (0 : Int32).toInt ∧ (0 : Int32).toInt ≤ 26; decide
  · show 0 ≤ (0 : Int32).toInt ∧ (0 : Int32).toInt ≤ 256; decide
  · show 0 ≤ (0 : Int32).toInt ∧ (0 : Int32).toInt ≤ 130; decide
  · show -1 ≤ (- nI 1).toInt ∧ (- nI 1).toInt ≤ 1; decide
set_option maxRecDepth 100000 in
theorem cI_z {L : Nat} {xs : Nat → Int32} {w h v1 v2 : Int32} (h1 : 6 ≤ v1.toInt ∧ v1.toInt ≤ 40) (h2 : 3 ≤ v2.toInt ∧ v2.toInt ≤ 30) : cI L (fz xs w h v1 v2) := by
  intro o k
  by_cases hc : o < 237
  ·
    by_cases g0_237 : o < 118
    ·
      by_cases g0_118 : o < 59
      ·
        by_cases g0_59 : o < 29
        ·
          by_cases g0_29 : o < 14
          ·
            by_cases g0_14 : o < 7
            ·
              by_cases g0_7 : o < 3
              ·
                by_cases g0_3 : o < 1
                ·
                  (have q : o = 0 := (by omega); subst q; rw [show sh_ 0 = 100 by decide +kernel]; exact ok100 (by decide))
                ·
                  by_cases g1_3 : o < 2
                  ·
                    (have q : o = 1 := (by omega); subst q; rw [show sh_ 1 = 0 by decide +kernel]; exact okz_0)
                  ·
                    (have q : o = 2 := (by omega); subst q; rw [show sh_ 2 = 6 by decide +kernel]; exact okz_6)
              ·
                by_cases g3_7 : o < 5
                ·
                  by_cases g3_5 : o < 4
                  ·
                    (have q : o = 3 := (by omega); subst q; rw [show sh_ 3 = 101 by decide +kernel]; exact trivial)
                  ·
                    (have q : o = 4 := (by omega); subst q; rw [show sh_ 4 = 6 by decide +kernel]; exact okz_6)
                ·
                  by_cases g5_7 : o < 6
                  ·
                    (have q : o = 5 := (by omega); subst q; rw [show sh_ 5 = 101 by decide +kernel]; exact trivial)
                  ·
                    (have q : o = 6 := (by omega); subst q; rw [show sh_ 6 = 103 by decide +kernel]; exact trivial)
            ·
              by_cases g7_14 : o < 10
              ·
                by_cases g7_10 : o < 8
                ·
                  (have q : o = 7 := (by omega); subst q; rw [show sh_ 7 = 6 by decide +kernel]; exact okz_6)
                ·
                  by_cases g8_10 : o < 9
                  ·
                    (have q : o = 8 := (by omega); subst q; rw [show sh_ 8 = 101 by decide +kernel]; exact trivial)
                  ·
                    (have q : o = 9 := (by omega); subst q; rw [show sh_ 9 = 6 by decide +kernel]; exact okz_6)
              ·
                by_cases g10_14 : o < 12
                ·
                  by_cases g10_12 : o < 11
                  ·
                    (have q : o = 10 := (by omega); subst q; rw [show sh_ 10 = 101 by decide +kernel]; exact trivial)
                  ·
                    (have q : o = 11 := (by omega); subst q; rw [show sh_ 11 = 6 by decide +kernel]; exact okz_6)
                ·
                  by_cases g12_14 : o < 13
                  ·
                    (have q : o = 12 := (by omega); subst q; rw [show sh_ 12 = 101 by decide +kernel]; exact trivial)
                  ·
                    (have q : o = 13 := (by omega); subst q; rw [show sh_ 13 = 6 by decide +kernel]; exact okz_6)
          ·
            by_cases g14_29 : o < 21
            ·
              by_cases g14_21 : o < 17
              ·
                by_cases g14_17 : o < 15
                ·
                  (have q : o = 14 := (by omega); subst q; rw [show sh_ 14 = 101 by decide +kernel]; exact trivial)
                ·
                  by_cases g15_17 : o < 16
                  ·
                    (have q : o = 15 := (by omega); subst q; rw [show sh_ 15 = 6 by decide +kernel]; exact okz_6)
                  ·
                    (have q : o = 16 := (by omega); subst q; rw [show sh_ 16 = 101 by decide +kernel]; exact trivial)
              ·
                by_cases g17_21 : o < 19
                ·
                  by_cases g17_19 : o < 18
                  ·
                    (have q : o = 17 := (by omega); subst q; rw [show sh_ 17 = 6 by decide +kernel]; exact okz_6)
                  ·
                    (have q : o = 18 := (by omega); subst q; rw [show sh_ 18 = 101 by decide +kernel]; exact trivial)
                ·
                  by_cases g19_21 : o < 20
                  ·
                    (have q : o = 19 := (by omega); subst q; rw [show sh_ 19 = 104 by decide +kernel]; exact trivial)
                  ·
                    (have q : o = 20 := (by omega); subst q; rw [show sh_ 20 = 2 by decide +kernel]; exact okz_2)
            ·
              by_cases g21_29 : o < 25
              ·
                by_cases g21_25 : o < 23
                ·
                  by_cases g21_23 : o < 22
                  ·
                    (have q : o = 21 := (by omega); subst q; rw [show sh_ 21 = 106 by decide +kernel]; exact trivial)
                  ·
                    (have q : o = 22 := (by omega); subst q; rw [show sh_ 22 = 100 by decide +kernel]; exact ok100 (by decide))
                ·
                  by_cases g23_25 : o < 24
                  ·
                    (have q : o = 23 := (by omega); subst q; rw [show sh_ 23 = 6 by decide +kernel]; exact okz_6)
                  ·
                    (have q : o = 24 := (by omega); subst q; rw [show sh_ 24 = 101 by decide +kernel]; exact trivial)
              ·
                by_cases g25_29 : o < 27
                ·
                  by_cases g25_27 : o < 26
                  ·
                    (have q : o = 25 := (by omega); subst q; rw [show sh_ 25 = 6 by decide +kernel]; exact okz_6)
                  ·
                    (have q : o = 26 := (by omega); subst q; rw [show sh_ 26 = 101 by decide +kernel]; exact trivial)
                ·
                  by_cases g27_29 : o < 28
                  ·
                    (have q : o = 27 := (by omega); subst q; rw [show sh_ 27 = 6 by decide +kernel]; exact okz_6)
                  ·
                    (have q : o = 28 := (by omega); subst q; rw [show sh_ 28 = 101 by decide +kernel]; exact trivial)
        ·
          by_cases g29_59 : o < 44
          ·
            by_cases g29_44 : o < 36
            ·
              by_cases g29_36 : o < 32
              ·
                by_cases g29_32 : o < 30
                ·
                  (have q : o = 29 := (by omega); subst q; rw [show sh_ 29 = 6 by decide +kernel]; exact okz_6)
                ·
                  by_cases g30_32 : o < 31
                  ·
                    (have q : o = 30 := (by omega); subst q; rw [show sh_ 30 = 101 by decide +kernel]; exact trivial)
                  ·
                    (have q : o = 31 := (by omega); subst q; rw [show sh_ 31 = 6 by decide +kernel]; exact okz_6)
              ·
                by_cases g32_36 : o < 34
                ·
                  by_cases g32_34 : o < 33
                  ·
                    (have q : o = 32 := (by omega); subst q; rw [show sh_ 32 = 101 by decide +kernel]; exact trivial)
                  ·
                    (have q : o = 33 := (by omega); subst q; rw [show sh_ 33 = 2 by decide +kernel]; exact okz_2)
                ·
                  by_cases g34_36 : o < 35
                  ·
                    (have q : o = 34 := (by omega); subst q; rw [show sh_ 34 = 106 by decide +kernel]; exact trivial)
                  ·
                    (have q : o = 35 := (by omega); subst q; rw [show sh_ 35 = 100 by decide +kernel]; exact ok100 (by decide))
            ·
              by_cases g36_44 : o < 40
              ·
                by_cases g36_40 : o < 38
                ·
                  by_cases g36_38 : o < 37
                  ·
                    (have q : o = 36 := (by omega); subst q; rw [show sh_ 36 = 6 by decide +kernel]; exact okz_6)
                  ·
                    (have q : o = 37 := (by omega); subst q; rw [show sh_ 37 = 101 by decide +kernel]; exact trivial)
                ·
                  by_cases g38_40 : o < 39
                  ·
                    (have q : o = 38 := (by omega); subst q; rw [show sh_ 38 = 6 by decide +kernel]; exact okz_6)
                  ·
                    (have q : o = 39 := (by omega); subst q; rw [show sh_ 39 = 101 by decide +kernel]; exact trivial)
              ·
                by_cases g40_44 : o < 42
                ·
                  by_cases g40_42 : o < 41
                  ·
                    (have q : o = 40 := (by omega); subst q; rw [show sh_ 40 = 6 by decide +kernel]; exact okz_6)
                  ·
                    (have q : o = 41 := (by omega); subst q; rw [show sh_ 41 = 101 by decide +kernel]; exact trivial)
                ·
                  by_cases g42_44 : o < 43
                  ·
                    (have q : o = 42 := (by omega); subst q; rw [show sh_ 42 = 6 by decide +kernel]; exact okz_6)
                  ·
                    (have q : o = 43 := (by omega); subst q; rw [show sh_ 43 = 101 by decide +kernel]; exact trivial)
          ·
            by_cases g44_59 : o < 51
            ·
              by_cases g44_51 : o < 47
              ·
                by_cases g44_47 : o < 45
                ·
                  (have q : o = 44 := (by omega); subst q; rw [show sh_ 44 = 6 by decide +kernel]; exact okz_6)
                ·
                  by_cases g45_47 : o < 46
                  ·
                    (have q : o = 45 := (by omega); subst q; rw [show sh_ 45 = 101 by decide +kernel]; exact trivial)
                  ·
                    (have q : o = 46 := (by omega); subst q; rw [show sh_ 46 = 2 by decide +kernel]; exact okz_2)
              ·
                by_cases g47_51 : o < 49
                ·
                  by_cases g47_49 : o < 48
                  ·
                    (have q : o = 47 := (by omega); subst q; rw [show sh_ 47 = 106 by decide +kernel]; exact trivial)
                  ·
                    (have q : o = 48 := (by omega); subst q; rw [show sh_ 48 = 100 by decide +kernel]; exact ok100 (by decide))
                ·
                  by_cases g49_51 : o < 50
                  ·
                    (have q : o = 49 := (by omega); subst q; rw [show sh_ 49 = 6 by decide +kernel]; exact okz_6)
                  ·
                    (have q : o = 50 := (by omega); subst q; rw [show sh_ 50 = 101 by decide +kernel]; exact trivial)
            ·
              by_cases g51_59 : o < 55
              ·
                by_cases g51_55 : o < 53
                ·
                  by_cases g51_53 : o < 52
                  ·
                    (have q : o = 51 := (by omega); subst q; rw [show sh_ 51 = 6 by decide +kernel]; exact okz_6)
                  ·
                    (have q : o = 52 := (by omega); subst q; rw [show sh_ 52 = 101 by decide +kernel]; exact trivial)
                ·
                  by_cases g53_55 : o < 54
                  ·
                    (have q : o = 53 := (by omega); subst q; rw [show sh_ 53 = 6 by decide +kernel]; exact okz_6)
                  ·
                    (have q : o = 54 := (by omega); subst q; rw [show sh_ 54 = 101 by decide +kernel]; exact trivial)
              ·
                by_cases g55_59 : o < 57
                ·
                  by_cases g55_57 : o < 56
                  ·
                    (have q : o = 55 := (by omega); subst q; rw [show sh_ 55 = 6 by decide +kernel]; exact okz_6)
                  ·
                    (have q : o = 56 := (by omega); subst q; rw [show sh_ 56 = 101 by decide +kernel]; exact trivial)
                ·
                  by_cases g57_59 : o < 58
                  ·
                    (have q : o = 57 := (by omega); subst q; rw [show sh_ 57 = 6 by decide +kernel]; exact okz_6)
                  ·
                    (have q : o = 58 := (by omega); subst q; rw [show sh_ 58 = 101 by decide +kernel]; exact trivial)
      ·
        by_cases g59_118 : o < 88
        ·
          by_cases g59_88 : o < 73
          ·
            by_cases g59_73 : o < 66
            ·
              by_cases g59_66 : o < 62
              ·
                by_cases g59_62 : o < 60
                ·
                  (have q : o = 59 := (by omega); subst q; rw [show sh_ 59 = 2 by decide +kernel]; exact okz_2)
                ·
                  by_cases g60_62 : o < 61
                  ·
                    (have q : o = 60 := (by omega); subst q; rw [show sh_ 60 = 106 by decide +kernel]; exact trivial)
                  ·
                    (have q : o = 61 := (by omega); subst q; rw [show sh_ 61 = 100 by decide +kernel]; exact ok100 (by decide))
              ·
                by_cases g62_66 : o < 64
                ·
                  by_cases g62_64 : o < 63
                  ·
                    (have q : o = 62 := (by omega); subst q; rw [show sh_ 62 = 6 by decide +kernel]; exact okz_6)
                  ·
                    (have q : o = 63 := (by omega); subst q; rw [show sh_ 63 = 101 by decide +kernel]; exact trivial)
                ·
                  by_cases g64_66 : o < 65
                  ·
                    (have q : o = 64 := (by omega); subst q; rw [show sh_ 64 = 6 by decide +kernel]; exact okz_6)
                  ·
                    (have q : o = 65 := (by omega); subst q; rw [show sh_ 65 = 101 by decide +kernel]; exact trivial)
            ·
              by_cases g66_73 : o < 69
              ·
                by_cases g66_69 : o < 67
                ·
                  (have q : o = 66 := (by omega); subst q; rw [show sh_ 66 = 6 by decide +kernel]; exact okz_6)
                ·
                  by_cases g67_69 : o < 68
                  ·
                    (have q : o = 67 := (by omega); subst q; rw [show sh_ 67 = 101 by decide +kernel]; exact trivial)
                  ·
                    (have q : o = 68 := (by omega); subst q; rw [show sh_ 68 = 6 by decide +kernel]; exact okz_6)
              ·
                by_cases g69_73 : o < 71
                ·
                  by_cases g69_71 : o < 70
                  ·
                    (have q : o = 69 := (by omega); subst q; rw [show sh_ 69 = 101 by decide +kernel]; exact trivial)
                  ·
                    (have q : o = 70 := (by omega); subst q; rw [show sh_ 70 = 6 by decide +kernel]; exact okz_6)
                ·
                  by_cases g71_73 : o < 72
                  ·
                    (have q : o = 71 := (by omega); subst q; rw [show sh_ 71 = 101 by decide +kernel]; exact trivial)
                  ·
                    (have q : o = 72 := (by omega); subst q; rw [show sh_ 72 = 2 by decide +kernel]; exact okz_2)
          ·
            by_cases g73_88 : o < 80
            ·
              by_cases g73_80 : o < 76
              ·
                by_cases g73_76 : o < 74
                ·
                  (have q : o = 73 := (by omega); subst q; rw [show sh_ 73 = 106 by decide +kernel]; exact trivial)
                ·
                  by_cases g74_76 : o < 75
                  ·
                    (have q : o = 74 := (by omega); subst q; rw [show sh_ 74 = 100 by decide +kernel]; exact ok100 (by decide))
                  ·
                    (have q : o = 75 := (by omega); subst q; rw [show sh_ 75 = 6 by decide +kernel]; exact okz_6)
              ·
                by_cases g76_80 : o < 78
                ·
                  by_cases g76_78 : o < 77
                  ·
                    (have q : o = 76 := (by omega); subst q; rw [show sh_ 76 = 101 by decide +kernel]; exact trivial)
                  ·
                    (have q : o = 77 := (by omega); subst q; rw [show sh_ 77 = 6 by decide +kernel]; exact okz_6)
                ·
                  by_cases g78_80 : o < 79
                  ·
                    (have q : o = 78 := (by omega); subst q; rw [show sh_ 78 = 101 by decide +kernel]; exact trivial)
                  ·
                    (have q : o = 79 := (by omega); subst q; rw [show sh_ 79 = 6 by decide +kernel]; exact okz_6)
            ·
              by_cases g80_88 : o < 84
              ·
                by_cases g80_84 : o < 82
                ·
                  by_cases g80_82 : o < 81
                  ·
                    (have q : o = 80 := (by omega); subst q; rw [show sh_ 80 = 101 by decide +kernel]; exact trivial)
                  ·
                    (have q : o = 81 := (by omega); subst q; rw [show sh_ 81 = 6 by decide +kernel]; exact okz_6)
                ·
                  by_cases g82_84 : o < 83
                  ·
                    (have q : o = 82 := (by omega); subst q; rw [show sh_ 82 = 101 by decide +kernel]; exact trivial)
                  ·
                    (have q : o = 83 := (by omega); subst q; rw [show sh_ 83 = 6 by decide +kernel]; exact okz_6)
              ·
                by_cases g84_88 : o < 86
                ·
                  by_cases g84_86 : o < 85
                  ·
                    (have q : o = 84 := (by omega); subst q; rw [show sh_ 84 = 101 by decide +kernel]; exact trivial)
                  ·
                    (have q : o = 85 := (by omega); subst q; rw [show sh_ 85 = 2 by decide +kernel]; exact okz_2)
                ·
                  by_cases g86_88 : o < 87
                  ·
                    (have q : o = 86 := (by omega); subst q; rw [show sh_ 86 = 106 by decide +kernel]; exact trivial)
                  ·
                    (have q : o = 87 := (by omega); subst q; rw [show sh_ 87 = 100 by decide +kernel]; exact ok100 (by decide))
        ·
          by_cases g88_118 : o < 103
          ·
            by_cases g88_103 : o < 95
            ·
              by_cases g88_95 : o < 91
              ·
                by_cases g88_91 : o < 89
                ·
                  (have q : o = 88 := (by omega); subst q; rw [show sh_ 88 = 6 by decide +kernel]; exact okz_6)
                ·
                  by_cases g89_91 : o < 90
                  ·
                    (have q : o = 89 := (by omega); subst q; rw [show sh_ 89 = 101 by decide +kernel]; exact trivial)
                  ·
                    (have q : o = 90 := (by omega); subst q; rw [show sh_ 90 = 6 by decide +kernel]; exact okz_6)
              ·
                by_cases g91_95 : o < 93
                ·
                  by_cases g91_93 : o < 92
                  ·
                    (have q : o = 91 := (by omega); subst q; rw [show sh_ 91 = 101 by decide +kernel]; exact trivial)
                  ·
                    (have q : o = 92 := (by omega); subst q; rw [show sh_ 92 = 6 by decide +kernel]; exact okz_6)
                ·
                  by_cases g93_95 : o < 94
                  ·
                    (have q : o = 93 := (by omega); subst q; rw [show sh_ 93 = 101 by decide +kernel]; exact trivial)
                  ·
                    (have q : o = 94 := (by omega); subst q; rw [show sh_ 94 = 6 by decide +kernel]; exact okz_6)
            ·
              by_cases g95_103 : o < 99
              ·
                by_cases g95_99 : o < 97
                ·
                  by_cases g95_97 : o < 96
                  ·
                    (have q : o = 95 := (by omega); subst q; rw [show sh_ 95 = 101 by decide +kernel]; exact trivial)
                  ·
                    (have q : o = 96 := (by omega); subst q; rw [show sh_ 96 = 6 by decide +kernel]; exact okz_6)
                ·
                  by_cases g97_99 : o < 98
                  ·
                    (have q : o = 97 := (by omega); subst q; rw [show sh_ 97 = 101 by decide +kernel]; exact trivial)
                  ·
                    (have q : o = 98 := (by omega); subst q; rw [show sh_ 98 = 2 by decide +kernel]; exact okz_2)
              ·
                by_cases g99_103 : o < 101
                ·
                  by_cases g99_101 : o < 100
                  ·
                    (have q : o = 99 := (by omega); subst q; rw [show sh_ 99 = 106 by decide +kernel]; exact trivial)
                  ·
                    (have q : o = 100 := (by omega); subst q; rw [show sh_ 100 = 100 by decide +kernel]; exact ok100 (by decide))
                ·
                  by_cases g101_103 : o < 102
                  ·
                    (have q : o = 101 := (by omega); subst q; rw [show sh_ 101 = 6 by decide +kernel]; exact okz_6)
                  ·
                    (have q : o = 102 := (by omega); subst q; rw [show sh_ 102 = 101 by decide +kernel]; exact trivial)
          ·
            by_cases g103_118 : o < 110
            ·
              by_cases g103_110 : o < 106
              ·
                by_cases g103_106 : o < 104
                ·
                  (have q : o = 103 := (by omega); subst q; rw [show sh_ 103 = 6 by decide +kernel]; exact okz_6)
                ·
                  by_cases g104_106 : o < 105
                  ·
                    (have q : o = 104 := (by omega); subst q; rw [show sh_ 104 = 101 by decide +kernel]; exact trivial)
                  ·
                    (have q : o = 105 := (by omega); subst q; rw [show sh_ 105 = 6 by decide +kernel]; exact okz_6)
              ·
                by_cases g106_110 : o < 108
                ·
                  by_cases g106_108 : o < 107
                  ·
                    (have q : o = 106 := (by omega); subst q; rw [show sh_ 106 = 101 by decide +kernel]; exact trivial)
                  ·
                    (have q : o = 107 := (by omega); subst q; rw [show sh_ 107 = 6 by decide +kernel]; exact okz_6)
                ·
                  by_cases g108_110 : o < 109
                  ·
                    (have q : o = 108 := (by omega); subst q; rw [show sh_ 108 = 101 by decide +kernel]; exact trivial)
                  ·
                    (have q : o = 109 := (by omega); subst q; rw [show sh_ 109 = 6 by decide +kernel]; exact okz_6)
            ·
              by_cases g110_118 : o < 114
              ·
                by_cases g110_114 : o < 112
                ·
                  by_cases g110_112 : o < 111
                  ·
                    (have q : o = 110 := (by omega); subst q; rw [show sh_ 110 = 101 by decide +kernel]; exact trivial)
                  ·
                    (have q : o = 111 := (by omega); subst q; rw [show sh_ 111 = 2 by decide +kernel]; exact okz_2)
                ·
                  by_cases g112_114 : o < 113
                  ·
                    (have q : o = 112 := (by omega); subst q; rw [show sh_ 112 = 106 by decide +kernel]; exact trivial)
                  ·
                    (have q : o = 113 := (by omega); subst q; rw [show sh_ 113 = 100 by decide +kernel]; exact ok100 (by decide))
              ·
                by_cases g114_118 : o < 116
                ·
                  by_cases g114_116 : o < 115
                  ·
                    (have q : o = 114 := (by omega); subst q; rw [show sh_ 114 = 6 by decide +kernel]; exact okz_6)
                  ·
                    (have q : o = 115 := (by omega); subst q; rw [show sh_ 115 = 101 by decide +kernel]; exact trivial)
                ·
                  by_cases g116_118 : o < 117
                  ·
                    (have q : o = 116 := (by omega); subst q; rw [show sh_ 116 = 6 by decide +kernel]; exact okz_6)
                  ·
                    (have q : o = 117 := (by omega); subst q; rw [show sh_ 117 = 101 by decide +kernel]; exact trivial)
    ·
      by_cases g118_237 : o < 177
      ·
        by_cases g118_177 : o < 147
        ·
          by_cases g118_147 : o < 132
          ·
            by_cases g118_132 : o < 125
            ·
              by_cases g118_125 : o < 121
              ·
                by_cases g118_121 : o < 119
                ·
                  (have q : o = 118 := (by omega); subst q; rw [show sh_ 118 = 6 by decide +kernel]; exact okz_6)
                ·
                  by_cases g119_121 : o < 120
                  ·
                    (have q : o = 119 := (by omega); subst q; rw [show sh_ 119 = 101 by decide +kernel]; exact trivial)
                  ·
                    (have q : o = 120 := (by omega); subst q; rw [show sh_ 120 = 6 by decide +kernel]; exact okz_6)
              ·
                by_cases g121_125 : o < 123
                ·
                  by_cases g121_123 : o < 122
                  ·
                    (have q : o = 121 := (by omega); subst q; rw [show sh_ 121 = 101 by decide +kernel]; exact trivial)
                  ·
                    (have q : o = 122 := (by omega); subst q; rw [show sh_ 122 = 6 by decide +kernel]; exact okz_6)
                ·
                  by_cases g123_125 : o < 124
                  ·
                    (have q : o = 123 := (by omega); subst q; rw [show sh_ 123 = 101 by decide +kernel]; exact trivial)
                  ·
                    (have q : o = 124 := (by omega); subst q; rw [show sh_ 124 = 4 by decide +kernel]; exact trivial)
            ·
              by_cases g125_132 : o < 128
              ·
                by_cases g125_128 : o < 126
                ·
                  (have q : o = 125 := (by omega); subst q; rw [show sh_ 125 = 6 by decide +kernel]; exact okz_6)
                ·
                  by_cases g126_128 : o < 127
                  ·
                    (have q : o = 126 := (by omega); subst q; rw [show sh_ 126 = 101 by decide +kernel]; exact trivial)
                  ·
                    (have q : o = 127 := (by omega); subst q; rw [show sh_ 127 = 3 by decide +kernel]; exact okz_3)
              ·
                by_cases g128_132 : o < 130
                ·
                  by_cases g128_130 : o < 129
                  ·
                    (have q : o = 128 := (by omega); subst q; rw [show sh_ 128 = 100 by decide +kernel]; exact ok100 (by decide))
                  ·
                    (have q : o = 129 := (by omega); subst q; rw [show sh_ 129 = 100 by decide +kernel]; exact ok100 (by decide))
                ·
                  by_cases g130_132 : o < 131
                  ·
                    (have q : o = 130 := (by omega); subst q; rw [show sh_ 130 = 100 by decide +kernel]; exact ok100 (by decide))
                  ·
                    (have q : o = 131 := (by omega); subst q; rw [show sh_ 131 = 100 by decide +kernel]; exact ok100 (by decide))
          ·
            by_cases g132_147 : o < 139
            ·
              by_cases g132_139 : o < 135
              ·
                by_cases g132_135 : o < 133
                ·
                  (have q : o = 132 := (by omega); subst q; rw [show sh_ 132 = 5 by decide +kernel]; exact okz_5)
                ·
                  by_cases g133_135 : o < 134
                  ·
                    (have q : o = 133 := (by omega); subst q; rw [show sh_ 133 = 105 by decide +kernel]; exact trivial)
                  ·
                    (have q : o = 134 := (by omega); subst q; rw [show sh_ 134 = 100 by decide +kernel]; exact ok100 (by decide))
              ·
                by_cases g135_139 : o < 137
                ·
                  by_cases g135_137 : o < 136
                  ·
                    (have q : o = 135 := (by omega); subst q; rw [show sh_ 135 = 100 by decide +kernel]; exact ok100 (by decide))
                  ·
                    (have q : o = 136 := (by omega); subst q; rw [show sh_ 136 = 100 by decide +kernel]; exact ok100 (by decide))
                ·
                  by_cases g137_139 : o < 138
                  ·
                    (have q : o = 137 := (by omega); subst q; rw [show sh_ 137 = 1 by decide +kernel]; exact okz_1)
                  ·
                    (have q : o = 138 := (by omega); subst q; rw [show sh_ 138 = 6 by decide +kernel]; exact okz_6)
            ·
              by_cases g139_147 : o < 143
              ·
                by_cases g139_143 : o < 141
                ·
                  by_cases g139_141 : o < 140
                  ·
                    (have q : o = 139 := (by omega); subst q; rw [show sh_ 139 = 101 by decide +kernel]; exact trivial)
                  ·
                    (have q : o = 140 := (by omega); subst q; rw [show sh_ 140 = 100 by decide +kernel]; exact ok100 (by decide))
                ·
                  by_cases g141_143 : o < 142
                  ·
                    (have q : o = 141 := (by omega); subst q; rw [show sh_ 141 = 1 by decide +kernel]; exact okz_1)
                  ·
                    (have q : o = 142 := (by omega); subst q; rw [show sh_ 142 = 6 by decide +kernel]; exact okz_6)
              ·
                by_cases g143_147 : o < 145
                ·
                  by_cases g143_145 : o < 144
                  ·
                    (have q : o = 143 := (by omega); subst q; rw [show sh_ 143 = 101 by decide +kernel]; exact trivial)
                  ·
                    (have q : o = 144 := (by omega); subst q; rw [show sh_ 144 = 100 by decide +kernel]; exact ok100 (by decide))
                ·
                  by_cases g145_147 : o < 146
                  ·
                    (have q : o = 145 := (by omega); subst q; rw [show sh_ 145 = 1 by decide +kernel]; exact okz_1)
                  ·
                    (have q : o = 146 := (by omega); subst q; rw [show sh_ 146 = 6 by decide +kernel]; exact okz_6)
        ·
          by_cases g147_177 : o < 162
          ·
            by_cases g147_162 : o < 154
            ·
              by_cases g147_154 : o < 150
              ·
                by_cases g147_150 : o < 148
                ·
                  (have q : o = 147 := (by omega); subst q; rw [show sh_ 147 = 101 by decide +kernel]; exact trivial)
                ·
                  by_cases g148_150 : o < 149
                  ·
                    (have q : o = 148 := (by omega); subst q; rw [show sh_ 148 = 100 by decide +kernel]; exact ok100 (by decide))
                  ·
                    (have q : o = 149 := (by omega); subst q; rw [show sh_ 149 = 1 by decide +kernel]; exact okz_1)
              ·
                by_cases g150_154 : o < 152
                ·
                  by_cases g150_152 : o < 151
                  ·
                    (have q : o = 150 := (by omega); subst q; rw [show sh_ 150 = 6 by decide +kernel]; exact okz_6)
                  ·
                    (have q : o = 151 := (by omega); subst q; rw [show sh_ 151 = 101 by decide +kernel]; exact trivial)
                ·
                  by_cases g152_154 : o < 153
                  ·
                    (have q : o = 152 := (by omega); subst q; rw [show sh_ 152 = 100 by decide +kernel]; exact ok100 (by decide))
                  ·
                    (have q : o = 153 := (by omega); subst q; rw [show sh_ 153 = 1 by decide +kernel]; exact okz_1)
            ·
              by_cases g154_162 : o < 158
              ·
                by_cases g154_158 : o < 156
                ·
                  by_cases g154_156 : o < 155
                  ·
                    (have q : o = 154 := (by omega); subst q; rw [show sh_ 154 = 6 by decide +kernel]; exact okz_6)
                  ·
                    (have q : o = 155 := (by omega); subst q; rw [show sh_ 155 = 101 by decide +kernel]; exact trivial)
                ·
                  by_cases g156_158 : o < 157
                  ·
                    (have q : o = 156 := (by omega); subst q; rw [show sh_ 156 = 100 by decide +kernel]; exact ok100 (by decide))
                  ·
                    (have q : o = 157 := (by omega); subst q; rw [show sh_ 157 = 1 by decide +kernel]; exact okz_1)
              ·
                by_cases g158_162 : o < 160
                ·
                  by_cases g158_160 : o < 159
                  ·
                    (have q : o = 158 := (by omega); subst q; rw [show sh_ 158 = 6 by decide +kernel]; exact okz_6)
                  ·
                    (have q : o = 159 := (by omega); subst q; rw [show sh_ 159 = 101 by decide +kernel]; exact trivial)
                ·
                  by_cases g160_162 : o < 161
                  ·
                    (have q : o = 160 := (by omega); subst q; rw [show sh_ 160 = 100 by decide +kernel]; exact ok100 (by decide))
                  ·
                    (have q : o = 161 := (by omega); subst q; rw [show sh_ 161 = 1 by decide +kernel]; exact okz_1)
          ·
            by_cases g162_177 : o < 169
            ·
              by_cases g162_169 : o < 165
              ·
                by_cases g162_165 : o < 163
                ·
                  (have q : o = 162 := (by omega); subst q; rw [show sh_ 162 = 6 by decide +kernel]; exact okz_6)
                ·
                  by_cases g163_165 : o < 164
                  ·
                    (have q : o = 163 := (by omega); subst q; rw [show sh_ 163 = 101 by decide +kernel]; exact trivial)
                  ·
                    (have q : o = 164 := (by omega); subst q; rw [show sh_ 164 = 100 by decide +kernel]; exact ok100 (by decide))
              ·
                by_cases g165_169 : o < 167
                ·
                  by_cases g165_167 : o < 166
                  ·
                    (have q : o = 165 := (by omega); subst q; rw [show sh_ 165 = 1 by decide +kernel]; exact okz_1)
                  ·
                    (have q : o = 166 := (by omega); subst q; rw [show sh_ 166 = 6 by decide +kernel]; exact okz_6)
                ·
                  by_cases g167_169 : o < 168
                  ·
                    (have q : o = 167 := (by omega); subst q; rw [show sh_ 167 = 101 by decide +kernel]; exact trivial)
                  ·
                    (have q : o = 168 := (by omega); subst q; rw [show sh_ 168 = 100 by decide +kernel]; exact ok100 (by decide))
            ·
              by_cases g169_177 : o < 173
              ·
                by_cases g169_173 : o < 171
                ·
                  by_cases g169_171 : o < 170
                  ·
                    (have q : o = 169 := (by omega); subst q; rw [show sh_ 169 = 5 by decide +kernel]; exact okz_5)
                  ·
                    (have q : o = 170 := (by omega); subst q; rw [show sh_ 170 = 105 by decide +kernel]; exact trivial)
                ·
                  by_cases g171_173 : o < 172
                  ·
                    (have q : o = 171 := (by omega); subst q; rw [show sh_ 171 = 100 by decide +kernel]; exact ok100 (by decide))
                  ·
                    (have q : o = 172 := (by omega); subst q; rw [show sh_ 172 = 100 by decide +kernel]; exact ok100 (by decide))
              ·
                by_cases g173_177 : o < 175
                ·
                  by_cases g173_175 : o < 174
                  ·
                    (have q : o = 173 := (by omega); subst q; rw [show sh_ 173 = 100 by decide +kernel]; exact ok100 (by decide))
                  ·
                    (have q : o = 174 := (by omega); subst q; rw [show sh_ 174 = 1 by decide +kernel]; exact okz_1)
                ·
                  by_cases g175_177 : o < 176
                  ·
                    (have q : o = 175 := (by omega); subst q; rw [show sh_ 175 = 6 by decide +kernel]; exact okz_6)
                  ·
                    (have q : o = 176 := (by omega); subst q; rw [show sh_ 176 = 101 by decide +kernel]; exact trivial)
      ·
        by_cases g177_237 : o < 207
        ·
          by_cases g177_207 : o < 192
          ·
            by_cases g177_192 : o < 184
            ·
              by_cases g177_184 : o < 180
              ·
                by_cases g177_180 : o < 178
                ·
                  (have q : o = 177 := (by omega); subst q; rw [show sh_ 177 = 100 by decide +kernel]; exact ok100 (by decide))
                ·
                  by_cases g178_180 : o < 179
                  ·
                    (have q : o = 178 := (by omega); subst q; rw [show sh_ 178 = 1 by decide +kernel]; exact okz_1)
                  ·
                    (have q : o = 179 := (by omega); subst q; rw [show sh_ 179 = 6 by decide +kernel]; exact okz_6)
              ·
                by_cases g180_184 : o < 182
                ·
                  by_cases g180_182 : o < 181
                  ·
                    (have q : o = 180 := (by omega); subst q; rw [show sh_ 180 = 101 by decide +kernel]; exact trivial)
                  ·
                    (have q : o = 181 := (by omega); subst q; rw [show sh_ 181 = 100 by decide +kernel]; exact ok100 (by decide))
                ·
                  by_cases g182_184 : o < 183
                  ·
                    (have q : o = 182 := (by omega); subst q; rw [show sh_ 182 = 1 by decide +kernel]; exact okz_1)
                  ·
                    (have q : o = 183 := (by omega); subst q; rw [show sh_ 183 = 6 by decide +kernel]; exact okz_6)
            ·
              by_cases g184_192 : o < 188
              ·
                by_cases g184_188 : o < 186
                ·
                  by_cases g184_186 : o < 185
                  ·
                    (have q : o = 184 := (by omega); subst q; rw [show sh_ 184 = 101 by decide +kernel]; exact trivial)
                  ·
                    (have q : o = 185 := (by omega); subst q; rw [show sh_ 185 = 100 by decide +kernel]; exact ok100 (by decide))
                ·
                  by_cases g186_188 : o < 187
                  ·
                    (have q : o = 186 := (by omega); subst q; rw [show sh_ 186 = 1 by decide +kernel]; exact okz_1)
                  ·
                    (have q : o = 187 := (by omega); subst q; rw [show sh_ 187 = 6 by decide +kernel]; exact okz_6)
              ·
                by_cases g188_192 : o < 190
                ·
                  by_cases g188_190 : o < 189
                  ·
                    (have q : o = 188 := (by omega); subst q; rw [show sh_ 188 = 101 by decide +kernel]; exact trivial)
                  ·
                    (have q : o = 189 := (by omega); subst q; rw [show sh_ 189 = 100 by decide +kernel]; exact ok100 (by decide))
                ·
                  by_cases g190_192 : o < 191
                  ·
                    (have q : o = 190 := (by omega); subst q; rw [show sh_ 190 = 1 by decide +kernel]; exact okz_1)
                  ·
                    (have q : o = 191 := (by omega); subst q; rw [show sh_ 191 = 6 by decide +kernel]; exact okz_6)
          ·
            by_cases g192_207 : o < 199
            ·
              by_cases g192_199 : o < 195
              ·
                by_cases g192_195 : o < 193
                ·
                  (have q : o = 192 := (by omega); subst q; rw [show sh_ 192 = 101 by decide +kernel]; exact trivial)
                ·
                  by_cases g193_195 : o < 194
                  ·
                    (have q : o = 193 := (by omega); subst q; rw [show sh_ 193 = 100 by decide +kernel]; exact ok100 (by decide))
                  ·
                    (have q : o = 194 := (by omega); subst q; rw [show sh_ 194 = 1 by decide +kernel]; exact okz_1)
              ·
                by_cases g195_199 : o < 197
                ·
                  by_cases g195_197 : o < 196
                  ·
                    (have q : o = 195 := (by omega); subst q; rw [show sh_ 195 = 6 by decide +kernel]; exact okz_6)
                  ·
                    (have q : o = 196 := (by omega); subst q; rw [show sh_ 196 = 101 by decide +kernel]; exact trivial)
                ·
                  by_cases g197_199 : o < 198
                  ·
                    (have q : o = 197 := (by omega); subst q; rw [show sh_ 197 = 100 by decide +kernel]; exact ok100 (by decide))
                  ·
                    (have q : o = 198 := (by omega); subst q; rw [show sh_ 198 = 1 by decide +kernel]; exact okz_1)
            ·
              by_cases g199_207 : o < 203
              ·
                by_cases g199_203 : o < 201
                ·
                  by_cases g199_201 : o < 200
                  ·
                    (have q : o = 199 := (by omega); subst q; rw [show sh_ 199 = 6 by decide +kernel]; exact okz_6)
                  ·
                    (have q : o = 200 := (by omega); subst q; rw [show sh_ 200 = 101 by decide +kernel]; exact trivial)
                ·
                  by_cases g201_203 : o < 202
                  ·
                    (have q : o = 201 := (by omega); subst q; rw [show sh_ 201 = 100 by decide +kernel]; exact ok100 (by decide))
                  ·
                    (have q : o = 202 := (by omega); subst q; rw [show sh_ 202 = 1 by decide +kernel]; exact okz_1)
              ·
                by_cases g203_207 : o < 205
                ·
                  by_cases g203_205 : o < 204
                  ·
                    (have q : o = 203 := (by omega); subst q; rw [show sh_ 203 = 6 by decide +kernel]; exact okz_6)
                  ·
                    (have q : o = 204 := (by omega); subst q; rw [show sh_ 204 = 101 by decide +kernel]; exact trivial)
                ·
                  by_cases g205_207 : o < 206
                  ·
                    (have q : o = 205 := (by omega); subst q; rw [show sh_ 205 = 100 by decide +kernel]; exact ok100 (by decide))
                  ·
                    (have q : o = 206 := (by omega); subst q; rw [show sh_ 206 = 7 by decide +kernel]; exact okz_7 h1 h2)
        ·
          by_cases g207_237 : o < 222
          ·
            by_cases g207_222 : o < 214
            ·
              by_cases g207_214 : o < 210
              ·
                by_cases g207_210 : o < 208
                ·
                  (have q : o = 207 := (by omega); subst q; rw [show sh_ 207 = 100 by decide +kernel]; exact okz_100)
                ·
                  by_cases g208_210 : o < 209
                  ·
                    (have q : o = 208 := (by omega); subst q; rw [show sh_ 208 = 100 by decide +kernel]; exact okz_100)
                  ·
                    (have q : o = 209 := (by omega); subst q; rw [show sh_ 209 = 100 by decide +kernel]; exact okz_100)
              ·
                by_cases g210_214 : o < 212
                ·
                  by_cases g210_212 : o < 211
                  ·
                    (have q : o = 210 := (by omega); subst q; rw [show sh_ 210 = 100 by decide +kernel]; exact okz_100)
                  ·
                    (have q : o = 211 := (by omega); subst q; rw [show sh_ 211 = 100 by decide +kernel]; exact okz_100)
                ·
                  by_cases g212_214 : o < 213
                  ·
                    (have q : o = 212 := (by omega); subst q; rw [show sh_ 212 = 100 by decide +kernel]; exact okz_100)
                  ·
                    (have q : o = 213 := (by omega); subst q; rw [show sh_ 213 = 100 by decide +kernel]; exact okz_100)
            ·
              by_cases g214_222 : o < 218
              ·
                by_cases g214_218 : o < 216
                ·
                  by_cases g214_216 : o < 215
                  ·
                    (have q : o = 214 := (by omega); subst q; rw [show sh_ 214 = 100 by decide +kernel]; exact ok_214)
                  ·
                    (have q : o = 215 := (by omega); subst q; rw [show sh_ 215 = 100 by decide +kernel]; exact okz_100)
                ·
                  by_cases g216_218 : o < 217
                  ·
                    (have q : o = 216 := (by omega); subst q; rw [show sh_ 216 = 100 by decide +kernel]; exact okz_100)
                  ·
                    (have q : o = 217 := (by omega); subst q; rw [show sh_ 217 = 100 by decide +kernel]; exact okz_100)
              ·
                by_cases g218_222 : o < 220
                ·
                  by_cases g218_220 : o < 219
                  ·
                    (have q : o = 218 := (by omega); subst q; rw [show sh_ 218 = 100 by decide +kernel]; exact okz_100)
                  ·
                    (have q : o = 219 := (by omega); subst q; rw [show sh_ 219 = 100 by decide +kernel]; exact okz_100)
                ·
                  by_cases g220_222 : o < 221
                  ·
                    (have q : o = 220 := (by omega); subst q; rw [show sh_ 220 = 100 by decide +kernel]; exact okz_100)
                  ·
                    (have q : o = 221 := (by omega); subst q; rw [show sh_ 221 = 100 by decide +kernel]; exact okz_100)
          ·
            by_cases g222_237 : o < 229
            ·
              by_cases g222_229 : o < 225
              ·
                by_cases g222_225 : o < 223
                ·
                  (have q : o = 222 := (by omega); subst q; rw [show sh_ 222 = 100 by decide +kernel]; exact okz_100)
                ·
                  by_cases g223_225 : o < 224
                  ·
                    (have q : o = 223 := (by omega); subst q; rw [show sh_ 223 = 100 by decide +kernel]; exact okz_100)
                  ·
                    (have q : o = 224 := (by omega); subst q; rw [show sh_ 224 = 100 by decide +kernel]; exact okz_100)
              ·
                by_cases g225_229 : o < 227
                ·
                  by_cases g225_227 : o < 226
                  ·
                    (have q : o = 225 := (by omega); subst q; rw [show sh_ 225 = 100 by decide +kernel]; exact okz_100)
                  ·
                    (have q : o = 226 := (by omega); subst q; rw [show sh_ 226 = 100 by decide +kernel]; exact okz_100)
                ·
                  by_cases g227_229 : o < 228
                  ·
                    (have q : o = 227 := (by omega); subst q; rw [show sh_ 227 = 100 by decide +kernel]; exact okz_100)
                  ·
                    (have q : o = 228 := (by omega); subst q; rw [show sh_ 228 = 100 by decide +kernel]; exact okz_100)
            ·
              by_cases g229_237 : o < 233
              ·
                by_cases g229_233 : o < 231
                ·
                  by_cases g229_231 : o < 230
                  ·
                    (have q : o = 229 := (by omega); subst q; rw [show sh_ 229 = 100 by decide +kernel]; exact okz_100)
                  ·
                    (have q : o = 230 := (by omega); subst q; rw [show sh_ 230 = 100 by decide +kernel]; exact okz_100)
                ·
                  by_cases g231_233 : o < 232
                  ·
                    (have q : o = 231 := (by omega); subst q; rw [show sh_ 231 = 100 by decide +kernel]; exact okz_100)
                  ·
                    (have q : o = 232 := (by omega); subst q; rw [show sh_ 232 = 100 by decide +kernel]; exact okz_100)
              ·
                by_cases g233_237 : o < 235
                ·
                  by_cases g233_235 : o < 234
                  ·
                    (have q : o = 233 := (by omega); subst q; rw [show sh_ 233 = 100 by decide +kernel]; exact okz_100)
                  ·
                    (have q : o = 234 := (by omega); subst q; rw [show sh_ 234 = 100 by decide +kernel]; exact okz_100)
                ·
                  by_cases g235_237 : o < 236
                  ·
                    (have q : o = 235 := (by omega); subst q; rw [show sh_ 235 = 100 by decide +kernel]; exact okz_100)
                  ·
                    (have q : o = 236 := (by omega); subst q; rw [show sh_ 236 = 102 by decide +kernel]; exact trivial)
  · have hs : sh_ o = 999 := by unfold sh_; rw [if_neg hc]
    rw [hs]; trivial
theorem clm_at : ∀ n k : Nat, k < n → clm n k = - nI 1
  | 0, k, h => absurd h (Nat.not_lt_zero k)
  | n + 1, k, h => by
    show cj_up (clm n) n (- nI 1) k = _
    by_cases e : k = n
    · subst e; rw [cj_up_s]
    · rw [cj_up_n _ _ e]; exact clm_at n k (by omega)
theorem clm4_at {k : Nat} (h : k < 4) : clm4 k = - nI 1 := by
  match k, h with
  | 0, _ => rfl
  | 1, _ => rfl
  | 2, _ => rfl
  | 3, _ => rfl
  | k + 4, h => exact absurd h (by omega)
theorem fz_22 {xs : Nat → Int32} {w h v1 v2 : Int32} {a : Nat} (ha : a < 8) : fz xs w h v1 v2 (22 + 13 * a) = clm4 := by
  unfold fz
  rw [if_neg (by omega), if_neg (by omega), if_neg (by omega), if_neg (by omega), if_neg (by omega), if_neg (by omega), if_neg (by omega), if_pos (by omega)]
theorem fz_20 {xs : Nat → Int32} {w h v1 v2 : Int32} {a : Nat} (ha : a < 8) : fz xs w h v1 v2 (20 + 13 * a) = fun k => if k = 2 then nI (20 + 13 * a + 3) else 0 := by
  unfold fz
  rw [if_neg (by omega), if_neg (by omega), if_neg (by omega), if_neg (by omega), if_neg (by omega), if_neg (by omega), if_pos (by omega)]
theorem REL_z {xs : Nat → Int32} {w h v1 v2 : Int32} : REL (fz xs w h v1 v2) := by
  have e5 : fz xs w h v1 v2 206 5 = 0 := rfl
  have e8 : fz xs w h v1 v2 206 8 = 0 := rfl
  refine ⟨RPd_z t_0 t_0, ⟨rfl, rfl⟩, ⟨fun a c ha hc => ?_, fun a ha => ?_⟩, fun t ht => ?_, fun t ht => ?_, fun k => ?_⟩
  · rw [fz_22 ha, clm4_at hc]
    exact (clm_at 32 (4 * a + c) (by omega)).symm
  · rw [fz_20 ha]; rfl
  · rw [e5, t_0] at ht; omega
  · rw [e8, t_0] at ht; omega
  · have a1 : fz xs w h v1 v2 226 k = 0 := rfl
    have a2 : fz xs w h v1 v2 227 k = 0 := rfl
    rw [a1, a2, t_0]; omega
theorem n_aftv {m pc nx : Nat} {ls' r as : List Value} {a : Nat} {M M' : cj_M} {v : Value} {R : Option (cj_O × cj_M)} (h : cj_ev a as M = some (.inl (some v), M')) (h2 : cj_res m nx ls' (v :: r) M' = R) : cj_aft m pc nx ls' r (cj_ev a as M) = R := by
  rw [h]; exact h2
set_option maxHeartbeats 4000000 in
theorem lw_start {L : Nat} {xs : Nat → Int32} (hL : L ≤ 2050) : ∃ (f0 : cg_G) (e0 : Nat × Nat), cj_ev 146 [.ref 0] (cj_m0 L xs) = cj_res 146 43 [.ref 0, .ref 1, .ref 206, .ref 236, .int (nI 2), .retAddr 0, .retAddr 0] [] (cg_M L f0 e0) ∧ cI L f0 ∧ REL f0 ∧ e0.1 ≤ 1000 ∧ e0.2 ≤ 100000 := by
  have hA0 : Ca L xs 0 = some (.inl (0, L, .inl xs)) := (cj_up_n (k := 1) (j := 0) _ _ (by decide)).trans rfl
  obtain ⟨w, hw⟩ := w_cell (C := Ca L xs) (n := 2) (x := 1) (y := 0 + 11) (j := 0) hL (by decide) hA0
  obtain ⟨h, hh⟩ := w_cell (C := Ca L xs) (n := 2) (x := 1) (y := 0 + 11) (j := 1) hL (by decide) hA0
  have hB0 : Cb L xs w h 0 = some (.inl (0, L, .inl xs)) := (cj_up_n (k := 206) (j := 0) _ _ (by decide)).trans ((mC_n (by decide)).trans hA0)
  obtain ⟨eC, hC'⟩ : ∃ e : Nat × Nat, cj_ev 124 [.ref 1, .int w, .int h] (Ca L xs, 2, 1, 0 + 11) = some (.inl none, (mC (Ca L xs) w h, 206, e.1, e.2)) ∧ e.1 ≤ 500 ∧ e.2 ≤ 50000 := ⟨(1 + 204, 0 + 11 + 2 + 32 + 2 + 26 + 6 + 2 + 32 + 2 + 32 + 2 + 32 + 2 + 32 + 2 + 32 + 2 + 32 + 8 + 4 + 4 + 4 + 2 + 0 + 2 + 32 + 2 + 32 + 2 + 32 + 2 + 32 + 4 + 4 + 4 + 2 + 0 + 2 + 32 + 2 + 32 + 2 + 32 + 2 + 32 + 4 + 4 + 4 + 2 + 0 + 2 + 32 + 2 + 32 + 2 + 32 + 2 + 32 + 4 + 4 + 4 + 2 + 0 + 2 + 32 + 2 + 32 + 2 + 32 + 2 + 32 + 4 + 4 + 4 + 2 + 0 + 2 + 32 + 2 + 32 + 2 + 32 + 2 + 32 + 4 + 4 + 4 + 2 + 0 + 2 + 32 + 2 + 32 + 2 + 32 + 2 + 32 + 4 + 4 + 4 + 2 + 0 + 2 + 32 + 2 + 32 + 2 + 32 + 2 + 32 + 4 + 4 + 4 + 2 + 0 + 2 + 32 + 2 + 32 + 2 + 32 + 2 + 32 + 5 + 2 + 212 + 6 + 848 + 849 + 848 + 8 + 10 + 8 + 9 + 849 + 8 + 4 + 2 + 212 + 107 + 4 + 2 + 212 + 107 + 4 + 2 + 212 + 107 + 4 + 2 + 212 + 107 + 4 + 2 + 212 + 107 + 4 + 2 + 212 + 107 + 4 + 2 + 212 + 107 + 4 + 2 + 212 + 107 + 10 + 8 + 9 + 849 + 8 + 4 + 2 + 212 + 107 + 4 + 2 + 212 + 107 + 4 + 2 + 212 + 107 + 4 + 2 + 212 + 107 + 4 + 2 + 212 + 107 + 4 + 2 + 212 + 107 + 4 + 2 + 212 + 107 + 4 + 2 + 212 + 107), in_C (cj_up_s _ _ _), by show 1 + 204 ≤ 500; decide, by show 0 + 11 + 2 + 32 + 2 + 26 + 6 + 2 + 32 + 2 + 32 + 2 + 32 + 2 + 32 + 2 + 32 + 2 + 32 + 8 + 4 + 4 + 4 + 2 + 0 + 2 + 32 + 2 + 32 + 2 + 32 + 2 + 32 + 4 + 4 + 4 + 2 + 0 + 2 + 32 + 2 + 32 + 2 + 32 + 2 + 32 + 4 + 4 + 4 + 2 + 0 + 2 + 32 + 2 + 32 + 2 + 32 + 2 + 32 + 4 + 4 + 4 + 2 + 0 + 2 + 32 + 2 + 32 + 2 + 32 + 2 + 32 + 4 + 4 + 4 + 2 + 0 + 2 + 32 + 2 + 32 + 2 + 32 + 2 + 32 + 4 + 4 + 4 + 2 + 0 + 2 + 32 + 2 + 32 + 2 + 32 + 2 + 32 + 4 + 4 + 4 + 2 + 0 + 2 + 32 + 2 + 32 + 2 + 32 + 2 + 32 + 4 + 4 + 4 + 2 + 0 + 2 + 32 + 2 + 32 + 2 + 32 + 2 + 32 + 5 + 2 + 212 + 6 + 848 + 849 + 848 + 8 + 10 + 8 + 9 + 849 + 8 + 4 + 2 + 212 + 107 + 4 + 2 + 212 + 107 + 4 + 2 + 212 + 107 + 4 + 2 + 212 + 107 + 4 + 2 + 212 + 107 + 4 + 2 + 212 + 107 + 4 + 2 + 212 + 107 + 4 + 2 + 212 + 107 + 10 + 8 + 9 + 849 + 8 + 4 + 2 + 212 + 107 + 4 + 2 + 212 + 107 + 4 + 2 + 212 + 107 + 4 + 2 + 212 + 107 + 4 + 2 + 212 + 107 + 4 + 2 + 212 + 107 + 4 + 2 + 212 + 107 + 4 + 2 + 212 + 107 ≤ 50000; omega⟩
  obtain ⟨hC1, hC2, hC3⟩ := hC'
  obtain ⟨w2, hw2⟩ := w_cell (C := Cb L xs w h) (n := 207) (x := eC.1 + 1) (y := eC.2 + 39) (j := 0) hL (by decide) hB0
  obtain ⟨h2, hh2⟩ := w_cell (C := Cb L xs w h) (n := 207) (x := eC.1 + 1) (y := eC.2 + 39) (j := 1) hL (by decide) hB0
  obtain ⟨X, hX⟩ : ∃ X : Nat, X = eC.1 + 1 + 29 := ⟨_, rfl⟩
  obtain ⟨Y, hY⟩ : ∃ Y : Nat, Y = eC.2 + 39 + 32 + 6 + 192 + 8 + 32 + 1024 + 8 + 32 + 26 + 256 + 130 + 130 + 901 + 901 + 2 + 10 + 16 + 8 + 16 + 1792 + 1792 + 3840 + 2 + 1800 + 1800 + 1800 + 1800 + 1800 + 1800 := ⟨_, rfl⟩
  obtain ⟨v1, hv1, e1⟩ := mi_w (C := mM (Cb L xs w h)) (n := 236) (x := X) (y := Y) (w := w2) (h := h2) (u := .retAddr 0) (fs := fsM) mM_206 rfl
  obtain ⟨v2, hv2, e2⟩ := mi_h (C := cj_up (mM (Cb L xs w h)) 206 (some (.inr (7, fsM.set 0 (.int v1))))) (n := 236) (x := X) (y := Y) (w := w2) (h := h2) (u := .retAddr 0) (fs := fsM.set 0 (.int v1)) (cj_up_s _ _ _) rfl
  obtain ⟨D, e3, d1, d2⟩ := mi_l (n := 236) (x := X) (y := Y) (w := w2) (h := h2) (fs := (fsM.set 0 (.int v1)).set 1 (.int v2)) rfl 32 0 (C := cj_up (cj_up (mM (Cb L xs w h)) 206 (some (.inr (7, fsM.set 0 (.int v1))))) 206 (some (.inr (7, (fsM.set 0 (.int v1)).set 1 (.int v2))))) rfl (cj_up_s _ _ _) ((cj_up_n (k := 206) (j := 214) _ _ (by decide)).trans ((cj_up_n (k := 206) (j := 214) _ _ (by decide)).trans fm_214))
  have e4 : cj_res 41 307 [.ref 206, .int w2, .int h2, .retAddr 0] [] (cj_up (cj_up (mM (Cb L xs w h)) 206 (some (.inr (7, fsM.set 0 (.int v1))))) 206 (some (.inr (7, (fsM.set 0 (.int v1)).set 1 (.int v2)))), 236, X, Y) = some (.inl none, (D, 236, X, Y)) := by
    refine (g_0 (by decide +kernel : kd_ 41 307 = ((0, 0, 0, []), 308))).trans ?_
    exact (g_4 (ls' := [.ref 206, .int w2, .int h2, .int (nI 0)]) (by decide +kernel : kd_ 41 308 = ((4, 3, 0, []), 309)) rfl rfl).trans e3
  have hM : cj_ev 41 [.ref 206, .int w2, .int h2] (Cb L xs w h, 207, eC.1 + 1, eC.2 + 39) = some (.inl none, (D, 236, X, Y)) := by
    refine in_M1 (cj_up_s _ _ _) ?_
    rw [← hX, ← hY]
    exact e1.trans (e2.trans e4)
  have hfin : ((cj_up D 236 (some (.inl (2, 1, .inr (.inl (fun _ => 0))))), 237, X + 1, Y + 1) : cj_M) = cg_M L (fz xs w h v1 v2) (X + 1, Y + 1) := Prod.ext (funext (fmem d1 d2)) rfl
  refine ⟨fz xs w h v1 v2, (X + 1, Y + 1), ?_, cI_z hv1 hv2, REL_z, by show X + 1 ≤ 1000; omega, by show Y + 1 ≤ 100000; omega⟩
  rw [← hfin]
  show cj_res 146 0 [.ref 0, .retAddr 0, .retAddr 0, .retAddr 0, .retAddr 0, .retAddr 0, .retAddr 0] [] (Cz L xs, 1, 0, 0) = _
  refine (n_70 (by decide +kernel : kd_ 146 0 = ((70, 0, 11, [0, 2, 2, 2, 2, 2, 0, 0, 1, 2, 2]), 3)) rfl).trans ?_
  refine (g_25 (by decide +kernel : kd_ 146 3 = ((25, 0, 0, []), 4)) rfl).trans ?_
  refine (g_3 (by decide +kernel : kd_ 146 4 = ((3, 0, 0, []), 5)) rfl).trans ?_
  refine (g_0 (by decide +kernel : kd_ 146 5 = ((0, 0, 0, []), 6))).trans ?_
  refine (g_81 (by decide +kernel : kd_ 146 6 = ((81, 40, 2, []), 9)) rfl rfl rfl).trans ?_
  refine n_aftv hw ?_
  refine (g_3 (by decide +kernel : kd_ 146 9 = ((3, 0, 0, []), 10)) rfl).trans ?_
  refine (g_0 (by decide +kernel : kd_ 146 10 = ((0, 1, 0, []), 11))).trans ?_
  refine (g_81 (by decide +kernel : kd_ 146 11 = ((81, 40, 2, []), 14)) rfl rfl rfl).trans ?_
  refine n_aftv hh ?_
  refine (g_82 (by decide +kernel : kd_ 146 14 = ((82, 124, 3, []), 17)) rfl rfl rfl).trans ?_
  refine n_aft hC1 ?_
  refine (g_5 (ls' := [.ref 0, .ref 1, .retAddr 0, .retAddr 0, .retAddr 0, .retAddr 0, .retAddr 0]) (by decide +kernel : kd_ 146 17 = ((5, 1, 0, []), 18)) rfl rfl).trans ?_
  refine (n_70 (by decide +kernel : kd_ 146 18 = ((70, 7, 39, [0, 0, 0, 0, 2, 0, 2, 2, 0, 2, 2, 2, 2, 2, 0, 2, 0, 2, 0, 2, 2, 2, 2, 0, 2, 2, 2, 2, 2, 2, 2, 2, 2, 2, 2, 2, 2, 2, 2]), 21)) rfl).trans ?_
  refine (g_25 (by decide +kernel : kd_ 146 21 = ((25, 0, 0, []), 22)) rfl).trans ?_
  refine (g_3 (by decide +kernel : kd_ 146 22 = ((3, 0, 0, []), 23)) rfl).trans ?_
  refine (g_0 (by decide +kernel : kd_ 146 23 = ((0, 0, 0, []), 24))).trans ?_
  refine (g_81 (by decide +kernel : kd_ 146 24 = ((81, 40, 2, []), 27)) rfl rfl rfl).trans ?_
  refine n_aftv hw2 ?_
  refine (g_3 (by decide +kernel : kd_ 146 27 = ((3, 0, 0, []), 28)) rfl).trans ?_
  refine (g_0 (by decide +kernel : kd_ 146 28 = ((0, 1, 0, []), 29))).trans ?_
  refine (g_81 (by decide +kernel : kd_ 146 29 = ((81, 40, 2, []), 32)) rfl rfl rfl).trans ?_
  refine n_aftv hh2 ?_
  refine (g_82 (by decide +kernel : kd_ 146 32 = ((82, 41, 3, []), 35)) rfl rfl rfl).trans ?_
  refine n_aft hM ?_
  refine (g_5 (ls' := [.ref 0, .ref 1, .ref 206, .retAddr 0, .retAddr 0, .retAddr 0, .retAddr 0]) (by decide +kernel : kd_ 146 35 = ((5, 2, 0, []), 36)) rfl rfl).trans ?_
  refine (g_0 (by decide +kernel : kd_ 146 36 = ((0, 1, 0, []), 37))).trans ?_
  refine (n_72 (by decide +kernel : kd_ 146 37 = ((72, 2, 0, []), 39)) (by decide)).trans ?_
  refine (g_5 (ls' := [.ref 0, .ref 1, .ref 206, .ref 236, .retAddr 0, .retAddr 0, .retAddr 0]) (by decide +kernel : kd_ 146 39 = ((5, 3, 0, []), 40)) rfl rfl).trans ?_
  refine (g_0 (by decide +kernel : kd_ 146 40 = ((0, 2, 0, []), 41))).trans ?_
  exact g_4 (ls' := [.ref 0, .ref 1, .ref 206, .ref 236, .int (nI 2), .retAddr 0, .retAddr 0]) (by decide +kernel : kd_ 146 41 = ((4, 4, 0, []), 43)) rfl rfl
