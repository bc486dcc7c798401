theorem cj_ev_nil {a : Nat} (h : kc_ a = []) {as : List Value} {M : cj_M} {r : cj_O × cj_M} (he : cj_ev a as M = some r) : False := by
  obtain ⟨n, hn⟩ := cj_res_iff.mp he
  cases n with
  | zero => simp [cj_run] at hn
  | succ n =>
    have hk : kd_ a 0 = ((86, 0, 0, []), 0) := by unfold kd_; rw [h]; rfl
    unfold cj_run at hn
    rw [hk, if_neg (by decide), if_neg (by decide), if_neg (by unfold cj_gq; simp [cj_rcv])] at hn
    cases hn
theorem cj_junk {l : Launch} {a : Nat} (h : kc_ a = []) : cj_Cn l a := by
  intro D tys ad sz as M out M' _ _ _ _ he
  exact (cj_ev_nil h he).elim
set_option maxRecDepth 100000 in
theorem pty_0 : Cond.arrayClass FieldType.int ∈ lw_kw := (cj_kwm (List.mem_of_getElem? (i := 109) rfl) rfl)
set_option maxRecDepth 100000 in
theorem pty_1 : Cond.arrayClass FieldType.char ∈ lw_kw := (cj_kwm (List.mem_of_getElem? (i := 85) rfl) rfl)
set_option maxRecDepth 100000 in
theorem pty_2 : Cond.arrayClass FieldType.long ∈ lw_kw := (cj_kwm (List.mem_of_getElem? (i := 1052) rfl) rfl)
set_option maxRecDepth 100000 in
theorem qty_0 : Cond.arrayOver (.object "CatalogueSet$Signs") ∈ lw_kw := (cj_kwm (List.mem_of_getElem? (i := 86) rfl) rfl)
set_option maxRecDepth 100000 in
theorem qty_1 : Cond.arrayOver (.object "CatalogueSet$Entry") ∈ lw_kw := (cj_kwm (List.mem_of_getElem? (i := 88) rfl) rfl)
set_option maxRecDepth 100000 in
theorem qty_2 : Cond.arrayOver (.object "CatalogueSet$Block") ∈ lw_kw := (cj_kwm (List.mem_of_getElem? (i := 166) rfl) rfl)
theorem pty_in : ∀ t ∈ [FieldType.int, FieldType.char, FieldType.long], Cond.arrayClass t ∈ lw_kw := (List.forall_mem_cons.mpr ⟨pty_0, (List.forall_mem_cons.mpr ⟨pty_1, (List.forall_mem_cons.mpr ⟨pty_2, (fun _ h => absurd h List.not_mem_nil)⟩)⟩)⟩)
theorem qty_in : ∀ C ∈ ["CatalogueSet$Signs", "CatalogueSet$Entry", "CatalogueSet$Block"], Cond.arrayOver (.object C) ∈ lw_kw := (List.forall_mem_cons.mpr ⟨qty_0, (List.forall_mem_cons.mpr ⟨qty_1, (List.forall_mem_cons.mpr ⟨qty_2, (fun _ h => absurd h List.not_mem_nil)⟩)⟩)⟩)
set_option maxRecDepth 100000 in
theorem cls_0 : Cond.instantiable RK_0 11 ∈ lw_kw := (cj_kwm (List.mem_of_getElem? (i := 58) rfl) rfl)
set_option maxRecDepth 100000 in
theorem cls_1 : Cond.instantiable RK_1 4 ∈ lw_kw := (cj_kwm (List.mem_of_getElem? (i := 167) rfl) rfl)
set_option maxRecDepth 100000 in
theorem cls_2 : Cond.instantiable RK_2 4 ∈ lw_kw := (cj_kwm (List.mem_of_getElem? (i := 89) rfl) rfl)
set_option maxRecDepth 100000 in
theorem cls_3 : Cond.instantiable RK_3 6 ∈ lw_kw := (cj_kwm (List.mem_of_getElem? (i := 119) rfl) rfl)
set_option maxRecDepth 100000 in
theorem cls_4 : Cond.instantiable RK_4 5 ∈ lw_kw := (cj_kwm (List.mem_of_getElem? (i := 111) rfl) rfl)
set_option maxRecDepth 100000 in
theorem cls_5 : Cond.instantiable RK_5 10 ∈ lw_kw := (cj_kwm (List.mem_of_getElem? (i := 160) rfl) rfl)
set_option maxRecDepth 100000 in
theorem cls_6 : Cond.instantiable RK_6 2 ∈ lw_kw := (cj_kwm (List.mem_of_getElem? (i := 72) rfl) rfl)
set_option maxRecDepth 100000 in
theorem cls_7 : Cond.instantiable RK_7 39 ∈ lw_kw := (cj_kwm (List.mem_of_getElem? (i := 769) rfl) rfl)
theorem cls_in : ∀ q ∈ kcl_, (∀ w ∈ u_ws q.1 q.2.1 q.2.2, w ∈ lw_kw) ∧ Cond.instantiable q.1 q.2.2 ∈ lw_kw := (List.forall_mem_cons.mpr ⟨⟨inK_0, cls_0⟩, (List.forall_mem_cons.mpr ⟨⟨inK_1, cls_1⟩, (List.forall_mem_cons.mpr ⟨⟨inK_2, cls_2⟩, (List.forall_mem_cons.mpr ⟨⟨inK_3, cls_3⟩, (List.forall_mem_cons.mpr ⟨⟨inK_4, cls_4⟩, (List.forall_mem_cons.mpr ⟨⟨inK_5, cls_5⟩, (List.forall_mem_cons.mpr ⟨⟨inK_6, cls_6⟩, (List.forall_mem_cons.mpr ⟨⟨inK_7, cls_7⟩, (fun _ h => absurd h List.not_mem_nil)⟩)⟩)⟩)⟩)⟩)⟩)⟩)⟩)
set_option maxRecDepth 100000 in
theorem lays_0 : Cond.laysStatic "java/lang/Throwable" "UNASSIGNED_STACK" "[Ljava/lang/StackTraceElement;" ∈ lw_tbl := List.mem_of_getElem? (i := 484) rfl
set_option maxRecDepth 100000 in
theorem lays_1 : Cond.laysStatic "java/lang/Throwable" "SUPPRESSED_SENTINEL" "Ljava/util/List;" ∈ lw_tbl := List.mem_of_getElem? (i := 486) rfl
set_option maxRecDepth 100000 in
theorem cn_of {l : Launch} (hl : l.stackTraces = false) (a : Nat) : (km_ a).1 < 7 → (∀ b, (km_ b).1 < (km_ a).1 → cj_Cn l b) → cj_Cn l a := match a with
  | 0 => fun _ h => cj_contract mi_0 (vm_0 hl) h
  | 1 => fun _ h => cj_contract mi_1 (vm_1 hl) h
  | 2 => fun _ h => cj_contract mi_2 (vm_2 hl) h
  | 3 => fun _ h => cj_contract mi_3 (vm_3 hl) h
  | 4 => fun _ h => cj_contract mi_4 (vm_4 hl) h
  | 5 => fun _ h => cj_contract mi_5 (vm_5 hl) h
  | 6 => fun _ h => cj_contract mi_6 (vm_6 hl) h
  | 7 => fun _ h => cj_contract mi_7 (vm_7 hl) h
  | 8 => fun _ h => cj_contract mi_8 (vm_8 hl) h
  | 9 => fun _ h => cj_contract mi_9 (vm_9 hl) h
  | 10 => fun _ h => cj_contract mi_10 (vm_10 hl) h
  | 11 => fun _ h => cj_contract mi_11 (vm_11 hl) h
  | 12 => fun _ h => cj_contract mi_12 (vm_12 hl) h
  | 13 => fun _ h => cj_contract mi_13 (vm_13 hl) h
  | 14 => fun _ h => cj_contract mi_14 (vm_14 hl) h
  | 15 => fun _ h => cj_contract mi_15 (vm_15 hl) h
  | 16 => fun _ h => cj_contract mi_16 (vm_16 hl) h
  | 17 => fun _ h => cj_contract mi_17 (vm_17 hl) h
  | 18 => fun _ h => cj_contract mi_18 (vm_18 hl) h
  | 19 => fun _ h => cj_contract mi_19 (vm_19 hl) h
  | 20 => fun _ h => cj_contract mi_20 (vm_20 hl) h
  | 21 => fun _ h => cj_contract mi_21 (vm_21 hl) h
  | 22 => fun _ h => cj_contract mi_22 (vm_22 hl) h
  | 23 => fun _ h => cj_contract mi_23 (vm_23 hl) h
  | 24 => fun _ h => cj_contract mi_24 (vm_24 hl) h
  | 25 => fun _ h => cj_contract mi_25 (vm_25 hl) h
  | 26 => fun _ h => cj_contract mi_26 (vm_26 hl) h
  | 27 => fun _ h => cj_contract mi_27 (vm_27 hl) h
  | 28 => fun _ h => cj_contract mi_28 (vm_28 hl) h
  | 29 => fun _ h => cj_contract mi_29 (vm_29 hl) h
  | 30 => fun _ h => cj_contract mi_30 (vm_30 hl) h
  | 31 => fun _ h => cj_contract mi_31 (vm_31 hl) h
  | 32 => fun _ h => cj_contract mi_32 (vm_32 hl) h
  | 33 => fun _ h => cj_contract mi_33 (vm_33 hl) h
  | 34 => fun _ h => cj_contract mi_34 (vm_34 hl) h
  | 35 => fun _ h => cj_contract mi_35 (vm_35 hl) h
  | 36 => fun _ h => cj_contract mi_36 (vm_36 hl) h
  | 37 => fun _ h => cj_contract mi_37 (vm_37 hl) h
  | 38 => fun _ h => cj_contract mi_38 (vm_38 hl) h
  | 39 => fun _ h => cj_contract mi_39 (vm_39 hl) h
  | 40 => fun _ h => cj_contract mi_40 (vm_40 hl) h
  | 41 => fun _ h => cj_contract mi_41 (vm_41 hl) h
  | 42 => fun _ h => cj_contract mi_42 (vm_42 hl) h
  | 43 => fun _ h => cj_contract mi_43 (vm_43 hl) h
  | 44 => fun _ h => cj_contract mi_44 (vm_44 hl) h
  | 45 => fun _ h => cj_contract mi_45 (vm_45 hl) h
  | 46 => fun _ h => cj_contract mi_46 (vm_46 hl) h
  | 47 => fun _ h => cj_contract mi_47 (vm_47 hl) h
  | 48 => fun _ h => cj_contract mi_48 (vm_48 hl) h
  | 49 => fun _ h => cj_contract mi_49 (vm_49 hl) h
  | 50 => fun _ h => cj_contract mi_50 (vm_50 hl) h
  | 51 => fun _ h => cj_contract mi_51 (vm_51 hl) h
  | 52 => fun _ h => cj_contract mi_52 (vm_52 hl) h
  | 53 => fun _ h => cj_contract mi_53 (vm_53 hl) h
  | 54 => fun _ h => cj_contract mi_54 (vm_54 hl) h
  | 55 => fun _ h => cj_contract mi_55 (vm_55 hl) h
  | 56 => fun _ h => cj_contract mi_56 (vm_56 hl) h
  | 57 => fun _ h => cj_contract mi_57 (vm_57 hl) h
  | 58 => fun _ h => cj_contract mi_58 (vm_58 hl) h
  | 59 => fun _ h => cj_contract mi_59 (vm_59 hl) h
  | 60 => fun _ h => cj_contract mi_60 (vm_60 hl) h
  | 61 => fun _ h => cj_contract mi_61 (vm_61 hl) h
  | 62 => fun _ h => cj_contract mi_62 (vm_62 hl) h
  | 63 => fun _ h => cj_contract mi_63 (vm_63 hl) h
  | 64 => fun _ h => cj_contract mi_64 (vm_64 hl) h
  | 65 => fun _ h => cj_contract mi_65 (vm_65 hl) h
  | 66 => fun _ h => cj_contract mi_66 (vm_66 hl) h
  | 67 => fun _ h => cj_contract mi_67 (vm_67 hl) h
  | 68 => fun _ h => cj_contract mi_68 (vm_68 hl) h
  | 69 => fun _ h => cj_contract mi_69 (vm_69 hl) h
  | 70 => fun _ h => cj_contract mi_70 (vm_70 hl) h
  | 71 => fun _ h => cj_contract mi_71 (vm_71 hl) h
  | 72 => fun _ h => cj_contract mi_72 (vm_72 hl) h
  | 73 => fun _ h => cj_contract mi_73 (vm_73 hl) h
  | 74 => fun _ h => cj_contract mi_74 (vm_74 hl) h
  | 75 => fun _ h => cj_contract mi_75 (vm_75 hl) h
  | 76 => fun _ h => cj_contract mi_76 (vm_76 hl) h
  | 77 => fun _ h => cj_contract mi_77 (vm_77 hl) h
  | 78 => fun _ h => cj_contract mi_78 (vm_78 hl) h
  | 79 => fun _ h => cj_contract mi_79 (vm_79 hl) h
  | 80 => fun _ h => cj_contract mi_80 (vm_80 hl) h
  | 81 => fun _ h => cj_contract mi_81 (vm_81 hl) h
  | 82 => fun _ h => cj_contract mi_82 (vm_82 hl) h
  | 83 => fun _ h => cj_contract mi_83 (vm_83 hl) h
  | 84 => fun _ h => cj_contract mi_84 (vm_84 hl) h
  | 85 => fun _ h => cj_contract mi_85 (vm_85 hl) h
  | 86 => fun _ h => cj_contract mi_86 (vm_86 hl) h
  | 87 => fun _ h => cj_contract mi_87 (vm_87 hl) h
  | 88 => fun _ h => cj_contract mi_88 (vm_88 hl) h
  | 89 => fun _ h => cj_contract mi_89 (vm_89 hl) h
  | 90 => fun _ h => cj_contract mi_90 (vm_90 hl) h
  | 91 => fun _ h => cj_contract mi_91 (vm_91 hl) h
  | 92 => fun _ h => cj_contract mi_92 (vm_92 hl) h
  | 93 => fun _ h => cj_contract mi_93 (vm_93 hl) h
  | 94 => fun _ h => cj_contract mi_94 (vm_94 hl) h
  | 95 => fun _ h => cj_contract mi_95 (vm_95 hl) h
  | 96 => fun _ h => cj_contract mi_96 (vm_96 hl) h
  | 97 => fun _ h => cj_contract mi_97 (vm_97 hl) h
  | 98 => fun _ h => cj_contract mi_98 (vm_98 hl) h
  | 99 => fun _ h => cj_contract mi_99 (vm_99 hl) h
  | 100 => fun _ h => cj_contract mi_100 (vm_100 hl) h
  | 101 => fun _ h => cj_contract mi_101 (vm_101 hl) h
  | 102 => fun _ h => cj_contract mi_102 (vm_102 hl) h
  | 103 => fun _ h => cj_contract mi_103 (vm_103 hl) h
  | 104 => fun _ h => cj_contract mi_104 (vm_104 hl) h
  | 105 => fun _ h => cj_contract mi_105 (vm_105 hl) h
  | 106 => fun _ h => cj_contract mi_106 (vm_106 hl) h
  | 107 => fun _ h => cj_contract mi_107 (vm_107 hl) h
  | 108 => fun _ h => cj_contract mi_108 (vm_108 hl) h
  | 109 => fun _ h => cj_contract mi_109 (vm_109 hl) h
  | 110 => fun _ h => cj_contract mi_110 (vm_110 hl) h
  | 111 => fun _ h => cj_contract mi_111 (vm_111 hl) h
  | 112 => fun _ h => cj_contract mi_112 (vm_112 hl) h
  | 113 => fun _ h => cj_contract mi_113 (vm_113 hl) h
  | 114 => fun _ h => cj_contract mi_114 (vm_114 hl) h
  | 115 => fun _ h => cj_contract mi_115 (vm_115 hl) h
  | 116 => fun _ h => cj_contract mi_116 (vm_116 hl) h
  | 117 => fun _ h => cj_contract mi_117 (vm_117 hl) h
  | 118 => fun _ h => cj_contract mi_118 (vm_118 hl) h
  | 119 => fun _ h => cj_contract mi_119 (vm_119 hl) h
  | 120 => fun _ h => cj_contract mi_120 (vm_120 hl) h
  | 121 => fun _ h => cj_contract mi_121 (vm_121 hl) h
  | 122 => fun _ h => cj_contract mi_122 (vm_122 hl) h
  | 123 => fun _ h => cj_contract mi_123 (vm_123 hl) h
  | 124 => fun _ h => cj_contract mi_124 (vm_124 hl) h
  | 125 => fun _ h => cj_contract mi_125 (vm_125 hl) h
  | 126 => fun _ h => cj_contract mi_126 (vm_126 hl) h
  | 127 => fun _ h => cj_contract mi_127 (vm_127 hl) h
  | 128 => fun _ h => cj_contract mi_128 (vm_128 hl) h
  | 129 => fun _ h => cj_contract mi_129 (vm_129 hl) h
  | 130 => fun _ h => cj_contract mi_130 (vm_130 hl) h
  | 131 => fun _ h => cj_contract mi_131 (vm_131 hl) h
  | 132 => fun _ h => cj_contract mi_132 (vm_132 hl) h
  | 133 => fun _ h => cj_contract mi_133 (vm_133 hl) h
  | 134 => fun _ h => cj_contract mi_134 (vm_134 hl) h
  | 135 => fun _ h => cj_contract mi_135 (vm_135 hl) h
  | 136 => fun _ h => cj_contract mi_136 (vm_136 hl) h
  | 137 => fun _ h => cj_contract mi_137 (vm_137 hl) h
  | 138 => fun _ h => cj_contract mi_138 (vm_138 hl) h
  | 139 => fun _ h => cj_contract mi_139 (vm_139 hl) h
  | 140 => fun _ h => cj_contract mi_140 (vm_140 hl) h
  | 141 => fun _ h => cj_contract mi_141 (vm_141 hl) h
  | 142 => fun _ h => cj_contract mi_142 (vm_142 hl) h
  | 143 => fun _ h => cj_contract mi_143 (vm_143 hl) h
  | 144 => fun _ h => cj_contract mi_144 (vm_144 hl) h
  | 145 => fun _ h => cj_contract mi_145 (vm_145 hl) h
  | 146 => fun h _ => absurd h (by decide)
  | k + 147 => fun _ _ => cj_junk rfl
