/-! what the claim says of the tables: words by their places, instructions decoded -/
theorem goodIn_q (ws : List Cond) (ps : List Nat) (h : ws = ps.filterMap (fun i => lw_tbl[i]?)) : ∀ w ∈ ws, w ∈ lw_tbl := by
  intro w hw
  rw [h] at hw
  obtain ⟨i, -, hi⟩ := List.mem_filterMap.mp hw
  exact List.mem_of_getElem? hi
theorem nmK_0 : ∀ a, a < 11 → ∀ b, b < 11 → a ≠ b → (TK_0 a).2.1 ≠ (TK_0 b).2.1 := by decide +kernel
theorem tyK_0_ok : ∀ k, k < 11 → parseFieldDescriptor (TK_0 k).2.2.1 = some (tyK_0 k) := by decide +kernel
set_option maxRecDepth 100000 in
theorem inK_0 : ∀ w ∈ u_ws RK_0 TK_0 11, w ∈ lw_kw := fun w h => cj_kwm (goodIn_q (u_ws RK_0 TK_0 11) [229, 231, 233, 235, 237, 239, 241, 243, 245, 247, 249] rfl w h) (List.all_eq_true.mp (show (u_ws RK_0 TK_0 11).all cj_kw = true by decide +kernel) w h)
theorem nmK_1 : ∀ a, a < 4 → ∀ b, b < 4 → a ≠ b → (TK_1 a).2.1 ≠ (TK_1 b).2.1 := by decide +kernel
theorem tyK_1_ok : ∀ k, k < 4 → parseFieldDescriptor (TK_1 k).2.2.1 = some (tyK_1 k) := by decide +kernel
set_option maxRecDepth 100000 in
theorem inK_1 : ∀ w ∈ u_ws RK_1 TK_1 4, w ∈ lw_kw := fun w h => cj_kwm (goodIn_q (u_ws RK_1 TK_1 4) [178, 180, 182, 184] rfl w h) (List.all_eq_true.mp (show (u_ws RK_1 TK_1 4).all cj_kw = true by decide +kernel) w h)
theorem nmK_2 : ∀ a, a < 4 → ∀ b, b < 4 → a ≠ b → (TK_2 a).2.1 ≠ (TK_2 b).2.1 := by decide +kernel
theorem tyK_2_ok : ∀ k, k < 4 → parseFieldDescriptor (TK_2 k).2.2.1 = some (tyK_2 k) := by decide +kernel
set_option maxRecDepth 100000 in
theorem inK_2 : ∀ w ∈ u_ws RK_2 TK_2 4, w ∈ lw_kw := fun w h => cj_kwm (goodIn_q (u_ws RK_2 TK_2 4) [100, 102, 104, 106] rfl w h) (List.all_eq_true.mp (show (u_ws RK_2 TK_2 4).all cj_kw = true by decide +kernel) w h)
theorem nmK_3 : ∀ a, a < 6 → ∀ b, b < 6 → a ≠ b → (TK_3 a).2.1 ≠ (TK_3 b).2.1 := by decide +kernel
theorem tyK_3_ok : ∀ k, k < 6 → parseFieldDescriptor (TK_3 k).2.2.1 = some (tyK_3 k) := by decide +kernel
set_option maxRecDepth 100000 in
theorem inK_3 : ∀ w ∈ u_ws RK_3 TK_3 6, w ∈ lw_kw := fun w h => cj_kwm (goodIn_q (u_ws RK_3 TK_3 6) [130, 132, 134, 136, 138, 140] rfl w h) (List.all_eq_true.mp (show (u_ws RK_3 TK_3 6).all cj_kw = true by decide +kernel) w h)
theorem nmK_4 : ∀ a, a < 5 → ∀ b, b < 5 → a ≠ b → (TK_4 a).2.1 ≠ (TK_4 b).2.1 := by decide +kernel
theorem tyK_4_ok : ∀ k, k < 5 → parseFieldDescriptor (TK_4 k).2.2.1 = some (tyK_4 k) := by decide +kernel
set_option maxRecDepth 100000 in
theorem inK_4 : ∀ w ∈ u_ws RK_4 TK_4 5, w ∈ lw_kw := fun w h => cj_kwm (goodIn_q (u_ws RK_4 TK_4 5) [148, 150, 152, 154, 156] rfl w h) (List.all_eq_true.mp (show (u_ws RK_4 TK_4 5).all cj_kw = true by decide +kernel) w h)
theorem nmK_5 : ∀ a, a < 10 → ∀ b, b < 10 → a ≠ b → (TK_5 a).2.1 ≠ (TK_5 b).2.1 := by decide +kernel
theorem tyK_5_ok : ∀ k, k < 10 → parseFieldDescriptor (TK_5 k).2.2.1 = some (tyK_5 k) := by decide +kernel
set_option maxRecDepth 100000 in
theorem inK_5 : ∀ w ∈ u_ws RK_5 TK_5 10, w ∈ lw_kw := fun w h => cj_kwm (goodIn_q (u_ws RK_5 TK_5 10) [197, 199, 201, 203, 205, 207, 209, 211, 213, 215] rfl w h) (List.all_eq_true.mp (show (u_ws RK_5 TK_5 10).all cj_kw = true by decide +kernel) w h)
theorem nmK_6 : ∀ a, a < 2 → ∀ b, b < 2 → a ≠ b → (TK_6 a).2.1 ≠ (TK_6 b).2.1 := by decide +kernel
theorem tyK_6_ok : ∀ k, k < 2 → parseFieldDescriptor (TK_6 k).2.2.1 = some (tyK_6 k) := by decide +kernel
set_option maxRecDepth 100000 in
theorem inK_6 : ∀ w ∈ u_ws RK_6 TK_6 2, w ∈ lw_kw := fun w h => cj_kwm (goodIn_q (u_ws RK_6 TK_6 2) [80, 82] rfl w h) (List.all_eq_true.mp (show (u_ws RK_6 TK_6 2).all cj_kw = true by decide +kernel) w h)
theorem nmK_7 : ∀ a, a < 39 → ∀ b, b < 39 → a ≠ b → (TK_7 a).2.1 ≠ (TK_7 b).2.1 := by decide +kernel
theorem tyK_7_ok : ∀ k, k < 39 → parseFieldDescriptor (TK_7 k).2.2.1 = some (tyK_7 k) := by decide +kernel
set_option maxRecDepth 100000 in
theorem inK_7 : ∀ w ∈ u_ws RK_7 TK_7 39, w ∈ lw_kw := fun w h => cj_kwm (goodIn_q (u_ws RK_7 TK_7 39) [813, 815, 817, 819, 821, 823, 825, 827, 829, 831, 833, 835, 837, 839, 841, 843, 845, 847, 849, 851, 853, 855, 857, 859, 861, 863, 865, 867, 869, 871, 873, 875, 877, 879, 881, 883, 885, 887, 889] rfl w h) (List.all_eq_true.mp (show (u_ws RK_7 TK_7 39).all cj_kw = true by decide +kernel) w h)
set_option maxRecDepth 100000 in
theorem wm_0 : ((Jvm.Cond.initialized "CatalogueSetLaw") : Cond) ∈ lw_kw := cj_kwm (List.mem_of_getElem? (i := 41) rfl) rfl
set_option maxRecDepth 100000 in
theorem wm_1 : ((Jvm.Cond.initialized "CatalogueSet") : Cond) ∈ lw_kw := cj_kwm (List.mem_of_getElem? (i := 42) rfl) rfl
set_option maxRecDepth 100000 in
theorem wm_2 : ((Jvm.Cond.initialized "java/lang/Math") : Cond) ∈ lw_kw := cj_kwm (List.mem_of_getElem? (i := 43) rfl) rfl
set_option maxRecDepth 100000 in
theorem wm_3 : ((Jvm.Cond.initialized "CatalogueSet$Signs") : Cond) ∈ lw_kw := cj_kwm (List.mem_of_getElem? (i := 44) rfl) rfl
set_option maxRecDepth 100000 in
theorem wm_4 : ((Jvm.Cond.initialized "CatalogueSet$Entry") : Cond) ∈ lw_kw := cj_kwm (List.mem_of_getElem? (i := 45) rfl) rfl
set_option maxRecDepth 100000 in
theorem wm_5 : ((Jvm.Cond.initialized "CatalogueSet$Press") : Cond) ∈ lw_kw := cj_kwm (List.mem_of_getElem? (i := 46) rfl) rfl
set_option maxRecDepth 100000 in
theorem wm_6 : ((Jvm.Cond.initialized "CatalogueSet$Filling") : Cond) ∈ lw_kw := cj_kwm (List.mem_of_getElem? (i := 47) rfl) rfl
set_option maxRecDepth 100000 in
theorem wm_7 : ((Jvm.Cond.initialized "CatalogueSet$Setting") : Cond) ∈ lw_kw := cj_kwm (List.mem_of_getElem? (i := 48) rfl) rfl
set_option maxRecDepth 100000 in
theorem wm_8 : ((Jvm.Cond.initialized "CatalogueSet$Block") : Cond) ∈ lw_kw := cj_kwm (List.mem_of_getElem? (i := 49) rfl) rfl
set_option maxRecDepth 100000 in
theorem wm_9 : ((Jvm.Cond.initialized "CatalogueSetModel") : Cond) ∈ lw_kw := cj_kwm (List.mem_of_getElem? (i := 50) rfl) rfl
set_option maxRecDepth 100000 in
theorem wm_13 : ((Jvm.Cond.initialized "java/lang/IllegalStateException") : Cond) ∈ lw_kw := cj_kwm (List.mem_of_getElem? (i := 54) rfl) rfl
set_option maxRecDepth 100000 in
theorem wm_14 : ((Jvm.Cond.initialized "java/lang/IllegalArgumentException") : Cond) ∈ lw_kw := cj_kwm (List.mem_of_getElem? (i := 55) rfl) rfl
set_option maxRecDepth 100000 in
theorem wm_15 : ((Jvm.Cond.initialized "java/lang/IndexOutOfBoundsException") : Cond) ∈ lw_kw := cj_kwm (List.mem_of_getElem? (i := 56) rfl) rfl
set_option maxRecDepth 100000 in
theorem wm_16 : ((Jvm.Cond.classLink "CatalogueSetLaw" (8 : Nat) "CatalogueSet") : Cond) ∈ lw_kw := cj_kwm (List.mem_of_getElem? (i := 57) rfl) rfl
set_option maxRecDepth 100000 in
theorem wm_17 : ((Jvm.Cond.instantiable "CatalogueSet" (11 : Nat)) : Cond) ∈ lw_kw := cj_kwm (List.mem_of_getElem? (i := 58) rfl) rfl
set_option maxRecDepth 100000 in
theorem wm_18 : ((Jvm.Cond.methodLink "CatalogueSetLaw" (64 : Nat) ({ cls := "CatalogueSet", name := "<init>", desc := "(II)V" } : Jvm.MethodName)) : Cond) ∈ lw_kw := cj_kwm (List.mem_of_getElem? (i := 59) rfl) rfl
set_option maxRecDepth 100000 in
theorem wm_19 : ((Jvm.Cond.instanceMethod ({ cls := "CatalogueSet", name := "<init>", desc := "(II)V" } : Jvm.MethodName)) : Cond) ∈ lw_kw := cj_kwm (List.mem_of_getElem? (i := 60) rfl) rfl
set_option maxRecDepth 100000 in
theorem wm_20 : ((Jvm.Cond.code ({ cls := "CatalogueSet", name := "<init>", desc := "(II)V" } : Jvm.MethodName) prog_1_method_1_code (4 : Nat) (Option.none : Option Jvm.ClassFile.FieldType)) : Cond) ∈ lw_kw := cj_kwm (List.mem_of_getElem? (i := 61) rfl) rfl
set_option maxRecDepth 100000 in
theorem wm_21 : ((Jvm.Cond.methodLink "CatalogueSet" (3 : Nat) ({ cls := "java/lang/Object", name := "<init>", desc := "()V" } : Jvm.MethodName)) : Cond) ∈ lw_kw := cj_kwm (List.mem_of_getElem? (i := 62) rfl) rfl
set_option maxRecDepth 100000 in
theorem wm_22 : ((Jvm.Cond.instanceMethod ({ cls := "java/lang/Object", name := "<init>", desc := "()V" } : Jvm.MethodName)) : Cond) ∈ lw_kw := cj_kwm (List.mem_of_getElem? (i := 63) rfl) rfl
set_option maxRecDepth 100000 in
theorem wm_23 : ((Jvm.Cond.code ({ cls := "java/lang/Object", name := "<init>", desc := "()V" } : Jvm.MethodName) object_method_1_code (1 : Nat) (Option.none : Option Jvm.ClassFile.FieldType)) : Cond) ∈ lw_kw := cj_kwm (List.mem_of_getElem? (i := 64) rfl) rfl
set_option maxRecDepth 100000 in
theorem wm_24 : ((Jvm.Cond.methodLink "CatalogueSet" (9 : Nat) ({ cls := "java/lang/Math", name := "min", desc := "(II)I" } : Jvm.MethodName)) : Cond) ∈ lw_kw := cj_kwm (List.mem_of_getElem? (i := 65) rfl) rfl
set_option maxRecDepth 100000 in
theorem wm_25 : ((Jvm.Cond.static ({ cls := "java/lang/Math", name := "min", desc := "(II)I" } : Jvm.MethodName)) : Cond) ∈ lw_kw := cj_kwm (List.mem_of_getElem? (i := 66) rfl) rfl
set_option maxRecDepth 100000 in
theorem wm_26 : ((Jvm.Cond.code ({ cls := "java/lang/Math", name := "min", desc := "(II)I" } : Jvm.MethodName) prog_14_method_69_code (2 : Nat) (Option.some Jvm.ClassFile.FieldType.int)) : Cond) ∈ lw_kw := cj_kwm (List.mem_of_getElem? (i := 67) rfl) rfl
set_option maxRecDepth 100000 in
theorem wm_27 : ((Jvm.Cond.methodLink "CatalogueSet" (15 : Nat) ({ cls := "java/lang/Math", name := "max", desc := "(II)I" } : Jvm.MethodName)) : Cond) ∈ lw_kw := cj_kwm (List.mem_of_getElem? (i := 68) rfl) rfl
set_option maxRecDepth 100000 in
theorem wm_28 : ((Jvm.Cond.static ({ cls := "java/lang/Math", name := "max", desc := "(II)I" } : Jvm.MethodName)) : Cond) ∈ lw_kw := cj_kwm (List.mem_of_getElem? (i := 69) rfl) rfl
set_option maxRecDepth 100000 in
theorem wm_29 : ((Jvm.Cond.code ({ cls := "java/lang/Math", name := "max", desc := "(II)I" } : Jvm.MethodName) prog_14_method_65_code (2 : Nat) (Option.some Jvm.ClassFile.FieldType.int)) : Cond) ∈ lw_kw := cj_kwm (List.mem_of_getElem? (i := 70) rfl) rfl
set_option maxRecDepth 100000 in
theorem wm_30 : ((Jvm.Cond.classLink "CatalogueSet" (22 : Nat) "CatalogueSet$Signs") : Cond) ∈ lw_kw := cj_kwm (List.mem_of_getElem? (i := 71) rfl) rfl
set_option maxRecDepth 100000 in
theorem wm_31 : ((Jvm.Cond.instantiable "CatalogueSet$Signs" (2 : Nat)) : Cond) ∈ lw_kw := cj_kwm (List.mem_of_getElem? (i := 72) rfl) rfl
set_option maxRecDepth 100000 in
theorem wm_32 : ((Jvm.Cond.methodLink "CatalogueSet" (24 : Nat) ({ cls := "CatalogueSet$Signs", name := "<init>", desc := "(I)V" } : Jvm.MethodName)) : Cond) ∈ lw_kw := cj_kwm (List.mem_of_getElem? (i := 73) rfl) rfl
set_option maxRecDepth 100000 in
theorem wm_33 : ((Jvm.Cond.instanceMethod ({ cls := "CatalogueSet$Signs", name := "<init>", desc := "(I)V" } : Jvm.MethodName)) : Cond) ∈ lw_kw := cj_kwm (List.mem_of_getElem? (i := 74) rfl) rfl
set_option maxRecDepth 100000 in
theorem wm_34 : ((Jvm.Cond.code ({ cls := "CatalogueSet$Signs", name := "<init>", desc := "(I)V" } : Jvm.MethodName) prog_7_method_1_code (2 : Nat) (Option.none : Option Jvm.ClassFile.FieldType)) : Cond) ∈ lw_kw := cj_kwm (List.mem_of_getElem? (i := 75) rfl) rfl
set_option maxRecDepth 100000 in
theorem wm_35 : ((Jvm.Cond.methodLink "CatalogueSet$Signs" (3 : Nat) ({ cls := "java/lang/Object", name := "<init>", desc := "()V" } : Jvm.MethodName)) : Cond) ∈ lw_kw := cj_kwm (List.mem_of_getElem? (i := 76) rfl) rfl
set_option maxRecDepth 100000 in
theorem wm_36 : ((Jvm.Cond.methodLink "CatalogueSet$Signs" (9 : Nat) ({ cls := "java/lang/Math", name := "max", desc := "(II)I" } : Jvm.MethodName)) : Cond) ∈ lw_kw := cj_kwm (List.mem_of_getElem? (i := 77) rfl) rfl
set_option maxRecDepth 100000 in
theorem wm_37 : ((Jvm.Cond.fieldLink "CatalogueSet$Signs" (15 : Nat) "CatalogueSet$Signs" "row" "[C") : Cond) ∈ lw_kw := cj_kwm (List.mem_of_getElem? (i := 78) rfl) rfl
set_option maxRecDepth 100000 in
theorem wm_38 : ((Jvm.Cond.fieldLink "CatalogueSet$Signs" (21 : Nat) "CatalogueSet$Signs" "size" "I") : Cond) ∈ lw_kw := cj_kwm (List.mem_of_getElem? (i := 79) rfl) rfl
set_option maxRecDepth 100000 in
theorem wm_44 : ((Jvm.Cond.arrayClass Jvm.ClassFile.FieldType.char) : Cond) ∈ lw_kw := cj_kwm (List.mem_of_getElem? (i := 85) rfl) rfl
set_option maxRecDepth 100000 in
theorem wm_45 : ((Jvm.Cond.arrayOver (Jvm.ClassFile.FieldType.object "CatalogueSet$Signs")) : Cond) ∈ lw_kw := cj_kwm (List.mem_of_getElem? (i := 86) rfl) rfl
set_option maxRecDepth 100000 in
theorem wm_46 : ((Jvm.Cond.classLink "CatalogueSet" (38 : Nat) "CatalogueSet$Entry") : Cond) ∈ lw_kw := cj_kwm (List.mem_of_getElem? (i := 87) rfl) rfl
set_option maxRecDepth 100000 in
theorem wm_47 : ((Jvm.Cond.arrayOver (Jvm.ClassFile.FieldType.object "CatalogueSet$Entry")) : Cond) ∈ lw_kw := cj_kwm (List.mem_of_getElem? (i := 88) rfl) rfl
set_option maxRecDepth 100000 in
theorem wm_48 : ((Jvm.Cond.instantiable "CatalogueSet$Entry" (4 : Nat)) : Cond) ∈ lw_kw := cj_kwm (List.mem_of_getElem? (i := 89) rfl) rfl
set_option maxRecDepth 100000 in
theorem wm_49 : ((Jvm.Cond.methodLink "CatalogueSet" (44 : Nat) ({ cls := "CatalogueSet$Entry", name := "<init>", desc := "()V" } : Jvm.MethodName)) : Cond) ∈ lw_kw := cj_kwm (List.mem_of_getElem? (i := 90) rfl) rfl
set_option maxRecDepth 100000 in
theorem wm_50 : ((Jvm.Cond.instanceMethod ({ cls := "CatalogueSet$Entry", name := "<init>", desc := "()V" } : Jvm.MethodName)) : Cond) ∈ lw_kw := cj_kwm (List.mem_of_getElem? (i := 91) rfl) rfl
set_option maxRecDepth 100000 in
theorem wm_51 : ((Jvm.Cond.code ({ cls := "CatalogueSet$Entry", name := "<init>", desc := "()V" } : Jvm.MethodName) prog_3_method_1_code (2 : Nat) (Option.none : Option Jvm.ClassFile.FieldType)) : Cond) ∈ lw_kw := cj_kwm (List.mem_of_getElem? (i := 92) rfl) rfl
set_option maxRecDepth 100000 in
theorem wm_52 : ((Jvm.Cond.methodLink "CatalogueSet$Entry" (3 : Nat) ({ cls := "java/lang/Object", name := "<init>", desc := "()V" } : Jvm.MethodName)) : Cond) ∈ lw_kw := cj_kwm (List.mem_of_getElem? (i := 93) rfl) rfl
set_option maxRecDepth 100000 in
theorem wm_53 : ((Jvm.Cond.classLink "CatalogueSet$Entry" (9 : Nat) "CatalogueSet$Signs") : Cond) ∈ lw_kw := cj_kwm (List.mem_of_getElem? (i := 94) rfl) rfl
set_option maxRecDepth 100000 in
theorem wm_54 : ((Jvm.Cond.methodLink "CatalogueSet$Entry" (21 : Nat) ({ cls := "CatalogueSet$Signs", name := "<init>", desc := "(I)V" } : Jvm.MethodName)) : Cond) ∈ lw_kw := cj_kwm (List.mem_of_getElem? (i := 95) rfl) rfl
set_option maxRecDepth 100000 in
theorem wm_55 : ((Jvm.Cond.fieldLink "CatalogueSet$Entry" (11 : Nat) "CatalogueSet$Entry" "texts" "[LCatalogueSet$Signs;") : Cond) ∈ lw_kw := cj_kwm (List.mem_of_getElem? (i := 96) rfl) rfl
set_option maxRecDepth 100000 in
theorem wm_56 : ((Jvm.Cond.fieldLink "CatalogueSet$Entry" (17 : Nat) "CatalogueSet$Entry" "claims" "[I") : Cond) ∈ lw_kw := cj_kwm (List.mem_of_getElem? (i := 97) rfl) rfl
set_option maxRecDepth 100000 in
theorem wm_57 : ((Jvm.Cond.fieldLink "CatalogueSet$Entry" (24 : Nat) "CatalogueSet$Entry" "model" "LCatalogueSet$Signs;") : Cond) ∈ lw_kw := cj_kwm (List.mem_of_getElem? (i := 98) rfl) rfl
set_option maxRecDepth 100000 in
theorem wm_58 : ((Jvm.Cond.fieldLink "CatalogueSet$Entry" (28 : Nat) "CatalogueSet$Entry" "pictureHeight" "I") : Cond) ∈ lw_kw := cj_kwm (List.mem_of_getElem? (i := 99) rfl) rfl
set_option maxRecDepth 100000 in
theorem wm_68 : ((Jvm.Cond.arrayClass Jvm.ClassFile.FieldType.int) : Cond) ∈ lw_kw := cj_kwm (List.mem_of_getElem? (i := 109) rfl) rfl
set_option maxRecDepth 100000 in
theorem wm_69 : ((Jvm.Cond.classLink "CatalogueSet" (45 : Nat) "CatalogueSet$Press") : Cond) ∈ lw_kw := cj_kwm (List.mem_of_getElem? (i := 110) rfl) rfl
set_option maxRecDepth 100000 in
theorem wm_70 : ((Jvm.Cond.instantiable "CatalogueSet$Press" (5 : Nat)) : Cond) ∈ lw_kw := cj_kwm (List.mem_of_getElem? (i := 111) rfl) rfl
set_option maxRecDepth 100000 in
theorem wm_71 : ((Jvm.Cond.methodLink "CatalogueSet" (47 : Nat) ({ cls := "CatalogueSet$Press", name := "<init>", desc := "(II)V" } : Jvm.MethodName)) : Cond) ∈ lw_kw := cj_kwm (List.mem_of_getElem? (i := 112) rfl) rfl
set_option maxRecDepth 100000 in
theorem wm_72 : ((Jvm.Cond.instanceMethod ({ cls := "CatalogueSet$Press", name := "<init>", desc := "(II)V" } : Jvm.MethodName)) : Cond) ∈ lw_kw := cj_kwm (List.mem_of_getElem? (i := 113) rfl) rfl
set_option maxRecDepth 100000 in
theorem wm_73 : ((Jvm.Cond.code ({ cls := "CatalogueSet$Press", name := "<init>", desc := "(II)V" } : Jvm.MethodName) prog_5_method_1_code (3 : Nat) (Option.none : Option Jvm.ClassFile.FieldType)) : Cond) ∈ lw_kw := cj_kwm (List.mem_of_getElem? (i := 114) rfl) rfl
set_option maxRecDepth 100000 in
theorem wm_74 : ((Jvm.Cond.methodLink "CatalogueSet$Press" (3 : Nat) ({ cls := "java/lang/Object", name := "<init>", desc := "()V" } : Jvm.MethodName)) : Cond) ∈ lw_kw := cj_kwm (List.mem_of_getElem? (i := 115) rfl) rfl
set_option maxRecDepth 100000 in
theorem wm_75 : ((Jvm.Cond.classLink "CatalogueSet$Press" (9 : Nat) "CatalogueSet$Signs") : Cond) ∈ lw_kw := cj_kwm (List.mem_of_getElem? (i := 116) rfl) rfl
set_option maxRecDepth 100000 in
theorem wm_76 : ((Jvm.Cond.methodLink "CatalogueSet$Press" (11 : Nat) ({ cls := "CatalogueSet$Signs", name := "<init>", desc := "(I)V" } : Jvm.MethodName)) : Cond) ∈ lw_kw := cj_kwm (List.mem_of_getElem? (i := 117) rfl) rfl
set_option maxRecDepth 100000 in
theorem wm_77 : ((Jvm.Cond.classLink "CatalogueSet$Press" (20 : Nat) "CatalogueSet$Filling") : Cond) ∈ lw_kw := cj_kwm (List.mem_of_getElem? (i := 118) rfl) rfl
set_option maxRecDepth 100000 in
theorem wm_78 : ((Jvm.Cond.instantiable "CatalogueSet$Filling" (6 : Nat)) : Cond) ∈ lw_kw := cj_kwm (List.mem_of_getElem? (i := 119) rfl) rfl
set_option maxRecDepth 100000 in
theorem wm_79 : ((Jvm.Cond.methodLinkNest "CatalogueSet$Press" (22 : Nat) ({ cls := "CatalogueSet$Filling", name := "<init>", desc := "()V" } : Jvm.MethodName) "CatalogueSet") : Cond) ∈ lw_kw := cj_kwm (List.mem_of_getElem? (i := 120) rfl) rfl
set_option maxRecDepth 100000 in
theorem wm_80 : ((Jvm.Cond.instanceMethod ({ cls := "CatalogueSet$Filling", name := "<init>", desc := "()V" } : Jvm.MethodName)) : Cond) ∈ lw_kw := cj_kwm (List.mem_of_getElem? (i := 121) rfl) rfl
set_option maxRecDepth 100000 in
theorem wm_81 : ((Jvm.Cond.code ({ cls := "CatalogueSet$Filling", name := "<init>", desc := "()V" } : Jvm.MethodName) prog_4_method_1_code (1 : Nat) (Option.none : Option Jvm.ClassFile.FieldType)) : Cond) ∈ lw_kw := cj_kwm (List.mem_of_getElem? (i := 122) rfl) rfl
set_option maxRecDepth 100000 in
theorem wm_82 : ((Jvm.Cond.methodLink "CatalogueSet$Filling" (3 : Nat) ({ cls := "java/lang/Object", name := "<init>", desc := "()V" } : Jvm.MethodName)) : Cond) ∈ lw_kw := cj_kwm (List.mem_of_getElem? (i := 123) rfl) rfl
set_option maxRecDepth 100000 in
theorem wm_83 : ((Jvm.Cond.fieldLink "CatalogueSet$Filling" (9 : Nat) "CatalogueSet$Filling" "sizes" "[I") : Cond) ∈ lw_kw := cj_kwm (List.mem_of_getElem? (i := 124) rfl) rfl
set_option maxRecDepth 100000 in
theorem wm_84 : ((Jvm.Cond.fieldLink "CatalogueSet$Filling" (15 : Nat) "CatalogueSet$Filling" "least" "[I") : Cond) ∈ lw_kw := cj_kwm (List.mem_of_getElem? (i := 125) rfl) rfl
set_option maxRecDepth 100000 in
theorem wm_85 : ((Jvm.Cond.fieldLink "CatalogueSet$Filling" (18 : Nat) "CatalogueSet$Filling" "ends" "[I") : Cond) ∈ lw_kw := cj_kwm (List.mem_of_getElem? (i := 126) rfl) rfl
set_option maxRecDepth 100000 in
theorem wm_86 : ((Jvm.Cond.fieldLink "CatalogueSet$Filling" (28 : Nat) "CatalogueSet$Filling" "items" "I") : Cond) ∈ lw_kw := cj_kwm (List.mem_of_getElem? (i := 127) rfl) rfl
set_option maxRecDepth 100000 in
theorem wm_87 : ((Jvm.Cond.fieldLink "CatalogueSet$Filling" (21 : Nat) "CatalogueSet$Filling" "room" "I") : Cond) ∈ lw_kw := cj_kwm (List.mem_of_getElem? (i := 128) rfl) rfl
set_option maxRecDepth 100000 in
theorem wm_88 : ((Jvm.Cond.fieldLink "CatalogueSet$Filling" (25 : Nat) "CatalogueSet$Filling" "gap" "I") : Cond) ∈ lw_kw := cj_kwm (List.mem_of_getElem? (i := 129) rfl) rfl
set_option maxRecDepth 100000 in
theorem wm_102 : ((Jvm.Cond.fieldLink "CatalogueSet$Press" (31 : Nat) "CatalogueSet$Press" "width" "I") : Cond) ∈ lw_kw := cj_kwm (List.mem_of_getElem? (i := 143) rfl) rfl
set_option maxRecDepth 100000 in
theorem wm_103 : ((Jvm.Cond.fieldLink "CatalogueSet$Press" (35 : Nat) "CatalogueSet$Press" "height" "I") : Cond) ∈ lw_kw := cj_kwm (List.mem_of_getElem? (i := 144) rfl) rfl
set_option maxRecDepth 100000 in
theorem wm_104 : ((Jvm.Cond.fieldLink "CatalogueSet$Press" (14 : Nat) "CatalogueSet$Press" "printed" "LCatalogueSet$Signs;") : Cond) ∈ lw_kw := cj_kwm (List.mem_of_getElem? (i := 145) rfl) rfl
set_option maxRecDepth 100000 in
theorem wm_105 : ((Jvm.Cond.fieldLink "CatalogueSet$Press" (23 : Nat) "CatalogueSet$Press" "filling" "LCatalogueSet$Filling;") : Cond) ∈ lw_kw := cj_kwm (List.mem_of_getElem? (i := 146) rfl) rfl
set_option maxRecDepth 100000 in
theorem wm_106 : ((Jvm.Cond.fieldLink "CatalogueSet$Press" (27 : Nat) "CatalogueSet$Press" "told" "[I") : Cond) ∈ lw_kw := cj_kwm (List.mem_of_getElem? (i := 147) rfl) rfl
set_option maxRecDepth 100000 in
theorem wm_118 : ((Jvm.Cond.classLink "CatalogueSet" (54 : Nat) "CatalogueSet$Setting") : Cond) ∈ lw_kw := cj_kwm (List.mem_of_getElem? (i := 159) rfl) rfl
set_option maxRecDepth 100000 in
theorem wm_119 : ((Jvm.Cond.instantiable "CatalogueSet$Setting" (10 : Nat)) : Cond) ∈ lw_kw := cj_kwm (List.mem_of_getElem? (i := 160) rfl) rfl
set_option maxRecDepth 100000 in
theorem wm_120 : ((Jvm.Cond.methodLink "CatalogueSet" (56 : Nat) ({ cls := "CatalogueSet$Setting", name := "<init>", desc := "()V" } : Jvm.MethodName)) : Cond) ∈ lw_kw := cj_kwm (List.mem_of_getElem? (i := 161) rfl) rfl
set_option maxRecDepth 100000 in
theorem wm_121 : ((Jvm.Cond.instanceMethod ({ cls := "CatalogueSet$Setting", name := "<init>", desc := "()V" } : Jvm.MethodName)) : Cond) ∈ lw_kw := cj_kwm (List.mem_of_getElem? (i := 162) rfl) rfl
set_option maxRecDepth 100000 in
theorem wm_122 : ((Jvm.Cond.code ({ cls := "CatalogueSet$Setting", name := "<init>", desc := "()V" } : Jvm.MethodName) prog_6_method_1_code (2 : Nat) (Option.none : Option Jvm.ClassFile.FieldType)) : Cond) ∈ lw_kw := cj_kwm (List.mem_of_getElem? (i := 163) rfl) rfl
set_option maxRecDepth 100000 in
theorem wm_123 : ((Jvm.Cond.methodLink "CatalogueSet$Setting" (3 : Nat) ({ cls := "java/lang/Object", name := "<init>", desc := "()V" } : Jvm.MethodName)) : Cond) ∈ lw_kw := cj_kwm (List.mem_of_getElem? (i := 164) rfl) rfl
set_option maxRecDepth 100000 in
theorem wm_124 : ((Jvm.Cond.classLink "CatalogueSet$Setting" (9 : Nat) "CatalogueSet$Block") : Cond) ∈ lw_kw := cj_kwm (List.mem_of_getElem? (i := 165) rfl) rfl
set_option maxRecDepth 100000 in
theorem wm_125 : ((Jvm.Cond.arrayOver (Jvm.ClassFile.FieldType.object "CatalogueSet$Block")) : Cond) ∈ lw_kw := cj_kwm (List.mem_of_getElem? (i := 166) rfl) rfl
set_option maxRecDepth 100000 in
theorem wm_126 : ((Jvm.Cond.instantiable "CatalogueSet$Block" (4 : Nat)) : Cond) ∈ lw_kw := cj_kwm (List.mem_of_getElem? (i := 167) rfl) rfl
set_option maxRecDepth 100000 in
theorem wm_127 : ((Jvm.Cond.methodLinkNest "CatalogueSet$Setting" (27 : Nat) ({ cls := "CatalogueSet$Block", name := "<init>", desc := "()V" } : Jvm.MethodName) "CatalogueSet") : Cond) ∈ lw_kw := cj_kwm (List.mem_of_getElem? (i := 168) rfl) rfl
set_option maxRecDepth 100000 in
theorem wm_128 : ((Jvm.Cond.instanceMethod ({ cls := "CatalogueSet$Block", name := "<init>", desc := "()V" } : Jvm.MethodName)) : Cond) ∈ lw_kw := cj_kwm (List.mem_of_getElem? (i := 169) rfl) rfl
set_option maxRecDepth 100000 in
theorem wm_129 : ((Jvm.Cond.code ({ cls := "CatalogueSet$Block", name := "<init>", desc := "()V" } : Jvm.MethodName) prog_2_method_1_code (1 : Nat) (Option.none : Option Jvm.ClassFile.FieldType)) : Cond) ∈ lw_kw := cj_kwm (List.mem_of_getElem? (i := 170) rfl) rfl
set_option maxRecDepth 100000 in
theorem wm_130 : ((Jvm.Cond.methodLink "CatalogueSet$Block" (3 : Nat) ({ cls := "java/lang/Object", name := "<init>", desc := "()V" } : Jvm.MethodName)) : Cond) ∈ lw_kw := cj_kwm (List.mem_of_getElem? (i := 171) rfl) rfl
set_option maxRecDepth 100000 in
theorem wm_131 : ((Jvm.Cond.classLink "CatalogueSet$Block" (9 : Nat) "CatalogueSet$Signs") : Cond) ∈ lw_kw := cj_kwm (List.mem_of_getElem? (i := 172) rfl) rfl
set_option maxRecDepth 100000 in
theorem wm_132 : ((Jvm.Cond.methodLink "CatalogueSet$Block" (11 : Nat) ({ cls := "CatalogueSet$Signs", name := "<init>", desc := "(I)V" } : Jvm.MethodName)) : Cond) ∈ lw_kw := cj_kwm (List.mem_of_getElem? (i := 173) rfl) rfl
set_option maxRecDepth 100000 in
theorem wm_133 : ((Jvm.Cond.fieldLink "CatalogueSet$Block" (14 : Nat) "CatalogueSet$Block" "text" "LCatalogueSet$Signs;") : Cond) ∈ lw_kw := cj_kwm (List.mem_of_getElem? (i := 174) rfl) rfl
set_option maxRecDepth 100000 in
theorem wm_134 : ((Jvm.Cond.fieldLink "CatalogueSet$Block" (20 : Nat) "CatalogueSet$Block" "starts" "[I") : Cond) ∈ lw_kw := cj_kwm (List.mem_of_getElem? (i := 175) rfl) rfl
set_option maxRecDepth 100000 in
theorem wm_135 : ((Jvm.Cond.fieldLink "CatalogueSet$Block" (24 : Nat) "CatalogueSet$Block" "lines" "I") : Cond) ∈ lw_kw := cj_kwm (List.mem_of_getElem? (i := 176) rfl) rfl
set_option maxRecDepth 100000 in
theorem wm_136 : ((Jvm.Cond.fieldLink "CatalogueSet$Block" (56 : Nat) "CatalogueSet$Block" "pictureHeight" "I") : Cond) ∈ lw_kw := cj_kwm (List.mem_of_getElem? (i := 177) rfl) rfl
set_option maxRecDepth 100000 in
theorem wm_146 : ((Jvm.Cond.fieldLink "CatalogueSet$Setting" (11 : Nat) "CatalogueSet$Setting" "blocks" "[LCatalogueSet$Block;") : Cond) ∈ lw_kw := cj_kwm (List.mem_of_getElem? (i := 187) rfl) rfl
set_option maxRecDepth 100000 in
theorem wm_147 : ((Jvm.Cond.fieldLink "CatalogueSet$Setting" (17 : Nat) "CatalogueSet$Setting" "firstUnits" "[I") : Cond) ∈ lw_kw := cj_kwm (List.mem_of_getElem? (i := 188) rfl) rfl
set_option maxRecDepth 100000 in
theorem wm_148 : ((Jvm.Cond.fieldLink "CatalogueSet$Setting" (21 : Nat) "CatalogueSet$Setting" "pageEnds" "[I") : Cond) ∈ lw_kw := cj_kwm (List.mem_of_getElem? (i := 189) rfl) rfl
set_option maxRecDepth 100000 in
theorem wm_149 : ((Jvm.Cond.fieldLink "CatalogueSet$Setting" (24 : Nat) "CatalogueSet$Setting" "entryPages" "[I") : Cond) ∈ lw_kw := cj_kwm (List.mem_of_getElem? (i := 190) rfl) rfl
set_option maxRecDepth 100000 in
theorem wm_150 : ((Jvm.Cond.fieldLink "CatalogueSet$Setting" (34 : Nat) "CatalogueSet$Setting" "held" "I") : Cond) ∈ lw_kw := cj_kwm (List.mem_of_getElem? (i := 191) rfl) rfl
set_option maxRecDepth 100000 in
theorem wm_151 : ((Jvm.Cond.fieldLink "CatalogueSet$Setting" (85 : Nat) "CatalogueSet$Setting" "pages" "I") : Cond) ∈ lw_kw := cj_kwm (List.mem_of_getElem? (i := 192) rfl) rfl
set_option maxRecDepth 100000 in
theorem wm_152 : ((Jvm.Cond.fieldLink "CatalogueSet$Setting" (38 : Nat) "CatalogueSet$Setting" "passes" "I") : Cond) ∈ lw_kw := cj_kwm (List.mem_of_getElem? (i := 193) rfl) rfl
set_option maxRecDepth 100000 in
theorem wm_153 : ((Jvm.Cond.fieldLink "CatalogueSet$Setting" (81 : Nat) "CatalogueSet$Setting" "settled" "Z") : Cond) ∈ lw_kw := cj_kwm (List.mem_of_getElem? (i := 194) rfl) rfl
set_option maxRecDepth 100000 in
theorem wm_154 : ((Jvm.Cond.fieldLink "CatalogueSet$Setting" (41 : Nat) "CatalogueSet$Setting" "lineSquares" "I") : Cond) ∈ lw_kw := cj_kwm (List.mem_of_getElem? (i := 195) rfl) rfl
set_option maxRecDepth 100000 in
theorem wm_155 : ((Jvm.Cond.fieldLink "CatalogueSet$Setting" (71 : Nat) "CatalogueSet$Setting" "pageSquares" "I") : Cond) ∈ lw_kw := cj_kwm (List.mem_of_getElem? (i := 196) rfl) rfl
set_option maxRecDepth 100000 in
theorem wm_177 : ((Jvm.Cond.fieldLink "CatalogueSet" (18 : Nat) "CatalogueSet" "height" "I") : Cond) ∈ lw_kw := cj_kwm (List.mem_of_getElem? (i := 218) rfl) rfl
set_option maxRecDepth 100000 in
theorem wm_178 : ((Jvm.Cond.fieldLink "CatalogueSet" (27 : Nat) "CatalogueSet" "pad" "LCatalogueSet$Signs;") : Cond) ∈ lw_kw := cj_kwm (List.mem_of_getElem? (i := 219) rfl) rfl
set_option maxRecDepth 100000 in
theorem wm_179 : ((Jvm.Cond.fieldLink "CatalogueSet" (31 : Nat) "CatalogueSet" "letterOrder" "LCatalogueSet$Signs;") : Cond) ∈ lw_kw := cj_kwm (List.mem_of_getElem? (i := 220) rfl) rfl
set_option maxRecDepth 100000 in
theorem wm_180 : ((Jvm.Cond.fieldLink "CatalogueSet" (34 : Nat) "CatalogueSet" "templates" "[LCatalogueSet$Signs;") : Cond) ∈ lw_kw := cj_kwm (List.mem_of_getElem? (i := 221) rfl) rfl
set_option maxRecDepth 100000 in
theorem wm_181 : ((Jvm.Cond.fieldLink "CatalogueSet" (40 : Nat) "CatalogueSet" "entries" "[LCatalogueSet$Entry;") : Cond) ∈ lw_kw := cj_kwm (List.mem_of_getElem? (i := 222) rfl) rfl
set_option maxRecDepth 100000 in
theorem wm_182 : ((Jvm.Cond.fieldLink "CatalogueSet" (50 : Nat) "CatalogueSet" "press" "LCatalogueSet$Press;") : Cond) ∈ lw_kw := cj_kwm (List.mem_of_getElem? (i := 223) rfl) rfl
set_option maxRecDepth 100000 in
theorem wm_183 : ((Jvm.Cond.fieldLink "CatalogueSet" (91 : Nat) "CatalogueSet" "templatesMade" "I") : Cond) ∈ lw_kw := cj_kwm (List.mem_of_getElem? (i := 224) rfl) rfl
set_option maxRecDepth 100000 in
theorem wm_184 : ((Jvm.Cond.fieldLink "CatalogueSet" (111 : Nat) "CatalogueSet" "entriesMade" "I") : Cond) ∈ lw_kw := cj_kwm (List.mem_of_getElem? (i := 225) rfl) rfl
set_option maxRecDepth 100000 in
theorem wm_185 : ((Jvm.Cond.fieldLink "CatalogueSet" (164 : Nat) "CatalogueSet" "hasSet" "Z") : Cond) ∈ lw_kw := cj_kwm (List.mem_of_getElem? (i := 226) rfl) rfl
set_option maxRecDepth 100000 in
theorem wm_186 : ((Jvm.Cond.fieldLink "CatalogueSet" (57 : Nat) "CatalogueSet" "latest" "LCatalogueSet$Setting;") : Cond) ∈ lw_kw := cj_kwm (List.mem_of_getElem? (i := 227) rfl) rfl
set_option maxRecDepth 100000 in
theorem wm_187 : ((Jvm.Cond.fieldLink "CatalogueSet" (61 : Nat) "CatalogueSet" "spare" "LCatalogueSet$Setting;") : Cond) ∈ lw_kw := cj_kwm (List.mem_of_getElem? (i := 228) rfl) rfl
set_option maxRecDepth 100000 in
theorem wm_211 : ((Jvm.Cond.methodLink "CatalogueSetLaw" (98 : Nat) ({ cls := "CatalogueSet", name := "run", desc := "()I" } : Jvm.MethodName)) : Cond) ∈ lw_kw := cj_kwm (List.mem_of_getElem? (i := 252) rfl) rfl
set_option maxRecDepth 100000 in
theorem wm_212 : ((Jvm.Cond.instanceMethod ({ cls := "CatalogueSet", name := "run", desc := "()I" } : Jvm.MethodName)) : Cond) ∈ lw_kw := cj_kwm (List.mem_of_getElem? (i := 253) rfl) rfl
set_option maxRecDepth 100000 in
theorem wm_213 : ((Jvm.Cond.selects "CatalogueSet" ({ cls := "CatalogueSet", name := "run", desc := "()I" } : Jvm.MethodName) ({ cls := "CatalogueSet", name := "run", desc := "()I" } : Jvm.MethodName)) : Cond) ∈ lw_kw := cj_kwm (List.mem_of_getElem? (i := 254) rfl) rfl
set_option maxRecDepth 100000 in
theorem wm_214 : ((Jvm.Cond.code ({ cls := "CatalogueSet", name := "run", desc := "()I" } : Jvm.MethodName) prog_1_method_9_code (4 : Nat) (Option.some Jvm.ClassFile.FieldType.int)) : Cond) ∈ lw_kw := cj_kwm (List.mem_of_getElem? (i := 255) rfl) rfl
set_option maxRecDepth 100000 in
theorem wm_215 : ((Jvm.Cond.methodLink "CatalogueSet" (157 : Nat) ({ cls := "CatalogueSet", name := "firstUnsourced", desc := "()I" } : Jvm.MethodName)) : Cond) ∈ lw_kw := cj_kwm (List.mem_of_getElem? (i := 256) rfl) rfl
set_option maxRecDepth 100000 in
theorem wm_217 : ((Jvm.Cond.instanceMethod ({ cls := "CatalogueSet", name := "firstUnsourced", desc := "()I" } : Jvm.MethodName)) : Cond) ∈ lw_kw := cj_kwm (List.mem_of_getElem? (i := 258) rfl) rfl
set_option maxRecDepth 100000 in
theorem wm_218 : ((Jvm.Cond.code ({ cls := "CatalogueSet", name := "firstUnsourced", desc := "()I" } : Jvm.MethodName) prog_1_method_27_code (2 : Nat) (Option.some Jvm.ClassFile.FieldType.int)) : Cond) ∈ lw_kw := cj_kwm (List.mem_of_getElem? (i := 259) rfl) rfl
set_option maxRecDepth 100000 in
theorem wm_219 : ((Jvm.Cond.methodLink "CatalogueSet" (242 : Nat) ({ cls := "CatalogueSet$Entry", name := "hasUnsourcedClaim", desc := "()Z" } : Jvm.MethodName)) : Cond) ∈ lw_kw := cj_kwm (List.mem_of_getElem? (i := 260) rfl) rfl
set_option maxRecDepth 100000 in
theorem wm_220 : ((Jvm.Cond.instanceMethod ({ cls := "CatalogueSet$Entry", name := "hasUnsourcedClaim", desc := "()Z" } : Jvm.MethodName)) : Cond) ∈ lw_kw := cj_kwm (List.mem_of_getElem? (i := 261) rfl) rfl
set_option maxRecDepth 100000 in
theorem wm_221 : ((Jvm.Cond.selects "CatalogueSet$Entry" ({ cls := "CatalogueSet$Entry", name := "hasUnsourcedClaim", desc := "()Z" } : Jvm.MethodName) ({ cls := "CatalogueSet$Entry", name := "hasUnsourcedClaim", desc := "()Z" } : Jvm.MethodName)) : Cond) ∈ lw_kw := cj_kwm (List.mem_of_getElem? (i := 262) rfl) rfl
set_option maxRecDepth 100000 in
theorem wm_222 : ((Jvm.Cond.code ({ cls := "CatalogueSet$Entry", name := "hasUnsourcedClaim", desc := "()Z" } : Jvm.MethodName) prog_3_method_5_code (2 : Nat) (Option.some Jvm.ClassFile.FieldType.boolean)) : Cond) ∈ lw_kw := cj_kwm (List.mem_of_getElem? (i := 263) rfl) rfl
set_option maxRecDepth 100000 in
theorem wm_223 : ((Jvm.Cond.methodLink "CatalogueSet" (160 : Nat) ({ cls := "CatalogueSet$Press", name := "setAll", desc := "([LCatalogueSet$Entry;ILCatalogueSet$Setting;)I" } : Jvm.MethodName)) : Cond) ∈ lw_kw := cj_kwm (List.mem_of_getElem? (i := 264) rfl) rfl
set_option maxRecDepth 100000 in
theorem wm_224 : ((Jvm.Cond.instanceMethod ({ cls := "CatalogueSet$Press", name := "setAll", desc := "([LCatalogueSet$Entry;ILCatalogueSet$Setting;)I" } : Jvm.MethodName)) : Cond) ∈ lw_kw := cj_kwm (List.mem_of_getElem? (i := 265) rfl) rfl
set_option maxRecDepth 100000 in
theorem wm_225 : ((Jvm.Cond.selects "CatalogueSet$Press" ({ cls := "CatalogueSet$Press", name := "setAll", desc := "([LCatalogueSet$Entry;ILCatalogueSet$Setting;)I" } : Jvm.MethodName) ({ cls := "CatalogueSet$Press", name := "setAll", desc := "([LCatalogueSet$Entry;ILCatalogueSet$Setting;)I" } : Jvm.MethodName)) : Cond) ∈ lw_kw := cj_kwm (List.mem_of_getElem? (i := 266) rfl) rfl
set_option maxRecDepth 100000 in
theorem wm_226 : ((Jvm.Cond.code ({ cls := "CatalogueSet$Press", name := "setAll", desc := "([LCatalogueSet$Entry;ILCatalogueSet$Setting;)I" } : Jvm.MethodName) prog_5_method_2_code (6 : Nat) (Option.some Jvm.ClassFile.FieldType.int)) : Cond) ∈ lw_kw := cj_kwm (List.mem_of_getElem? (i := 267) rfl) rfl
set_option maxRecDepth 100000 in
theorem wm_227 : ((Jvm.Cond.methodLink "CatalogueSet$Press" (38 : Nat) ({ cls := "CatalogueSet$Setting", name := "startPass", desc := "(II)V" } : Jvm.MethodName)) : Cond) ∈ lw_kw := cj_kwm (List.mem_of_getElem? (i := 268) rfl) rfl
set_option maxRecDepth 100000 in
theorem wm_228 : ((Jvm.Cond.instanceMethod ({ cls := "CatalogueSet$Setting", name := "startPass", desc := "(II)V" } : Jvm.MethodName)) : Cond) ∈ lw_kw := cj_kwm (List.mem_of_getElem? (i := 269) rfl) rfl
set_option maxRecDepth 100000 in
theorem wm_229 : ((Jvm.Cond.selects "CatalogueSet$Setting" ({ cls := "CatalogueSet$Setting", name := "startPass", desc := "(II)V" } : Jvm.MethodName) ({ cls := "CatalogueSet$Setting", name := "startPass", desc := "(II)V" } : Jvm.MethodName)) : Cond) ∈ lw_kw := cj_kwm (List.mem_of_getElem? (i := 270) rfl) rfl
set_option maxRecDepth 100000 in
theorem wm_230 : ((Jvm.Cond.code ({ cls := "CatalogueSet$Setting", name := "startPass", desc := "(II)V" } : Jvm.MethodName) prog_6_method_2_code (3 : Nat) (Option.none : Option Jvm.ClassFile.FieldType)) : Cond) ∈ lw_kw := cj_kwm (List.mem_of_getElem? (i := 271) rfl) rfl
set_option maxRecDepth 100000 in
theorem wm_231 : ((Jvm.Cond.methodLink "CatalogueSet$Setting" (28 : Nat) ({ cls := "java/lang/Math", name := "min", desc := "(II)I" } : Jvm.MethodName)) : Cond) ∈ lw_kw := cj_kwm (List.mem_of_getElem? (i := 272) rfl) rfl
set_option maxRecDepth 100000 in
theorem wm_232 : ((Jvm.Cond.methodLink "CatalogueSet$Press" (44 : Nat) ({ cls := "CatalogueSet$Press", name := "setLines", desc := "([LCatalogueSet$Entry;ILCatalogueSet$Setting;)I" } : Jvm.MethodName)) : Cond) ∈ lw_kw := cj_kwm (List.mem_of_getElem? (i := 273) rfl) rfl
set_option maxRecDepth 100000 in
theorem wm_234 : ((Jvm.Cond.instanceMethod ({ cls := "CatalogueSet$Press", name := "setLines", desc := "([LCatalogueSet$Entry;ILCatalogueSet$Setting;)I" } : Jvm.MethodName)) : Cond) ∈ lw_kw := cj_kwm (List.mem_of_getElem? (i := 275) rfl) rfl
set_option maxRecDepth 100000 in
theorem wm_235 : ((Jvm.Cond.code ({ cls := "CatalogueSet$Press", name := "setLines", desc := "([LCatalogueSet$Entry;ILCatalogueSet$Setting;)I" } : Jvm.MethodName) prog_5_method_3_code (6 : Nat) (Option.some Jvm.ClassFile.FieldType.int)) : Cond) ∈ lw_kw := cj_kwm (List.mem_of_getElem? (i := 276) rfl) rfl
set_option maxRecDepth 100000 in
theorem wm_236 : ((Jvm.Cond.methodLink "CatalogueSet$Press" (60 : Nat) ({ cls := "CatalogueSet$Setting", name := "blockOf", desc := "(I)LCatalogueSet$Block;" } : Jvm.MethodName)) : Cond) ∈ lw_kw := cj_kwm (List.mem_of_getElem? (i := 277) rfl) rfl
set_option maxRecDepth 100000 in
theorem wm_237 : ((Jvm.Cond.instanceMethod ({ cls := "CatalogueSet$Setting", name := "blockOf", desc := "(I)LCatalogueSet$Block;" } : Jvm.MethodName)) : Cond) ∈ lw_kw := cj_kwm (List.mem_of_getElem? (i := 278) rfl) rfl
set_option maxRecDepth 100000 in
theorem wm_238 : ((Jvm.Cond.selects "CatalogueSet$Setting" ({ cls := "CatalogueSet$Setting", name := "blockOf", desc := "(I)LCatalogueSet$Block;" } : Jvm.MethodName) ({ cls := "CatalogueSet$Setting", name := "blockOf", desc := "(I)LCatalogueSet$Block;" } : Jvm.MethodName)) : Cond) ∈ lw_kw := cj_kwm (List.mem_of_getElem? (i := 279) rfl) rfl
set_option maxRecDepth 100000 in
theorem wm_239 : ((Jvm.Cond.code ({ cls := "CatalogueSet$Setting", name := "blockOf", desc := "(I)LCatalogueSet$Block;" } : Jvm.MethodName) prog_6_method_3_code (2 : Nat) (Option.some (Jvm.ClassFile.FieldType.object "CatalogueSet$Block"))) : Cond) ∈ lw_kw := cj_kwm (List.mem_of_getElem? (i := 280) rfl) rfl
set_option maxRecDepth 100000 in
theorem wm_240 : ((Jvm.Cond.methodLink "CatalogueSet$Press" (64 : Nat) ({ cls := "CatalogueSet$Entry", name := "printTo", desc := "(LCatalogueSet$Signs;[I)V" } : Jvm.MethodName)) : Cond) ∈ lw_kw := cj_kwm (List.mem_of_getElem? (i := 281) rfl) rfl
set_option maxRecDepth 100000 in
theorem wm_241 : ((Jvm.Cond.instanceMethod ({ cls := "CatalogueSet$Entry", name := "printTo", desc := "(LCatalogueSet$Signs;[I)V" } : Jvm.MethodName)) : Cond) ∈ lw_kw := cj_kwm (List.mem_of_getElem? (i := 282) rfl) rfl
set_option maxRecDepth 100000 in
theorem wm_242 : ((Jvm.Cond.selects "CatalogueSet$Entry" ({ cls := "CatalogueSet$Entry", name := "printTo", desc := "(LCatalogueSet$Signs;[I)V" } : Jvm.MethodName) ({ cls := "CatalogueSet$Entry", name := "printTo", desc := "(LCatalogueSet$Signs;[I)V" } : Jvm.MethodName)) : Cond) ∈ lw_kw := cj_kwm (List.mem_of_getElem? (i := 283) rfl) rfl
set_option maxRecDepth 100000 in
theorem wm_243 : ((Jvm.Cond.code ({ cls := "CatalogueSet$Entry", name := "printTo", desc := "(LCatalogueSet$Signs;[I)V" } : Jvm.MethodName) prog_3_method_8_code (5 : Nat) (Option.none : Option Jvm.ClassFile.FieldType)) : Cond) ∈ lw_kw := cj_kwm (List.mem_of_getElem? (i := 284) rfl) rfl
set_option maxRecDepth 100000 in
theorem wm_244 : ((Jvm.Cond.methodLink "CatalogueSet$Entry" (32 : Nat) ({ cls := "CatalogueSet$Signs", name := "clear", desc := "()V" } : Jvm.MethodName)) : Cond) ∈ lw_kw := cj_kwm (List.mem_of_getElem? (i := 285) rfl) rfl
set_option maxRecDepth 100000 in
theorem wm_245 : ((Jvm.Cond.instanceMethod ({ cls := "CatalogueSet$Signs", name := "clear", desc := "()V" } : Jvm.MethodName)) : Cond) ∈ lw_kw := cj_kwm (List.mem_of_getElem? (i := 286) rfl) rfl
set_option maxRecDepth 100000 in
theorem wm_246 : ((Jvm.Cond.selects "CatalogueSet$Signs" ({ cls := "CatalogueSet$Signs", name := "clear", desc := "()V" } : Jvm.MethodName) ({ cls := "CatalogueSet$Signs", name := "clear", desc := "()V" } : Jvm.MethodName)) : Cond) ∈ lw_kw := cj_kwm (List.mem_of_getElem? (i := 287) rfl) rfl
set_option maxRecDepth 100000 in
theorem wm_247 : ((Jvm.Cond.code ({ cls := "CatalogueSet$Signs", name := "clear", desc := "()V" } : Jvm.MethodName) prog_7_method_5_code (1 : Nat) (Option.none : Option Jvm.ClassFile.FieldType)) : Cond) ∈ lw_kw := cj_kwm (List.mem_of_getElem? (i := 288) rfl) rfl
set_option maxRecDepth 100000 in
theorem wm_248 : ((Jvm.Cond.methodLink "CatalogueSet$Entry" (35 : Nat) ({ cls := "CatalogueSet$Signs", name := "size", desc := "()I" } : Jvm.MethodName)) : Cond) ∈ lw_kw := cj_kwm (List.mem_of_getElem? (i := 289) rfl) rfl
set_option maxRecDepth 100000 in
theorem wm_249 : ((Jvm.Cond.instanceMethod ({ cls := "CatalogueSet$Signs", name := "size", desc := "()I" } : Jvm.MethodName)) : Cond) ∈ lw_kw := cj_kwm (List.mem_of_getElem? (i := 290) rfl) rfl
set_option maxRecDepth 100000 in
theorem wm_250 : ((Jvm.Cond.selects "CatalogueSet$Signs" ({ cls := "CatalogueSet$Signs", name := "size", desc := "()I" } : Jvm.MethodName) ({ cls := "CatalogueSet$Signs", name := "size", desc := "()I" } : Jvm.MethodName)) : Cond) ∈ lw_kw := cj_kwm (List.mem_of_getElem? (i := 291) rfl) rfl
set_option maxRecDepth 100000 in
theorem wm_251 : ((Jvm.Cond.code ({ cls := "CatalogueSet$Signs", name := "size", desc := "()I" } : Jvm.MethodName) prog_7_method_2_code (1 : Nat) (Option.some Jvm.ClassFile.FieldType.int)) : Cond) ∈ lw_kw := cj_kwm (List.mem_of_getElem? (i := 292) rfl) rfl
set_option maxRecDepth 100000 in
theorem wm_252 : ((Jvm.Cond.methodLink "CatalogueSet$Entry" (39 : Nat) ({ cls := "CatalogueSet$Signs", name := "at", desc := "(I)I" } : Jvm.MethodName)) : Cond) ∈ lw_kw := cj_kwm (List.mem_of_getElem? (i := 293) rfl) rfl
set_option maxRecDepth 100000 in
theorem wm_253 : ((Jvm.Cond.instanceMethod ({ cls := "CatalogueSet$Signs", name := "at", desc := "(I)I" } : Jvm.MethodName)) : Cond) ∈ lw_kw := cj_kwm (List.mem_of_getElem? (i := 294) rfl) rfl
set_option maxRecDepth 100000 in
theorem wm_254 : ((Jvm.Cond.selects "CatalogueSet$Signs" ({ cls := "CatalogueSet$Signs", name := "at", desc := "(I)I" } : Jvm.MethodName) ({ cls := "CatalogueSet$Signs", name := "at", desc := "(I)I" } : Jvm.MethodName)) : Cond) ∈ lw_kw := cj_kwm (List.mem_of_getElem? (i := 295) rfl) rfl
set_option maxRecDepth 100000 in
theorem wm_255 : ((Jvm.Cond.code ({ cls := "CatalogueSet$Signs", name := "at", desc := "(I)I" } : Jvm.MethodName) prog_7_method_3_code (2 : Nat) (Option.some Jvm.ClassFile.FieldType.int)) : Cond) ∈ lw_kw := cj_kwm (List.mem_of_getElem? (i := 296) rfl) rfl
set_option maxRecDepth 100000 in
theorem wm_256 : ((Jvm.Cond.methodLink "CatalogueSet$Entry" (43 : Nat) ({ cls := "CatalogueSet$Entry", name := "isPartWhole", desc := "(I)Z" } : Jvm.MethodName)) : Cond) ∈ lw_kw := cj_kwm (List.mem_of_getElem? (i := 297) rfl) rfl
set_option maxRecDepth 100000 in
theorem wm_258 : ((Jvm.Cond.instanceMethod ({ cls := "CatalogueSet$Entry", name := "isPartWhole", desc := "(I)Z" } : Jvm.MethodName)) : Cond) ∈ lw_kw := cj_kwm (List.mem_of_getElem? (i := 299) rfl) rfl
set_option maxRecDepth 100000 in
theorem wm_259 : ((Jvm.Cond.code ({ cls := "CatalogueSet$Entry", name := "isPartWhole", desc := "(I)Z" } : Jvm.MethodName) prog_3_method_12_code (4 : Nat) (Option.some Jvm.ClassFile.FieldType.boolean)) : Cond) ∈ lw_kw := cj_kwm (List.mem_of_getElem? (i := 300) rfl) rfl
set_option maxRecDepth 100000 in
theorem wm_260 : ((Jvm.Cond.methodLink "CatalogueSet$Entry" (47 : Nat) ({ cls := "CatalogueSet$Entry", name := "partEnd", desc := "(I)I" } : Jvm.MethodName)) : Cond) ∈ lw_kw := cj_kwm (List.mem_of_getElem? (i := 301) rfl) rfl
set_option maxRecDepth 100000 in
theorem wm_262 : ((Jvm.Cond.instanceMethod ({ cls := "CatalogueSet$Entry", name := "partEnd", desc := "(I)I" } : Jvm.MethodName)) : Cond) ∈ lw_kw := cj_kwm (List.mem_of_getElem? (i := 303) rfl) rfl
set_option maxRecDepth 100000 in
theorem wm_263 : ((Jvm.Cond.code ({ cls := "CatalogueSet$Entry", name := "partEnd", desc := "(I)I" } : Jvm.MethodName) prog_3_method_11_code (3 : Nat) (Option.some Jvm.ClassFile.FieldType.int)) : Cond) ∈ lw_kw := cj_kwm (List.mem_of_getElem? (i := 304) rfl) rfl
set_option maxRecDepth 100000 in
theorem wm_264 : ((Jvm.Cond.methodLink "CatalogueSet$Entry" (57 : Nat) ({ cls := "CatalogueSet$Entry", name := "textOf", desc := "(I)LCatalogueSet$Signs;" } : Jvm.MethodName)) : Cond) ∈ lw_kw := cj_kwm (List.mem_of_getElem? (i := 305) rfl) rfl
set_option maxRecDepth 100000 in
theorem wm_265 : ((Jvm.Cond.instanceMethod ({ cls := "CatalogueSet$Entry", name := "textOf", desc := "(I)LCatalogueSet$Signs;" } : Jvm.MethodName)) : Cond) ∈ lw_kw := cj_kwm (List.mem_of_getElem? (i := 306) rfl) rfl
set_option maxRecDepth 100000 in
theorem wm_266 : ((Jvm.Cond.selects "CatalogueSet$Entry" ({ cls := "CatalogueSet$Entry", name := "textOf", desc := "(I)LCatalogueSet$Signs;" } : Jvm.MethodName) ({ cls := "CatalogueSet$Entry", name := "textOf", desc := "(I)LCatalogueSet$Signs;" } : Jvm.MethodName)) : Cond) ∈ lw_kw := cj_kwm (List.mem_of_getElem? (i := 307) rfl) rfl
set_option maxRecDepth 100000 in
theorem wm_267 : ((Jvm.Cond.code ({ cls := "CatalogueSet$Entry", name := "textOf", desc := "(I)LCatalogueSet$Signs;" } : Jvm.MethodName) prog_3_method_3_code (2 : Nat) (Option.some (Jvm.ClassFile.FieldType.object "CatalogueSet$Signs"))) : Cond) ∈ lw_kw := cj_kwm (List.mem_of_getElem? (i := 308) rfl) rfl
set_option maxRecDepth 100000 in
theorem wm_268 : ((Jvm.Cond.methodLink "CatalogueSet$Entry" (50 : Nat) ({ cls := "CatalogueSet$Entry", name := "printMark", desc := "(LCatalogueSet$Signs;II[I)V" } : Jvm.MethodName)) : Cond) ∈ lw_kw := cj_kwm (List.mem_of_getElem? (i := 309) rfl) rfl
set_option maxRecDepth 100000 in
theorem wm_270 : ((Jvm.Cond.instanceMethod ({ cls := "CatalogueSet$Entry", name := "printMark", desc := "(LCatalogueSet$Signs;II[I)V" } : Jvm.MethodName)) : Cond) ∈ lw_kw := cj_kwm (List.mem_of_getElem? (i := 311) rfl) rfl
set_option maxRecDepth 100000 in
theorem wm_271 : ((Jvm.Cond.code ({ cls := "CatalogueSet$Entry", name := "printMark", desc := "(LCatalogueSet$Signs;II[I)V" } : Jvm.MethodName) prog_3_method_10_code (5 : Nat) (Option.none : Option Jvm.ClassFile.FieldType)) : Cond) ∈ lw_kw := cj_kwm (List.mem_of_getElem? (i := 312) rfl) rfl
set_option maxRecDepth 100000 in
theorem wm_272 : ((Jvm.Cond.methodLink "CatalogueSet$Entry" (61 : Nat) ({ cls := "CatalogueSet$Signs", name := "addAll", desc := "(LCatalogueSet$Signs;)V" } : Jvm.MethodName)) : Cond) ∈ lw_kw := cj_kwm (List.mem_of_getElem? (i := 313) rfl) rfl
set_option maxRecDepth 100000 in
theorem wm_273 : ((Jvm.Cond.instanceMethod ({ cls := "CatalogueSet$Signs", name := "addAll", desc := "(LCatalogueSet$Signs;)V" } : Jvm.MethodName)) : Cond) ∈ lw_kw := cj_kwm (List.mem_of_getElem? (i := 314) rfl) rfl
set_option maxRecDepth 100000 in
theorem wm_274 : ((Jvm.Cond.selects "CatalogueSet$Signs" ({ cls := "CatalogueSet$Signs", name := "addAll", desc := "(LCatalogueSet$Signs;)V" } : Jvm.MethodName) ({ cls := "CatalogueSet$Signs", name := "addAll", desc := "(LCatalogueSet$Signs;)V" } : Jvm.MethodName)) : Cond) ∈ lw_kw := cj_kwm (List.mem_of_getElem? (i := 315) rfl) rfl
set_option maxRecDepth 100000 in
theorem wm_275 : ((Jvm.Cond.code ({ cls := "CatalogueSet$Signs", name := "addAll", desc := "(LCatalogueSet$Signs;)V" } : Jvm.MethodName) prog_7_method_7_code (4 : Nat) (Option.none : Option Jvm.ClassFile.FieldType)) : Cond) ∈ lw_kw := cj_kwm (List.mem_of_getElem? (i := 316) rfl) rfl
set_option maxRecDepth 100000 in
theorem wm_276 : ((Jvm.Cond.methodLink "CatalogueSet$Signs" (25 : Nat) ({ cls := "CatalogueSet$Signs", name := "size", desc := "()I" } : Jvm.MethodName)) : Cond) ∈ lw_kw := cj_kwm (List.mem_of_getElem? (i := 317) rfl) rfl
set_option maxRecDepth 100000 in
theorem wm_277 : ((Jvm.Cond.methodLink "CatalogueSet$Signs" (28 : Nat) ({ cls := "CatalogueSet$Signs", name := "at", desc := "(I)I" } : Jvm.MethodName)) : Cond) ∈ lw_kw := cj_kwm (List.mem_of_getElem? (i := 318) rfl) rfl
set_option maxRecDepth 100000 in
theorem wm_278 : ((Jvm.Cond.methodLink "CatalogueSet$Signs" (32 : Nat) ({ cls := "CatalogueSet$Signs", name := "add", desc := "(I)V" } : Jvm.MethodName)) : Cond) ∈ lw_kw := cj_kwm (List.mem_of_getElem? (i := 319) rfl) rfl
set_option maxRecDepth 100000 in
theorem wm_279 : ((Jvm.Cond.instanceMethod ({ cls := "CatalogueSet$Signs", name := "add", desc := "(I)V" } : Jvm.MethodName)) : Cond) ∈ lw_kw := cj_kwm (List.mem_of_getElem? (i := 320) rfl) rfl
set_option maxRecDepth 100000 in
theorem wm_280 : ((Jvm.Cond.selects "CatalogueSet$Signs" ({ cls := "CatalogueSet$Signs", name := "add", desc := "(I)V" } : Jvm.MethodName) ({ cls := "CatalogueSet$Signs", name := "add", desc := "(I)V" } : Jvm.MethodName)) : Cond) ∈ lw_kw := cj_kwm (List.mem_of_getElem? (i := 321) rfl) rfl
set_option maxRecDepth 100000 in
theorem wm_281 : ((Jvm.Cond.code ({ cls := "CatalogueSet$Signs", name := "add", desc := "(I)V" } : Jvm.MethodName) prog_7_method_6_code (2 : Nat) (Option.none : Option Jvm.ClassFile.FieldType)) : Cond) ∈ lw_kw := cj_kwm (List.mem_of_getElem? (i := 322) rfl) rfl
set_option maxRecDepth 100000 in
theorem wm_282 : ((Jvm.Cond.methodLink "CatalogueSet$Entry" (65 : Nat) ({ cls := "CatalogueSet$Entry", name := "printNumber", desc := "(LCatalogueSet$Signs;I)V" } : Jvm.MethodName)) : Cond) ∈ lw_kw := cj_kwm (List.mem_of_getElem? (i := 323) rfl) rfl
set_option maxRecDepth 100000 in
theorem wm_283 : ((Jvm.Cond.static ({ cls := "CatalogueSet$Entry", name := "printNumber", desc := "(LCatalogueSet$Signs;I)V" } : Jvm.MethodName)) : Cond) ∈ lw_kw := cj_kwm (List.mem_of_getElem? (i := 324) rfl) rfl
set_option maxRecDepth 100000 in
theorem wm_284 : ((Jvm.Cond.code ({ cls := "CatalogueSet$Entry", name := "printNumber", desc := "(LCatalogueSet$Signs;I)V" } : Jvm.MethodName) prog_3_method_9_code (2 : Nat) (Option.none : Option Jvm.ClassFile.FieldType)) : Cond) ∈ lw_kw := cj_kwm (List.mem_of_getElem? (i := 325) rfl) rfl
set_option maxRecDepth 100000 in
theorem wm_285 : ((Jvm.Cond.methodLink "CatalogueSet$Entry" (54 : Nat) ({ cls := "CatalogueSet$Signs", name := "add", desc := "(I)V" } : Jvm.MethodName)) : Cond) ∈ lw_kw := cj_kwm (List.mem_of_getElem? (i := 326) rfl) rfl
set_option maxRecDepth 100000 in
theorem wm_286 : ((Jvm.Cond.methodLink "CatalogueSet$Press" (70 : Nat) ({ cls := "CatalogueSet$Entry", name := "pictureHeight", desc := "()I" } : Jvm.MethodName)) : Cond) ∈ lw_kw := cj_kwm (List.mem_of_getElem? (i := 327) rfl) rfl
set_option maxRecDepth 100000 in
theorem wm_287 : ((Jvm.Cond.instanceMethod ({ cls := "CatalogueSet$Entry", name := "pictureHeight", desc := "()I" } : Jvm.MethodName)) : Cond) ∈ lw_kw := cj_kwm (List.mem_of_getElem? (i := 328) rfl) rfl
set_option maxRecDepth 100000 in
theorem wm_288 : ((Jvm.Cond.selects "CatalogueSet$Entry" ({ cls := "CatalogueSet$Entry", name := "pictureHeight", desc := "()I" } : Jvm.MethodName) ({ cls := "CatalogueSet$Entry", name := "pictureHeight", desc := "()I" } : Jvm.MethodName)) : Cond) ∈ lw_kw := cj_kwm (List.mem_of_getElem? (i := 329) rfl) rfl
set_option maxRecDepth 100000 in
theorem wm_289 : ((Jvm.Cond.code ({ cls := "CatalogueSet$Entry", name := "pictureHeight", desc := "()I" } : Jvm.MethodName) prog_3_method_7_code (1 : Nat) (Option.some Jvm.ClassFile.FieldType.int)) : Cond) ∈ lw_kw := cj_kwm (List.mem_of_getElem? (i := 330) rfl) rfl
set_option maxRecDepth 100000 in
theorem wm_290 : ((Jvm.Cond.methodLink "CatalogueSet$Press" (74 : Nat) ({ cls := "CatalogueSet$Block", name := "takePicture", desc := "(I)V" } : Jvm.MethodName)) : Cond) ∈ lw_kw := cj_kwm (List.mem_of_getElem? (i := 331) rfl) rfl
set_option maxRecDepth 100000 in
theorem wm_291 : ((Jvm.Cond.instanceMethod ({ cls := "CatalogueSet$Block", name := "takePicture", desc := "(I)V" } : Jvm.MethodName)) : Cond) ∈ lw_kw := cj_kwm (List.mem_of_getElem? (i := 332) rfl) rfl
set_option maxRecDepth 100000 in
theorem wm_292 : ((Jvm.Cond.selects "CatalogueSet$Block" ({ cls := "CatalogueSet$Block", name := "takePicture", desc := "(I)V" } : Jvm.MethodName) ({ cls := "CatalogueSet$Block", name := "takePicture", desc := "(I)V" } : Jvm.MethodName)) : Cond) ∈ lw_kw := cj_kwm (List.mem_of_getElem? (i := 333) rfl) rfl
set_option maxRecDepth 100000 in
theorem wm_293 : ((Jvm.Cond.code ({ cls := "CatalogueSet$Block", name := "takePicture", desc := "(I)V" } : Jvm.MethodName) prog_2_method_6_code (2 : Nat) (Option.none : Option Jvm.ClassFile.FieldType)) : Cond) ∈ lw_kw := cj_kwm (List.mem_of_getElem? (i := 334) rfl) rfl
set_option maxRecDepth 100000 in
theorem wm_294 : ((Jvm.Cond.methodLink "CatalogueSet$Press" (79 : Nat) ({ cls := "CatalogueSet$Block", name := "breakLines", desc := "(LCatalogueSet$Signs;ILCatalogueSet$Filling;)Z" } : Jvm.MethodName)) : Cond) ∈ lw_kw := cj_kwm (List.mem_of_getElem? (i := 335) rfl) rfl
set_option maxRecDepth 100000 in
theorem wm_295 : ((Jvm.Cond.instanceMethod ({ cls := "CatalogueSet$Block", name := "breakLines", desc := "(LCatalogueSet$Signs;ILCatalogueSet$Filling;)Z" } : Jvm.MethodName)) : Cond) ∈ lw_kw := cj_kwm (List.mem_of_getElem? (i := 336) rfl) rfl
set_option maxRecDepth 100000 in
theorem wm_296 : ((Jvm.Cond.selects "CatalogueSet$Block" ({ cls := "CatalogueSet$Block", name := "breakLines", desc := "(LCatalogueSet$Signs;ILCatalogueSet$Filling;)Z" } : Jvm.MethodName) ({ cls := "CatalogueSet$Block", name := "breakLines", desc := "(LCatalogueSet$Signs;ILCatalogueSet$Filling;)Z" } : Jvm.MethodName)) : Cond) ∈ lw_kw := cj_kwm (List.mem_of_getElem? (i := 337) rfl) rfl
set_option maxRecDepth 100000 in
theorem wm_297 : ((Jvm.Cond.code ({ cls := "CatalogueSet$Block", name := "breakLines", desc := "(LCatalogueSet$Signs;ILCatalogueSet$Filling;)Z" } : Jvm.MethodName) prog_2_method_5_code (4 : Nat) (Option.some Jvm.ClassFile.FieldType.boolean)) : Cond) ∈ lw_kw := cj_kwm (List.mem_of_getElem? (i := 338) rfl) rfl
set_option maxRecDepth 100000 in
theorem wm_298 : ((Jvm.Cond.methodLink "CatalogueSet$Block" (35 : Nat) ({ cls := "CatalogueSet$Filling", name := "start", desc := "(II)V" } : Jvm.MethodName)) : Cond) ∈ lw_kw := cj_kwm (List.mem_of_getElem? (i := 339) rfl) rfl
set_option maxRecDepth 100000 in
theorem wm_299 : ((Jvm.Cond.instanceMethod ({ cls := "CatalogueSet$Filling", name := "start", desc := "(II)V" } : Jvm.MethodName)) : Cond) ∈ lw_kw := cj_kwm (List.mem_of_getElem? (i := 340) rfl) rfl
set_option maxRecDepth 100000 in
theorem wm_300 : ((Jvm.Cond.selects "CatalogueSet$Filling" ({ cls := "CatalogueSet$Filling", name := "start", desc := "(II)V" } : Jvm.MethodName) ({ cls := "CatalogueSet$Filling", name := "start", desc := "(II)V" } : Jvm.MethodName)) : Cond) ∈ lw_kw := cj_kwm (List.mem_of_getElem? (i := 341) rfl) rfl
set_option maxRecDepth 100000 in
theorem wm_301 : ((Jvm.Cond.code ({ cls := "CatalogueSet$Filling", name := "start", desc := "(II)V" } : Jvm.MethodName) prog_4_method_2_code (3 : Nat) (Option.none : Option Jvm.ClassFile.FieldType)) : Cond) ∈ lw_kw := cj_kwm (List.mem_of_getElem? (i := 342) rfl) rfl
set_option maxRecDepth 100000 in
theorem wm_302 : ((Jvm.Cond.methodLink "CatalogueSet$Block" (41 : Nat) ({ cls := "CatalogueSet$Block", name := "takeWords", desc := "(LCatalogueSet$Signs;LCatalogueSet$Filling;)V" } : Jvm.MethodName)) : Cond) ∈ lw_kw := cj_kwm (List.mem_of_getElem? (i := 343) rfl) rfl
set_option maxRecDepth 100000 in
theorem wm_304 : ((Jvm.Cond.instanceMethod ({ cls := "CatalogueSet$Block", name := "takeWords", desc := "(LCatalogueSet$Signs;LCatalogueSet$Filling;)V" } : Jvm.MethodName)) : Cond) ∈ lw_kw := cj_kwm (List.mem_of_getElem? (i := 345) rfl) rfl
set_option maxRecDepth 100000 in
theorem wm_305 : ((Jvm.Cond.code ({ cls := "CatalogueSet$Block", name := "takeWords", desc := "(LCatalogueSet$Signs;LCatalogueSet$Filling;)V" } : Jvm.MethodName) prog_2_method_10_code (6 : Nat) (Option.none : Option Jvm.ClassFile.FieldType)) : Cond) ∈ lw_kw := cj_kwm (List.mem_of_getElem? (i := 346) rfl) rfl
set_option maxRecDepth 100000 in
theorem wm_306 : ((Jvm.Cond.methodLink "CatalogueSet$Block" (68 : Nat) ({ cls := "CatalogueSet$Signs", name := "clear", desc := "()V" } : Jvm.MethodName)) : Cond) ∈ lw_kw := cj_kwm (List.mem_of_getElem? (i := 347) rfl) rfl
set_option maxRecDepth 100000 in
theorem wm_307 : ((Jvm.Cond.methodLink "CatalogueSet$Block" (71 : Nat) ({ cls := "CatalogueSet$Signs", name := "size", desc := "()I" } : Jvm.MethodName)) : Cond) ∈ lw_kw := cj_kwm (List.mem_of_getElem? (i := 348) rfl) rfl
set_option maxRecDepth 100000 in
theorem wm_308 : ((Jvm.Cond.methodLink "CatalogueSet$Block" (32 : Nat) ({ cls := "CatalogueSet$Signs", name := "at", desc := "(I)I" } : Jvm.MethodName)) : Cond) ∈ lw_kw := cj_kwm (List.mem_of_getElem? (i := 349) rfl) rfl
set_option maxRecDepth 100000 in
theorem wm_309 : ((Jvm.Cond.methodLink "CatalogueSet$Block" (75 : Nat) ({ cls := "CatalogueSet$Signs", name := "add", desc := "(I)V" } : Jvm.MethodName)) : Cond) ∈ lw_kw := cj_kwm (List.mem_of_getElem? (i := 350) rfl) rfl
set_option maxRecDepth 100000 in
theorem wm_310 : ((Jvm.Cond.methodLink "CatalogueSet$Block" (78 : Nat) ({ cls := "CatalogueSet$Filling", name := "add", desc := "(I)V" } : Jvm.MethodName)) : Cond) ∈ lw_kw := cj_kwm (List.mem_of_getElem? (i := 351) rfl) rfl
set_option maxRecDepth 100000 in
theorem wm_311 : ((Jvm.Cond.instanceMethod ({ cls := "CatalogueSet$Filling", name := "add", desc := "(I)V" } : Jvm.MethodName)) : Cond) ∈ lw_kw := cj_kwm (List.mem_of_getElem? (i := 352) rfl) rfl
set_option maxRecDepth 100000 in
theorem wm_312 : ((Jvm.Cond.selects "CatalogueSet$Filling" ({ cls := "CatalogueSet$Filling", name := "add", desc := "(I)V" } : Jvm.MethodName) ({ cls := "CatalogueSet$Filling", name := "add", desc := "(I)V" } : Jvm.MethodName)) : Cond) ∈ lw_kw := cj_kwm (List.mem_of_getElem? (i := 353) rfl) rfl
set_option maxRecDepth 100000 in
theorem wm_313 : ((Jvm.Cond.code ({ cls := "CatalogueSet$Filling", name := "add", desc := "(I)V" } : Jvm.MethodName) prog_4_method_3_code (2 : Nat) (Option.none : Option Jvm.ClassFile.FieldType)) : Cond) ∈ lw_kw := cj_kwm (List.mem_of_getElem? (i := 354) rfl) rfl
set_option maxRecDepth 100000 in
theorem wm_314 : ((Jvm.Cond.methodLink "CatalogueSet$Block" (45 : Nat) ({ cls := "CatalogueSet$Filling", name := "hasRoomForEach", desc := "()Z" } : Jvm.MethodName)) : Cond) ∈ lw_kw := cj_kwm (List.mem_of_getElem? (i := 355) rfl) rfl
set_option maxRecDepth 100000 in
theorem wm_315 : ((Jvm.Cond.instanceMethod ({ cls := "CatalogueSet$Filling", name := "hasRoomForEach", desc := "()Z" } : Jvm.MethodName)) : Cond) ∈ lw_kw := cj_kwm (List.mem_of_getElem? (i := 356) rfl) rfl
set_option maxRecDepth 100000 in
theorem wm_316 : ((Jvm.Cond.selects "CatalogueSet$Filling" ({ cls := "CatalogueSet$Filling", name := "hasRoomForEach", desc := "()Z" } : Jvm.MethodName) ({ cls := "CatalogueSet$Filling", name := "hasRoomForEach", desc := "()Z" } : Jvm.MethodName)) : Cond) ∈ lw_kw := cj_kwm (List.mem_of_getElem? (i := 357) rfl) rfl
set_option maxRecDepth 100000 in
theorem wm_317 : ((Jvm.Cond.code ({ cls := "CatalogueSet$Filling", name := "hasRoomForEach", desc := "()Z" } : Jvm.MethodName) prog_4_method_6_code (2 : Nat) (Option.some Jvm.ClassFile.FieldType.boolean)) : Cond) ∈ lw_kw := cj_kwm (List.mem_of_getElem? (i := 358) rfl) rfl
set_option maxRecDepth 100000 in
theorem wm_318 : ((Jvm.Cond.methodLink "CatalogueSet$Block" (49 : Nat) ({ cls := "CatalogueSet$Filling", name := "solve", desc := "()V" } : Jvm.MethodName)) : Cond) ∈ lw_kw := cj_kwm (List.mem_of_getElem? (i := 359) rfl) rfl
set_option maxRecDepth 100000 in
theorem wm_319 : ((Jvm.Cond.instanceMethod ({ cls := "CatalogueSet$Filling", name := "solve", desc := "()V" } : Jvm.MethodName)) : Cond) ∈ lw_kw := cj_kwm (List.mem_of_getElem? (i := 360) rfl) rfl
set_option maxRecDepth 100000 in
theorem wm_320 : ((Jvm.Cond.selects "CatalogueSet$Filling" ({ cls := "CatalogueSet$Filling", name := "solve", desc := "()V" } : Jvm.MethodName) ({ cls := "CatalogueSet$Filling", name := "solve", desc := "()V" } : Jvm.MethodName)) : Cond) ∈ lw_kw := cj_kwm (List.mem_of_getElem? (i := 361) rfl) rfl
set_option maxRecDepth 100000 in
theorem wm_321 : ((Jvm.Cond.code ({ cls := "CatalogueSet$Filling", name := "solve", desc := "()V" } : Jvm.MethodName) prog_4_method_9_code (2 : Nat) (Option.none : Option Jvm.ClassFile.FieldType)) : Cond) ∈ lw_kw := cj_kwm (List.mem_of_getElem? (i := 362) rfl) rfl
set_option maxRecDepth 100000 in
theorem wm_322 : ((Jvm.Cond.methodLink "CatalogueSet$Filling" (31 : Nat) ({ cls := "CatalogueSet$Filling", name := "solveFrom", desc := "(I)V" } : Jvm.MethodName)) : Cond) ∈ lw_kw := cj_kwm (List.mem_of_getElem? (i := 363) rfl) rfl
set_option maxRecDepth 100000 in
theorem wm_324 : ((Jvm.Cond.instanceMethod ({ cls := "CatalogueSet$Filling", name := "solveFrom", desc := "(I)V" } : Jvm.MethodName)) : Cond) ∈ lw_kw := cj_kwm (List.mem_of_getElem? (i := 365) rfl) rfl
set_option maxRecDepth 100000 in
theorem wm_325 : ((Jvm.Cond.code ({ cls := "CatalogueSet$Filling", name := "solveFrom", desc := "(I)V" } : Jvm.MethodName) prog_4_method_10_code (6 : Nat) (Option.none : Option Jvm.ClassFile.FieldType)) : Cond) ∈ lw_kw := cj_kwm (List.mem_of_getElem? (i := 366) rfl) rfl
set_option maxRecDepth 100000 in
theorem wm_326 : ((Jvm.Cond.constant "CatalogueSet$Filling" (35 : Nat) (1356800 : Int32)) : Cond) ∈ lw_kw := cj_kwm (List.mem_of_getElem? (i := 367) rfl) rfl
set_option maxRecDepth 100000 in
theorem wm_327 : ((Jvm.Cond.methodLink "CatalogueSet$Filling" (36 : Nat) ({ cls := "CatalogueSet$Filling", name := "sizeOf", desc := "(I)I" } : Jvm.MethodName)) : Cond) ∈ lw_kw := cj_kwm (List.mem_of_getElem? (i := 368) rfl) rfl
set_option maxRecDepth 100000 in
theorem wm_328 : ((Jvm.Cond.instanceMethod ({ cls := "CatalogueSet$Filling", name := "sizeOf", desc := "(I)I" } : Jvm.MethodName)) : Cond) ∈ lw_kw := cj_kwm (List.mem_of_getElem? (i := 369) rfl) rfl
set_option maxRecDepth 100000 in
theorem wm_329 : ((Jvm.Cond.selects "CatalogueSet$Filling" ({ cls := "CatalogueSet$Filling", name := "sizeOf", desc := "(I)I" } : Jvm.MethodName) ({ cls := "CatalogueSet$Filling", name := "sizeOf", desc := "(I)I" } : Jvm.MethodName)) : Cond) ∈ lw_kw := cj_kwm (List.mem_of_getElem? (i := 370) rfl) rfl
set_option maxRecDepth 100000 in
theorem wm_330 : ((Jvm.Cond.code ({ cls := "CatalogueSet$Filling", name := "sizeOf", desc := "(I)I" } : Jvm.MethodName) prog_4_method_5_code (2 : Nat) (Option.some Jvm.ClassFile.FieldType.int)) : Cond) ∈ lw_kw := cj_kwm (List.mem_of_getElem? (i := 371) rfl) rfl
set_option maxRecDepth 100000 in
theorem wm_331 : ((Jvm.Cond.methodLink "CatalogueSet$Block" (52 : Nat) ({ cls := "CatalogueSet$Block", name := "markLines", desc := "(LCatalogueSet$Filling;)V" } : Jvm.MethodName)) : Cond) ∈ lw_kw := cj_kwm (List.mem_of_getElem? (i := 372) rfl) rfl
set_option maxRecDepth 100000 in
theorem wm_333 : ((Jvm.Cond.instanceMethod ({ cls := "CatalogueSet$Block", name := "markLines", desc := "(LCatalogueSet$Filling;)V" } : Jvm.MethodName)) : Cond) ∈ lw_kw := cj_kwm (List.mem_of_getElem? (i := 374) rfl) rfl
set_option maxRecDepth 100000 in
theorem wm_334 : ((Jvm.Cond.code ({ cls := "CatalogueSet$Block", name := "markLines", desc := "(LCatalogueSet$Filling;)V" } : Jvm.MethodName) prog_2_method_11_code (6 : Nat) (Option.none : Option Jvm.ClassFile.FieldType)) : Cond) ∈ lw_kw := cj_kwm (List.mem_of_getElem? (i := 375) rfl) rfl
set_option maxRecDepth 100000 in
theorem wm_335 : ((Jvm.Cond.methodLink "CatalogueSet$Block" (79 : Nat) ({ cls := "CatalogueSet$Filling", name := "items", desc := "()I" } : Jvm.MethodName)) : Cond) ∈ lw_kw := cj_kwm (List.mem_of_getElem? (i := 376) rfl) rfl
set_option maxRecDepth 100000 in
theorem wm_336 : ((Jvm.Cond.instanceMethod ({ cls := "CatalogueSet$Filling", name := "items", desc := "()I" } : Jvm.MethodName)) : Cond) ∈ lw_kw := cj_kwm (List.mem_of_getElem? (i := 377) rfl) rfl
set_option maxRecDepth 100000 in
theorem wm_337 : ((Jvm.Cond.selects "CatalogueSet$Filling" ({ cls := "CatalogueSet$Filling", name := "items", desc := "()I" } : Jvm.MethodName) ({ cls := "CatalogueSet$Filling", name := "items", desc := "()I" } : Jvm.MethodName)) : Cond) ∈ lw_kw := cj_kwm (List.mem_of_getElem? (i := 378) rfl) rfl
set_option maxRecDepth 100000 in
theorem wm_338 : ((Jvm.Cond.code ({ cls := "CatalogueSet$Filling", name := "items", desc := "()I" } : Jvm.MethodName) prog_4_method_4_code (1 : Nat) (Option.some Jvm.ClassFile.FieldType.int)) : Cond) ∈ lw_kw := cj_kwm (List.mem_of_getElem? (i := 379) rfl) rfl
set_option maxRecDepth 100000 in
theorem wm_339 : ((Jvm.Cond.methodLink "CatalogueSet$Block" (82 : Nat) ({ cls := "CatalogueSet$Filling", name := "endOfRow", desc := "(I)I" } : Jvm.MethodName)) : Cond) ∈ lw_kw := cj_kwm (List.mem_of_getElem? (i := 380) rfl) rfl
set_option maxRecDepth 100000 in
theorem wm_340 : ((Jvm.Cond.instanceMethod ({ cls := "CatalogueSet$Filling", name := "endOfRow", desc := "(I)I" } : Jvm.MethodName)) : Cond) ∈ lw_kw := cj_kwm (List.mem_of_getElem? (i := 381) rfl) rfl
set_option maxRecDepth 100000 in
theorem wm_341 : ((Jvm.Cond.selects "CatalogueSet$Filling" ({ cls := "CatalogueSet$Filling", name := "endOfRow", desc := "(I)I" } : Jvm.MethodName) ({ cls := "CatalogueSet$Filling", name := "endOfRow", desc := "(I)I" } : Jvm.MethodName)) : Cond) ∈ lw_kw := cj_kwm (List.mem_of_getElem? (i := 382) rfl) rfl
set_option maxRecDepth 100000 in
theorem wm_342 : ((Jvm.Cond.code ({ cls := "CatalogueSet$Filling", name := "endOfRow", desc := "(I)I" } : Jvm.MethodName) prog_4_method_7_code (2 : Nat) (Option.some Jvm.ClassFile.FieldType.int)) : Cond) ∈ lw_kw := cj_kwm (List.mem_of_getElem? (i := 383) rfl) rfl
set_option maxRecDepth 100000 in
theorem wm_343 : ((Jvm.Cond.methodLink "CatalogueSet$Block" (85 : Nat) ({ cls := "CatalogueSet$Filling", name := "sizeOf", desc := "(I)I" } : Jvm.MethodName)) : Cond) ∈ lw_kw := cj_kwm (List.mem_of_getElem? (i := 384) rfl) rfl
set_option maxRecDepth 100000 in
theorem wm_344 : ((Jvm.Cond.methodLink "CatalogueSet$Press" (83 : Nat) ({ cls := "CatalogueSet$Block", name := "heightOfUnit", desc := "(I)I" } : Jvm.MethodName)) : Cond) ∈ lw_kw := cj_kwm (List.mem_of_getElem? (i := 385) rfl) rfl
set_option maxRecDepth 100000 in
theorem wm_345 : ((Jvm.Cond.instanceMethod ({ cls := "CatalogueSet$Block", name := "heightOfUnit", desc := "(I)I" } : Jvm.MethodName)) : Cond) ∈ lw_kw := cj_kwm (List.mem_of_getElem? (i := 386) rfl) rfl
set_option maxRecDepth 100000 in
theorem wm_346 : ((Jvm.Cond.selects "CatalogueSet$Block" ({ cls := "CatalogueSet$Block", name := "heightOfUnit", desc := "(I)I" } : Jvm.MethodName) ({ cls := "CatalogueSet$Block", name := "heightOfUnit", desc := "(I)I" } : Jvm.MethodName)) : Cond) ∈ lw_kw := cj_kwm (List.mem_of_getElem? (i := 387) rfl) rfl
set_option maxRecDepth 100000 in
theorem wm_347 : ((Jvm.Cond.code ({ cls := "CatalogueSet$Block", name := "heightOfUnit", desc := "(I)I" } : Jvm.MethodName) prog_2_method_8_code (2 : Nat) (Option.some Jvm.ClassFile.FieldType.int)) : Cond) ∈ lw_kw := cj_kwm (List.mem_of_getElem? (i := 388) rfl) rfl
set_option maxRecDepth 100000 in
theorem wm_348 : ((Jvm.Cond.methodLink "CatalogueSet$Block" (65 : Nat) ({ cls := "java/lang/Math", name := "min", desc := "(II)I" } : Jvm.MethodName)) : Cond) ∈ lw_kw := cj_kwm (List.mem_of_getElem? (i := 389) rfl) rfl
set_option maxRecDepth 100000 in
theorem wm_349 : ((Jvm.Cond.methodLink "CatalogueSet$Press" (87 : Nat) ({ cls := "CatalogueSet$Filling", name := "leastSquares", desc := "()I" } : Jvm.MethodName)) : Cond) ∈ lw_kw := cj_kwm (List.mem_of_getElem? (i := 390) rfl) rfl
set_option maxRecDepth 100000 in
theorem wm_350 : ((Jvm.Cond.instanceMethod ({ cls := "CatalogueSet$Filling", name := "leastSquares", desc := "()I" } : Jvm.MethodName)) : Cond) ∈ lw_kw := cj_kwm (List.mem_of_getElem? (i := 391) rfl) rfl
set_option maxRecDepth 100000 in
theorem wm_351 : ((Jvm.Cond.selects "CatalogueSet$Filling" ({ cls := "CatalogueSet$Filling", name := "leastSquares", desc := "()I" } : Jvm.MethodName) ({ cls := "CatalogueSet$Filling", name := "leastSquares", desc := "()I" } : Jvm.MethodName)) : Cond) ∈ lw_kw := cj_kwm (List.mem_of_getElem? (i := 392) rfl) rfl
set_option maxRecDepth 100000 in
theorem wm_352 : ((Jvm.Cond.code ({ cls := "CatalogueSet$Filling", name := "leastSquares", desc := "()I" } : Jvm.MethodName) prog_4_method_8_code (1 : Nat) (Option.some Jvm.ClassFile.FieldType.int)) : Cond) ∈ lw_kw := cj_kwm (List.mem_of_getElem? (i := 393) rfl) rfl
set_option maxRecDepth 100000 in
theorem wm_353 : ((Jvm.Cond.methodLink "CatalogueSet$Press" (90 : Nat) ({ cls := "CatalogueSet$Setting", name := "addLineSquares", desc := "(I)V" } : Jvm.MethodName)) : Cond) ∈ lw_kw := cj_kwm (List.mem_of_getElem? (i := 394) rfl) rfl
set_option maxRecDepth 100000 in
theorem wm_354 : ((Jvm.Cond.instanceMethod ({ cls := "CatalogueSet$Setting", name := "addLineSquares", desc := "(I)V" } : Jvm.MethodName)) : Cond) ∈ lw_kw := cj_kwm (List.mem_of_getElem? (i := 395) rfl) rfl
set_option maxRecDepth 100000 in
theorem wm_355 : ((Jvm.Cond.selects "CatalogueSet$Setting" ({ cls := "CatalogueSet$Setting", name := "addLineSquares", desc := "(I)V" } : Jvm.MethodName) ({ cls := "CatalogueSet$Setting", name := "addLineSquares", desc := "(I)V" } : Jvm.MethodName)) : Cond) ∈ lw_kw := cj_kwm (List.mem_of_getElem? (i := 396) rfl) rfl
set_option maxRecDepth 100000 in
theorem wm_356 : ((Jvm.Cond.code ({ cls := "CatalogueSet$Setting", name := "addLineSquares", desc := "(I)V" } : Jvm.MethodName) prog_6_method_4_code (2 : Nat) (Option.none : Option Jvm.ClassFile.FieldType)) : Cond) ∈ lw_kw := cj_kwm (List.mem_of_getElem? (i := 397) rfl) rfl
set_option maxRecDepth 100000 in
theorem wm_357 : ((Jvm.Cond.methodLink "CatalogueSet$Press" (48 : Nat) ({ cls := "CatalogueSet$Setting", name := "breakPages", desc := "(ILCatalogueSet$Filling;)V" } : Jvm.MethodName)) : Cond) ∈ lw_kw := cj_kwm (List.mem_of_getElem? (i := 398) rfl) rfl
set_option maxRecDepth 100000 in
theorem wm_358 : ((Jvm.Cond.instanceMethod ({ cls := "CatalogueSet$Setting", name := "breakPages", desc := "(ILCatalogueSet$Filling;)V" } : Jvm.MethodName)) : Cond) ∈ lw_kw := cj_kwm (List.mem_of_getElem? (i := 399) rfl) rfl
set_option maxRecDepth 100000 in
theorem wm_359 : ((Jvm.Cond.selects "CatalogueSet$Setting" ({ cls := "CatalogueSet$Setting", name := "breakPages", desc := "(ILCatalogueSet$Filling;)V" } : Jvm.MethodName) ({ cls := "CatalogueSet$Setting", name := "breakPages", desc := "(ILCatalogueSet$Filling;)V" } : Jvm.MethodName)) : Cond) ∈ lw_kw := cj_kwm (List.mem_of_getElem? (i := 400) rfl) rfl
set_option maxRecDepth 100000 in
theorem wm_360 : ((Jvm.Cond.code ({ cls := "CatalogueSet$Setting", name := "breakPages", desc := "(ILCatalogueSet$Filling;)V" } : Jvm.MethodName) prog_6_method_5_code (5 : Nat) (Option.none : Option Jvm.ClassFile.FieldType)) : Cond) ∈ lw_kw := cj_kwm (List.mem_of_getElem? (i := 401) rfl) rfl
set_option maxRecDepth 100000 in
theorem wm_361 : ((Jvm.Cond.methodLink "CatalogueSet$Setting" (44 : Nat) ({ cls := "CatalogueSet$Filling", name := "start", desc := "(II)V" } : Jvm.MethodName)) : Cond) ∈ lw_kw := cj_kwm (List.mem_of_getElem? (i := 402) rfl) rfl
set_option maxRecDepth 100000 in
theorem wm_362 : ((Jvm.Cond.methodLink "CatalogueSet$Setting" (50 : Nat) ({ cls := "CatalogueSet$Filling", name := "items", desc := "()I" } : Jvm.MethodName)) : Cond) ∈ lw_kw := cj_kwm (List.mem_of_getElem? (i := 403) rfl) rfl
set_option maxRecDepth 100000 in
theorem wm_363 : ((Jvm.Cond.methodLink "CatalogueSet$Setting" (54 : Nat) ({ cls := "CatalogueSet$Block", name := "units", desc := "()I" } : Jvm.MethodName)) : Cond) ∈ lw_kw := cj_kwm (List.mem_of_getElem? (i := 404) rfl) rfl
set_option maxRecDepth 100000 in
theorem wm_364 : ((Jvm.Cond.instanceMethod ({ cls := "CatalogueSet$Block", name := "units", desc := "()I" } : Jvm.MethodName)) : Cond) ∈ lw_kw := cj_kwm (List.mem_of_getElem? (i := 405) rfl) rfl
set_option maxRecDepth 100000 in
theorem wm_365 : ((Jvm.Cond.selects "CatalogueSet$Block" ({ cls := "CatalogueSet$Block", name := "units", desc := "()I" } : Jvm.MethodName) ({ cls := "CatalogueSet$Block", name := "units", desc := "()I" } : Jvm.MethodName)) : Cond) ∈ lw_kw := cj_kwm (List.mem_of_getElem? (i := 406) rfl) rfl
set_option maxRecDepth 100000 in
theorem wm_366 : ((Jvm.Cond.code ({ cls := "CatalogueSet$Block", name := "units", desc := "()I" } : Jvm.MethodName) prog_2_method_7_code (1 : Nat) (Option.some Jvm.ClassFile.FieldType.int)) : Cond) ∈ lw_kw := cj_kwm (List.mem_of_getElem? (i := 407) rfl) rfl
set_option maxRecDepth 100000 in
theorem wm_367 : ((Jvm.Cond.methodLink "CatalogueSet$Block" (59 : Nat) ({ cls := "java/lang/Math", name := "max", desc := "(II)I" } : Jvm.MethodName)) : Cond) ∈ lw_kw := cj_kwm (List.mem_of_getElem? (i := 408) rfl) rfl
set_option maxRecDepth 100000 in
theorem wm_368 : ((Jvm.Cond.methodLink "CatalogueSet$Setting" (57 : Nat) ({ cls := "CatalogueSet$Block", name := "heightOfUnit", desc := "(I)I" } : Jvm.MethodName)) : Cond) ∈ lw_kw := cj_kwm (List.mem_of_getElem? (i := 409) rfl) rfl
set_option maxRecDepth 100000 in
theorem wm_369 : ((Jvm.Cond.methodLink "CatalogueSet$Setting" (61 : Nat) ({ cls := "CatalogueSet$Filling", name := "add", desc := "(I)V" } : Jvm.MethodName)) : Cond) ∈ lw_kw := cj_kwm (List.mem_of_getElem? (i := 410) rfl) rfl
set_option maxRecDepth 100000 in
theorem wm_370 : ((Jvm.Cond.methodLink "CatalogueSet$Setting" (65 : Nat) ({ cls := "CatalogueSet$Filling", name := "solve", desc := "()V" } : Jvm.MethodName)) : Cond) ∈ lw_kw := cj_kwm (List.mem_of_getElem? (i := 411) rfl) rfl
set_option maxRecDepth 100000 in
theorem wm_371 : ((Jvm.Cond.methodLink "CatalogueSet$Setting" (68 : Nat) ({ cls := "CatalogueSet$Filling", name := "leastSquares", desc := "()I" } : Jvm.MethodName)) : Cond) ∈ lw_kw := cj_kwm (List.mem_of_getElem? (i := 412) rfl) rfl
set_option maxRecDepth 100000 in
theorem wm_372 : ((Jvm.Cond.methodLink "CatalogueSet$Setting" (74 : Nat) ({ cls := "CatalogueSet$Setting", name := "markPages", desc := "(LCatalogueSet$Filling;)V" } : Jvm.MethodName)) : Cond) ∈ lw_kw := cj_kwm (List.mem_of_getElem? (i := 413) rfl) rfl
set_option maxRecDepth 100000 in
theorem wm_374 : ((Jvm.Cond.instanceMethod ({ cls := "CatalogueSet$Setting", name := "markPages", desc := "(LCatalogueSet$Filling;)V" } : Jvm.MethodName)) : Cond) ∈ lw_kw := cj_kwm (List.mem_of_getElem? (i := 415) rfl) rfl
set_option maxRecDepth 100000 in
theorem wm_375 : ((Jvm.Cond.code ({ cls := "CatalogueSet$Setting", name := "markPages", desc := "(LCatalogueSet$Filling;)V" } : Jvm.MethodName) prog_6_method_15_code (3 : Nat) (Option.none : Option Jvm.ClassFile.FieldType)) : Cond) ∈ lw_kw := cj_kwm (List.mem_of_getElem? (i := 416) rfl) rfl
set_option maxRecDepth 100000 in
theorem wm_376 : ((Jvm.Cond.methodLink "CatalogueSet$Setting" (104 : Nat) ({ cls := "CatalogueSet$Filling", name := "endOfRow", desc := "(I)I" } : Jvm.MethodName)) : Cond) ∈ lw_kw := cj_kwm (List.mem_of_getElem? (i := 417) rfl) rfl
set_option maxRecDepth 100000 in
theorem wm_377 : ((Jvm.Cond.methodLink "CatalogueSet$Setting" (78 : Nat) ({ cls := "CatalogueSet$Setting", name := "findEntryPages", desc := "()V" } : Jvm.MethodName)) : Cond) ∈ lw_kw := cj_kwm (List.mem_of_getElem? (i := 418) rfl) rfl
set_option maxRecDepth 100000 in
theorem wm_379 : ((Jvm.Cond.instanceMethod ({ cls := "CatalogueSet$Setting", name := "findEntryPages", desc := "()V" } : Jvm.MethodName)) : Cond) ∈ lw_kw := cj_kwm (List.mem_of_getElem? (i := 420) rfl) rfl
set_option maxRecDepth 100000 in
theorem wm_380 : ((Jvm.Cond.code ({ cls := "CatalogueSet$Setting", name := "findEntryPages", desc := "()V" } : Jvm.MethodName) prog_6_method_16_code (2 : Nat) (Option.none : Option Jvm.ClassFile.FieldType)) : Cond) ∈ lw_kw := cj_kwm (List.mem_of_getElem? (i := 421) rfl) rfl
set_option maxRecDepth 100000 in
theorem wm_381 : ((Jvm.Cond.methodLink "CatalogueSet$Setting" (107 : Nat) ({ cls := "CatalogueSet$Setting", name := "pageOfUnit", desc := "(I)I" } : Jvm.MethodName)) : Cond) ∈ lw_kw := cj_kwm (List.mem_of_getElem? (i := 422) rfl) rfl
set_option maxRecDepth 100000 in
theorem wm_383 : ((Jvm.Cond.instanceMethod ({ cls := "CatalogueSet$Setting", name := "pageOfUnit", desc := "(I)I" } : Jvm.MethodName)) : Cond) ∈ lw_kw := cj_kwm (List.mem_of_getElem? (i := 424) rfl) rfl
set_option maxRecDepth 100000 in
theorem wm_384 : ((Jvm.Cond.code ({ cls := "CatalogueSet$Setting", name := "pageOfUnit", desc := "(I)I" } : Jvm.MethodName) prog_6_method_17_code (3 : Nat) (Option.some Jvm.ClassFile.FieldType.int)) : Cond) ∈ lw_kw := cj_kwm (List.mem_of_getElem? (i := 425) rfl) rfl
set_option maxRecDepth 100000 in
theorem wm_385 : ((Jvm.Cond.methodLink "CatalogueSet$Press" (52 : Nat) ({ cls := "CatalogueSet$Setting", name := "settle", desc := "([I)Z" } : Jvm.MethodName)) : Cond) ∈ lw_kw := cj_kwm (List.mem_of_getElem? (i := 426) rfl) rfl
set_option maxRecDepth 100000 in
theorem wm_386 : ((Jvm.Cond.instanceMethod ({ cls := "CatalogueSet$Setting", name := "settle", desc := "([I)Z" } : Jvm.MethodName)) : Cond) ∈ lw_kw := cj_kwm (List.mem_of_getElem? (i := 427) rfl) rfl
set_option maxRecDepth 100000 in
theorem wm_387 : ((Jvm.Cond.selects "CatalogueSet$Setting" ({ cls := "CatalogueSet$Setting", name := "settle", desc := "([I)Z" } : Jvm.MethodName) ({ cls := "CatalogueSet$Setting", name := "settle", desc := "([I)Z" } : Jvm.MethodName)) : Cond) ∈ lw_kw := cj_kwm (List.mem_of_getElem? (i := 428) rfl) rfl
set_option maxRecDepth 100000 in
theorem wm_388 : ((Jvm.Cond.code ({ cls := "CatalogueSet$Setting", name := "settle", desc := "([I)Z" } : Jvm.MethodName) prog_6_method_6_code (3 : Nat) (Option.some Jvm.ClassFile.FieldType.boolean)) : Cond) ∈ lw_kw := cj_kwm (List.mem_of_getElem? (i := 429) rfl) rfl
set_option maxRecDepth 100000 in
theorem wm_389 : ((Jvm.Cond.methodLink "CatalogueSet$Press" (56 : Nat) ({ cls := "CatalogueSet$Setting", name := "tellPages", desc := "([I)V" } : Jvm.MethodName)) : Cond) ∈ lw_kw := cj_kwm (List.mem_of_getElem? (i := 430) rfl) rfl
set_option maxRecDepth 100000 in
theorem wm_390 : ((Jvm.Cond.instanceMethod ({ cls := "CatalogueSet$Setting", name := "tellPages", desc := "([I)V" } : Jvm.MethodName)) : Cond) ∈ lw_kw := cj_kwm (List.mem_of_getElem? (i := 431) rfl) rfl
set_option maxRecDepth 100000 in
theorem wm_391 : ((Jvm.Cond.selects "CatalogueSet$Setting" ({ cls := "CatalogueSet$Setting", name := "tellPages", desc := "([I)V" } : Jvm.MethodName) ({ cls := "CatalogueSet$Setting", name := "tellPages", desc := "([I)V" } : Jvm.MethodName)) : Cond) ∈ lw_kw := cj_kwm (List.mem_of_getElem? (i := 432) rfl) rfl
set_option maxRecDepth 100000 in
theorem wm_392 : ((Jvm.Cond.code ({ cls := "CatalogueSet$Setting", name := "tellPages", desc := "([I)V" } : Jvm.MethodName) prog_6_method_7_code (3 : Nat) (Option.none : Option Jvm.ClassFile.FieldType)) : Cond) ∈ lw_kw := cj_kwm (List.mem_of_getElem? (i := 433) rfl) rfl
set_option maxRecDepth 100000 in
theorem wm_393 : ((Jvm.Cond.methodLink "CatalogueSet" (168 : Nat) ({ cls := "CatalogueSet$Setting", name := "pages", desc := "()I" } : Jvm.MethodName)) : Cond) ∈ lw_kw := cj_kwm (List.mem_of_getElem? (i := 434) rfl) rfl
set_option maxRecDepth 100000 in
theorem wm_394 : ((Jvm.Cond.instanceMethod ({ cls := "CatalogueSet$Setting", name := "pages", desc := "()I" } : Jvm.MethodName)) : Cond) ∈ lw_kw := cj_kwm (List.mem_of_getElem? (i := 435) rfl) rfl
set_option maxRecDepth 100000 in
theorem wm_395 : ((Jvm.Cond.selects "CatalogueSet$Setting" ({ cls := "CatalogueSet$Setting", name := "pages", desc := "()I" } : Jvm.MethodName) ({ cls := "CatalogueSet$Setting", name := "pages", desc := "()I" } : Jvm.MethodName)) : Cond) ∈ lw_kw := cj_kwm (List.mem_of_getElem? (i := 436) rfl) rfl
set_option maxRecDepth 100000 in
theorem wm_396 : ((Jvm.Cond.code ({ cls := "CatalogueSet$Setting", name := "pages", desc := "()I" } : Jvm.MethodName) prog_6_method_8_code (1 : Nat) (Option.some Jvm.ClassFile.FieldType.int)) : Cond) ∈ lw_kw := cj_kwm (List.mem_of_getElem? (i := 437) rfl) rfl
set_option maxRecDepth 100000 in
theorem wm_397 : ((Jvm.Cond.methodLink "CatalogueSetLaw" (58 : Nat) ({ cls := "CatalogueSetLaw", name := "cell", desc := "([II)I" } : Jvm.MethodName)) : Cond) ∈ lw_kw := cj_kwm (List.mem_of_getElem? (i := 438) rfl) rfl
set_option maxRecDepth 100000 in
theorem wm_398 : ((Jvm.Cond.static ({ cls := "CatalogueSetLaw", name := "cell", desc := "([II)I" } : Jvm.MethodName)) : Cond) ∈ lw_kw := cj_kwm (List.mem_of_getElem? (i := 439) rfl) rfl
set_option maxRecDepth 100000 in
theorem wm_399 : ((Jvm.Cond.code ({ cls := "CatalogueSetLaw", name := "cell", desc := "([II)I" } : Jvm.MethodName) method_2_code (2 : Nat) (Option.some Jvm.ClassFile.FieldType.int)) : Cond) ∈ lw_kw := cj_kwm (List.mem_of_getElem? (i := 440) rfl) rfl
set_option maxRecDepth 100000 in
theorem wm_400 : ((Jvm.Cond.methodLink "CatalogueSetLaw" (70 : Nat) ({ cls := "CatalogueSetLaw", name := "unit", desc := "(LCatalogueSet;II[J)I" } : Jvm.MethodName)) : Cond) ∈ lw_kw := cj_kwm (List.mem_of_getElem? (i := 441) rfl) rfl
set_option maxRecDepth 100000 in
theorem wm_401 : ((Jvm.Cond.static ({ cls := "CatalogueSetLaw", name := "unit", desc := "(LCatalogueSet;II[J)I" } : Jvm.MethodName)) : Cond) ∈ lw_kw := cj_kwm (List.mem_of_getElem? (i := 442) rfl) rfl
set_option maxRecDepth 100000 in
theorem wm_402 : ((Jvm.Cond.codeWith ({ cls := "CatalogueSetLaw", name := "unit", desc := "(LCatalogueSet;II[J)I" } : Jvm.MethodName) method_3_code (5 : Nat) (Option.some Jvm.ClassFile.FieldType.int) [((0 : Nat), (10 : Nat), (13 : Nat), (13 : Nat)), ((0 : Nat), (10 : Nat), (17 : Nat), (15 : Nat))]) : Cond) ∈ lw_kw := cj_kwm (List.mem_of_getElem? (i := 443) rfl) rfl
set_option maxRecDepth 100000 in
theorem wm_403 : ((Jvm.Cond.classLink "CatalogueSetLaw" (13 : Nat) "java/lang/IllegalStateException") : Cond) ∈ lw_kw := cj_kwm (List.mem_of_getElem? (i := 444) rfl) rfl
set_option maxRecDepth 100000 in
theorem wm_404 : ((Jvm.Cond.classLink "CatalogueSetLaw" (15 : Nat) "java/lang/IllegalArgumentException") : Cond) ∈ lw_kw := cj_kwm (List.mem_of_getElem? (i := 445) rfl) rfl
set_option maxRecDepth 100000 in
theorem wm_405 : ((Jvm.Cond.methodLink "CatalogueSetLaw" (7 : Nat) ({ cls := "CatalogueSet", name := "unit", desc := "(II)I" } : Jvm.MethodName)) : Cond) ∈ lw_kw := cj_kwm (List.mem_of_getElem? (i := 446) rfl) rfl
set_option maxRecDepth 100000 in
theorem wm_406 : ((Jvm.Cond.instanceMethod ({ cls := "CatalogueSet", name := "unit", desc := "(II)I" } : Jvm.MethodName)) : Cond) ∈ lw_kw := cj_kwm (List.mem_of_getElem? (i := 447) rfl) rfl
set_option maxRecDepth 100000 in
theorem wm_407 : ((Jvm.Cond.selects "CatalogueSet" ({ cls := "CatalogueSet", name := "unit", desc := "(II)I" } : Jvm.MethodName) ({ cls := "CatalogueSet", name := "unit", desc := "(II)I" } : Jvm.MethodName)) : Cond) ∈ lw_kw := cj_kwm (List.mem_of_getElem? (i := 448) rfl) rfl
set_option maxRecDepth 100000 in
theorem wm_408 : ((Jvm.Cond.code ({ cls := "CatalogueSet", name := "unit", desc := "(II)I" } : Jvm.MethodName) prog_1_method_2_code (3 : Nat) (Option.some Jvm.ClassFile.FieldType.int)) : Cond) ∈ lw_kw := cj_kwm (List.mem_of_getElem? (i := 449) rfl) rfl
set_option maxRecDepth 100000 in
theorem wm_409 : ((Jvm.Cond.methodLink "CatalogueSet" (64 : Nat) ({ cls := "CatalogueSet$Signs", name := "size", desc := "()I" } : Jvm.MethodName)) : Cond) ∈ lw_kw := cj_kwm (List.mem_of_getElem? (i := 450) rfl) rfl
set_option maxRecDepth 100000 in
theorem wm_410 : ((Jvm.Cond.methodLink "CatalogueSet" (68 : Nat) ({ cls := "CatalogueSet", name := "signsIn", desc := "(I)I" } : Jvm.MethodName)) : Cond) ∈ lw_kw := cj_kwm (List.mem_of_getElem? (i := 451) rfl) rfl
set_option maxRecDepth 100000 in
theorem wm_411 : ((Jvm.Cond.static ({ cls := "CatalogueSet", name := "signsIn", desc := "(I)I" } : Jvm.MethodName)) : Cond) ∈ lw_kw := cj_kwm (List.mem_of_getElem? (i := 452) rfl) rfl
set_option maxRecDepth 100000 in
theorem wm_412 : ((Jvm.Cond.code ({ cls := "CatalogueSet", name := "signsIn", desc := "(I)I" } : Jvm.MethodName) prog_1_method_20_code (3 : Nat) (Option.some Jvm.ClassFile.FieldType.int)) : Cond) ∈ lw_kw := cj_kwm (List.mem_of_getElem? (i := 453) rfl) rfl
set_option maxRecDepth 100000 in
theorem wm_413 : ((Jvm.Cond.methodLink "CatalogueSet" (224 : Nat) ({ cls := "CatalogueSet", name := "byteOf", desc := "(II)I" } : Jvm.MethodName)) : Cond) ∈ lw_kw := cj_kwm (List.mem_of_getElem? (i := 454) rfl) rfl
set_option maxRecDepth 100000 in
theorem wm_414 : ((Jvm.Cond.static ({ cls := "CatalogueSet", name := "byteOf", desc := "(II)I" } : Jvm.MethodName)) : Cond) ∈ lw_kw := cj_kwm (List.mem_of_getElem? (i := 455) rfl) rfl
set_option maxRecDepth 100000 in
theorem wm_415 : ((Jvm.Cond.code ({ cls := "CatalogueSet", name := "byteOf", desc := "(II)I" } : Jvm.MethodName) prog_1_method_19_code (2 : Nat) (Option.some Jvm.ClassFile.FieldType.int)) : Cond) ∈ lw_kw := cj_kwm (List.mem_of_getElem? (i := 456) rfl) rfl
set_option maxRecDepth 100000 in
theorem wm_416 : ((Jvm.Cond.classLink "CatalogueSet" (72 : Nat) "java/lang/IllegalStateException") : Cond) ∈ lw_kw := cj_kwm (List.mem_of_getElem? (i := 457) rfl) rfl
set_option maxRecDepth 100000 in
theorem wm_417 : ((Jvm.Cond.instantiable "java/lang/IllegalStateException" (6 : Nat)) : Cond) ∈ lw_kw := cj_kwm (List.mem_of_getElem? (i := 458) rfl) rfl
set_option maxRecDepth 100000 in
theorem wm_418 : ((Jvm.Cond.castable "java/lang/IllegalStateException" "java/lang/IllegalStateException") : Cond) ∈ lw_kw := cj_kwm (List.mem_of_getElem? (i := 459) rfl) rfl
set_option maxRecDepth 100000 in
theorem wm_457 : ((Jvm.Cond.stringRef "CatalogueSet" (74 : Nat) "the pad would have more than 32 signs") : Cond) ∈ lw_kw := cj_kwm (List.mem_of_getElem? (i := 498) rfl) rfl
set_option maxRecDepth 100000 in
theorem wm_484 : ((Jvm.Cond.methodLink "CatalogueSet" (79 : Nat) ({ cls := "CatalogueSet", name := "hasGoodSigns", desc := "(I)Z" } : Jvm.MethodName)) : Cond) ∈ lw_kw := cj_kwm (List.mem_of_getElem? (i := 525) rfl) rfl
set_option maxRecDepth 100000 in
theorem wm_485 : ((Jvm.Cond.static ({ cls := "CatalogueSet", name := "hasGoodSigns", desc := "(I)Z" } : Jvm.MethodName)) : Cond) ∈ lw_kw := cj_kwm (List.mem_of_getElem? (i := 526) rfl) rfl
set_option maxRecDepth 100000 in
theorem wm_486 : ((Jvm.Cond.code ({ cls := "CatalogueSet", name := "hasGoodSigns", desc := "(I)Z" } : Jvm.MethodName) prog_1_method_21_code (3 : Nat) (Option.some Jvm.ClassFile.FieldType.boolean)) : Cond) ∈ lw_kw := cj_kwm (List.mem_of_getElem? (i := 527) rfl) rfl
set_option maxRecDepth 100000 in
theorem wm_487 : ((Jvm.Cond.classLink "CatalogueSet" (83 : Nat) "java/lang/IllegalArgumentException") : Cond) ∈ lw_kw := cj_kwm (List.mem_of_getElem? (i := 528) rfl) rfl
set_option maxRecDepth 100000 in
theorem wm_488 : ((Jvm.Cond.instantiable "java/lang/IllegalArgumentException" (6 : Nat)) : Cond) ∈ lw_kw := cj_kwm (List.mem_of_getElem? (i := 529) rfl) rfl
set_option maxRecDepth 100000 in
theorem wm_489 : ((Jvm.Cond.castable "java/lang/IllegalArgumentException" "java/lang/IllegalArgumentException") : Cond) ∈ lw_kw := cj_kwm (List.mem_of_getElem? (i := 530) rfl) rfl
set_option maxRecDepth 100000 in
theorem wm_496 : ((Jvm.Cond.stringRef "CatalogueSet" (85 : Nat) "a sign is not 32 .. 126") : Cond) ∈ lw_kw := cj_kwm (List.mem_of_getElem? (i := 537) rfl) rfl
set_option maxRecDepth 100000 in
theorem wm_503 : ((Jvm.Cond.methodLink "CatalogueSet" (88 : Nat) ({ cls := "CatalogueSet", name := "addSignsOf", desc := "(I)V" } : Jvm.MethodName)) : Cond) ∈ lw_kw := cj_kwm (List.mem_of_getElem? (i := 544) rfl) rfl
set_option maxRecDepth 100000 in
theorem wm_505 : ((Jvm.Cond.instanceMethod ({ cls := "CatalogueSet", name := "addSignsOf", desc := "(I)V" } : Jvm.MethodName)) : Cond) ∈ lw_kw := cj_kwm (List.mem_of_getElem? (i := 546) rfl) rfl
set_option maxRecDepth 100000 in
theorem wm_506 : ((Jvm.Cond.code ({ cls := "CatalogueSet", name := "addSignsOf", desc := "(I)V" } : Jvm.MethodName) prog_1_method_22_code (4 : Nat) (Option.none : Option Jvm.ClassFile.FieldType)) : Cond) ∈ lw_kw := cj_kwm (List.mem_of_getElem? (i := 547) rfl) rfl
set_option maxRecDepth 100000 in
theorem wm_507 : ((Jvm.Cond.methodLink "CatalogueSet" (227 : Nat) ({ cls := "CatalogueSet$Signs", name := "add", desc := "(I)V" } : Jvm.MethodName)) : Cond) ∈ lw_kw := cj_kwm (List.mem_of_getElem? (i := 548) rfl) rfl
set_option maxRecDepth 100000 in
theorem wm_508 : ((Jvm.Cond.methodLink "CatalogueSetLaw" (77 : Nat) ({ cls := "CatalogueSetLaw", name := "template", desc := "(LCatalogueSet;[J)I" } : Jvm.MethodName)) : Cond) ∈ lw_kw := cj_kwm (List.mem_of_getElem? (i := 549) rfl) rfl
set_option maxRecDepth 100000 in
theorem wm_509 : ((Jvm.Cond.static ({ cls := "CatalogueSetLaw", name := "template", desc := "(LCatalogueSet;[J)I" } : Jvm.MethodName)) : Cond) ∈ lw_kw := cj_kwm (List.mem_of_getElem? (i := 550) rfl) rfl
set_option maxRecDepth 100000 in
theorem wm_510 : ((Jvm.Cond.codeWith ({ cls := "CatalogueSetLaw", name := "template", desc := "(LCatalogueSet;[J)I" } : Jvm.MethodName) method_4_code (3 : Nat) (Option.some Jvm.ClassFile.FieldType.int) [((0 : Nat), (8 : Nat), (11 : Nat), (13 : Nat))]) : Cond) ∈ lw_kw := cj_kwm (List.mem_of_getElem? (i := 551) rfl) rfl
set_option maxRecDepth 100000 in
theorem wm_511 : ((Jvm.Cond.methodLink "CatalogueSetLaw" (17 : Nat) ({ cls := "CatalogueSet", name := "template", desc := "()I" } : Jvm.MethodName)) : Cond) ∈ lw_kw := cj_kwm (List.mem_of_getElem? (i := 552) rfl) rfl
set_option maxRecDepth 100000 in
theorem wm_512 : ((Jvm.Cond.instanceMethod ({ cls := "CatalogueSet", name := "template", desc := "()I" } : Jvm.MethodName)) : Cond) ∈ lw_kw := cj_kwm (List.mem_of_getElem? (i := 553) rfl) rfl
set_option maxRecDepth 100000 in
theorem wm_513 : ((Jvm.Cond.selects "CatalogueSet" ({ cls := "CatalogueSet", name := "template", desc := "()I" } : Jvm.MethodName) ({ cls := "CatalogueSet", name := "template", desc := "()I" } : Jvm.MethodName)) : Cond) ∈ lw_kw := cj_kwm (List.mem_of_getElem? (i := 554) rfl) rfl
set_option maxRecDepth 100000 in
theorem wm_514 : ((Jvm.Cond.code ({ cls := "CatalogueSet", name := "template", desc := "()I" } : Jvm.MethodName) prog_1_method_3_code (2 : Nat) (Option.some Jvm.ClassFile.FieldType.int)) : Cond) ∈ lw_kw := cj_kwm (List.mem_of_getElem? (i := 555) rfl) rfl
set_option maxRecDepth 100000 in
theorem wm_515 : ((Jvm.Cond.stringRef "CatalogueSet" (94 : Nat) "there are six templates") : Cond) ∈ lw_kw := cj_kwm (List.mem_of_getElem? (i := 556) rfl) rfl
set_option maxRecDepth 100000 in
theorem wm_516 : ((Jvm.Cond.methodLink "CatalogueSet" (96 : Nat) ({ cls := "CatalogueSet", name := "firstWrongPlace", desc := "(LCatalogueSet$Signs;)I" } : Jvm.MethodName)) : Cond) ∈ lw_kw := cj_kwm (List.mem_of_getElem? (i := 557) rfl) rfl
set_option maxRecDepth 100000 in
theorem wm_517 : ((Jvm.Cond.static ({ cls := "CatalogueSet", name := "firstWrongPlace", desc := "(LCatalogueSet$Signs;)I" } : Jvm.MethodName)) : Cond) ∈ lw_kw := cj_kwm (List.mem_of_getElem? (i := 558) rfl) rfl
set_option maxRecDepth 100000 in
theorem wm_518 : ((Jvm.Cond.code ({ cls := "CatalogueSet", name := "firstWrongPlace", desc := "(LCatalogueSet$Signs;)I" } : Jvm.MethodName) prog_1_method_24_code (6 : Nat) (Option.some Jvm.ClassFile.FieldType.int)) : Cond) ∈ lw_kw := cj_kwm (List.mem_of_getElem? (i := 559) rfl) rfl
set_option maxRecDepth 100000 in
theorem wm_519 : ((Jvm.Cond.methodLink "CatalogueSet" (233 : Nat) ({ cls := "CatalogueSet$Signs", name := "at", desc := "(I)I" } : Jvm.MethodName)) : Cond) ∈ lw_kw := cj_kwm (List.mem_of_getElem? (i := 560) rfl) rfl
set_option maxRecDepth 100000 in
theorem wm_520 : ((Jvm.Cond.methodLink "CatalogueSet" (236 : Nat) ({ cls := "CatalogueSet", name := "isLetter", desc := "(I)Z" } : Jvm.MethodName)) : Cond) ∈ lw_kw := cj_kwm (List.mem_of_getElem? (i := 561) rfl) rfl
set_option maxRecDepth 100000 in
theorem wm_521 : ((Jvm.Cond.static ({ cls := "CatalogueSet", name := "isLetter", desc := "(I)Z" } : Jvm.MethodName)) : Cond) ∈ lw_kw := cj_kwm (List.mem_of_getElem? (i := 562) rfl) rfl
set_option maxRecDepth 100000 in
theorem wm_522 : ((Jvm.Cond.code ({ cls := "CatalogueSet", name := "isLetter", desc := "(I)Z" } : Jvm.MethodName) prog_1_method_18_code (1 : Nat) (Option.some Jvm.ClassFile.FieldType.boolean)) : Cond) ∈ lw_kw := cj_kwm (List.mem_of_getElem? (i := 563) rfl) rfl
set_option maxRecDepth 100000 in
theorem wm_523 : ((Jvm.Cond.methodLink "CatalogueSet" (100 : Nat) ({ cls := "CatalogueSet$Signs", name := "clear", desc := "()V" } : Jvm.MethodName)) : Cond) ∈ lw_kw := cj_kwm (List.mem_of_getElem? (i := 564) rfl) rfl
set_option maxRecDepth 100000 in
theorem wm_524 : ((Jvm.Cond.methodLink "CatalogueSet" (103 : Nat) ({ cls := "CatalogueSet", name := "movePadTo", desc := "(LCatalogueSet$Signs;)I" } : Jvm.MethodName)) : Cond) ∈ lw_kw := cj_kwm (List.mem_of_getElem? (i := 565) rfl) rfl
set_option maxRecDepth 100000 in
theorem wm_526 : ((Jvm.Cond.instanceMethod ({ cls := "CatalogueSet", name := "movePadTo", desc := "(LCatalogueSet$Signs;)I" } : Jvm.MethodName)) : Cond) ∈ lw_kw := cj_kwm (List.mem_of_getElem? (i := 567) rfl) rfl
set_option maxRecDepth 100000 in
theorem wm_527 : ((Jvm.Cond.code ({ cls := "CatalogueSet", name := "movePadTo", desc := "(LCatalogueSet$Signs;)I" } : Jvm.MethodName) prog_1_method_23_code (2 : Nat) (Option.some Jvm.ClassFile.FieldType.int)) : Cond) ∈ lw_kw := cj_kwm (List.mem_of_getElem? (i := 568) rfl) rfl
set_option maxRecDepth 100000 in
theorem wm_528 : ((Jvm.Cond.methodLink "CatalogueSet" (230 : Nat) ({ cls := "CatalogueSet$Signs", name := "addAll", desc := "(LCatalogueSet$Signs;)V" } : Jvm.MethodName)) : Cond) ∈ lw_kw := cj_kwm (List.mem_of_getElem? (i := 569) rfl) rfl
set_option maxRecDepth 100000 in
theorem wm_529 : ((Jvm.Cond.methodLink "CatalogueSetLaw" (81 : Nat) ({ cls := "CatalogueSetLaw", name := "entry", desc := "(LCatalogueSet;I[J)I" } : Jvm.MethodName)) : Cond) ∈ lw_kw := cj_kwm (List.mem_of_getElem? (i := 570) rfl) rfl
set_option maxRecDepth 100000 in
theorem wm_530 : ((Jvm.Cond.static ({ cls := "CatalogueSetLaw", name := "entry", desc := "(LCatalogueSet;I[J)I" } : Jvm.MethodName)) : Cond) ∈ lw_kw := cj_kwm (List.mem_of_getElem? (i := 571) rfl) rfl
set_option maxRecDepth 100000 in
theorem wm_531 : ((Jvm.Cond.codeWith ({ cls := "CatalogueSetLaw", name := "entry", desc := "(LCatalogueSet;I[J)I" } : Jvm.MethodName) method_5_code (4 : Nat) (Option.some Jvm.ClassFile.FieldType.int) [((0 : Nat), (9 : Nat), (12 : Nat), (25 : Nat)), ((0 : Nat), (9 : Nat), (15 : Nat), (13 : Nat))]) : Cond) ∈ lw_kw := cj_kwm (List.mem_of_getElem? (i := 572) rfl) rfl
set_option maxRecDepth 100000 in
theorem wm_532 : ((Jvm.Cond.classLink "CatalogueSetLaw" (25 : Nat) "java/lang/IndexOutOfBoundsException") : Cond) ∈ lw_kw := cj_kwm (List.mem_of_getElem? (i := 573) rfl) rfl
set_option maxRecDepth 100000 in
theorem wm_533 : ((Jvm.Cond.methodLink "CatalogueSetLaw" (21 : Nat) ({ cls := "CatalogueSet", name := "entry", desc := "(I)I" } : Jvm.MethodName)) : Cond) ∈ lw_kw := cj_kwm (List.mem_of_getElem? (i := 574) rfl) rfl
set_option maxRecDepth 100000 in
theorem wm_534 : ((Jvm.Cond.instanceMethod ({ cls := "CatalogueSet", name := "entry", desc := "(I)I" } : Jvm.MethodName)) : Cond) ∈ lw_kw := cj_kwm (List.mem_of_getElem? (i := 575) rfl) rfl
set_option maxRecDepth 100000 in
theorem wm_535 : ((Jvm.Cond.selects "CatalogueSet" ({ cls := "CatalogueSet", name := "entry", desc := "(I)I" } : Jvm.MethodName) ({ cls := "CatalogueSet", name := "entry", desc := "(I)I" } : Jvm.MethodName)) : Cond) ∈ lw_kw := cj_kwm (List.mem_of_getElem? (i := 576) rfl) rfl
set_option maxRecDepth 100000 in
theorem wm_536 : ((Jvm.Cond.code ({ cls := "CatalogueSet", name := "entry", desc := "(I)I" } : Jvm.MethodName) prog_1_method_4_code (2 : Nat) (Option.some Jvm.ClassFile.FieldType.int)) : Cond) ∈ lw_kw := cj_kwm (List.mem_of_getElem? (i := 577) rfl) rfl
set_option maxRecDepth 100000 in
theorem wm_537 : ((Jvm.Cond.classLink "CatalogueSet" (106 : Nat) "java/lang/IndexOutOfBoundsException") : Cond) ∈ lw_kw := cj_kwm (List.mem_of_getElem? (i := 578) rfl) rfl
set_option maxRecDepth 100000 in
theorem wm_538 : ((Jvm.Cond.instantiable "java/lang/IndexOutOfBoundsException" (6 : Nat)) : Cond) ∈ lw_kw := cj_kwm (List.mem_of_getElem? (i := 579) rfl) rfl
set_option maxRecDepth 100000 in
theorem wm_539 : ((Jvm.Cond.castable "java/lang/IndexOutOfBoundsException" "java/lang/IndexOutOfBoundsException") : Cond) ∈ lw_kw := cj_kwm (List.mem_of_getElem? (i := 580) rfl) rfl
set_option maxRecDepth 100000 in
theorem wm_546 : ((Jvm.Cond.stringRef "CatalogueSet" (108 : Nat) "no such template") : Cond) ∈ lw_kw := cj_kwm (List.mem_of_getElem? (i := 587) rfl) rfl
set_option maxRecDepth 100000 in
theorem wm_553 : ((Jvm.Cond.stringRef "CatalogueSet" (114 : Nat) "there are eight entries") : Cond) ∈ lw_kw := cj_kwm (List.mem_of_getElem? (i := 594) rfl) rfl
set_option maxRecDepth 100000 in
theorem wm_554 : ((Jvm.Cond.methodLink "CatalogueSet" (116 : Nat) ({ cls := "CatalogueSet$Entry", name := "useTemplate", desc := "(LCatalogueSet$Signs;)V" } : Jvm.MethodName)) : Cond) ∈ lw_kw := cj_kwm (List.mem_of_getElem? (i := 595) rfl) rfl
set_option maxRecDepth 100000 in
theorem wm_555 : ((Jvm.Cond.instanceMethod ({ cls := "CatalogueSet$Entry", name := "useTemplate", desc := "(LCatalogueSet$Signs;)V" } : Jvm.MethodName)) : Cond) ∈ lw_kw := cj_kwm (List.mem_of_getElem? (i := 596) rfl) rfl
set_option maxRecDepth 100000 in
theorem wm_556 : ((Jvm.Cond.selects "CatalogueSet$Entry" ({ cls := "CatalogueSet$Entry", name := "useTemplate", desc := "(LCatalogueSet$Signs;)V" } : Jvm.MethodName) ({ cls := "CatalogueSet$Entry", name := "useTemplate", desc := "(LCatalogueSet$Signs;)V" } : Jvm.MethodName)) : Cond) ∈ lw_kw := cj_kwm (List.mem_of_getElem? (i := 597) rfl) rfl
set_option maxRecDepth 100000 in
theorem wm_557 : ((Jvm.Cond.code ({ cls := "CatalogueSet$Entry", name := "useTemplate", desc := "(LCatalogueSet$Signs;)V" } : Jvm.MethodName) prog_3_method_2_code (2 : Nat) (Option.none : Option Jvm.ClassFile.FieldType)) : Cond) ∈ lw_kw := cj_kwm (List.mem_of_getElem? (i := 598) rfl) rfl
set_option maxRecDepth 100000 in
theorem wm_558 : ((Jvm.Cond.methodLink "CatalogueSetLaw" (85 : Nat) ({ cls := "CatalogueSetLaw", name := "field", desc := "(LCatalogueSet;II[J)I" } : Jvm.MethodName)) : Cond) ∈ lw_kw := cj_kwm (List.mem_of_getElem? (i := 599) rfl) rfl
set_option maxRecDepth 100000 in
theorem wm_559 : ((Jvm.Cond.static ({ cls := "CatalogueSetLaw", name := "field", desc := "(LCatalogueSet;II[J)I" } : Jvm.MethodName)) : Cond) ∈ lw_kw := cj_kwm (List.mem_of_getElem? (i := 600) rfl) rfl
set_option maxRecDepth 100000 in
theorem wm_560 : ((Jvm.Cond.codeWith ({ cls := "CatalogueSetLaw", name := "field", desc := "(LCatalogueSet;II[J)I" } : Jvm.MethodName) method_6_code (5 : Nat) (Option.some Jvm.ClassFile.FieldType.int) [((0 : Nat), (10 : Nat), (13 : Nat), (25 : Nat)), ((0 : Nat), (10 : Nat), (17 : Nat), (15 : Nat))]) : Cond) ∈ lw_kw := cj_kwm (List.mem_of_getElem? (i := 601) rfl) rfl
set_option maxRecDepth 100000 in
theorem wm_561 : ((Jvm.Cond.methodLink "CatalogueSetLaw" (27 : Nat) ({ cls := "CatalogueSet", name := "field", desc := "(II)I" } : Jvm.MethodName)) : Cond) ∈ lw_kw := cj_kwm (List.mem_of_getElem? (i := 602) rfl) rfl
set_option maxRecDepth 100000 in
theorem wm_562 : ((Jvm.Cond.instanceMethod ({ cls := "CatalogueSet", name := "field", desc := "(II)I" } : Jvm.MethodName)) : Cond) ∈ lw_kw := cj_kwm (List.mem_of_getElem? (i := 603) rfl) rfl
set_option maxRecDepth 100000 in
theorem wm_563 : ((Jvm.Cond.selects "CatalogueSet" ({ cls := "CatalogueSet", name := "field", desc := "(II)I" } : Jvm.MethodName) ({ cls := "CatalogueSet", name := "field", desc := "(II)I" } : Jvm.MethodName)) : Cond) ∈ lw_kw := cj_kwm (List.mem_of_getElem? (i := 604) rfl) rfl
set_option maxRecDepth 100000 in
theorem wm_564 : ((Jvm.Cond.code ({ cls := "CatalogueSet", name := "field", desc := "(II)I" } : Jvm.MethodName) prog_1_method_5_code (3 : Nat) (Option.some Jvm.ClassFile.FieldType.int)) : Cond) ∈ lw_kw := cj_kwm (List.mem_of_getElem? (i := 605) rfl) rfl
set_option maxRecDepth 100000 in
theorem wm_565 : ((Jvm.Cond.methodLink "CatalogueSet" (120 : Nat) ({ cls := "CatalogueSet", name := "isEntry", desc := "(I)Z" } : Jvm.MethodName)) : Cond) ∈ lw_kw := cj_kwm (List.mem_of_getElem? (i := 606) rfl) rfl
set_option maxRecDepth 100000 in
theorem wm_567 : ((Jvm.Cond.instanceMethod ({ cls := "CatalogueSet", name := "isEntry", desc := "(I)Z" } : Jvm.MethodName)) : Cond) ∈ lw_kw := cj_kwm (List.mem_of_getElem? (i := 608) rfl) rfl
set_option maxRecDepth 100000 in
theorem wm_568 : ((Jvm.Cond.code ({ cls := "CatalogueSet", name := "isEntry", desc := "(I)Z" } : Jvm.MethodName) prog_1_method_16_code (2 : Nat) (Option.some Jvm.ClassFile.FieldType.boolean)) : Cond) ∈ lw_kw := cj_kwm (List.mem_of_getElem? (i := 609) rfl) rfl
set_option maxRecDepth 100000 in
theorem wm_569 : ((Jvm.Cond.methodLink "CatalogueSet" (123 : Nat) ({ cls := "CatalogueSet", name := "isField", desc := "(I)Z" } : Jvm.MethodName)) : Cond) ∈ lw_kw := cj_kwm (List.mem_of_getElem? (i := 610) rfl) rfl
set_option maxRecDepth 100000 in
theorem wm_570 : ((Jvm.Cond.static ({ cls := "CatalogueSet", name := "isField", desc := "(I)Z" } : Jvm.MethodName)) : Cond) ∈ lw_kw := cj_kwm (List.mem_of_getElem? (i := 611) rfl) rfl
set_option maxRecDepth 100000 in
theorem wm_571 : ((Jvm.Cond.code ({ cls := "CatalogueSet", name := "isField", desc := "(I)Z" } : Jvm.MethodName) prog_1_method_17_code (1 : Nat) (Option.some Jvm.ClassFile.FieldType.boolean)) : Cond) ∈ lw_kw := cj_kwm (List.mem_of_getElem? (i := 612) rfl) rfl
set_option maxRecDepth 100000 in
theorem wm_572 : ((Jvm.Cond.stringRef "CatalogueSet" (126 : Nat) "no such entry or field") : Cond) ∈ lw_kw := cj_kwm (List.mem_of_getElem? (i := 613) rfl) rfl
set_option maxRecDepth 100000 in
theorem wm_573 : ((Jvm.Cond.methodLink "CatalogueSet" (128 : Nat) ({ cls := "CatalogueSet", name := "isFieldText", desc := "(LCatalogueSet$Signs;)Z" } : Jvm.MethodName)) : Cond) ∈ lw_kw := cj_kwm (List.mem_of_getElem? (i := 614) rfl) rfl
set_option maxRecDepth 100000 in
theorem wm_574 : ((Jvm.Cond.static ({ cls := "CatalogueSet", name := "isFieldText", desc := "(LCatalogueSet$Signs;)Z" } : Jvm.MethodName)) : Cond) ∈ lw_kw := cj_kwm (List.mem_of_getElem? (i := 615) rfl) rfl
set_option maxRecDepth 100000 in
theorem wm_575 : ((Jvm.Cond.code ({ cls := "CatalogueSet", name := "isFieldText", desc := "(LCatalogueSet$Signs;)Z" } : Jvm.MethodName) prog_1_method_25_code (3 : Nat) (Option.some Jvm.ClassFile.FieldType.boolean)) : Cond) ∈ lw_kw := cj_kwm (List.mem_of_getElem? (i := 616) rfl) rfl
set_option maxRecDepth 100000 in
theorem wm_576 : ((Jvm.Cond.stringRef "CatalogueSet" (132 : Nat) "the pad is no field's text") : Cond) ∈ lw_kw := cj_kwm (List.mem_of_getElem? (i := 617) rfl) rfl
set_option maxRecDepth 100000 in
theorem wm_577 : ((Jvm.Cond.methodLink "CatalogueSet" (134 : Nat) ({ cls := "CatalogueSet$Entry", name := "textOf", desc := "(I)LCatalogueSet$Signs;" } : Jvm.MethodName)) : Cond) ∈ lw_kw := cj_kwm (List.mem_of_getElem? (i := 618) rfl) rfl
set_option maxRecDepth 100000 in
theorem wm_578 : ((Jvm.Cond.methodLink "CatalogueSetLaw" (88 : Nat) ({ cls := "CatalogueSetLaw", name := "claim", desc := "(LCatalogueSet;III[J)I" } : Jvm.MethodName)) : Cond) ∈ lw_kw := cj_kwm (List.mem_of_getElem? (i := 619) rfl) rfl
set_option maxRecDepth 100000 in
theorem wm_579 : ((Jvm.Cond.static ({ cls := "CatalogueSetLaw", name := "claim", desc := "(LCatalogueSet;III[J)I" } : Jvm.MethodName)) : Cond) ∈ lw_kw := cj_kwm (List.mem_of_getElem? (i := 620) rfl) rfl
set_option maxRecDepth 100000 in
theorem wm_580 : ((Jvm.Cond.codeWith ({ cls := "CatalogueSetLaw", name := "claim", desc := "(LCatalogueSet;III[J)I" } : Jvm.MethodName) method_7_code (6 : Nat) (Option.some Jvm.ClassFile.FieldType.int) [((0 : Nat), (12 : Nat), (15 : Nat), (25 : Nat)), ((0 : Nat), (12 : Nat), (19 : Nat), (15 : Nat))]) : Cond) ∈ lw_kw := cj_kwm (List.mem_of_getElem? (i := 621) rfl) rfl
set_option maxRecDepth 100000 in
theorem wm_581 : ((Jvm.Cond.methodLink "CatalogueSetLaw" (30 : Nat) ({ cls := "CatalogueSet", name := "claim", desc := "(III)I" } : Jvm.MethodName)) : Cond) ∈ lw_kw := cj_kwm (List.mem_of_getElem? (i := 622) rfl) rfl
set_option maxRecDepth 100000 in
theorem wm_582 : ((Jvm.Cond.instanceMethod ({ cls := "CatalogueSet", name := "claim", desc := "(III)I" } : Jvm.MethodName)) : Cond) ∈ lw_kw := cj_kwm (List.mem_of_getElem? (i := 623) rfl) rfl
set_option maxRecDepth 100000 in
theorem wm_583 : ((Jvm.Cond.selects "CatalogueSet" ({ cls := "CatalogueSet", name := "claim", desc := "(III)I" } : Jvm.MethodName) ({ cls := "CatalogueSet", name := "claim", desc := "(III)I" } : Jvm.MethodName)) : Cond) ∈ lw_kw := cj_kwm (List.mem_of_getElem? (i := 624) rfl) rfl
set_option maxRecDepth 100000 in
theorem wm_584 : ((Jvm.Cond.code ({ cls := "CatalogueSet", name := "claim", desc := "(III)I" } : Jvm.MethodName) prog_1_method_6_code (4 : Nat) (Option.some Jvm.ClassFile.FieldType.int)) : Cond) ∈ lw_kw := cj_kwm (List.mem_of_getElem? (i := 625) rfl) rfl
set_option maxRecDepth 100000 in
theorem wm_585 : ((Jvm.Cond.stringRef "CatalogueSet" (138 : Nat) "no such entry or claim") : Cond) ∈ lw_kw := cj_kwm (List.mem_of_getElem? (i := 626) rfl) rfl
set_option maxRecDepth 100000 in
theorem wm_586 : ((Jvm.Cond.stringRef "CatalogueSet" (140 : Nat) "a source is 1, 0 or NONE") : Cond) ∈ lw_kw := cj_kwm (List.mem_of_getElem? (i := 627) rfl) rfl
set_option maxRecDepth 100000 in
theorem wm_587 : ((Jvm.Cond.methodLink "CatalogueSet" (142 : Nat) ({ cls := "CatalogueSet$Entry", name := "tellClaim", desc := "(II)I" } : Jvm.MethodName)) : Cond) ∈ lw_kw := cj_kwm (List.mem_of_getElem? (i := 628) rfl) rfl
set_option maxRecDepth 100000 in
theorem wm_588 : ((Jvm.Cond.instanceMethod ({ cls := "CatalogueSet$Entry", name := "tellClaim", desc := "(II)I" } : Jvm.MethodName)) : Cond) ∈ lw_kw := cj_kwm (List.mem_of_getElem? (i := 629) rfl) rfl
set_option maxRecDepth 100000 in
theorem wm_589 : ((Jvm.Cond.selects "CatalogueSet$Entry" ({ cls := "CatalogueSet$Entry", name := "tellClaim", desc := "(II)I" } : Jvm.MethodName) ({ cls := "CatalogueSet$Entry", name := "tellClaim", desc := "(II)I" } : Jvm.MethodName)) : Cond) ∈ lw_kw := cj_kwm (List.mem_of_getElem? (i := 630) rfl) rfl
set_option maxRecDepth 100000 in
theorem wm_590 : ((Jvm.Cond.code ({ cls := "CatalogueSet$Entry", name := "tellClaim", desc := "(II)I" } : Jvm.MethodName) prog_3_method_4_code (4 : Nat) (Option.some Jvm.ClassFile.FieldType.int)) : Cond) ∈ lw_kw := cj_kwm (List.mem_of_getElem? (i := 631) rfl) rfl
set_option maxRecDepth 100000 in
theorem wm_591 : ((Jvm.Cond.methodLink "CatalogueSetLaw" (92 : Nat) ({ cls := "CatalogueSetLaw", name := "picture", desc := "(LCatalogueSet;II[J)I" } : Jvm.MethodName)) : Cond) ∈ lw_kw := cj_kwm (List.mem_of_getElem? (i := 632) rfl) rfl
set_option maxRecDepth 100000 in
theorem wm_592 : ((Jvm.Cond.static ({ cls := "CatalogueSetLaw", name := "picture", desc := "(LCatalogueSet;II[J)I" } : Jvm.MethodName)) : Cond) ∈ lw_kw := cj_kwm (List.mem_of_getElem? (i := 633) rfl) rfl
set_option maxRecDepth 100000 in
theorem wm_593 : ((Jvm.Cond.codeWith ({ cls := "CatalogueSetLaw", name := "picture", desc := "(LCatalogueSet;II[J)I" } : Jvm.MethodName) method_8_code (5 : Nat) (Option.some Jvm.ClassFile.FieldType.int) [((0 : Nat), (10 : Nat), (13 : Nat), (25 : Nat)), ((0 : Nat), (10 : Nat), (17 : Nat), (15 : Nat))]) : Cond) ∈ lw_kw := cj_kwm (List.mem_of_getElem? (i := 634) rfl) rfl
set_option maxRecDepth 100000 in
theorem wm_594 : ((Jvm.Cond.methodLink "CatalogueSetLaw" (34 : Nat) ({ cls := "CatalogueSet", name := "picture", desc := "(II)I" } : Jvm.MethodName)) : Cond) ∈ lw_kw := cj_kwm (List.mem_of_getElem? (i := 635) rfl) rfl
set_option maxRecDepth 100000 in
theorem wm_595 : ((Jvm.Cond.instanceMethod ({ cls := "CatalogueSet", name := "picture", desc := "(II)I" } : Jvm.MethodName)) : Cond) ∈ lw_kw := cj_kwm (List.mem_of_getElem? (i := 636) rfl) rfl
set_option maxRecDepth 100000 in
theorem wm_596 : ((Jvm.Cond.selects "CatalogueSet" ({ cls := "CatalogueSet", name := "picture", desc := "(II)I" } : Jvm.MethodName) ({ cls := "CatalogueSet", name := "picture", desc := "(II)I" } : Jvm.MethodName)) : Cond) ∈ lw_kw := cj_kwm (List.mem_of_getElem? (i := 637) rfl) rfl
set_option maxRecDepth 100000 in
theorem wm_597 : ((Jvm.Cond.code ({ cls := "CatalogueSet", name := "picture", desc := "(II)I" } : Jvm.MethodName) prog_1_method_7_code (3 : Nat) (Option.some Jvm.ClassFile.FieldType.int)) : Cond) ∈ lw_kw := cj_kwm (List.mem_of_getElem? (i := 638) rfl) rfl
set_option maxRecDepth 100000 in
theorem wm_598 : ((Jvm.Cond.stringRef "CatalogueSet" (145 : Nat) "no such entry") : Cond) ∈ lw_kw := cj_kwm (List.mem_of_getElem? (i := 639) rfl) rfl
set_option maxRecDepth 100000 in
theorem wm_599 : ((Jvm.Cond.stringRef "CatalogueSet" (147 : Nat) "a picture is 0 .. 30 lines high") : Cond) ∈ lw_kw := cj_kwm (List.mem_of_getElem? (i := 640) rfl) rfl
set_option maxRecDepth 100000 in
theorem wm_600 : ((Jvm.Cond.methodLink "CatalogueSet" (149 : Nat) ({ cls := "CatalogueSet$Entry", name := "changePicture", desc := "(I)I" } : Jvm.MethodName)) : Cond) ∈ lw_kw := cj_kwm (List.mem_of_getElem? (i := 641) rfl) rfl
set_option maxRecDepth 100000 in
theorem wm_601 : ((Jvm.Cond.instanceMethod ({ cls := "CatalogueSet$Entry", name := "changePicture", desc := "(I)I" } : Jvm.MethodName)) : Cond) ∈ lw_kw := cj_kwm (List.mem_of_getElem? (i := 642) rfl) rfl
set_option maxRecDepth 100000 in
theorem wm_602 : ((Jvm.Cond.selects "CatalogueSet$Entry" ({ cls := "CatalogueSet$Entry", name := "changePicture", desc := "(I)I" } : Jvm.MethodName) ({ cls := "CatalogueSet$Entry", name := "changePicture", desc := "(I)I" } : Jvm.MethodName)) : Cond) ∈ lw_kw := cj_kwm (List.mem_of_getElem? (i := 643) rfl) rfl
set_option maxRecDepth 100000 in
theorem wm_603 : ((Jvm.Cond.code ({ cls := "CatalogueSet$Entry", name := "changePicture", desc := "(I)I" } : Jvm.MethodName) prog_3_method_6_code (3 : Nat) (Option.some Jvm.ClassFile.FieldType.int)) : Cond) ∈ lw_kw := cj_kwm (List.mem_of_getElem? (i := 644) rfl) rfl
set_option maxRecDepth 100000 in
theorem wm_604 : ((Jvm.Cond.methodLink "CatalogueSetLaw" (95 : Nat) ({ cls := "CatalogueSetLaw", name := "order", desc := "(LCatalogueSet;[J)I" } : Jvm.MethodName)) : Cond) ∈ lw_kw := cj_kwm (List.mem_of_getElem? (i := 645) rfl) rfl
set_option maxRecDepth 100000 in
theorem wm_605 : ((Jvm.Cond.static ({ cls := "CatalogueSetLaw", name := "order", desc := "(LCatalogueSet;[J)I" } : Jvm.MethodName)) : Cond) ∈ lw_kw := cj_kwm (List.mem_of_getElem? (i := 646) rfl) rfl
set_option maxRecDepth 100000 in
theorem wm_606 : ((Jvm.Cond.codeWith ({ cls := "CatalogueSetLaw", name := "order", desc := "(LCatalogueSet;[J)I" } : Jvm.MethodName) method_9_code (3 : Nat) (Option.some Jvm.ClassFile.FieldType.int) [((0 : Nat), (8 : Nat), (11 : Nat), (15 : Nat))]) : Cond) ∈ lw_kw := cj_kwm (List.mem_of_getElem? (i := 647) rfl) rfl
set_option maxRecDepth 100000 in
theorem wm_607 : ((Jvm.Cond.methodLink "CatalogueSetLaw" (37 : Nat) ({ cls := "CatalogueSet", name := "order", desc := "()I" } : Jvm.MethodName)) : Cond) ∈ lw_kw := cj_kwm (List.mem_of_getElem? (i := 648) rfl) rfl
set_option maxRecDepth 100000 in
theorem wm_608 : ((Jvm.Cond.instanceMethod ({ cls := "CatalogueSet", name := "order", desc := "()I" } : Jvm.MethodName)) : Cond) ∈ lw_kw := cj_kwm (List.mem_of_getElem? (i := 649) rfl) rfl
set_option maxRecDepth 100000 in
theorem wm_609 : ((Jvm.Cond.selects "CatalogueSet" ({ cls := "CatalogueSet", name := "order", desc := "()I" } : Jvm.MethodName) ({ cls := "CatalogueSet", name := "order", desc := "()I" } : Jvm.MethodName)) : Cond) ∈ lw_kw := cj_kwm (List.mem_of_getElem? (i := 650) rfl) rfl
set_option maxRecDepth 100000 in
theorem wm_610 : ((Jvm.Cond.code ({ cls := "CatalogueSet", name := "order", desc := "()I" } : Jvm.MethodName) prog_1_method_8_code (1 : Nat) (Option.some Jvm.ClassFile.FieldType.int)) : Cond) ∈ lw_kw := cj_kwm (List.mem_of_getElem? (i := 651) rfl) rfl
set_option maxRecDepth 100000 in
theorem wm_611 : ((Jvm.Cond.methodLink "CatalogueSet" (152 : Nat) ({ cls := "CatalogueSet", name := "isOrder", desc := "(LCatalogueSet$Signs;)Z" } : Jvm.MethodName)) : Cond) ∈ lw_kw := cj_kwm (List.mem_of_getElem? (i := 652) rfl) rfl
set_option maxRecDepth 100000 in
theorem wm_612 : ((Jvm.Cond.static ({ cls := "CatalogueSet", name := "isOrder", desc := "(LCatalogueSet$Signs;)Z" } : Jvm.MethodName)) : Cond) ∈ lw_kw := cj_kwm (List.mem_of_getElem? (i := 653) rfl) rfl
set_option maxRecDepth 100000 in
theorem wm_613 : ((Jvm.Cond.code ({ cls := "CatalogueSet", name := "isOrder", desc := "(LCatalogueSet$Signs;)Z" } : Jvm.MethodName) prog_1_method_26_code (2 : Nat) (Option.some Jvm.ClassFile.FieldType.boolean)) : Cond) ∈ lw_kw := cj_kwm (List.mem_of_getElem? (i := 654) rfl) rfl
set_option maxRecDepth 100000 in
theorem wm_614 : ((Jvm.Cond.methodLink "CatalogueSet" (239 : Nat) ({ cls := "CatalogueSet$Signs", name := "placeOf", desc := "(I)I" } : Jvm.MethodName)) : Cond) ∈ lw_kw := cj_kwm (List.mem_of_getElem? (i := 655) rfl) rfl
set_option maxRecDepth 100000 in
theorem wm_615 : ((Jvm.Cond.instanceMethod ({ cls := "CatalogueSet$Signs", name := "placeOf", desc := "(I)I" } : Jvm.MethodName)) : Cond) ∈ lw_kw := cj_kwm (List.mem_of_getElem? (i := 656) rfl) rfl
set_option maxRecDepth 100000 in
theorem wm_616 : ((Jvm.Cond.selects "CatalogueSet$Signs" ({ cls := "CatalogueSet$Signs", name := "placeOf", desc := "(I)I" } : Jvm.MethodName) ({ cls := "CatalogueSet$Signs", name := "placeOf", desc := "(I)I" } : Jvm.MethodName)) : Cond) ∈ lw_kw := cj_kwm (List.mem_of_getElem? (i := 657) rfl) rfl
set_option maxRecDepth 100000 in
theorem wm_617 : ((Jvm.Cond.code ({ cls := "CatalogueSet$Signs", name := "placeOf", desc := "(I)I" } : Jvm.MethodName) prog_7_method_4_code (3 : Nat) (Option.some Jvm.ClassFile.FieldType.int)) : Cond) ∈ lw_kw := cj_kwm (List.mem_of_getElem? (i := 658) rfl) rfl
set_option maxRecDepth 100000 in
theorem wm_618 : ((Jvm.Cond.stringRef "CatalogueSet" (155 : Nat) "the pad is no order of letters") : Cond) ∈ lw_kw := cj_kwm (List.mem_of_getElem? (i := 659) rfl) rfl
set_option maxRecDepth 100000 in
theorem wm_619 : ((Jvm.Cond.methodLink "CatalogueSetLaw" (102 : Nat) ({ cls := "CatalogueSetLaw", name := "about", desc := "(LCatalogueSet;I[J)I" } : Jvm.MethodName)) : Cond) ∈ lw_kw := cj_kwm (List.mem_of_getElem? (i := 660) rfl) rfl
set_option maxRecDepth 100000 in
theorem wm_620 : ((Jvm.Cond.static ({ cls := "CatalogueSetLaw", name := "about", desc := "(LCatalogueSet;I[J)I" } : Jvm.MethodName)) : Cond) ∈ lw_kw := cj_kwm (List.mem_of_getElem? (i := 661) rfl) rfl
set_option maxRecDepth 100000 in
theorem wm_621 : ((Jvm.Cond.codeWith ({ cls := "CatalogueSetLaw", name := "about", desc := "(LCatalogueSet;I[J)I" } : Jvm.MethodName) method_10_code (4 : Nat) (Option.some Jvm.ClassFile.FieldType.int) [((0 : Nat), (9 : Nat), (12 : Nat), (25 : Nat)), ((0 : Nat), (9 : Nat), (15 : Nat), (13 : Nat))]) : Cond) ∈ lw_kw := cj_kwm (List.mem_of_getElem? (i := 662) rfl) rfl
set_option maxRecDepth 100000 in
theorem wm_622 : ((Jvm.Cond.methodLink "CatalogueSetLaw" (40 : Nat) ({ cls := "CatalogueSet", name := "about", desc := "(I)I" } : Jvm.MethodName)) : Cond) ∈ lw_kw := cj_kwm (List.mem_of_getElem? (i := 663) rfl) rfl
set_option maxRecDepth 100000 in
theorem wm_623 : ((Jvm.Cond.instanceMethod ({ cls := "CatalogueSet", name := "about", desc := "(I)I" } : Jvm.MethodName)) : Cond) ∈ lw_kw := cj_kwm (List.mem_of_getElem? (i := 664) rfl) rfl
set_option maxRecDepth 100000 in
theorem wm_624 : ((Jvm.Cond.selects "CatalogueSet" ({ cls := "CatalogueSet", name := "about", desc := "(I)I" } : Jvm.MethodName) ({ cls := "CatalogueSet", name := "about", desc := "(I)I" } : Jvm.MethodName)) : Cond) ∈ lw_kw := cj_kwm (List.mem_of_getElem? (i := 665) rfl) rfl
set_option maxRecDepth 100000 in
theorem wm_625 : ((Jvm.Cond.code ({ cls := "CatalogueSet", name := "about", desc := "(I)I" } : Jvm.MethodName) prog_1_method_10_code (2 : Nat) (Option.some Jvm.ClassFile.FieldType.int)) : Cond) ∈ lw_kw := cj_kwm (List.mem_of_getElem? (i := 666) rfl) rfl
set_option maxRecDepth 100000 in
theorem wm_626 : ((Jvm.Cond.stringRef "CatalogueSet" (171 : Nat) "nothing such is told about a run") : Cond) ∈ lw_kw := cj_kwm (List.mem_of_getElem? (i := 667) rfl) rfl
set_option maxRecDepth 100000 in
theorem wm_627 : ((Jvm.Cond.stringRef "CatalogueSet" (173 : Nat) "nothing was set") : Cond) ∈ lw_kw := cj_kwm (List.mem_of_getElem? (i := 668) rfl) rfl
set_option maxRecDepth 100000 in
theorem wm_628 : ((Jvm.Cond.methodLink "CatalogueSet" (175 : Nat) ({ cls := "CatalogueSet$Setting", name := "figure", desc := "(I)I" } : Jvm.MethodName)) : Cond) ∈ lw_kw := cj_kwm (List.mem_of_getElem? (i := 669) rfl) rfl
set_option maxRecDepth 100000 in
theorem wm_629 : ((Jvm.Cond.instanceMethod ({ cls := "CatalogueSet$Setting", name := "figure", desc := "(I)I" } : Jvm.MethodName)) : Cond) ∈ lw_kw := cj_kwm (List.mem_of_getElem? (i := 670) rfl) rfl
set_option maxRecDepth 100000 in
theorem wm_630 : ((Jvm.Cond.selects "CatalogueSet$Setting" ({ cls := "CatalogueSet$Setting", name := "figure", desc := "(I)I" } : Jvm.MethodName) ({ cls := "CatalogueSet$Setting", name := "figure", desc := "(I)I" } : Jvm.MethodName)) : Cond) ∈ lw_kw := cj_kwm (List.mem_of_getElem? (i := 671) rfl) rfl
set_option maxRecDepth 100000 in
theorem wm_631 : ((Jvm.Cond.code ({ cls := "CatalogueSet$Setting", name := "figure", desc := "(I)I" } : Jvm.MethodName) prog_6_method_9_code (2 : Nat) (Option.some Jvm.ClassFile.FieldType.int)) : Cond) ∈ lw_kw := cj_kwm (List.mem_of_getElem? (i := 672) rfl) rfl
set_option maxRecDepth 100000 in
theorem wm_632 : ((Jvm.Cond.methodLink "CatalogueSetLaw" (105 : Nat) ({ cls := "CatalogueSetLaw", name := "page", desc := "(LCatalogueSet;I[J)I" } : Jvm.MethodName)) : Cond) ∈ lw_kw := cj_kwm (List.mem_of_getElem? (i := 673) rfl) rfl
set_option maxRecDepth 100000 in
theorem wm_633 : ((Jvm.Cond.static ({ cls := "CatalogueSetLaw", name := "page", desc := "(LCatalogueSet;I[J)I" } : Jvm.MethodName)) : Cond) ∈ lw_kw := cj_kwm (List.mem_of_getElem? (i := 674) rfl) rfl
set_option maxRecDepth 100000 in
theorem wm_634 : ((Jvm.Cond.codeWith ({ cls := "CatalogueSetLaw", name := "page", desc := "(LCatalogueSet;I[J)I" } : Jvm.MethodName) method_11_code (4 : Nat) (Option.some Jvm.ClassFile.FieldType.int) [((0 : Nat), (9 : Nat), (12 : Nat), (25 : Nat)), ((0 : Nat), (9 : Nat), (15 : Nat), (13 : Nat))]) : Cond) ∈ lw_kw := cj_kwm (List.mem_of_getElem? (i := 675) rfl) rfl
set_option maxRecDepth 100000 in
theorem wm_635 : ((Jvm.Cond.methodLink "CatalogueSetLaw" (43 : Nat) ({ cls := "CatalogueSet", name := "page", desc := "(I)I" } : Jvm.MethodName)) : Cond) ∈ lw_kw := cj_kwm (List.mem_of_getElem? (i := 676) rfl) rfl
set_option maxRecDepth 100000 in
theorem wm_636 : ((Jvm.Cond.instanceMethod ({ cls := "CatalogueSet", name := "page", desc := "(I)I" } : Jvm.MethodName)) : Cond) ∈ lw_kw := cj_kwm (List.mem_of_getElem? (i := 677) rfl) rfl
set_option maxRecDepth 100000 in
theorem wm_637 : ((Jvm.Cond.selects "CatalogueSet" ({ cls := "CatalogueSet", name := "page", desc := "(I)I" } : Jvm.MethodName) ({ cls := "CatalogueSet", name := "page", desc := "(I)I" } : Jvm.MethodName)) : Cond) ∈ lw_kw := cj_kwm (List.mem_of_getElem? (i := 678) rfl) rfl
set_option maxRecDepth 100000 in
theorem wm_638 : ((Jvm.Cond.code ({ cls := "CatalogueSet", name := "page", desc := "(I)I" } : Jvm.MethodName) prog_1_method_11_code (3 : Nat) (Option.some Jvm.ClassFile.FieldType.int)) : Cond) ∈ lw_kw := cj_kwm (List.mem_of_getElem? (i := 679) rfl) rfl
set_option maxRecDepth 100000 in
theorem wm_639 : ((Jvm.Cond.methodLink "CatalogueSet" (178 : Nat) ({ cls := "CatalogueSet$Setting", name := "holdsEntry", desc := "(I)Z" } : Jvm.MethodName)) : Cond) ∈ lw_kw := cj_kwm (List.mem_of_getElem? (i := 680) rfl) rfl
set_option maxRecDepth 100000 in
theorem wm_640 : ((Jvm.Cond.instanceMethod ({ cls := "CatalogueSet$Setting", name := "holdsEntry", desc := "(I)Z" } : Jvm.MethodName)) : Cond) ∈ lw_kw := cj_kwm (List.mem_of_getElem? (i := 681) rfl) rfl
set_option maxRecDepth 100000 in
theorem wm_641 : ((Jvm.Cond.selects "CatalogueSet$Setting" ({ cls := "CatalogueSet$Setting", name := "holdsEntry", desc := "(I)Z" } : Jvm.MethodName) ({ cls := "CatalogueSet$Setting", name := "holdsEntry", desc := "(I)Z" } : Jvm.MethodName)) : Cond) ∈ lw_kw := cj_kwm (List.mem_of_getElem? (i := 682) rfl) rfl
set_option maxRecDepth 100000 in
theorem wm_642 : ((Jvm.Cond.code ({ cls := "CatalogueSet$Setting", name := "holdsEntry", desc := "(I)Z" } : Jvm.MethodName) prog_6_method_10_code (2 : Nat) (Option.some Jvm.ClassFile.FieldType.boolean)) : Cond) ∈ lw_kw := cj_kwm (List.mem_of_getElem? (i := 683) rfl) rfl
set_option maxRecDepth 100000 in
theorem wm_643 : ((Jvm.Cond.stringRef "CatalogueSet" (181 : Nat) "the entry was not there then") : Cond) ∈ lw_kw := cj_kwm (List.mem_of_getElem? (i := 684) rfl) rfl
set_option maxRecDepth 100000 in
theorem wm_644 : ((Jvm.Cond.methodLink "CatalogueSet" (183 : Nat) ({ cls := "CatalogueSet$Setting", name := "pageOf", desc := "(I)I" } : Jvm.MethodName)) : Cond) ∈ lw_kw := cj_kwm (List.mem_of_getElem? (i := 685) rfl) rfl
set_option maxRecDepth 100000 in
theorem wm_645 : ((Jvm.Cond.instanceMethod ({ cls := "CatalogueSet$Setting", name := "pageOf", desc := "(I)I" } : Jvm.MethodName)) : Cond) ∈ lw_kw := cj_kwm (List.mem_of_getElem? (i := 686) rfl) rfl
set_option maxRecDepth 100000 in
theorem wm_646 : ((Jvm.Cond.selects "CatalogueSet$Setting" ({ cls := "CatalogueSet$Setting", name := "pageOf", desc := "(I)I" } : Jvm.MethodName) ({ cls := "CatalogueSet$Setting", name := "pageOf", desc := "(I)I" } : Jvm.MethodName)) : Cond) ∈ lw_kw := cj_kwm (List.mem_of_getElem? (i := 687) rfl) rfl
set_option maxRecDepth 100000 in
theorem wm_647 : ((Jvm.Cond.code ({ cls := "CatalogueSet$Setting", name := "pageOf", desc := "(I)I" } : Jvm.MethodName) prog_6_method_12_code (2 : Nat) (Option.some Jvm.ClassFile.FieldType.int)) : Cond) ∈ lw_kw := cj_kwm (List.mem_of_getElem? (i := 688) rfl) rfl
set_option maxRecDepth 100000 in
theorem wm_648 : ((Jvm.Cond.methodLink "CatalogueSet$Setting" (88 : Nat) ({ cls := "CatalogueSet$Setting", name := "holdsEntry", desc := "(I)Z" } : Jvm.MethodName)) : Cond) ∈ lw_kw := cj_kwm (List.mem_of_getElem? (i := 689) rfl) rfl
set_option maxRecDepth 100000 in
theorem wm_649 : ((Jvm.Cond.methodLink "CatalogueSetLaw" (108 : Nat) ({ cls := "CatalogueSetLaw", name := "line", desc := "(LCatalogueSet;III[J)I" } : Jvm.MethodName)) : Cond) ∈ lw_kw := cj_kwm (List.mem_of_getElem? (i := 690) rfl) rfl
set_option maxRecDepth 100000 in
theorem wm_650 : ((Jvm.Cond.static ({ cls := "CatalogueSetLaw", name := "line", desc := "(LCatalogueSet;III[J)I" } : Jvm.MethodName)) : Cond) ∈ lw_kw := cj_kwm (List.mem_of_getElem? (i := 691) rfl) rfl
set_option maxRecDepth 100000 in
theorem wm_651 : ((Jvm.Cond.codeWith ({ cls := "CatalogueSetLaw", name := "line", desc := "(LCatalogueSet;III[J)I" } : Jvm.MethodName) method_12_code (6 : Nat) (Option.some Jvm.ClassFile.FieldType.int) [((0 : Nat), (12 : Nat), (15 : Nat), (25 : Nat)), ((0 : Nat), (12 : Nat), (19 : Nat), (13 : Nat))]) : Cond) ∈ lw_kw := cj_kwm (List.mem_of_getElem? (i := 692) rfl) rfl
set_option maxRecDepth 100000 in
theorem wm_652 : ((Jvm.Cond.methodLink "CatalogueSetLaw" (46 : Nat) ({ cls := "CatalogueSet", name := "line", desc := "(III)I" } : Jvm.MethodName)) : Cond) ∈ lw_kw := cj_kwm (List.mem_of_getElem? (i := 693) rfl) rfl
set_option maxRecDepth 100000 in
theorem wm_653 : ((Jvm.Cond.instanceMethod ({ cls := "CatalogueSet", name := "line", desc := "(III)I" } : Jvm.MethodName)) : Cond) ∈ lw_kw := cj_kwm (List.mem_of_getElem? (i := 694) rfl) rfl
set_option maxRecDepth 100000 in
theorem wm_654 : ((Jvm.Cond.selects "CatalogueSet" ({ cls := "CatalogueSet", name := "line", desc := "(III)I" } : Jvm.MethodName) ({ cls := "CatalogueSet", name := "line", desc := "(III)I" } : Jvm.MethodName)) : Cond) ∈ lw_kw := cj_kwm (List.mem_of_getElem? (i := 695) rfl) rfl
set_option maxRecDepth 100000 in
theorem wm_655 : ((Jvm.Cond.code ({ cls := "CatalogueSet", name := "line", desc := "(III)I" } : Jvm.MethodName) prog_1_method_12_code (4 : Nat) (Option.some Jvm.ClassFile.FieldType.int)) : Cond) ∈ lw_kw := cj_kwm (List.mem_of_getElem? (i := 696) rfl) rfl
set_option maxRecDepth 100000 in
theorem wm_656 : ((Jvm.Cond.stringRef "CatalogueSet" (186 : Nat) "no such page, line or answer") : Cond) ∈ lw_kw := cj_kwm (List.mem_of_getElem? (i := 697) rfl) rfl
set_option maxRecDepth 100000 in
theorem wm_657 : ((Jvm.Cond.stringRef "CatalogueSet" (188 : Nat) "no such page") : Cond) ∈ lw_kw := cj_kwm (List.mem_of_getElem? (i := 698) rfl) rfl
set_option maxRecDepth 100000 in
theorem wm_658 : ((Jvm.Cond.methodLink "CatalogueSet" (190 : Nat) ({ cls := "CatalogueSet$Setting", name := "onPage", desc := "(IIZ)I" } : Jvm.MethodName)) : Cond) ∈ lw_kw := cj_kwm (List.mem_of_getElem? (i := 699) rfl) rfl
set_option maxRecDepth 100000 in
theorem wm_659 : ((Jvm.Cond.instanceMethod ({ cls := "CatalogueSet$Setting", name := "onPage", desc := "(IIZ)I" } : Jvm.MethodName)) : Cond) ∈ lw_kw := cj_kwm (List.mem_of_getElem? (i := 700) rfl) rfl
set_option maxRecDepth 100000 in
theorem wm_660 : ((Jvm.Cond.selects "CatalogueSet$Setting" ({ cls := "CatalogueSet$Setting", name := "onPage", desc := "(IIZ)I" } : Jvm.MethodName) ({ cls := "CatalogueSet$Setting", name := "onPage", desc := "(IIZ)I" } : Jvm.MethodName)) : Cond) ∈ lw_kw := cj_kwm (List.mem_of_getElem? (i := 701) rfl) rfl
set_option maxRecDepth 100000 in
theorem wm_661 : ((Jvm.Cond.code ({ cls := "CatalogueSet$Setting", name := "onPage", desc := "(IIZ)I" } : Jvm.MethodName) prog_6_method_13_code (9 : Nat) (Option.some Jvm.ClassFile.FieldType.int)) : Cond) ∈ lw_kw := cj_kwm (List.mem_of_getElem? (i := 702) rfl) rfl
set_option maxRecDepth 100000 in
theorem wm_662 : ((Jvm.Cond.methodLink "CatalogueSet$Setting" (98 : Nat) ({ cls := "CatalogueSet$Setting", name := "entryOfUnit", desc := "(I)I" } : Jvm.MethodName)) : Cond) ∈ lw_kw := cj_kwm (List.mem_of_getElem? (i := 703) rfl) rfl
set_option maxRecDepth 100000 in
theorem wm_664 : ((Jvm.Cond.instanceMethod ({ cls := "CatalogueSet$Setting", name := "entryOfUnit", desc := "(I)I" } : Jvm.MethodName)) : Cond) ∈ lw_kw := cj_kwm (List.mem_of_getElem? (i := 705) rfl) rfl
set_option maxRecDepth 100000 in
theorem wm_665 : ((Jvm.Cond.code ({ cls := "CatalogueSet$Setting", name := "entryOfUnit", desc := "(I)I" } : Jvm.MethodName) prog_6_method_14_code (3 : Nat) (Option.some Jvm.ClassFile.FieldType.int)) : Cond) ∈ lw_kw := cj_kwm (List.mem_of_getElem? (i := 706) rfl) rfl
set_option maxRecDepth 100000 in
theorem wm_666 : ((Jvm.Cond.methodLink "CatalogueSet$Setting" (101 : Nat) ({ cls := "CatalogueSet$Block", name := "lineOfRow", desc := "(II)I" } : Jvm.MethodName)) : Cond) ∈ lw_kw := cj_kwm (List.mem_of_getElem? (i := 707) rfl) rfl
set_option maxRecDepth 100000 in
theorem wm_667 : ((Jvm.Cond.instanceMethod ({ cls := "CatalogueSet$Block", name := "lineOfRow", desc := "(II)I" } : Jvm.MethodName)) : Cond) ∈ lw_kw := cj_kwm (List.mem_of_getElem? (i := 708) rfl) rfl
set_option maxRecDepth 100000 in
theorem wm_668 : ((Jvm.Cond.selects "CatalogueSet$Block" ({ cls := "CatalogueSet$Block", name := "lineOfRow", desc := "(II)I" } : Jvm.MethodName) ({ cls := "CatalogueSet$Block", name := "lineOfRow", desc := "(II)I" } : Jvm.MethodName)) : Cond) ∈ lw_kw := cj_kwm (List.mem_of_getElem? (i := 709) rfl) rfl
set_option maxRecDepth 100000 in
theorem wm_669 : ((Jvm.Cond.code ({ cls := "CatalogueSet$Block", name := "lineOfRow", desc := "(II)I" } : Jvm.MethodName) prog_2_method_9_code (3 : Nat) (Option.some Jvm.ClassFile.FieldType.int)) : Cond) ∈ lw_kw := cj_kwm (List.mem_of_getElem? (i := 710) rfl) rfl
set_option maxRecDepth 100000 in
theorem wm_670 : ((Jvm.Cond.methodLink "CatalogueSetLaw" (111 : Nat) ({ cls := "CatalogueSetLaw", name := "sign", desc := "(LCatalogueSet;III[J)I" } : Jvm.MethodName)) : Cond) ∈ lw_kw := cj_kwm (List.mem_of_getElem? (i := 711) rfl) rfl
set_option maxRecDepth 100000 in
theorem wm_671 : ((Jvm.Cond.static ({ cls := "CatalogueSetLaw", name := "sign", desc := "(LCatalogueSet;III[J)I" } : Jvm.MethodName)) : Cond) ∈ lw_kw := cj_kwm (List.mem_of_getElem? (i := 712) rfl) rfl
set_option maxRecDepth 100000 in
theorem wm_672 : ((Jvm.Cond.codeWith ({ cls := "CatalogueSetLaw", name := "sign", desc := "(LCatalogueSet;III[J)I" } : Jvm.MethodName) method_13_code (6 : Nat) (Option.some Jvm.ClassFile.FieldType.int) [((0 : Nat), (12 : Nat), (15 : Nat), (25 : Nat)), ((0 : Nat), (12 : Nat), (19 : Nat), (13 : Nat))]) : Cond) ∈ lw_kw := cj_kwm (List.mem_of_getElem? (i := 713) rfl) rfl
set_option maxRecDepth 100000 in
theorem wm_673 : ((Jvm.Cond.methodLink "CatalogueSetLaw" (49 : Nat) ({ cls := "CatalogueSet", name := "sign", desc := "(III)I" } : Jvm.MethodName)) : Cond) ∈ lw_kw := cj_kwm (List.mem_of_getElem? (i := 714) rfl) rfl
set_option maxRecDepth 100000 in
theorem wm_674 : ((Jvm.Cond.instanceMethod ({ cls := "CatalogueSet", name := "sign", desc := "(III)I" } : Jvm.MethodName)) : Cond) ∈ lw_kw := cj_kwm (List.mem_of_getElem? (i := 715) rfl) rfl
set_option maxRecDepth 100000 in
theorem wm_675 : ((Jvm.Cond.selects "CatalogueSet" ({ cls := "CatalogueSet", name := "sign", desc := "(III)I" } : Jvm.MethodName) ({ cls := "CatalogueSet", name := "sign", desc := "(III)I" } : Jvm.MethodName)) : Cond) ∈ lw_kw := cj_kwm (List.mem_of_getElem? (i := 716) rfl) rfl
set_option maxRecDepth 100000 in
theorem wm_676 : ((Jvm.Cond.code ({ cls := "CatalogueSet", name := "sign", desc := "(III)I" } : Jvm.MethodName) prog_1_method_13_code (5 : Nat) (Option.some Jvm.ClassFile.FieldType.int)) : Cond) ∈ lw_kw := cj_kwm (List.mem_of_getElem? (i := 717) rfl) rfl
set_option maxRecDepth 100000 in
theorem wm_677 : ((Jvm.Cond.stringRef "CatalogueSet" (194 : Nat) "no such entry, line or place") : Cond) ∈ lw_kw := cj_kwm (List.mem_of_getElem? (i := 718) rfl) rfl
set_option maxRecDepth 100000 in
theorem wm_678 : ((Jvm.Cond.methodLink "CatalogueSet" (196 : Nat) ({ cls := "CatalogueSet$Setting", name := "holdsPlace", desc := "(III)Z" } : Jvm.MethodName)) : Cond) ∈ lw_kw := cj_kwm (List.mem_of_getElem? (i := 719) rfl) rfl
set_option maxRecDepth 100000 in
theorem wm_679 : ((Jvm.Cond.instanceMethod ({ cls := "CatalogueSet$Setting", name := "holdsPlace", desc := "(III)Z" } : Jvm.MethodName)) : Cond) ∈ lw_kw := cj_kwm (List.mem_of_getElem? (i := 720) rfl) rfl
set_option maxRecDepth 100000 in
theorem wm_680 : ((Jvm.Cond.selects "CatalogueSet$Setting" ({ cls := "CatalogueSet$Setting", name := "holdsPlace", desc := "(III)Z" } : Jvm.MethodName) ({ cls := "CatalogueSet$Setting", name := "holdsPlace", desc := "(III)Z" } : Jvm.MethodName)) : Cond) ∈ lw_kw := cj_kwm (List.mem_of_getElem? (i := 721) rfl) rfl
set_option maxRecDepth 100000 in
theorem wm_681 : ((Jvm.Cond.code ({ cls := "CatalogueSet$Setting", name := "holdsPlace", desc := "(III)Z" } : Jvm.MethodName) prog_6_method_11_code (4 : Nat) (Option.some Jvm.ClassFile.FieldType.boolean)) : Cond) ∈ lw_kw := cj_kwm (List.mem_of_getElem? (i := 722) rfl) rfl
set_option maxRecDepth 100000 in
theorem wm_682 : ((Jvm.Cond.methodLink "CatalogueSet$Setting" (92 : Nat) ({ cls := "CatalogueSet$Block", name := "lines", desc := "()I" } : Jvm.MethodName)) : Cond) ∈ lw_kw := cj_kwm (List.mem_of_getElem? (i := 723) rfl) rfl
set_option maxRecDepth 100000 in
theorem wm_683 : ((Jvm.Cond.instanceMethod ({ cls := "CatalogueSet$Block", name := "lines", desc := "()I" } : Jvm.MethodName)) : Cond) ∈ lw_kw := cj_kwm (List.mem_of_getElem? (i := 724) rfl) rfl
set_option maxRecDepth 100000 in
theorem wm_684 : ((Jvm.Cond.selects "CatalogueSet$Block" ({ cls := "CatalogueSet$Block", name := "lines", desc := "()I" } : Jvm.MethodName) ({ cls := "CatalogueSet$Block", name := "lines", desc := "()I" } : Jvm.MethodName)) : Cond) ∈ lw_kw := cj_kwm (List.mem_of_getElem? (i := 725) rfl) rfl
set_option maxRecDepth 100000 in
theorem wm_685 : ((Jvm.Cond.code ({ cls := "CatalogueSet$Block", name := "lines", desc := "()I" } : Jvm.MethodName) prog_2_method_2_code (1 : Nat) (Option.some Jvm.ClassFile.FieldType.int)) : Cond) ∈ lw_kw := cj_kwm (List.mem_of_getElem? (i := 726) rfl) rfl
set_option maxRecDepth 100000 in
theorem wm_686 : ((Jvm.Cond.methodLink "CatalogueSet$Setting" (95 : Nat) ({ cls := "CatalogueSet$Block", name := "lengthOf", desc := "(I)I" } : Jvm.MethodName)) : Cond) ∈ lw_kw := cj_kwm (List.mem_of_getElem? (i := 727) rfl) rfl
set_option maxRecDepth 100000 in
theorem wm_687 : ((Jvm.Cond.instanceMethod ({ cls := "CatalogueSet$Block", name := "lengthOf", desc := "(I)I" } : Jvm.MethodName)) : Cond) ∈ lw_kw := cj_kwm (List.mem_of_getElem? (i := 728) rfl) rfl
set_option maxRecDepth 100000 in
theorem wm_688 : ((Jvm.Cond.selects "CatalogueSet$Block" ({ cls := "CatalogueSet$Block", name := "lengthOf", desc := "(I)I" } : Jvm.MethodName) ({ cls := "CatalogueSet$Block", name := "lengthOf", desc := "(I)I" } : Jvm.MethodName)) : Cond) ∈ lw_kw := cj_kwm (List.mem_of_getElem? (i := 729) rfl) rfl
set_option maxRecDepth 100000 in
theorem wm_689 : ((Jvm.Cond.code ({ cls := "CatalogueSet$Block", name := "lengthOf", desc := "(I)I" } : Jvm.MethodName) prog_2_method_3_code (2 : Nat) (Option.some Jvm.ClassFile.FieldType.int)) : Cond) ∈ lw_kw := cj_kwm (List.mem_of_getElem? (i := 730) rfl) rfl
set_option maxRecDepth 100000 in
theorem wm_690 : ((Jvm.Cond.stringRef "CatalogueSet" (200 : Nat) "no such entry, line or place then") : Cond) ∈ lw_kw := cj_kwm (List.mem_of_getElem? (i := 731) rfl) rfl
set_option maxRecDepth 100000 in
theorem wm_691 : ((Jvm.Cond.methodLink "CatalogueSet" (202 : Nat) ({ cls := "CatalogueSet$Setting", name := "blockOf", desc := "(I)LCatalogueSet$Block;" } : Jvm.MethodName)) : Cond) ∈ lw_kw := cj_kwm (List.mem_of_getElem? (i := 732) rfl) rfl
set_option maxRecDepth 100000 in
theorem wm_692 : ((Jvm.Cond.methodLink "CatalogueSet" (206 : Nat) ({ cls := "CatalogueSet$Block", name := "lines", desc := "()I" } : Jvm.MethodName)) : Cond) ∈ lw_kw := cj_kwm (List.mem_of_getElem? (i := 733) rfl) rfl
set_option maxRecDepth 100000 in
theorem wm_693 : ((Jvm.Cond.methodLink "CatalogueSet" (211 : Nat) ({ cls := "CatalogueSet$Block", name := "lengthOf", desc := "(I)I" } : Jvm.MethodName)) : Cond) ∈ lw_kw := cj_kwm (List.mem_of_getElem? (i := 734) rfl) rfl
set_option maxRecDepth 100000 in
theorem wm_694 : ((Jvm.Cond.methodLink "CatalogueSet" (214 : Nat) ({ cls := "CatalogueSet$Block", name := "signAt", desc := "(II)I" } : Jvm.MethodName)) : Cond) ∈ lw_kw := cj_kwm (List.mem_of_getElem? (i := 735) rfl) rfl
set_option maxRecDepth 100000 in
theorem wm_695 : ((Jvm.Cond.instanceMethod ({ cls := "CatalogueSet$Block", name := "signAt", desc := "(II)I" } : Jvm.MethodName)) : Cond) ∈ lw_kw := cj_kwm (List.mem_of_getElem? (i := 736) rfl) rfl
set_option maxRecDepth 100000 in
theorem wm_696 : ((Jvm.Cond.selects "CatalogueSet$Block" ({ cls := "CatalogueSet$Block", name := "signAt", desc := "(II)I" } : Jvm.MethodName) ({ cls := "CatalogueSet$Block", name := "signAt", desc := "(II)I" } : Jvm.MethodName)) : Cond) ∈ lw_kw := cj_kwm (List.mem_of_getElem? (i := 737) rfl) rfl
set_option maxRecDepth 100000 in
theorem wm_697 : ((Jvm.Cond.code ({ cls := "CatalogueSet$Block", name := "signAt", desc := "(II)I" } : Jvm.MethodName) prog_2_method_4_code (3 : Nat) (Option.some Jvm.ClassFile.FieldType.int)) : Cond) ∈ lw_kw := cj_kwm (List.mem_of_getElem? (i := 738) rfl) rfl
set_option maxRecDepth 100000 in
theorem wm_698 : ((Jvm.Cond.methodLink "CatalogueSet$Block" (28 : Nat) ({ cls := "CatalogueSet$Block", name := "lengthOf", desc := "(I)I" } : Jvm.MethodName)) : Cond) ∈ lw_kw := cj_kwm (List.mem_of_getElem? (i := 739) rfl) rfl
set_option maxRecDepth 100000 in
theorem wm_699 : ((Jvm.Cond.methodLink "CatalogueSetLaw" (114 : Nat) ({ cls := "CatalogueSetLaw", name := "index", desc := "(LCatalogueSet;II[J)I" } : Jvm.MethodName)) : Cond) ∈ lw_kw := cj_kwm (List.mem_of_getElem? (i := 740) rfl) rfl
set_option maxRecDepth 100000 in
theorem wm_700 : ((Jvm.Cond.static ({ cls := "CatalogueSetLaw", name := "index", desc := "(LCatalogueSet;II[J)I" } : Jvm.MethodName)) : Cond) ∈ lw_kw := cj_kwm (List.mem_of_getElem? (i := 741) rfl) rfl
set_option maxRecDepth 100000 in
theorem wm_701 : ((Jvm.Cond.codeWith ({ cls := "CatalogueSetLaw", name := "index", desc := "(LCatalogueSet;II[J)I" } : Jvm.MethodName) method_14_code (5 : Nat) (Option.some Jvm.ClassFile.FieldType.int) [((0 : Nat), (10 : Nat), (13 : Nat), (25 : Nat))]) : Cond) ∈ lw_kw := cj_kwm (List.mem_of_getElem? (i := 742) rfl) rfl
set_option maxRecDepth 100000 in
theorem wm_702 : ((Jvm.Cond.methodLink "CatalogueSetLaw" (52 : Nat) ({ cls := "CatalogueSet", name := "index", desc := "(II)I" } : Jvm.MethodName)) : Cond) ∈ lw_kw := cj_kwm (List.mem_of_getElem? (i := 743) rfl) rfl
set_option maxRecDepth 100000 in
theorem wm_703 : ((Jvm.Cond.instanceMethod ({ cls := "CatalogueSet", name := "index", desc := "(II)I" } : Jvm.MethodName)) : Cond) ∈ lw_kw := cj_kwm (List.mem_of_getElem? (i := 744) rfl) rfl
set_option maxRecDepth 100000 in
theorem wm_704 : ((Jvm.Cond.selects "CatalogueSet" ({ cls := "CatalogueSet", name := "index", desc := "(II)I" } : Jvm.MethodName) ({ cls := "CatalogueSet", name := "index", desc := "(II)I" } : Jvm.MethodName)) : Cond) ∈ lw_kw := cj_kwm (List.mem_of_getElem? (i := 745) rfl) rfl
set_option maxRecDepth 100000 in
theorem wm_705 : ((Jvm.Cond.code ({ cls := "CatalogueSet", name := "index", desc := "(II)I" } : Jvm.MethodName) prog_1_method_14_code (4 : Nat) (Option.some Jvm.ClassFile.FieldType.int)) : Cond) ∈ lw_kw := cj_kwm (List.mem_of_getElem? (i := 746) rfl) rfl
set_option maxRecDepth 100000 in
theorem wm_706 : ((Jvm.Cond.stringRef "CatalogueSet" (217 : Nat) "no such field or place") : Cond) ∈ lw_kw := cj_kwm (List.mem_of_getElem? (i := 747) rfl) rfl
set_option maxRecDepth 100000 in
theorem wm_707 : ((Jvm.Cond.methodLink "CatalogueSet" (219 : Nat) ({ cls := "CatalogueSet", name := "entriesAhead", desc := "(II)I" } : Jvm.MethodName)) : Cond) ∈ lw_kw := cj_kwm (List.mem_of_getElem? (i := 748) rfl) rfl
set_option maxRecDepth 100000 in
theorem wm_709 : ((Jvm.Cond.instanceMethod ({ cls := "CatalogueSet", name := "entriesAhead", desc := "(II)I" } : Jvm.MethodName)) : Cond) ∈ lw_kw := cj_kwm (List.mem_of_getElem? (i := 750) rfl) rfl
set_option maxRecDepth 100000 in
theorem wm_710 : ((Jvm.Cond.code ({ cls := "CatalogueSet", name := "entriesAhead", desc := "(II)I" } : Jvm.MethodName) prog_1_method_28_code (8 : Nat) (Option.some Jvm.ClassFile.FieldType.int)) : Cond) ∈ lw_kw := cj_kwm (List.mem_of_getElem? (i := 751) rfl) rfl
set_option maxRecDepth 100000 in
theorem wm_711 : ((Jvm.Cond.methodLink "CatalogueSet" (246 : Nat) ({ cls := "CatalogueSet", name := "compareTexts", desc := "(LCatalogueSet$Signs;LCatalogueSet$Signs;)I" } : Jvm.MethodName)) : Cond) ∈ lw_kw := cj_kwm (List.mem_of_getElem? (i := 752) rfl) rfl
set_option maxRecDepth 100000 in
theorem wm_713 : ((Jvm.Cond.instanceMethod ({ cls := "CatalogueSet", name := "compareTexts", desc := "(LCatalogueSet$Signs;LCatalogueSet$Signs;)I" } : Jvm.MethodName)) : Cond) ∈ lw_kw := cj_kwm (List.mem_of_getElem? (i := 754) rfl) rfl
set_option maxRecDepth 100000 in
theorem wm_714 : ((Jvm.Cond.code ({ cls := "CatalogueSet", name := "compareTexts", desc := "(LCatalogueSet$Signs;LCatalogueSet$Signs;)I" } : Jvm.MethodName) prog_1_method_29_code (6 : Nat) (Option.some Jvm.ClassFile.FieldType.int)) : Cond) ∈ lw_kw := cj_kwm (List.mem_of_getElem? (i := 755) rfl) rfl
set_option maxRecDepth 100000 in
theorem wm_715 : ((Jvm.Cond.methodLink "CatalogueSet" (250 : Nat) ({ cls := "CatalogueSet", name := "rankOf", desc := "(I)I" } : Jvm.MethodName)) : Cond) ∈ lw_kw := cj_kwm (List.mem_of_getElem? (i := 756) rfl) rfl
set_option maxRecDepth 100000 in
theorem wm_717 : ((Jvm.Cond.instanceMethod ({ cls := "CatalogueSet", name := "rankOf", desc := "(I)I" } : Jvm.MethodName)) : Cond) ∈ lw_kw := cj_kwm (List.mem_of_getElem? (i := 758) rfl) rfl
set_option maxRecDepth 100000 in
theorem wm_718 : ((Jvm.Cond.code ({ cls := "CatalogueSet", name := "rankOf", desc := "(I)I" } : Jvm.MethodName) prog_1_method_30_code (3 : Nat) (Option.some Jvm.ClassFile.FieldType.int)) : Cond) ∈ lw_kw := cj_kwm (List.mem_of_getElem? (i := 759) rfl) rfl
set_option maxRecDepth 100000 in
theorem wm_719 : ((Jvm.Cond.methodLink "CatalogueSetLaw" (117 : Nat) ({ cls := "CatalogueSetLaw", name := "count", desc := "(LCatalogueSet;I[J)I" } : Jvm.MethodName)) : Cond) ∈ lw_kw := cj_kwm (List.mem_of_getElem? (i := 760) rfl) rfl
set_option maxRecDepth 100000 in
theorem wm_720 : ((Jvm.Cond.static ({ cls := "CatalogueSetLaw", name := "count", desc := "(LCatalogueSet;I[J)I" } : Jvm.MethodName)) : Cond) ∈ lw_kw := cj_kwm (List.mem_of_getElem? (i := 761) rfl) rfl
set_option maxRecDepth 100000 in
theorem wm_721 : ((Jvm.Cond.codeWith ({ cls := "CatalogueSetLaw", name := "count", desc := "(LCatalogueSet;I[J)I" } : Jvm.MethodName) method_15_code (4 : Nat) (Option.some Jvm.ClassFile.FieldType.int) [((0 : Nat), (9 : Nat), (12 : Nat), (25 : Nat))]) : Cond) ∈ lw_kw := cj_kwm (List.mem_of_getElem? (i := 762) rfl) rfl
set_option maxRecDepth 100000 in
theorem wm_722 : ((Jvm.Cond.methodLink "CatalogueSetLaw" (55 : Nat) ({ cls := "CatalogueSet", name := "count", desc := "(I)I" } : Jvm.MethodName)) : Cond) ∈ lw_kw := cj_kwm (List.mem_of_getElem? (i := 763) rfl) rfl
set_option maxRecDepth 100000 in
theorem wm_723 : ((Jvm.Cond.instanceMethod ({ cls := "CatalogueSet", name := "count", desc := "(I)I" } : Jvm.MethodName)) : Cond) ∈ lw_kw := cj_kwm (List.mem_of_getElem? (i := 764) rfl) rfl
set_option maxRecDepth 100000 in
theorem wm_724 : ((Jvm.Cond.selects "CatalogueSet" ({ cls := "CatalogueSet", name := "count", desc := "(I)I" } : Jvm.MethodName) ({ cls := "CatalogueSet", name := "count", desc := "(I)I" } : Jvm.MethodName)) : Cond) ∈ lw_kw := cj_kwm (List.mem_of_getElem? (i := 765) rfl) rfl
set_option maxRecDepth 100000 in
theorem wm_725 : ((Jvm.Cond.code ({ cls := "CatalogueSet", name := "count", desc := "(I)I" } : Jvm.MethodName) prog_1_method_15_code (2 : Nat) (Option.some Jvm.ClassFile.FieldType.int)) : Cond) ∈ lw_kw := cj_kwm (List.mem_of_getElem? (i := 766) rfl) rfl
set_option maxRecDepth 100000 in
theorem wm_726 : ((Jvm.Cond.stringRef "CatalogueSet" (222 : Nat) "nothing such is counted") : Cond) ∈ lw_kw := cj_kwm (List.mem_of_getElem? (i := 767) rfl) rfl
set_option maxRecDepth 100000 in
theorem wm_727 : ((Jvm.Cond.classLink "CatalogueSetLaw" (67 : Nat) "CatalogueSetModel") : Cond) ∈ lw_kw := cj_kwm (List.mem_of_getElem? (i := 768) rfl) rfl
set_option maxRecDepth 100000 in
theorem wm_728 : ((Jvm.Cond.instantiable "CatalogueSetModel" (39 : Nat)) : Cond) ∈ lw_kw := cj_kwm (List.mem_of_getElem? (i := 769) rfl) rfl
set_option maxRecDepth 100000 in
theorem wm_729 : ((Jvm.Cond.methodLink "CatalogueSetLaw" (69 : Nat) ({ cls := "CatalogueSetModel", name := "<init>", desc := "(II)V" } : Jvm.MethodName)) : Cond) ∈ lw_kw := cj_kwm (List.mem_of_getElem? (i := 770) rfl) rfl
set_option maxRecDepth 100000 in
theorem wm_730 : ((Jvm.Cond.instanceMethod ({ cls := "CatalogueSetModel", name := "<init>", desc := "(II)V" } : Jvm.MethodName)) : Cond) ∈ lw_kw := cj_kwm (List.mem_of_getElem? (i := 771) rfl) rfl
set_option maxRecDepth 100000 in
theorem wm_731 : ((Jvm.Cond.code ({ cls := "CatalogueSetModel", name := "<init>", desc := "(II)V" } : Jvm.MethodName) prog_9_method_1_code (4 : Nat) (Option.none : Option Jvm.ClassFile.FieldType)) : Cond) ∈ lw_kw := cj_kwm (List.mem_of_getElem? (i := 772) rfl) rfl
set_option maxRecDepth 100000 in
theorem wm_732 : ((Jvm.Cond.methodLink "CatalogueSetModel" (1 : Nat) ({ cls := "java/lang/Object", name := "<init>", desc := "()V" } : Jvm.MethodName)) : Cond) ∈ lw_kw := cj_kwm (List.mem_of_getElem? (i := 773) rfl) rfl
set_option maxRecDepth 100000 in
theorem wm_733 : ((Jvm.Cond.fieldLink "CatalogueSetModel" (101 : Nat) "CatalogueSetModel" "width" "I") : Cond) ∈ lw_kw := cj_kwm (List.mem_of_getElem? (i := 774) rfl) rfl
set_option maxRecDepth 100000 in
theorem wm_734 : ((Jvm.Cond.fieldLink "CatalogueSetModel" (104 : Nat) "CatalogueSetModel" "height" "I") : Cond) ∈ lw_kw := cj_kwm (List.mem_of_getElem? (i := 775) rfl) rfl
set_option maxRecDepth 100000 in
theorem wm_735 : ((Jvm.Cond.fieldLink "CatalogueSetModel" (107 : Nat) "CatalogueSetModel" "thrown" "I") : Cond) ∈ lw_kw := cj_kwm (List.mem_of_getElem? (i := 776) rfl) rfl
set_option maxRecDepth 100000 in
theorem wm_736 : ((Jvm.Cond.fieldLink "CatalogueSetModel" (117 : Nat) "CatalogueSetModel" "padded" "I") : Cond) ∈ lw_kw := cj_kwm (List.mem_of_getElem? (i := 777) rfl) rfl
set_option maxRecDepth 100000 in
theorem wm_737 : ((Jvm.Cond.fieldLink "CatalogueSetModel" (7 : Nat) "CatalogueSetModel" "pad" "[I") : Cond) ∈ lw_kw := cj_kwm (List.mem_of_getElem? (i := 778) rfl) rfl
set_option maxRecDepth 100000 in
theorem wm_738 : ((Jvm.Cond.fieldLink "CatalogueSetModel" (139 : Nat) "CatalogueSetModel" "templates" "I") : Cond) ∈ lw_kw := cj_kwm (List.mem_of_getElem? (i := 779) rfl) rfl
set_option maxRecDepth 100000 in
theorem wm_739 : ((Jvm.Cond.fieldLink "CatalogueSetModel" (13 : Nat) "CatalogueSetModel" "lengths" "[I") : Cond) ∈ lw_kw := cj_kwm (List.mem_of_getElem? (i := 780) rfl) rfl
set_option maxRecDepth 100000 in
theorem wm_740 : ((Jvm.Cond.fieldLink "CatalogueSetModel" (16 : Nat) "CatalogueSetModel" "signs" "[I") : Cond) ∈ lw_kw := cj_kwm (List.mem_of_getElem? (i := 781) rfl) rfl
set_option maxRecDepth 100000 in
theorem wm_741 : ((Jvm.Cond.fieldLink "CatalogueSetModel" (110 : Nat) "CatalogueSetModel" "entries" "I") : Cond) ∈ lw_kw := cj_kwm (List.mem_of_getElem? (i := 782) rfl) rfl
set_option maxRecDepth 100000 in
theorem wm_742 : ((Jvm.Cond.fieldLink "CatalogueSetModel" (19 : Nat) "CatalogueSetModel" "templateOf" "[I") : Cond) ∈ lw_kw := cj_kwm (List.mem_of_getElem? (i := 783) rfl) rfl
set_option maxRecDepth 100000 in
theorem wm_743 : ((Jvm.Cond.fieldLink "CatalogueSetModel" (22 : Nat) "CatalogueSetModel" "sizes" "[I") : Cond) ∈ lw_kw := cj_kwm (List.mem_of_getElem? (i := 784) rfl) rfl
set_option maxRecDepth 100000 in
theorem wm_744 : ((Jvm.Cond.fieldLink "CatalogueSetModel" (25 : Nat) "CatalogueSetModel" "texts" "[I") : Cond) ∈ lw_kw := cj_kwm (List.mem_of_getElem? (i := 785) rfl) rfl
set_option maxRecDepth 100000 in
theorem wm_745 : ((Jvm.Cond.fieldLink "CatalogueSetModel" (28 : Nat) "CatalogueSetModel" "pictures" "[I") : Cond) ∈ lw_kw := cj_kwm (List.mem_of_getElem? (i := 786) rfl) rfl
set_option maxRecDepth 100000 in
theorem wm_746 : ((Jvm.Cond.fieldLink "CatalogueSetModel" (31 : Nat) "CatalogueSetModel" "claims" "[I") : Cond) ∈ lw_kw := cj_kwm (List.mem_of_getElem? (i := 787) rfl) rfl
set_option maxRecDepth 100000 in
theorem wm_747 : ((Jvm.Cond.fieldLink "CatalogueSetModel" (149 : Nat) "CatalogueSetModel" "ordered" "I") : Cond) ∈ lw_kw := cj_kwm (List.mem_of_getElem? (i := 788) rfl) rfl
set_option maxRecDepth 100000 in
theorem wm_748 : ((Jvm.Cond.fieldLink "CatalogueSetModel" (34 : Nat) "CatalogueSetModel" "letters" "[I") : Cond) ∈ lw_kw := cj_kwm (List.mem_of_getElem? (i := 789) rfl) rfl
set_option maxRecDepth 100000 in
theorem wm_749 : ((Jvm.Cond.fieldLink "CatalogueSetModel" (152 : Nat) "CatalogueSetModel" "printed" "I") : Cond) ∈ lw_kw := cj_kwm (List.mem_of_getElem? (i := 790) rfl) rfl
set_option maxRecDepth 100000 in
theorem wm_750 : ((Jvm.Cond.fieldLink "CatalogueSetModel" (37 : Nat) "CatalogueSetModel" "print" "[I") : Cond) ∈ lw_kw := cj_kwm (List.mem_of_getElem? (i := 791) rfl) rfl
set_option maxRecDepth 100000 in
theorem wm_751 : ((Jvm.Cond.fieldLink "CatalogueSetModel" (172 : Nat) "CatalogueSetModel" "words" "I") : Cond) ∈ lw_kw := cj_kwm (List.mem_of_getElem? (i := 792) rfl) rfl
set_option maxRecDepth 100000 in
theorem wm_752 : ((Jvm.Cond.fieldLink "CatalogueSetModel" (40 : Nat) "CatalogueSetModel" "begins" "[I") : Cond) ∈ lw_kw := cj_kwm (List.mem_of_getElem? (i := 793) rfl) rfl
set_option maxRecDepth 100000 in
theorem wm_753 : ((Jvm.Cond.fieldLink "CatalogueSetModel" (43 : Nat) "CatalogueSetModel" "ends" "[I") : Cond) ∈ lw_kw := cj_kwm (List.mem_of_getElem? (i := 794) rfl) rfl
set_option maxRecDepth 100000 in
theorem wm_754 : ((Jvm.Cond.fieldLink "CatalogueSetModel" (46 : Nat) "CatalogueSetModel" "costs" "[I") : Cond) ∈ lw_kw := cj_kwm (List.mem_of_getElem? (i := 795) rfl) rfl
set_option maxRecDepth 100000 in
theorem wm_755 : ((Jvm.Cond.fieldLink "CatalogueSetModel" (49 : Nat) "CatalogueSetModel" "takes" "[I") : Cond) ∈ lw_kw := cj_kwm (List.mem_of_getElem? (i := 796) rfl) rfl
set_option maxRecDepth 100000 in
theorem wm_756 : ((Jvm.Cond.fieldLink "CatalogueSetModel" (52 : Nat) "CatalogueSetModel" "latest" "I") : Cond) ∈ lw_kw := cj_kwm (List.mem_of_getElem? (i := 797) rfl) rfl
set_option maxRecDepth 100000 in
theorem wm_757 : ((Jvm.Cond.fieldLink "CatalogueSetModel" (56 : Nat) "CatalogueSetModel" "there" "[I") : Cond) ∈ lw_kw := cj_kwm (List.mem_of_getElem? (i := 798) rfl) rfl
set_option maxRecDepth 100000 in
theorem wm_758 : ((Jvm.Cond.fieldLink "CatalogueSetModel" (59 : Nat) "CatalogueSetModel" "numbers" "[I") : Cond) ∈ lw_kw := cj_kwm (List.mem_of_getElem? (i := 799) rfl) rfl
set_option maxRecDepth 100000 in
theorem wm_759 : ((Jvm.Cond.fieldLink "CatalogueSetModel" (62 : Nat) "CatalogueSetModel" "pages" "[I") : Cond) ∈ lw_kw := cj_kwm (List.mem_of_getElem? (i := 800) rfl) rfl
set_option maxRecDepth 100000 in
theorem wm_760 : ((Jvm.Cond.fieldLink "CatalogueSetModel" (65 : Nat) "CatalogueSetModel" "told" "[I") : Cond) ∈ lw_kw := cj_kwm (List.mem_of_getElem? (i := 801) rfl) rfl
set_option maxRecDepth 100000 in
theorem wm_761 : ((Jvm.Cond.fieldLink "CatalogueSetModel" (68 : Nat) "CatalogueSetModel" "lineMany" "[I") : Cond) ∈ lw_kw := cj_kwm (List.mem_of_getElem? (i := 802) rfl) rfl
set_option maxRecDepth 100000 in
theorem wm_762 : ((Jvm.Cond.fieldLink "CatalogueSetModel" (71 : Nat) "CatalogueSetModel" "lineBegins" "[I") : Cond) ∈ lw_kw := cj_kwm (List.mem_of_getElem? (i := 803) rfl) rfl
set_option maxRecDepth 100000 in
theorem wm_763 : ((Jvm.Cond.fieldLink "CatalogueSetModel" (74 : Nat) "CatalogueSetModel" "lineSizes" "[I") : Cond) ∈ lw_kw := cj_kwm (List.mem_of_getElem? (i := 804) rfl) rfl
set_option maxRecDepth 100000 in
theorem wm_764 : ((Jvm.Cond.fieldLink "CatalogueSetModel" (77 : Nat) "CatalogueSetModel" "laid" "[I") : Cond) ∈ lw_kw := cj_kwm (List.mem_of_getElem? (i := 805) rfl) rfl
set_option maxRecDepth 100000 in
theorem wm_765 : ((Jvm.Cond.fieldLink "CatalogueSetModel" (80 : Nat) "CatalogueSetModel" "units" "[I") : Cond) ∈ lw_kw := cj_kwm (List.mem_of_getElem? (i := 806) rfl) rfl
set_option maxRecDepth 100000 in
theorem wm_766 : ((Jvm.Cond.fieldLink "CatalogueSetModel" (83 : Nat) "CatalogueSetModel" "unitEntry" "[I") : Cond) ∈ lw_kw := cj_kwm (List.mem_of_getElem? (i := 807) rfl) rfl
set_option maxRecDepth 100000 in
theorem wm_767 : ((Jvm.Cond.fieldLink "CatalogueSetModel" (86 : Nat) "CatalogueSetModel" "unitPicture" "[I") : Cond) ∈ lw_kw := cj_kwm (List.mem_of_getElem? (i := 808) rfl) rfl
set_option maxRecDepth 100000 in
theorem wm_768 : ((Jvm.Cond.fieldLink "CatalogueSetModel" (89 : Nat) "CatalogueSetModel" "unitFirst" "[I") : Cond) ∈ lw_kw := cj_kwm (List.mem_of_getElem? (i := 809) rfl) rfl
set_option maxRecDepth 100000 in
theorem wm_769 : ((Jvm.Cond.fieldLink "CatalogueSetModel" (92 : Nat) "CatalogueSetModel" "unitLines" "[I") : Cond) ∈ lw_kw := cj_kwm (List.mem_of_getElem? (i := 810) rfl) rfl
set_option maxRecDepth 100000 in
theorem wm_770 : ((Jvm.Cond.fieldLink "CatalogueSetModel" (95 : Nat) "CatalogueSetModel" "unitPage" "[I") : Cond) ∈ lw_kw := cj_kwm (List.mem_of_getElem? (i := 811) rfl) rfl
set_option maxRecDepth 100000 in
theorem wm_771 : ((Jvm.Cond.fieldLink "CatalogueSetModel" (98 : Nat) "CatalogueSetModel" "unitTop" "[I") : Cond) ∈ lw_kw := cj_kwm (List.mem_of_getElem? (i := 812) rfl) rfl
set_option maxRecDepth 100000 in
theorem wm_851 : ((Jvm.Cond.methodLink "CatalogueSetLaw" (74 : Nat) ({ cls := "CatalogueSetModel", name := "thrown", desc := "()I" } : Jvm.MethodName)) : Cond) ∈ lw_kw := cj_kwm (List.mem_of_getElem? (i := 892) rfl) rfl
set_option maxRecDepth 100000 in
theorem wm_852 : ((Jvm.Cond.instanceMethod ({ cls := "CatalogueSetModel", name := "thrown", desc := "()I" } : Jvm.MethodName)) : Cond) ∈ lw_kw := cj_kwm (List.mem_of_getElem? (i := 893) rfl) rfl
set_option maxRecDepth 100000 in
theorem wm_853 : ((Jvm.Cond.selects "CatalogueSetModel" ({ cls := "CatalogueSetModel", name := "thrown", desc := "()I" } : Jvm.MethodName) ({ cls := "CatalogueSetModel", name := "thrown", desc := "()I" } : Jvm.MethodName)) : Cond) ∈ lw_kw := cj_kwm (List.mem_of_getElem? (i := 894) rfl) rfl
set_option maxRecDepth 100000 in
theorem wm_854 : ((Jvm.Cond.code ({ cls := "CatalogueSetModel", name := "thrown", desc := "()I" } : Jvm.MethodName) prog_9_method_2_code (1 : Nat) (Option.some Jvm.ClassFile.FieldType.int)) : Cond) ∈ lw_kw := cj_kwm (List.mem_of_getElem? (i := 895) rfl) rfl
set_option maxRecDepth 100000 in
theorem wm_855 : ((Jvm.Cond.methodLink "CatalogueSetLaw" (73 : Nat) ({ cls := "CatalogueSetModel", name := "unit", desc := "(II)I" } : Jvm.MethodName)) : Cond) ∈ lw_kw := cj_kwm (List.mem_of_getElem? (i := 896) rfl) rfl
set_option maxRecDepth 100000 in
theorem wm_856 : ((Jvm.Cond.instanceMethod ({ cls := "CatalogueSetModel", name := "unit", desc := "(II)I" } : Jvm.MethodName)) : Cond) ∈ lw_kw := cj_kwm (List.mem_of_getElem? (i := 897) rfl) rfl
set_option maxRecDepth 100000 in
theorem wm_857 : ((Jvm.Cond.selects "CatalogueSetModel" ({ cls := "CatalogueSetModel", name := "unit", desc := "(II)I" } : Jvm.MethodName) ({ cls := "CatalogueSetModel", name := "unit", desc := "(II)I" } : Jvm.MethodName)) : Cond) ∈ lw_kw := cj_kwm (List.mem_of_getElem? (i := 898) rfl) rfl
set_option maxRecDepth 100000 in
theorem wm_858 : ((Jvm.Cond.code ({ cls := "CatalogueSetModel", name := "unit", desc := "(II)I" } : Jvm.MethodName) prog_9_method_9_code (3 : Nat) (Option.some Jvm.ClassFile.FieldType.int)) : Cond) ∈ lw_kw := cj_kwm (List.mem_of_getElem? (i := 899) rfl) rfl
set_option maxRecDepth 100000 in
theorem wm_859 : ((Jvm.Cond.methodLink "CatalogueSetModel" (120 : Nat) ({ cls := "CatalogueSetModel", name := "signsOf", desc := "(I)I" } : Jvm.MethodName)) : Cond) ∈ lw_kw := cj_kwm (List.mem_of_getElem? (i := 900) rfl) rfl
set_option maxRecDepth 100000 in
theorem wm_860 : ((Jvm.Cond.static ({ cls := "CatalogueSetModel", name := "signsOf", desc := "(I)I" } : Jvm.MethodName)) : Cond) ∈ lw_kw := cj_kwm (List.mem_of_getElem? (i := 901) rfl) rfl
set_option maxRecDepth 100000 in
theorem wm_861 : ((Jvm.Cond.code ({ cls := "CatalogueSetModel", name := "signsOf", desc := "(I)I" } : Jvm.MethodName) prog_9_method_6_code (3 : Nat) (Option.some Jvm.ClassFile.FieldType.int)) : Cond) ∈ lw_kw := cj_kwm (List.mem_of_getElem? (i := 902) rfl) rfl
set_option maxRecDepth 100000 in
theorem wm_862 : ((Jvm.Cond.methodLink "CatalogueSetModel" (124 : Nat) ({ cls := "CatalogueSetModel", name := "arePlain", desc := "(I)Z" } : Jvm.MethodName)) : Cond) ∈ lw_kw := cj_kwm (List.mem_of_getElem? (i := 903) rfl) rfl
set_option maxRecDepth 100000 in
theorem wm_863 : ((Jvm.Cond.static ({ cls := "CatalogueSetModel", name := "arePlain", desc := "(I)Z" } : Jvm.MethodName)) : Cond) ∈ lw_kw := cj_kwm (List.mem_of_getElem? (i := 904) rfl) rfl
set_option maxRecDepth 100000 in
theorem wm_864 : ((Jvm.Cond.code ({ cls := "CatalogueSetModel", name := "arePlain", desc := "(I)Z" } : Jvm.MethodName) prog_9_method_7_code (4 : Nat) (Option.some Jvm.ClassFile.FieldType.boolean)) : Cond) ∈ lw_kw := cj_kwm (List.mem_of_getElem? (i := 905) rfl) rfl
set_option maxRecDepth 100000 in
theorem wm_865 : ((Jvm.Cond.methodLink "CatalogueSetModel" (128 : Nat) ({ cls := "CatalogueSetModel", name := "goes", desc := "(ZZ)Z" } : Jvm.MethodName)) : Cond) ∈ lw_kw := cj_kwm (List.mem_of_getElem? (i := 906) rfl) rfl
set_option maxRecDepth 100000 in
theorem wm_867 : ((Jvm.Cond.instanceMethod ({ cls := "CatalogueSetModel", name := "goes", desc := "(ZZ)Z" } : Jvm.MethodName)) : Cond) ∈ lw_kw := cj_kwm (List.mem_of_getElem? (i := 908) rfl) rfl
set_option maxRecDepth 100000 in
theorem wm_868 : ((Jvm.Cond.code ({ cls := "CatalogueSetModel", name := "goes", desc := "(ZZ)Z" } : Jvm.MethodName) prog_9_method_3_code (3 : Nat) (Option.some Jvm.ClassFile.FieldType.boolean)) : Cond) ∈ lw_kw := cj_kwm (List.mem_of_getElem? (i := 909) rfl) rfl
set_option maxRecDepth 100000 in
theorem wm_869 : ((Jvm.Cond.methodLink "CatalogueSetModel" (132 : Nat) ({ cls := "CatalogueSetModel", name := "take", desc := "(I)V" } : Jvm.MethodName)) : Cond) ∈ lw_kw := cj_kwm (List.mem_of_getElem? (i := 910) rfl) rfl
set_option maxRecDepth 100000 in
theorem wm_871 : ((Jvm.Cond.instanceMethod ({ cls := "CatalogueSetModel", name := "take", desc := "(I)V" } : Jvm.MethodName)) : Cond) ∈ lw_kw := cj_kwm (List.mem_of_getElem? (i := 912) rfl) rfl
set_option maxRecDepth 100000 in
theorem wm_872 : ((Jvm.Cond.code ({ cls := "CatalogueSetModel", name := "take", desc := "(I)V" } : Jvm.MethodName) prog_9_method_8_code (3 : Nat) (Option.none : Option Jvm.ClassFile.FieldType)) : Cond) ∈ lw_kw := cj_kwm (List.mem_of_getElem? (i := 913) rfl) rfl
set_option maxRecDepth 100000 in
theorem wm_873 : ((Jvm.Cond.methodLink "CatalogueSetLaw" (80 : Nat) ({ cls := "CatalogueSetModel", name := "template", desc := "()I" } : Jvm.MethodName)) : Cond) ∈ lw_kw := cj_kwm (List.mem_of_getElem? (i := 914) rfl) rfl
set_option maxRecDepth 100000 in
theorem wm_874 : ((Jvm.Cond.instanceMethod ({ cls := "CatalogueSetModel", name := "template", desc := "()I" } : Jvm.MethodName)) : Cond) ∈ lw_kw := cj_kwm (List.mem_of_getElem? (i := 915) rfl) rfl
set_option maxRecDepth 100000 in
theorem wm_875 : ((Jvm.Cond.selects "CatalogueSetModel" ({ cls := "CatalogueSetModel", name := "template", desc := "()I" } : Jvm.MethodName) ({ cls := "CatalogueSetModel", name := "template", desc := "()I" } : Jvm.MethodName)) : Cond) ∈ lw_kw := cj_kwm (List.mem_of_getElem? (i := 916) rfl) rfl
set_option maxRecDepth 100000 in
theorem wm_876 : ((Jvm.Cond.code ({ cls := "CatalogueSetModel", name := "template", desc := "()I" } : Jvm.MethodName) prog_9_method_12_code (3 : Nat) (Option.some Jvm.ClassFile.FieldType.int)) : Cond) ∈ lw_kw := cj_kwm (List.mem_of_getElem? (i := 917) rfl) rfl
set_option maxRecDepth 100000 in
theorem wm_877 : ((Jvm.Cond.methodLink "CatalogueSetModel" (142 : Nat) ({ cls := "CatalogueSetModel", name := "fault", desc := "()I" } : Jvm.MethodName)) : Cond) ∈ lw_kw := cj_kwm (List.mem_of_getElem? (i := 918) rfl) rfl
set_option maxRecDepth 100000 in
theorem wm_879 : ((Jvm.Cond.instanceMethod ({ cls := "CatalogueSetModel", name := "fault", desc := "()I" } : Jvm.MethodName)) : Cond) ∈ lw_kw := cj_kwm (List.mem_of_getElem? (i := 920) rfl) rfl
set_option maxRecDepth 100000 in
theorem wm_880 : ((Jvm.Cond.code ({ cls := "CatalogueSetModel", name := "fault", desc := "()I" } : Jvm.MethodName) prog_9_method_11_code (7 : Nat) (Option.some Jvm.ClassFile.FieldType.int)) : Cond) ∈ lw_kw := cj_kwm (List.mem_of_getElem? (i := 921) rfl) rfl
set_option maxRecDepth 100000 in
theorem wm_881 : ((Jvm.Cond.methodLink "CatalogueSetModel" (136 : Nat) ({ cls := "CatalogueSetModel", name := "isLetter", desc := "(I)Z" } : Jvm.MethodName)) : Cond) ∈ lw_kw := cj_kwm (List.mem_of_getElem? (i := 922) rfl) rfl
set_option maxRecDepth 100000 in
theorem wm_882 : ((Jvm.Cond.static ({ cls := "CatalogueSetModel", name := "isLetter", desc := "(I)Z" } : Jvm.MethodName)) : Cond) ∈ lw_kw := cj_kwm (List.mem_of_getElem? (i := 923) rfl) rfl
set_option maxRecDepth 100000 in
theorem wm_883 : ((Jvm.Cond.code ({ cls := "CatalogueSetModel", name := "isLetter", desc := "(I)Z" } : Jvm.MethodName) prog_9_method_10_code (1 : Nat) (Option.some Jvm.ClassFile.FieldType.boolean)) : Cond) ∈ lw_kw := cj_kwm (List.mem_of_getElem? (i := 924) rfl) rfl
set_option maxRecDepth 100000 in
theorem wm_884 : ((Jvm.Cond.methodLink "CatalogueSetLaw" (84 : Nat) ({ cls := "CatalogueSetModel", name := "entry", desc := "(I)I" } : Jvm.MethodName)) : Cond) ∈ lw_kw := cj_kwm (List.mem_of_getElem? (i := 925) rfl) rfl
set_option maxRecDepth 100000 in
theorem wm_885 : ((Jvm.Cond.instanceMethod ({ cls := "CatalogueSetModel", name := "entry", desc := "(I)I" } : Jvm.MethodName)) : Cond) ∈ lw_kw := cj_kwm (List.mem_of_getElem? (i := 926) rfl) rfl
set_option maxRecDepth 100000 in
theorem wm_886 : ((Jvm.Cond.selects "CatalogueSetModel" ({ cls := "CatalogueSetModel", name := "entry", desc := "(I)I" } : Jvm.MethodName) ({ cls := "CatalogueSetModel", name := "entry", desc := "(I)I" } : Jvm.MethodName)) : Cond) ∈ lw_kw := cj_kwm (List.mem_of_getElem? (i := 927) rfl) rfl
set_option maxRecDepth 100000 in
theorem wm_887 : ((Jvm.Cond.code ({ cls := "CatalogueSetModel", name := "entry", desc := "(I)I" } : Jvm.MethodName) prog_9_method_13_code (2 : Nat) (Option.some Jvm.ClassFile.FieldType.int)) : Cond) ∈ lw_kw := cj_kwm (List.mem_of_getElem? (i := 928) rfl) rfl
set_option maxRecDepth 100000 in
theorem wm_888 : ((Jvm.Cond.methodLink "CatalogueSetModel" (113 : Nat) ({ cls := "CatalogueSetModel", name := "below", desc := "(II)Z" } : Jvm.MethodName)) : Cond) ∈ lw_kw := cj_kwm (List.mem_of_getElem? (i := 929) rfl) rfl
set_option maxRecDepth 100000 in
theorem wm_889 : ((Jvm.Cond.static ({ cls := "CatalogueSetModel", name := "below", desc := "(II)Z" } : Jvm.MethodName)) : Cond) ∈ lw_kw := cj_kwm (List.mem_of_getElem? (i := 930) rfl) rfl
set_option maxRecDepth 100000 in
theorem wm_890 : ((Jvm.Cond.code ({ cls := "CatalogueSetModel", name := "below", desc := "(II)Z" } : Jvm.MethodName) prog_9_method_4_code (2 : Nat) (Option.some Jvm.ClassFile.FieldType.boolean)) : Cond) ∈ lw_kw := cj_kwm (List.mem_of_getElem? (i := 931) rfl) rfl
set_option maxRecDepth 100000 in
theorem wm_891 : ((Jvm.Cond.methodLink "CatalogueSetLaw" (87 : Nat) ({ cls := "CatalogueSetModel", name := "field", desc := "(II)I" } : Jvm.MethodName)) : Cond) ∈ lw_kw := cj_kwm (List.mem_of_getElem? (i := 932) rfl) rfl
set_option maxRecDepth 100000 in
theorem wm_892 : ((Jvm.Cond.instanceMethod ({ cls := "CatalogueSetModel", name := "field", desc := "(II)I" } : Jvm.MethodName)) : Cond) ∈ lw_kw := cj_kwm (List.mem_of_getElem? (i := 933) rfl) rfl
set_option maxRecDepth 100000 in
theorem wm_893 : ((Jvm.Cond.selects "CatalogueSetModel" ({ cls := "CatalogueSetModel", name := "field", desc := "(II)I" } : Jvm.MethodName) ({ cls := "CatalogueSetModel", name := "field", desc := "(II)I" } : Jvm.MethodName)) : Cond) ∈ lw_kw := cj_kwm (List.mem_of_getElem? (i := 934) rfl) rfl
set_option maxRecDepth 100000 in
theorem wm_894 : ((Jvm.Cond.code ({ cls := "CatalogueSetModel", name := "field", desc := "(II)I" } : Jvm.MethodName) prog_9_method_14_code (6 : Nat) (Option.some Jvm.ClassFile.FieldType.int)) : Cond) ∈ lw_kw := cj_kwm (List.mem_of_getElem? (i := 935) rfl) rfl
set_option maxRecDepth 100000 in
theorem wm_895 : ((Jvm.Cond.methodLink "CatalogueSetModel" (146 : Nat) ({ cls := "CatalogueSetModel", name := "isEntry", desc := "(I)Z" } : Jvm.MethodName)) : Cond) ∈ lw_kw := cj_kwm (List.mem_of_getElem? (i := 936) rfl) rfl
set_option maxRecDepth 100000 in
theorem wm_897 : ((Jvm.Cond.instanceMethod ({ cls := "CatalogueSetModel", name := "isEntry", desc := "(I)Z" } : Jvm.MethodName)) : Cond) ∈ lw_kw := cj_kwm (List.mem_of_getElem? (i := 938) rfl) rfl
set_option maxRecDepth 100000 in
theorem wm_898 : ((Jvm.Cond.code ({ cls := "CatalogueSetModel", name := "isEntry", desc := "(I)Z" } : Jvm.MethodName) prog_9_method_5_code (2 : Nat) (Option.some Jvm.ClassFile.FieldType.boolean)) : Cond) ∈ lw_kw := cj_kwm (List.mem_of_getElem? (i := 939) rfl) rfl
set_option maxRecDepth 100000 in
theorem wm_899 : ((Jvm.Cond.methodLink "CatalogueSetLaw" (91 : Nat) ({ cls := "CatalogueSetModel", name := "claim", desc := "(III)I" } : Jvm.MethodName)) : Cond) ∈ lw_kw := cj_kwm (List.mem_of_getElem? (i := 940) rfl) rfl
set_option maxRecDepth 100000 in
theorem wm_900 : ((Jvm.Cond.instanceMethod ({ cls := "CatalogueSetModel", name := "claim", desc := "(III)I" } : Jvm.MethodName)) : Cond) ∈ lw_kw := cj_kwm (List.mem_of_getElem? (i := 941) rfl) rfl
set_option maxRecDepth 100000 in
theorem wm_901 : ((Jvm.Cond.selects "CatalogueSetModel" ({ cls := "CatalogueSetModel", name := "claim", desc := "(III)I" } : Jvm.MethodName) ({ cls := "CatalogueSetModel", name := "claim", desc := "(III)I" } : Jvm.MethodName)) : Cond) ∈ lw_kw := cj_kwm (List.mem_of_getElem? (i := 942) rfl) rfl
set_option maxRecDepth 100000 in
theorem wm_902 : ((Jvm.Cond.code ({ cls := "CatalogueSetModel", name := "claim", desc := "(III)I" } : Jvm.MethodName) prog_9_method_15_code (5 : Nat) (Option.some Jvm.ClassFile.FieldType.int)) : Cond) ∈ lw_kw := cj_kwm (List.mem_of_getElem? (i := 943) rfl) rfl
set_option maxRecDepth 100000 in
theorem wm_903 : ((Jvm.Cond.methodLink "CatalogueSetLaw" (94 : Nat) ({ cls := "CatalogueSetModel", name := "picture", desc := "(II)I" } : Jvm.MethodName)) : Cond) ∈ lw_kw := cj_kwm (List.mem_of_getElem? (i := 944) rfl) rfl
set_option maxRecDepth 100000 in
theorem wm_904 : ((Jvm.Cond.instanceMethod ({ cls := "CatalogueSetModel", name := "picture", desc := "(II)I" } : Jvm.MethodName)) : Cond) ∈ lw_kw := cj_kwm (List.mem_of_getElem? (i := 945) rfl) rfl
set_option maxRecDepth 100000 in
theorem wm_905 : ((Jvm.Cond.selects "CatalogueSetModel" ({ cls := "CatalogueSetModel", name := "picture", desc := "(II)I" } : Jvm.MethodName) ({ cls := "CatalogueSetModel", name := "picture", desc := "(II)I" } : Jvm.MethodName)) : Cond) ∈ lw_kw := cj_kwm (List.mem_of_getElem? (i := 946) rfl) rfl
set_option maxRecDepth 100000 in
theorem wm_906 : ((Jvm.Cond.code ({ cls := "CatalogueSetModel", name := "picture", desc := "(II)I" } : Jvm.MethodName) prog_9_method_16_code (4 : Nat) (Option.some Jvm.ClassFile.FieldType.int)) : Cond) ∈ lw_kw := cj_kwm (List.mem_of_getElem? (i := 947) rfl) rfl
set_option maxRecDepth 100000 in
theorem wm_907 : ((Jvm.Cond.methodLink "CatalogueSetLaw" (97 : Nat) ({ cls := "CatalogueSetModel", name := "order", desc := "()I" } : Jvm.MethodName)) : Cond) ∈ lw_kw := cj_kwm (List.mem_of_getElem? (i := 948) rfl) rfl
set_option maxRecDepth 100000 in
theorem wm_908 : ((Jvm.Cond.instanceMethod ({ cls := "CatalogueSetModel", name := "order", desc := "()I" } : Jvm.MethodName)) : Cond) ∈ lw_kw := cj_kwm (List.mem_of_getElem? (i := 949) rfl) rfl
set_option maxRecDepth 100000 in
theorem wm_909 : ((Jvm.Cond.selects "CatalogueSetModel" ({ cls := "CatalogueSetModel", name := "order", desc := "()I" } : Jvm.MethodName) ({ cls := "CatalogueSetModel", name := "order", desc := "()I" } : Jvm.MethodName)) : Cond) ∈ lw_kw := cj_kwm (List.mem_of_getElem? (i := 950) rfl) rfl
set_option maxRecDepth 100000 in
theorem wm_910 : ((Jvm.Cond.code ({ cls := "CatalogueSetModel", name := "order", desc := "()I" } : Jvm.MethodName) prog_9_method_17_code (4 : Nat) (Option.some Jvm.ClassFile.FieldType.int)) : Cond) ∈ lw_kw := cj_kwm (List.mem_of_getElem? (i := 951) rfl) rfl
set_option maxRecDepth 100000 in
theorem wm_911 : ((Jvm.Cond.methodLink "CatalogueSetLaw" (101 : Nat) ({ cls := "CatalogueSetModel", name := "run", desc := "()I" } : Jvm.MethodName)) : Cond) ∈ lw_kw := cj_kwm (List.mem_of_getElem? (i := 952) rfl) rfl
set_option maxRecDepth 100000 in
theorem wm_912 : ((Jvm.Cond.instanceMethod ({ cls := "CatalogueSetModel", name := "run", desc := "()I" } : Jvm.MethodName)) : Cond) ∈ lw_kw := cj_kwm (List.mem_of_getElem? (i := 953) rfl) rfl
set_option maxRecDepth 100000 in
theorem wm_913 : ((Jvm.Cond.selects "CatalogueSetModel" ({ cls := "CatalogueSetModel", name := "run", desc := "()I" } : Jvm.MethodName) ({ cls := "CatalogueSetModel", name := "run", desc := "()I" } : Jvm.MethodName)) : Cond) ∈ lw_kw := cj_kwm (List.mem_of_getElem? (i := 954) rfl) rfl
set_option maxRecDepth 100000 in
theorem wm_914 : ((Jvm.Cond.code ({ cls := "CatalogueSetModel", name := "run", desc := "()I" } : Jvm.MethodName) prog_9_method_33_code (5 : Nat) (Option.some Jvm.ClassFile.FieldType.int)) : Cond) ∈ lw_kw := cj_kwm (List.mem_of_getElem? (i := 955) rfl) rfl
set_option maxRecDepth 100000 in
theorem wm_915 : ((Jvm.Cond.methodLink "CatalogueSetModel" (201 : Nat) ({ cls := "CatalogueSetModel", name := "pass", desc := "(I)I" } : Jvm.MethodName)) : Cond) ∈ lw_kw := cj_kwm (List.mem_of_getElem? (i := 956) rfl) rfl
set_option maxRecDepth 100000 in
theorem wm_917 : ((Jvm.Cond.instanceMethod ({ cls := "CatalogueSetModel", name := "pass", desc := "(I)I" } : Jvm.MethodName)) : Cond) ∈ lw_kw := cj_kwm (List.mem_of_getElem? (i := 958) rfl) rfl
set_option maxRecDepth 100000 in
theorem wm_918 : ((Jvm.Cond.code ({ cls := "CatalogueSetModel", name := "pass", desc := "(I)I" } : Jvm.MethodName) prog_9_method_31_code (3 : Nat) (Option.some Jvm.ClassFile.FieldType.int)) : Cond) ∈ lw_kw := cj_kwm (List.mem_of_getElem? (i := 959) rfl) rfl
set_option maxRecDepth 100000 in
theorem wm_919 : ((Jvm.Cond.methodLink "CatalogueSetModel" (189 : Nat) ({ cls := "CatalogueSetModel", name := "printAll", desc := "(I)V" } : Jvm.MethodName)) : Cond) ∈ lw_kw := cj_kwm (List.mem_of_getElem? (i := 960) rfl) rfl
set_option maxRecDepth 100000 in
theorem wm_921 : ((Jvm.Cond.instanceMethod ({ cls := "CatalogueSetModel", name := "printAll", desc := "(I)V" } : Jvm.MethodName)) : Cond) ∈ lw_kw := cj_kwm (List.mem_of_getElem? (i := 962) rfl) rfl
set_option maxRecDepth 100000 in
theorem wm_922 : ((Jvm.Cond.code ({ cls := "CatalogueSetModel", name := "printAll", desc := "(I)V" } : Jvm.MethodName) prog_9_method_23_code (6 : Nat) (Option.none : Option Jvm.ClassFile.FieldType)) : Cond) ∈ lw_kw := cj_kwm (List.mem_of_getElem? (i := 963) rfl) rfl
set_option maxRecDepth 100000 in
theorem wm_923 : ((Jvm.Cond.methodLink "CatalogueSetModel" (158 : Nat) ({ cls := "CatalogueSetModel", name := "putField", desc := "(I)V" } : Jvm.MethodName)) : Cond) ∈ lw_kw := cj_kwm (List.mem_of_getElem? (i := 964) rfl) rfl
set_option maxRecDepth 100000 in
theorem wm_925 : ((Jvm.Cond.instanceMethod ({ cls := "CatalogueSetModel", name := "putField", desc := "(I)V" } : Jvm.MethodName)) : Cond) ∈ lw_kw := cj_kwm (List.mem_of_getElem? (i := 966) rfl) rfl
set_option maxRecDepth 100000 in
theorem wm_926 : ((Jvm.Cond.code ({ cls := "CatalogueSetModel", name := "putField", desc := "(I)V" } : Jvm.MethodName) prog_9_method_19_code (3 : Nat) (Option.none : Option Jvm.ClassFile.FieldType)) : Cond) ∈ lw_kw := cj_kwm (List.mem_of_getElem? (i := 967) rfl) rfl
set_option maxRecDepth 100000 in
theorem wm_927 : ((Jvm.Cond.methodLink "CatalogueSetModel" (155 : Nat) ({ cls := "CatalogueSetModel", name := "put", desc := "(I)V" } : Jvm.MethodName)) : Cond) ∈ lw_kw := cj_kwm (List.mem_of_getElem? (i := 968) rfl) rfl
set_option maxRecDepth 100000 in
theorem wm_929 : ((Jvm.Cond.instanceMethod ({ cls := "CatalogueSetModel", name := "put", desc := "(I)V" } : Jvm.MethodName)) : Cond) ∈ lw_kw := cj_kwm (List.mem_of_getElem? (i := 970) rfl) rfl
set_option maxRecDepth 100000 in
theorem wm_930 : ((Jvm.Cond.code ({ cls := "CatalogueSetModel", name := "put", desc := "(I)V" } : Jvm.MethodName) prog_9_method_18_code (2 : Nat) (Option.none : Option Jvm.ClassFile.FieldType)) : Cond) ∈ lw_kw := cj_kwm (List.mem_of_getElem? (i := 971) rfl) rfl
set_option maxRecDepth 100000 in
theorem wm_931 : ((Jvm.Cond.methodLink "CatalogueSetModel" (161 : Nat) ({ cls := "CatalogueSetModel", name := "putNumber", desc := "(I)V" } : Jvm.MethodName)) : Cond) ∈ lw_kw := cj_kwm (List.mem_of_getElem? (i := 972) rfl) rfl
set_option maxRecDepth 100000 in
theorem wm_933 : ((Jvm.Cond.instanceMethod ({ cls := "CatalogueSetModel", name := "putNumber", desc := "(I)V" } : Jvm.MethodName)) : Cond) ∈ lw_kw := cj_kwm (List.mem_of_getElem? (i := 974) rfl) rfl
set_option maxRecDepth 100000 in
theorem wm_934 : ((Jvm.Cond.code ({ cls := "CatalogueSetModel", name := "putNumber", desc := "(I)V" } : Jvm.MethodName) prog_9_method_20_code (2 : Nat) (Option.none : Option Jvm.ClassFile.FieldType)) : Cond) ∈ lw_kw := cj_kwm (List.mem_of_getElem? (i := 975) rfl) rfl
set_option maxRecDepth 100000 in
theorem wm_935 : ((Jvm.Cond.methodLink "CatalogueSetModel" (164 : Nat) ({ cls := "CatalogueSetModel", name := "endOf", desc := "(II)I" } : Jvm.MethodName)) : Cond) ∈ lw_kw := cj_kwm (List.mem_of_getElem? (i := 976) rfl) rfl
set_option maxRecDepth 100000 in
theorem wm_937 : ((Jvm.Cond.instanceMethod ({ cls := "CatalogueSetModel", name := "endOf", desc := "(II)I" } : Jvm.MethodName)) : Cond) ∈ lw_kw := cj_kwm (List.mem_of_getElem? (i := 978) rfl) rfl
set_option maxRecDepth 100000 in
theorem wm_938 : ((Jvm.Cond.code ({ cls := "CatalogueSetModel", name := "endOf", desc := "(II)I" } : Jvm.MethodName) prog_9_method_21_code (4 : Nat) (Option.some Jvm.ClassFile.FieldType.int)) : Cond) ∈ lw_kw := cj_kwm (List.mem_of_getElem? (i := 979) rfl) rfl
set_option maxRecDepth 100000 in
theorem wm_939 : ((Jvm.Cond.methodLink "CatalogueSetModel" (168 : Nat) ({ cls := "CatalogueSetModel", name := "hasEmpty", desc := "(IIII)Z" } : Jvm.MethodName)) : Cond) ∈ lw_kw := cj_kwm (List.mem_of_getElem? (i := 980) rfl) rfl
set_option maxRecDepth 100000 in
theorem wm_941 : ((Jvm.Cond.instanceMethod ({ cls := "CatalogueSetModel", name := "hasEmpty", desc := "(IIII)Z" } : Jvm.MethodName)) : Cond) ∈ lw_kw := cj_kwm (List.mem_of_getElem? (i := 982) rfl) rfl
set_option maxRecDepth 100000 in
theorem wm_942 : ((Jvm.Cond.code ({ cls := "CatalogueSetModel", name := "hasEmpty", desc := "(IIII)Z" } : Jvm.MethodName) prog_9_method_22_code (7 : Nat) (Option.some Jvm.ClassFile.FieldType.boolean)) : Cond) ∈ lw_kw := cj_kwm (List.mem_of_getElem? (i := 983) rfl) rfl
set_option maxRecDepth 100000 in
theorem wm_943 : ((Jvm.Cond.methodLink "CatalogueSetModel" (192 : Nat) ({ cls := "CatalogueSetModel", name := "lay", desc := "(II)Z" } : Jvm.MethodName)) : Cond) ∈ lw_kw := cj_kwm (List.mem_of_getElem? (i := 984) rfl) rfl
set_option maxRecDepth 100000 in
theorem wm_945 : ((Jvm.Cond.instanceMethod ({ cls := "CatalogueSetModel", name := "lay", desc := "(II)Z" } : Jvm.MethodName)) : Cond) ∈ lw_kw := cj_kwm (List.mem_of_getElem? (i := 986) rfl) rfl
set_option maxRecDepth 100000 in
theorem wm_946 : ((Jvm.Cond.code ({ cls := "CatalogueSetModel", name := "lay", desc := "(II)Z" } : Jvm.MethodName) prog_9_method_25_code (8 : Nat) (Option.some Jvm.ClassFile.FieldType.boolean)) : Cond) ∈ lw_kw := cj_kwm (List.mem_of_getElem? (i := 987) rfl) rfl
set_option maxRecDepth 100000 in
theorem wm_947 : ((Jvm.Cond.methodLink "CatalogueSetModel" (175 : Nat) ({ cls := "CatalogueSetModel", name := "solveLines", desc := "(I)V" } : Jvm.MethodName)) : Cond) ∈ lw_kw := cj_kwm (List.mem_of_getElem? (i := 988) rfl) rfl
set_option maxRecDepth 100000 in
theorem wm_949 : ((Jvm.Cond.instanceMethod ({ cls := "CatalogueSetModel", name := "solveLines", desc := "(I)V" } : Jvm.MethodName)) : Cond) ∈ lw_kw := cj_kwm (List.mem_of_getElem? (i := 990) rfl) rfl
set_option maxRecDepth 100000 in
theorem wm_950 : ((Jvm.Cond.code ({ cls := "CatalogueSetModel", name := "solveLines", desc := "(I)V" } : Jvm.MethodName) prog_9_method_24_code (6 : Nat) (Option.none : Option Jvm.ClassFile.FieldType)) : Cond) ∈ lw_kw := cj_kwm (List.mem_of_getElem? (i := 991) rfl) rfl
set_option maxRecDepth 100000 in
theorem wm_951 : ((Jvm.Cond.methodLink "CatalogueSetModel" (195 : Nat) ({ cls := "CatalogueSetModel", name := "part", desc := "(II)Z" } : Jvm.MethodName)) : Cond) ∈ lw_kw := cj_kwm (List.mem_of_getElem? (i := 992) rfl) rfl
set_option maxRecDepth 100000 in
theorem wm_953 : ((Jvm.Cond.instanceMethod ({ cls := "CatalogueSetModel", name := "part", desc := "(II)Z" } : Jvm.MethodName)) : Cond) ∈ lw_kw := cj_kwm (List.mem_of_getElem? (i := 994) rfl) rfl
set_option maxRecDepth 100000 in
theorem wm_954 : ((Jvm.Cond.code ({ cls := "CatalogueSetModel", name := "part", desc := "(II)Z" } : Jvm.MethodName) prog_9_method_27_code (6 : Nat) (Option.some Jvm.ClassFile.FieldType.boolean)) : Cond) ∈ lw_kw := cj_kwm (List.mem_of_getElem? (i := 995) rfl) rfl
set_option maxRecDepth 100000 in
theorem wm_955 : ((Jvm.Cond.methodLink "CatalogueSetModel" (178 : Nat) ({ cls := "CatalogueSetModel", name := "addUnit", desc := "(IIIII)V" } : Jvm.MethodName)) : Cond) ∈ lw_kw := cj_kwm (List.mem_of_getElem? (i := 996) rfl) rfl
set_option maxRecDepth 100000 in
theorem wm_957 : ((Jvm.Cond.instanceMethod ({ cls := "CatalogueSetModel", name := "addUnit", desc := "(IIIII)V" } : Jvm.MethodName)) : Cond) ∈ lw_kw := cj_kwm (List.mem_of_getElem? (i := 998) rfl) rfl
set_option maxRecDepth 100000 in
theorem wm_958 : ((Jvm.Cond.code ({ cls := "CatalogueSetModel", name := "addUnit", desc := "(IIIII)V" } : Jvm.MethodName) prog_9_method_26_code (7 : Nat) (Option.none : Option Jvm.ClassFile.FieldType)) : Cond) ∈ lw_kw := cj_kwm (List.mem_of_getElem? (i := 999) rfl) rfl
set_option maxRecDepth 100000 in
theorem wm_959 : ((Jvm.Cond.methodLink "CatalogueSetModel" (198 : Nat) ({ cls := "CatalogueSetModel", name := "turn", desc := "(I)V" } : Jvm.MethodName)) : Cond) ∈ lw_kw := cj_kwm (List.mem_of_getElem? (i := 1000) rfl) rfl
set_option maxRecDepth 100000 in
theorem wm_961 : ((Jvm.Cond.instanceMethod ({ cls := "CatalogueSetModel", name := "turn", desc := "(I)V" } : Jvm.MethodName)) : Cond) ∈ lw_kw := cj_kwm (List.mem_of_getElem? (i := 1002) rfl) rfl
set_option maxRecDepth 100000 in
theorem wm_962 : ((Jvm.Cond.code ({ cls := "CatalogueSetModel", name := "turn", desc := "(I)V" } : Jvm.MethodName) prog_9_method_30_code (7 : Nat) (Option.none : Option Jvm.ClassFile.FieldType)) : Cond) ∈ lw_kw := cj_kwm (List.mem_of_getElem? (i := 1003) rfl) rfl
set_option maxRecDepth 100000 in
theorem wm_963 : ((Jvm.Cond.methodLink "CatalogueSetModel" (185 : Nat) ({ cls := "CatalogueSetModel", name := "solvePages", desc := "(II)V" } : Jvm.MethodName)) : Cond) ∈ lw_kw := cj_kwm (List.mem_of_getElem? (i := 1004) rfl) rfl
set_option maxRecDepth 100000 in
theorem wm_965 : ((Jvm.Cond.instanceMethod ({ cls := "CatalogueSetModel", name := "solvePages", desc := "(II)V" } : Jvm.MethodName)) : Cond) ∈ lw_kw := cj_kwm (List.mem_of_getElem? (i := 1006) rfl) rfl
set_option maxRecDepth 100000 in
theorem wm_966 : ((Jvm.Cond.code ({ cls := "CatalogueSetModel", name := "solvePages", desc := "(II)V" } : Jvm.MethodName) prog_9_method_29_code (7 : Nat) (Option.none : Option Jvm.ClassFile.FieldType)) : Cond) ∈ lw_kw := cj_kwm (List.mem_of_getElem? (i := 1007) rfl) rfl
set_option maxRecDepth 100000 in
theorem wm_967 : ((Jvm.Cond.methodLink "CatalogueSetModel" (182 : Nat) ({ cls := "CatalogueSetModel", name := "high", desc := "(I)I" } : Jvm.MethodName)) : Cond) ∈ lw_kw := cj_kwm (List.mem_of_getElem? (i := 1008) rfl) rfl
set_option maxRecDepth 100000 in
theorem wm_969 : ((Jvm.Cond.instanceMethod ({ cls := "CatalogueSetModel", name := "high", desc := "(I)I" } : Jvm.MethodName)) : Cond) ∈ lw_kw := cj_kwm (List.mem_of_getElem? (i := 1010) rfl) rfl
set_option maxRecDepth 100000 in
theorem wm_970 : ((Jvm.Cond.code ({ cls := "CatalogueSetModel", name := "high", desc := "(I)I" } : Jvm.MethodName) prog_9_method_28_code (2 : Nat) (Option.some Jvm.ClassFile.FieldType.int)) : Cond) ∈ lw_kw := cj_kwm (List.mem_of_getElem? (i := 1011) rfl) rfl
set_option maxRecDepth 100000 in
theorem wm_971 : ((Jvm.Cond.methodLink "CatalogueSetModel" (204 : Nat) ({ cls := "CatalogueSetModel", name := "settles", desc := "(I)Z" } : Jvm.MethodName)) : Cond) ∈ lw_kw := cj_kwm (List.mem_of_getElem? (i := 1012) rfl) rfl
set_option maxRecDepth 100000 in
theorem wm_973 : ((Jvm.Cond.instanceMethod ({ cls := "CatalogueSetModel", name := "settles", desc := "(I)Z" } : Jvm.MethodName)) : Cond) ∈ lw_kw := cj_kwm (List.mem_of_getElem? (i := 1014) rfl) rfl
set_option maxRecDepth 100000 in
theorem wm_974 : ((Jvm.Cond.code ({ cls := "CatalogueSetModel", name := "settles", desc := "(I)Z" } : Jvm.MethodName) prog_9_method_32_code (5 : Nat) (Option.some Jvm.ClassFile.FieldType.boolean)) : Cond) ∈ lw_kw := cj_kwm (List.mem_of_getElem? (i := 1015) rfl) rfl
set_option maxRecDepth 100000 in
theorem wm_975 : ((Jvm.Cond.methodLink "CatalogueSetLaw" (104 : Nat) ({ cls := "CatalogueSetModel", name := "about", desc := "(I)I" } : Jvm.MethodName)) : Cond) ∈ lw_kw := cj_kwm (List.mem_of_getElem? (i := 1016) rfl) rfl
set_option maxRecDepth 100000 in
theorem wm_976 : ((Jvm.Cond.instanceMethod ({ cls := "CatalogueSetModel", name := "about", desc := "(I)I" } : Jvm.MethodName)) : Cond) ∈ lw_kw := cj_kwm (List.mem_of_getElem? (i := 1017) rfl) rfl
set_option maxRecDepth 100000 in
theorem wm_977 : ((Jvm.Cond.selects "CatalogueSetModel" ({ cls := "CatalogueSetModel", name := "about", desc := "(I)I" } : Jvm.MethodName) ({ cls := "CatalogueSetModel", name := "about", desc := "(I)I" } : Jvm.MethodName)) : Cond) ∈ lw_kw := cj_kwm (List.mem_of_getElem? (i := 1018) rfl) rfl
set_option maxRecDepth 100000 in
theorem wm_978 : ((Jvm.Cond.code ({ cls := "CatalogueSetModel", name := "about", desc := "(I)I" } : Jvm.MethodName) prog_9_method_34_code (2 : Nat) (Option.some Jvm.ClassFile.FieldType.int)) : Cond) ∈ lw_kw := cj_kwm (List.mem_of_getElem? (i := 1019) rfl) rfl
set_option maxRecDepth 100000 in
theorem wm_979 : ((Jvm.Cond.methodLink "CatalogueSetLaw" (107 : Nat) ({ cls := "CatalogueSetModel", name := "page", desc := "(I)I" } : Jvm.MethodName)) : Cond) ∈ lw_kw := cj_kwm (List.mem_of_getElem? (i := 1020) rfl) rfl
set_option maxRecDepth 100000 in
theorem wm_980 : ((Jvm.Cond.instanceMethod ({ cls := "CatalogueSetModel", name := "page", desc := "(I)I" } : Jvm.MethodName)) : Cond) ∈ lw_kw := cj_kwm (List.mem_of_getElem? (i := 1021) rfl) rfl
set_option maxRecDepth 100000 in
theorem wm_981 : ((Jvm.Cond.selects "CatalogueSetModel" ({ cls := "CatalogueSetModel", name := "page", desc := "(I)I" } : Jvm.MethodName) ({ cls := "CatalogueSetModel", name := "page", desc := "(I)I" } : Jvm.MethodName)) : Cond) ∈ lw_kw := cj_kwm (List.mem_of_getElem? (i := 1022) rfl) rfl
set_option maxRecDepth 100000 in
theorem wm_982 : ((Jvm.Cond.code ({ cls := "CatalogueSetModel", name := "page", desc := "(I)I" } : Jvm.MethodName) prog_9_method_36_code (2 : Nat) (Option.some Jvm.ClassFile.FieldType.int)) : Cond) ∈ lw_kw := cj_kwm (List.mem_of_getElem? (i := 1023) rfl) rfl
set_option maxRecDepth 100000 in
theorem wm_983 : ((Jvm.Cond.methodLink "CatalogueSetModel" (207 : Nat) ({ cls := "CatalogueSetModel", name := "wasThere", desc := "(I)Z" } : Jvm.MethodName)) : Cond) ∈ lw_kw := cj_kwm (List.mem_of_getElem? (i := 1024) rfl) rfl
set_option maxRecDepth 100000 in
theorem wm_985 : ((Jvm.Cond.instanceMethod ({ cls := "CatalogueSetModel", name := "wasThere", desc := "(I)Z" } : Jvm.MethodName)) : Cond) ∈ lw_kw := cj_kwm (List.mem_of_getElem? (i := 1026) rfl) rfl
set_option maxRecDepth 100000 in
theorem wm_986 : ((Jvm.Cond.code ({ cls := "CatalogueSetModel", name := "wasThere", desc := "(I)Z" } : Jvm.MethodName) prog_9_method_35_code (2 : Nat) (Option.some Jvm.ClassFile.FieldType.boolean)) : Cond) ∈ lw_kw := cj_kwm (List.mem_of_getElem? (i := 1027) rfl) rfl
set_option maxRecDepth 100000 in
theorem wm_987 : ((Jvm.Cond.methodLink "CatalogueSetLaw" (110 : Nat) ({ cls := "CatalogueSetModel", name := "line", desc := "(III)I" } : Jvm.MethodName)) : Cond) ∈ lw_kw := cj_kwm (List.mem_of_getElem? (i := 1028) rfl) rfl
set_option maxRecDepth 100000 in
theorem wm_988 : ((Jvm.Cond.instanceMethod ({ cls := "CatalogueSetModel", name := "line", desc := "(III)I" } : Jvm.MethodName)) : Cond) ∈ lw_kw := cj_kwm (List.mem_of_getElem? (i := 1029) rfl) rfl
set_option maxRecDepth 100000 in
theorem wm_989 : ((Jvm.Cond.selects "CatalogueSetModel" ({ cls := "CatalogueSetModel", name := "line", desc := "(III)I" } : Jvm.MethodName) ({ cls := "CatalogueSetModel", name := "line", desc := "(III)I" } : Jvm.MethodName)) : Cond) ∈ lw_kw := cj_kwm (List.mem_of_getElem? (i := 1030) rfl) rfl
set_option maxRecDepth 100000 in
theorem wm_990 : ((Jvm.Cond.code ({ cls := "CatalogueSetModel", name := "line", desc := "(III)I" } : Jvm.MethodName) prog_9_method_37_code (8 : Nat) (Option.some Jvm.ClassFile.FieldType.int)) : Cond) ∈ lw_kw := cj_kwm (List.mem_of_getElem? (i := 1031) rfl) rfl
set_option maxRecDepth 100000 in
theorem wm_991 : ((Jvm.Cond.methodLink "CatalogueSetLaw" (113 : Nat) ({ cls := "CatalogueSetModel", name := "sign", desc := "(III)I" } : Jvm.MethodName)) : Cond) ∈ lw_kw := cj_kwm (List.mem_of_getElem? (i := 1032) rfl) rfl
set_option maxRecDepth 100000 in
theorem wm_992 : ((Jvm.Cond.instanceMethod ({ cls := "CatalogueSetModel", name := "sign", desc := "(III)I" } : Jvm.MethodName)) : Cond) ∈ lw_kw := cj_kwm (List.mem_of_getElem? (i := 1033) rfl) rfl
set_option maxRecDepth 100000 in
theorem wm_993 : ((Jvm.Cond.selects "CatalogueSetModel" ({ cls := "CatalogueSetModel", name := "sign", desc := "(III)I" } : Jvm.MethodName) ({ cls := "CatalogueSetModel", name := "sign", desc := "(III)I" } : Jvm.MethodName)) : Cond) ∈ lw_kw := cj_kwm (List.mem_of_getElem? (i := 1034) rfl) rfl
set_option maxRecDepth 100000 in
theorem wm_994 : ((Jvm.Cond.code ({ cls := "CatalogueSetModel", name := "sign", desc := "(III)I" } : Jvm.MethodName) prog_9_method_38_code (9 : Nat) (Option.some Jvm.ClassFile.FieldType.int)) : Cond) ∈ lw_kw := cj_kwm (List.mem_of_getElem? (i := 1035) rfl) rfl
set_option maxRecDepth 100000 in
theorem wm_995 : ((Jvm.Cond.methodLink "CatalogueSetLaw" (116 : Nat) ({ cls := "CatalogueSetModel", name := "index", desc := "(II)I" } : Jvm.MethodName)) : Cond) ∈ lw_kw := cj_kwm (List.mem_of_getElem? (i := 1036) rfl) rfl
set_option maxRecDepth 100000 in
theorem wm_996 : ((Jvm.Cond.instanceMethod ({ cls := "CatalogueSetModel", name := "index", desc := "(II)I" } : Jvm.MethodName)) : Cond) ∈ lw_kw := cj_kwm (List.mem_of_getElem? (i := 1037) rfl) rfl
set_option maxRecDepth 100000 in
theorem wm_997 : ((Jvm.Cond.selects "CatalogueSetModel" ({ cls := "CatalogueSetModel", name := "index", desc := "(II)I" } : Jvm.MethodName) ({ cls := "CatalogueSetModel", name := "index", desc := "(II)I" } : Jvm.MethodName)) : Cond) ∈ lw_kw := cj_kwm (List.mem_of_getElem? (i := 1038) rfl) rfl
set_option maxRecDepth 100000 in
theorem wm_998 : ((Jvm.Cond.code ({ cls := "CatalogueSetModel", name := "index", desc := "(II)I" } : Jvm.MethodName) prog_9_method_41_code (7 : Nat) (Option.some Jvm.ClassFile.FieldType.int)) : Cond) ∈ lw_kw := cj_kwm (List.mem_of_getElem? (i := 1039) rfl) rfl
set_option maxRecDepth 100000 in
theorem wm_999 : ((Jvm.Cond.methodLink "CatalogueSetModel" (213 : Nat) ({ cls := "CatalogueSetModel", name := "isAhead", desc := "(III)Z" } : Jvm.MethodName)) : Cond) ∈ lw_kw := cj_kwm (List.mem_of_getElem? (i := 1040) rfl) rfl
set_option maxRecDepth 100000 in
theorem wm_1001 : ((Jvm.Cond.instanceMethod ({ cls := "CatalogueSetModel", name := "isAhead", desc := "(III)Z" } : Jvm.MethodName)) : Cond) ∈ lw_kw := cj_kwm (List.mem_of_getElem? (i := 1042) rfl) rfl
set_option maxRecDepth 100000 in
theorem wm_1002 : ((Jvm.Cond.code ({ cls := "CatalogueSetModel", name := "isAhead", desc := "(III)Z" } : Jvm.MethodName) prog_9_method_40_code (9 : Nat) (Option.some Jvm.ClassFile.FieldType.boolean)) : Cond) ∈ lw_kw := cj_kwm (List.mem_of_getElem? (i := 1043) rfl) rfl
set_option maxRecDepth 100000 in
theorem wm_1003 : ((Jvm.Cond.methodLink "CatalogueSetModel" (210 : Nat) ({ cls := "CatalogueSetModel", name := "rank", desc := "(I)I" } : Jvm.MethodName)) : Cond) ∈ lw_kw := cj_kwm (List.mem_of_getElem? (i := 1044) rfl) rfl
set_option maxRecDepth 100000 in
theorem wm_1005 : ((Jvm.Cond.instanceMethod ({ cls := "CatalogueSetModel", name := "rank", desc := "(I)I" } : Jvm.MethodName)) : Cond) ∈ lw_kw := cj_kwm (List.mem_of_getElem? (i := 1046) rfl) rfl
set_option maxRecDepth 100000 in
theorem wm_1006 : ((Jvm.Cond.code ({ cls := "CatalogueSetModel", name := "rank", desc := "(I)I" } : Jvm.MethodName) prog_9_method_39_code (4 : Nat) (Option.some Jvm.ClassFile.FieldType.int)) : Cond) ∈ lw_kw := cj_kwm (List.mem_of_getElem? (i := 1047) rfl) rfl
set_option maxRecDepth 100000 in
theorem wm_1007 : ((Jvm.Cond.methodLink "CatalogueSetLaw" (119 : Nat) ({ cls := "CatalogueSetModel", name := "count", desc := "(I)I" } : Jvm.MethodName)) : Cond) ∈ lw_kw := cj_kwm (List.mem_of_getElem? (i := 1048) rfl) rfl
set_option maxRecDepth 100000 in
theorem wm_1008 : ((Jvm.Cond.instanceMethod ({ cls := "CatalogueSetModel", name := "count", desc := "(I)I" } : Jvm.MethodName)) : Cond) ∈ lw_kw := cj_kwm (List.mem_of_getElem? (i := 1049) rfl) rfl
set_option maxRecDepth 100000 in
theorem wm_1009 : ((Jvm.Cond.selects "CatalogueSetModel" ({ cls := "CatalogueSetModel", name := "count", desc := "(I)I" } : Jvm.MethodName) ({ cls := "CatalogueSetModel", name := "count", desc := "(I)I" } : Jvm.MethodName)) : Cond) ∈ lw_kw := cj_kwm (List.mem_of_getElem? (i := 1050) rfl) rfl
set_option maxRecDepth 100000 in
theorem wm_1010 : ((Jvm.Cond.code ({ cls := "CatalogueSetModel", name := "count", desc := "(I)I" } : Jvm.MethodName) prog_9_method_42_code (2 : Nat) (Option.some Jvm.ClassFile.FieldType.int)) : Cond) ∈ lw_kw := cj_kwm (List.mem_of_getElem? (i := 1051) rfl) rfl
set_option maxRecDepth 100000 in
theorem wm_1011 : ((Jvm.Cond.arrayClass Jvm.ClassFile.FieldType.long) : Cond) ∈ lw_kw := cj_kwm (List.mem_of_getElem? (i := 1052) rfl) rfl
set_option maxRecDepth 100000 in
theorem wm_p0 : (Cond.selects "CatalogueSet" ⟨"CatalogueSet", "firstUnsourced", "()I"⟩ ⟨"CatalogueSet", "firstUnsourced", "()I"⟩ : Cond) ∈ lw_kw := cj_kwm (List.mem_of_getElem? (i := 0) rfl) rfl
set_option maxRecDepth 100000 in
theorem wm_p1 : (Cond.selects "CatalogueSet$Press" ⟨"CatalogueSet$Press", "setLines", "([LCatalogueSet$Entry;ILCatalogueSet$Setting;)I"⟩ ⟨"CatalogueSet$Press", "setLines", "([LCatalogueSet$Entry;ILCatalogueSet$Setting;)I"⟩ : Cond) ∈ lw_kw := cj_kwm (List.mem_of_getElem? (i := 1) rfl) rfl
set_option maxRecDepth 100000 in
theorem wm_p2 : (Cond.selects "CatalogueSet$Entry" ⟨"CatalogueSet$Entry", "isPartWhole", "(I)Z"⟩ ⟨"CatalogueSet$Entry", "isPartWhole", "(I)Z"⟩ : Cond) ∈ lw_kw := cj_kwm (List.mem_of_getElem? (i := 2) rfl) rfl
set_option maxRecDepth 100000 in
theorem wm_p3 : (Cond.selects "CatalogueSet$Entry" ⟨"CatalogueSet$Entry", "partEnd", "(I)I"⟩ ⟨"CatalogueSet$Entry", "partEnd", "(I)I"⟩ : Cond) ∈ lw_kw := cj_kwm (List.mem_of_getElem? (i := 3) rfl) rfl
set_option maxRecDepth 100000 in
theorem wm_p4 : (Cond.selects "CatalogueSet$Entry" ⟨"CatalogueSet$Entry", "printMark", "(LCatalogueSet$Signs;II[I)V"⟩ ⟨"CatalogueSet$Entry", "printMark", "(LCatalogueSet$Signs;II[I)V"⟩ : Cond) ∈ lw_kw := cj_kwm (List.mem_of_getElem? (i := 4) rfl) rfl
set_option maxRecDepth 100000 in
theorem wm_p5 : (Cond.selects "CatalogueSet$Block" ⟨"CatalogueSet$Block", "takeWords", "(LCatalogueSet$Signs;LCatalogueSet$Filling;)V"⟩ ⟨"CatalogueSet$Block", "takeWords", "(LCatalogueSet$Signs;LCatalogueSet$Filling;)V"⟩ : Cond) ∈ lw_kw := cj_kwm (List.mem_of_getElem? (i := 5) rfl) rfl
set_option maxRecDepth 100000 in
theorem wm_p6 : (Cond.selects "CatalogueSet$Filling" ⟨"CatalogueSet$Filling", "solveFrom", "(I)V"⟩ ⟨"CatalogueSet$Filling", "solveFrom", "(I)V"⟩ : Cond) ∈ lw_kw := cj_kwm (List.mem_of_getElem? (i := 6) rfl) rfl
set_option maxRecDepth 100000 in
theorem wm_p7 : (Cond.selects "CatalogueSet$Block" ⟨"CatalogueSet$Block", "markLines", "(LCatalogueSet$Filling;)V"⟩ ⟨"CatalogueSet$Block", "markLines", "(LCatalogueSet$Filling;)V"⟩ : Cond) ∈ lw_kw := cj_kwm (List.mem_of_getElem? (i := 7) rfl) rfl
set_option maxRecDepth 100000 in
theorem wm_p8 : (Cond.selects "CatalogueSet$Setting" ⟨"CatalogueSet$Setting", "markPages", "(LCatalogueSet$Filling;)V"⟩ ⟨"CatalogueSet$Setting", "markPages", "(LCatalogueSet$Filling;)V"⟩ : Cond) ∈ lw_kw := cj_kwm (List.mem_of_getElem? (i := 8) rfl) rfl
set_option maxRecDepth 100000 in
theorem wm_p9 : (Cond.selects "CatalogueSet$Setting" ⟨"CatalogueSet$Setting", "findEntryPages", "()V"⟩ ⟨"CatalogueSet$Setting", "findEntryPages", "()V"⟩ : Cond) ∈ lw_kw := cj_kwm (List.mem_of_getElem? (i := 9) rfl) rfl
set_option maxRecDepth 100000 in
theorem wm_p10 : (Cond.selects "CatalogueSet$Setting" ⟨"CatalogueSet$Setting", "pageOfUnit", "(I)I"⟩ ⟨"CatalogueSet$Setting", "pageOfUnit", "(I)I"⟩ : Cond) ∈ lw_kw := cj_kwm (List.mem_of_getElem? (i := 10) rfl) rfl
set_option maxRecDepth 100000 in
theorem wm_p12 : (Cond.selects "CatalogueSet" ⟨"CatalogueSet", "addSignsOf", "(I)V"⟩ ⟨"CatalogueSet", "addSignsOf", "(I)V"⟩ : Cond) ∈ lw_kw := cj_kwm (List.mem_of_getElem? (i := 12) rfl) rfl
set_option maxRecDepth 100000 in
theorem wm_p13 : (Cond.selects "CatalogueSet" ⟨"CatalogueSet", "movePadTo", "(LCatalogueSet$Signs;)I"⟩ ⟨"CatalogueSet", "movePadTo", "(LCatalogueSet$Signs;)I"⟩ : Cond) ∈ lw_kw := cj_kwm (List.mem_of_getElem? (i := 13) rfl) rfl
set_option maxRecDepth 100000 in
theorem wm_p14 : (Cond.selects "CatalogueSet" ⟨"CatalogueSet", "isEntry", "(I)Z"⟩ ⟨"CatalogueSet", "isEntry", "(I)Z"⟩ : Cond) ∈ lw_kw := cj_kwm (List.mem_of_getElem? (i := 14) rfl) rfl
set_option maxRecDepth 100000 in
theorem wm_p15 : (Cond.selects "CatalogueSet$Setting" ⟨"CatalogueSet$Setting", "entryOfUnit", "(I)I"⟩ ⟨"CatalogueSet$Setting", "entryOfUnit", "(I)I"⟩ : Cond) ∈ lw_kw := cj_kwm (List.mem_of_getElem? (i := 15) rfl) rfl
set_option maxRecDepth 100000 in
theorem wm_p16 : (Cond.selects "CatalogueSet" ⟨"CatalogueSet", "entriesAhead", "(II)I"⟩ ⟨"CatalogueSet", "entriesAhead", "(II)I"⟩ : Cond) ∈ lw_kw := cj_kwm (List.mem_of_getElem? (i := 16) rfl) rfl
set_option maxRecDepth 100000 in
theorem wm_p17 : (Cond.selects "CatalogueSet" ⟨"CatalogueSet", "compareTexts", "(LCatalogueSet$Signs;LCatalogueSet$Signs;)I"⟩ ⟨"CatalogueSet", "compareTexts", "(LCatalogueSet$Signs;LCatalogueSet$Signs;)I"⟩ : Cond) ∈ lw_kw := cj_kwm (List.mem_of_getElem? (i := 17) rfl) rfl
set_option maxRecDepth 100000 in
theorem wm_p18 : (Cond.selects "CatalogueSet" ⟨"CatalogueSet", "rankOf", "(I)I"⟩ ⟨"CatalogueSet", "rankOf", "(I)I"⟩ : Cond) ∈ lw_kw := cj_kwm (List.mem_of_getElem? (i := 18) rfl) rfl
set_option maxRecDepth 100000 in
theorem wm_p19 : (Cond.selects "CatalogueSetModel" ⟨"CatalogueSetModel", "goes", "(ZZ)Z"⟩ ⟨"CatalogueSetModel", "goes", "(ZZ)Z"⟩ : Cond) ∈ lw_kw := cj_kwm (List.mem_of_getElem? (i := 19) rfl) rfl
set_option maxRecDepth 100000 in
theorem wm_p20 : (Cond.selects "CatalogueSetModel" ⟨"CatalogueSetModel", "take", "(I)V"⟩ ⟨"CatalogueSetModel", "take", "(I)V"⟩ : Cond) ∈ lw_kw := cj_kwm (List.mem_of_getElem? (i := 20) rfl) rfl
set_option maxRecDepth 100000 in
theorem wm_p21 : (Cond.selects "CatalogueSetModel" ⟨"CatalogueSetModel", "fault", "()I"⟩ ⟨"CatalogueSetModel", "fault", "()I"⟩ : Cond) ∈ lw_kw := cj_kwm (List.mem_of_getElem? (i := 21) rfl) rfl
set_option maxRecDepth 100000 in
theorem wm_p22 : (Cond.selects "CatalogueSetModel" ⟨"CatalogueSetModel", "isEntry", "(I)Z"⟩ ⟨"CatalogueSetModel", "isEntry", "(I)Z"⟩ : Cond) ∈ lw_kw := cj_kwm (List.mem_of_getElem? (i := 22) rfl) rfl
set_option maxRecDepth 100000 in
theorem wm_p23 : (Cond.selects "CatalogueSetModel" ⟨"CatalogueSetModel", "pass", "(I)I"⟩ ⟨"CatalogueSetModel", "pass", "(I)I"⟩ : Cond) ∈ lw_kw := cj_kwm (List.mem_of_getElem? (i := 23) rfl) rfl
set_option maxRecDepth 100000 in
theorem wm_p24 : (Cond.selects "CatalogueSetModel" ⟨"CatalogueSetModel", "printAll", "(I)V"⟩ ⟨"CatalogueSetModel", "printAll", "(I)V"⟩ : Cond) ∈ lw_kw := cj_kwm (List.mem_of_getElem? (i := 24) rfl) rfl
set_option maxRecDepth 100000 in
theorem wm_p25 : (Cond.selects "CatalogueSetModel" ⟨"CatalogueSetModel", "putField", "(I)V"⟩ ⟨"CatalogueSetModel", "putField", "(I)V"⟩ : Cond) ∈ lw_kw := cj_kwm (List.mem_of_getElem? (i := 25) rfl) rfl
set_option maxRecDepth 100000 in
theorem wm_p26 : (Cond.selects "CatalogueSetModel" ⟨"CatalogueSetModel", "put", "(I)V"⟩ ⟨"CatalogueSetModel", "put", "(I)V"⟩ : Cond) ∈ lw_kw := cj_kwm (List.mem_of_getElem? (i := 26) rfl) rfl
set_option maxRecDepth 100000 in
theorem wm_p27 : (Cond.selects "CatalogueSetModel" ⟨"CatalogueSetModel", "putNumber", "(I)V"⟩ ⟨"CatalogueSetModel", "putNumber", "(I)V"⟩ : Cond) ∈ lw_kw := cj_kwm (List.mem_of_getElem? (i := 27) rfl) rfl
set_option maxRecDepth 100000 in
theorem wm_p28 : (Cond.selects "CatalogueSetModel" ⟨"CatalogueSetModel", "endOf", "(II)I"⟩ ⟨"CatalogueSetModel", "endOf", "(II)I"⟩ : Cond) ∈ lw_kw := cj_kwm (List.mem_of_getElem? (i := 28) rfl) rfl
set_option maxRecDepth 100000 in
theorem wm_p29 : (Cond.selects "CatalogueSetModel" ⟨"CatalogueSetModel", "hasEmpty", "(IIII)Z"⟩ ⟨"CatalogueSetModel", "hasEmpty", "(IIII)Z"⟩ : Cond) ∈ lw_kw := cj_kwm (List.mem_of_getElem? (i := 29) rfl) rfl
set_option maxRecDepth 100000 in
theorem wm_p30 : (Cond.selects "CatalogueSetModel" ⟨"CatalogueSetModel", "lay", "(II)Z"⟩ ⟨"CatalogueSetModel", "lay", "(II)Z"⟩ : Cond) ∈ lw_kw := cj_kwm (List.mem_of_getElem? (i := 30) rfl) rfl
set_option maxRecDepth 100000 in
theorem wm_p31 : (Cond.selects "CatalogueSetModel" ⟨"CatalogueSetModel", "solveLines", "(I)V"⟩ ⟨"CatalogueSetModel", "solveLines", "(I)V"⟩ : Cond) ∈ lw_kw := cj_kwm (List.mem_of_getElem? (i := 31) rfl) rfl
set_option maxRecDepth 100000 in
theorem wm_p32 : (Cond.selects "CatalogueSetModel" ⟨"CatalogueSetModel", "part", "(II)Z"⟩ ⟨"CatalogueSetModel", "part", "(II)Z"⟩ : Cond) ∈ lw_kw := cj_kwm (List.mem_of_getElem? (i := 32) rfl) rfl
set_option maxRecDepth 100000 in
theorem wm_p33 : (Cond.selects "CatalogueSetModel" ⟨"CatalogueSetModel", "addUnit", "(IIIII)V"⟩ ⟨"CatalogueSetModel", "addUnit", "(IIIII)V"⟩ : Cond) ∈ lw_kw := cj_kwm (List.mem_of_getElem? (i := 33) rfl) rfl
set_option maxRecDepth 100000 in
theorem wm_p34 : (Cond.selects "CatalogueSetModel" ⟨"CatalogueSetModel", "turn", "(I)V"⟩ ⟨"CatalogueSetModel", "turn", "(I)V"⟩ : Cond) ∈ lw_kw := cj_kwm (List.mem_of_getElem? (i := 34) rfl) rfl
set_option maxRecDepth 100000 in
theorem wm_p35 : (Cond.selects "CatalogueSetModel" ⟨"CatalogueSetModel", "solvePages", "(II)V"⟩ ⟨"CatalogueSetModel", "solvePages", "(II)V"⟩ : Cond) ∈ lw_kw := cj_kwm (List.mem_of_getElem? (i := 35) rfl) rfl
set_option maxRecDepth 100000 in
theorem wm_p36 : (Cond.selects "CatalogueSetModel" ⟨"CatalogueSetModel", "high", "(I)I"⟩ ⟨"CatalogueSetModel", "high", "(I)I"⟩ : Cond) ∈ lw_kw := cj_kwm (List.mem_of_getElem? (i := 36) rfl) rfl
set_option maxRecDepth 100000 in
theorem wm_p37 : (Cond.selects "CatalogueSetModel" ⟨"CatalogueSetModel", "settles", "(I)Z"⟩ ⟨"CatalogueSetModel", "settles", "(I)Z"⟩ : Cond) ∈ lw_kw := cj_kwm (List.mem_of_getElem? (i := 37) rfl) rfl
set_option maxRecDepth 100000 in
theorem wm_p38 : (Cond.selects "CatalogueSetModel" ⟨"CatalogueSetModel", "wasThere", "(I)Z"⟩ ⟨"CatalogueSetModel", "wasThere", "(I)Z"⟩ : Cond) ∈ lw_kw := cj_kwm (List.mem_of_getElem? (i := 38) rfl) rfl
set_option maxRecDepth 100000 in
theorem wm_p39 : (Cond.selects "CatalogueSetModel" ⟨"CatalogueSetModel", "isAhead", "(III)Z"⟩ ⟨"CatalogueSetModel", "isAhead", "(III)Z"⟩ : Cond) ∈ lw_kw := cj_kwm (List.mem_of_getElem? (i := 39) rfl) rfl
set_option maxRecDepth 100000 in
theorem wm_p40 : (Cond.selects "CatalogueSetModel" ⟨"CatalogueSetModel", "rank", "(I)I"⟩ ⟨"CatalogueSetModel", "rank", "(I)I"⟩ : Cond) ∈ lw_kw := cj_kwm (List.mem_of_getElem? (i := 40) rfl) rfl
theorem mi_0 : cj_Mi 0 := ⟨(Or.inl rfl), wm_415, by decide +kernel, wm_1, ⟨by decide +kernel, by decide +kernel⟩⟩
theorem mi_1 : cj_Mi 1 := ⟨(Or.inl rfl), wm_568, by decide +kernel, wm_1, ⟨by decide +kernel, by decide +kernel⟩⟩
theorem mi_2 : cj_Mi 2 := ⟨(Or.inl rfl), wm_571, by decide +kernel, wm_1, ⟨by decide +kernel, by decide +kernel⟩⟩
theorem mi_3 : cj_Mi 3 := ⟨(Or.inl rfl), wm_522, by decide +kernel, wm_1, ⟨by decide +kernel, by decide +kernel⟩⟩
theorem mi_4 : cj_Mi 4 := ⟨(Or.inl rfl), wm_347, by decide +kernel, wm_8, ⟨by decide +kernel, by decide +kernel⟩⟩
theorem mi_5 : cj_Mi 5 := ⟨(Or.inl rfl), wm_689, by decide +kernel, wm_8, ⟨by decide +kernel, by decide +kernel⟩⟩
theorem mi_6 : cj_Mi 6 := ⟨(Or.inl rfl), wm_669, by decide +kernel, wm_8, ⟨by decide +kernel, by decide +kernel⟩⟩
theorem mi_7 : cj_Mi 7 := ⟨(Or.inl rfl), wm_685, by decide +kernel, wm_8, ⟨by decide +kernel, by decide +kernel⟩⟩
theorem mi_8 : cj_Mi 8 := ⟨(Or.inl rfl), wm_293, by decide +kernel, wm_8, ⟨by decide +kernel, by decide +kernel⟩⟩
theorem mi_9 : cj_Mi 9 := ⟨(Or.inl rfl), wm_366, by decide +kernel, wm_8, ⟨by decide +kernel, by decide +kernel⟩⟩
theorem mi_10 : cj_Mi 10 := ⟨(Or.inl rfl), wm_603, by decide +kernel, wm_4, ⟨by decide +kernel, by decide +kernel⟩⟩
theorem mi_11 : cj_Mi 11 := ⟨(Or.inl rfl), wm_222, by decide +kernel, wm_4, ⟨by decide +kernel, by decide +kernel⟩⟩
theorem mi_12 : cj_Mi 12 := ⟨(Or.inl rfl), wm_289, by decide +kernel, wm_4, ⟨by decide +kernel, by decide +kernel⟩⟩
theorem mi_13 : cj_Mi 13 := ⟨(Or.inl rfl), wm_590, by decide +kernel, wm_4, ⟨by decide +kernel, by decide +kernel⟩⟩
theorem mi_14 : cj_Mi 14 := ⟨(Or.inl rfl), wm_267, by decide +kernel, wm_4, ⟨by decide +kernel, by decide +kernel⟩⟩
theorem mi_15 : cj_Mi 15 := ⟨(Or.inl rfl), wm_557, by decide +kernel, wm_4, ⟨by decide +kernel, by decide +kernel⟩⟩
theorem mi_16 : cj_Mi 16 := ⟨(Or.inl rfl), wm_81, by decide +kernel, wm_6, ⟨by decide +kernel, by decide +kernel⟩⟩
theorem mi_17 : cj_Mi 17 := ⟨(Or.inl rfl), wm_313, by decide +kernel, wm_6, ⟨by decide +kernel, by decide +kernel⟩⟩
theorem mi_18 : cj_Mi 18 := ⟨(Or.inl rfl), wm_342, by decide +kernel, wm_6, ⟨by decide +kernel, by decide +kernel⟩⟩
theorem mi_19 : cj_Mi 19 := ⟨(Or.inl rfl), wm_317, by decide +kernel, wm_6, ⟨by decide +kernel, by decide +kernel⟩⟩
theorem mi_20 : cj_Mi 20 := ⟨(Or.inl rfl), wm_338, by decide +kernel, wm_6, ⟨by decide +kernel, by decide +kernel⟩⟩
theorem mi_21 : cj_Mi 21 := ⟨(Or.inl rfl), wm_352, by decide +kernel, wm_6, ⟨by decide +kernel, by decide +kernel⟩⟩
theorem mi_22 : cj_Mi 22 := ⟨(Or.inl rfl), wm_330, by decide +kernel, wm_6, ⟨by decide +kernel, by decide +kernel⟩⟩
theorem mi_23 : cj_Mi 23 := ⟨(Or.inl rfl), wm_301, by decide +kernel, wm_6, ⟨by decide +kernel, by decide +kernel⟩⟩
theorem mi_24 : cj_Mi 24 := ⟨(Or.inl rfl), wm_356, by decide +kernel, wm_7, ⟨by decide +kernel, by decide +kernel⟩⟩
theorem mi_25 : cj_Mi 25 := ⟨(Or.inl rfl), wm_239, by decide +kernel, wm_7, ⟨by decide +kernel, by decide +kernel⟩⟩
theorem mi_26 : cj_Mi 26 := ⟨(Or.inl rfl), wm_665, by decide +kernel, wm_7, ⟨by decide +kernel, by decide +kernel⟩⟩
theorem mi_27 : cj_Mi 27 := ⟨(Or.inl rfl), wm_631, by decide +kernel, wm_7, ⟨by decide +kernel, by decide +kernel⟩⟩
theorem mi_28 : cj_Mi 28 := ⟨(Or.inl rfl), wm_642, by decide +kernel, wm_7, ⟨by decide +kernel, by decide +kernel⟩⟩
theorem mi_29 : cj_Mi 29 := ⟨(Or.inl rfl), wm_384, by decide +kernel, wm_7, ⟨by decide +kernel, by decide +kernel⟩⟩
theorem mi_30 : cj_Mi 30 := ⟨(Or.inl rfl), wm_396, by decide +kernel, wm_7, ⟨by decide +kernel, by decide +kernel⟩⟩
theorem mi_31 : cj_Mi 31 := ⟨(Or.inl rfl), wm_388, by decide +kernel, wm_7, ⟨by decide +kernel, by decide +kernel⟩⟩
theorem mi_32 : cj_Mi 32 := ⟨(Or.inl rfl), wm_230, by decide +kernel, wm_7, ⟨by decide +kernel, by decide +kernel⟩⟩
theorem mi_33 : cj_Mi 33 := ⟨(Or.inl rfl), wm_392, by decide +kernel, wm_7, ⟨by decide +kernel, by decide +kernel⟩⟩
theorem mi_34 : cj_Mi 34 := ⟨(Or.inl rfl), wm_34, by decide +kernel, wm_3, ⟨by decide +kernel, by decide +kernel⟩⟩
theorem mi_35 : cj_Mi 35 := ⟨(Or.inl rfl), wm_281, by decide +kernel, wm_3, ⟨by decide +kernel, by decide +kernel⟩⟩
theorem mi_36 : cj_Mi 36 := ⟨(Or.inl rfl), wm_255, by decide +kernel, wm_3, ⟨by decide +kernel, by decide +kernel⟩⟩
theorem mi_37 : cj_Mi 37 := ⟨(Or.inl rfl), wm_247, by decide +kernel, wm_3, ⟨by decide +kernel, by decide +kernel⟩⟩
theorem mi_38 : cj_Mi 38 := ⟨(Or.inl rfl), wm_617, by decide +kernel, wm_3, ⟨by decide +kernel, by decide +kernel⟩⟩
theorem mi_39 : cj_Mi 39 := ⟨(Or.inl rfl), wm_251, by decide +kernel, wm_3, ⟨by decide +kernel, by decide +kernel⟩⟩
theorem mi_40 : cj_Mi 40 := ⟨(Or.inl rfl), wm_399, by decide +kernel, wm_0, ⟨by decide +kernel, by decide +kernel⟩⟩
theorem mi_41 : cj_Mi 41 := ⟨(Or.inl rfl), wm_731, by decide +kernel, wm_9, ⟨by decide +kernel, by decide +kernel⟩⟩
theorem mi_42 : cj_Mi 42 := ⟨(Or.inl rfl), wm_958, by decide +kernel, wm_9, ⟨by decide +kernel, by decide +kernel⟩⟩
theorem mi_43 : cj_Mi 43 := ⟨(Or.inl rfl), wm_864, by decide +kernel, wm_9, ⟨by decide +kernel, by decide +kernel⟩⟩
theorem mi_44 : cj_Mi 44 := ⟨(Or.inl rfl), wm_890, by decide +kernel, wm_9, ⟨by decide +kernel, by decide +kernel⟩⟩
theorem mi_45 : cj_Mi 45 := ⟨(Or.inl rfl), wm_938, by decide +kernel, wm_9, ⟨by decide +kernel, by decide +kernel⟩⟩
theorem mi_46 : cj_Mi 46 := ⟨(Or.inl rfl), wm_868, by decide +kernel, wm_9, ⟨by decide +kernel, by decide +kernel⟩⟩
theorem mi_47 : cj_Mi 47 := ⟨(Or.inl rfl), wm_942, by decide +kernel, wm_9, ⟨by decide +kernel, by decide +kernel⟩⟩
theorem mi_48 : cj_Mi 48 := ⟨(Or.inl rfl), wm_970, by decide +kernel, wm_9, ⟨by decide +kernel, by decide +kernel⟩⟩
theorem mi_49 : cj_Mi 49 := ⟨(Or.inl rfl), wm_883, by decide +kernel, wm_9, ⟨by decide +kernel, by decide +kernel⟩⟩
theorem mi_50 : cj_Mi 50 := ⟨(Or.inl rfl), wm_930, by decide +kernel, wm_9, ⟨by decide +kernel, by decide +kernel⟩⟩
theorem mi_51 : cj_Mi 51 := ⟨(Or.inl rfl), wm_1006, by decide +kernel, wm_9, ⟨by decide +kernel, by decide +kernel⟩⟩
theorem mi_52 : cj_Mi 52 := ⟨(Or.inl rfl), wm_974, by decide +kernel, wm_9, ⟨by decide +kernel, by decide +kernel⟩⟩
theorem mi_53 : cj_Mi 53 := ⟨(Or.inl rfl), wm_861, by decide +kernel, wm_9, ⟨by decide +kernel, by decide +kernel⟩⟩
theorem mi_54 : cj_Mi 54 := ⟨(Or.inl rfl), wm_950, by decide +kernel, wm_9, ⟨by decide +kernel, by decide +kernel⟩⟩
theorem mi_55 : cj_Mi 55 := ⟨(Or.inl rfl), wm_872, by decide +kernel, wm_9, ⟨by decide +kernel, by decide +kernel⟩⟩
theorem mi_56 : cj_Mi 56 := ⟨(Or.inl rfl), wm_854, by decide +kernel, wm_9, ⟨by decide +kernel, by decide +kernel⟩⟩
theorem mi_57 : cj_Mi 57 := ⟨(Or.inl rfl), wm_625, by decide +kernel, wm_1, ⟨by decide +kernel, by decide +kernel⟩⟩
theorem mi_58 : cj_Mi 58 := ⟨(Or.inl rfl), wm_506, by decide +kernel, wm_1, ⟨by decide +kernel, by decide +kernel⟩⟩
theorem mi_59 : cj_Mi 59 := ⟨(Or.inl rfl), wm_584, by decide +kernel, wm_1, ⟨by decide +kernel, by decide +kernel⟩⟩
theorem mi_60 : cj_Mi 60 := ⟨(Or.inl rfl), wm_725, by decide +kernel, wm_1, ⟨by decide +kernel, by decide +kernel⟩⟩
theorem mi_61 : cj_Mi 61 := ⟨(Or.inl rfl), wm_536, by decide +kernel, wm_1, ⟨by decide +kernel, by decide +kernel⟩⟩
theorem mi_62 : cj_Mi 62 := ⟨(Or.inl rfl), wm_218, by decide +kernel, wm_1, ⟨by decide +kernel, by decide +kernel⟩⟩
theorem mi_63 : cj_Mi 63 := ⟨(Or.inl rfl), wm_518, by decide +kernel, wm_1, ⟨by decide +kernel, by decide +kernel⟩⟩
theorem mi_64 : cj_Mi 64 := ⟨(Or.inl rfl), wm_486, by decide +kernel, wm_1, ⟨by decide +kernel, by decide +kernel⟩⟩
theorem mi_65 : cj_Mi 65 := ⟨(Or.inl rfl), wm_575, by decide +kernel, wm_1, ⟨by decide +kernel, by decide +kernel⟩⟩
theorem mi_66 : cj_Mi 66 := ⟨(Or.inl rfl), wm_613, by decide +kernel, wm_1, ⟨by decide +kernel, by decide +kernel⟩⟩
theorem mi_67 : cj_Mi 67 := ⟨(Or.inl rfl), wm_597, by decide +kernel, wm_1, ⟨by decide +kernel, by decide +kernel⟩⟩
theorem mi_68 : cj_Mi 68 := ⟨(Or.inl rfl), wm_718, by decide +kernel, wm_1, ⟨by decide +kernel, by decide +kernel⟩⟩
theorem mi_69 : cj_Mi 69 := ⟨(Or.inl rfl), wm_412, by decide +kernel, wm_1, ⟨by decide +kernel, by decide +kernel⟩⟩
theorem mi_70 : cj_Mi 70 := ⟨(Or.inl rfl), wm_129, by decide +kernel, wm_8, ⟨by decide +kernel, by decide +kernel⟩⟩
theorem mi_71 : cj_Mi 71 := ⟨(Or.inl rfl), wm_334, by decide +kernel, wm_8, ⟨by decide +kernel, by decide +kernel⟩⟩
theorem mi_72 : cj_Mi 72 := ⟨(Or.inl rfl), wm_697, by decide +kernel, wm_8, ⟨by decide +kernel, by decide +kernel⟩⟩
theorem mi_73 : cj_Mi 73 := ⟨(Or.inl rfl), wm_305, by decide +kernel, wm_8, ⟨by decide +kernel, by decide +kernel⟩⟩
theorem mi_74 : cj_Mi 74 := ⟨(Or.inl rfl), wm_51, by decide +kernel, wm_4, ⟨by decide +kernel, by decide +kernel⟩⟩
theorem mi_75 : cj_Mi 75 := ⟨(Or.inl rfl), wm_263, by decide +kernel, wm_4, ⟨by decide +kernel, by decide +kernel⟩⟩
theorem mi_76 : cj_Mi 76 := ⟨(Or.inl rfl), wm_284, by decide +kernel, wm_4, ⟨by decide +kernel, by decide +kernel⟩⟩
theorem mi_77 : cj_Mi 77 := ⟨(Or.inl rfl), wm_325, by decide +kernel, wm_6, ⟨by decide +kernel, by decide +kernel⟩⟩
theorem mi_78 : cj_Mi 78 := ⟨(Or.inl rfl), wm_73, by decide +kernel, wm_5, ⟨by decide +kernel, by decide +kernel⟩⟩
theorem mi_79 : cj_Mi 79 := ⟨(Or.inl rfl), wm_380, by decide +kernel, wm_7, ⟨by decide +kernel, by decide +kernel⟩⟩
theorem mi_80 : cj_Mi 80 := ⟨(Or.inl rfl), wm_681, by decide +kernel, wm_7, ⟨by decide +kernel, by decide +kernel⟩⟩
theorem mi_81 : cj_Mi 81 := ⟨(Or.inl rfl), wm_375, by decide +kernel, wm_7, ⟨by decide +kernel, by decide +kernel⟩⟩
theorem mi_82 : cj_Mi 82 := ⟨(Or.inl rfl), wm_661, by decide +kernel, wm_7, ⟨by decide +kernel, by decide +kernel⟩⟩
theorem mi_83 : cj_Mi 83 := ⟨(Or.inl rfl), wm_647, by decide +kernel, wm_7, ⟨by decide +kernel, by decide +kernel⟩⟩
theorem mi_84 : cj_Mi 84 := ⟨(Or.inl rfl), wm_275, by decide +kernel, wm_3, ⟨by decide +kernel, by decide +kernel⟩⟩
theorem mi_85 : cj_Mi 85 := ⟨(Or.inl rfl), wm_978, by decide +kernel, wm_9, ⟨by decide +kernel, by decide +kernel⟩⟩
theorem mi_86 : cj_Mi 86 := ⟨(Or.inl rfl), wm_1010, by decide +kernel, wm_9, ⟨by decide +kernel, by decide +kernel⟩⟩
theorem mi_87 : cj_Mi 87 := ⟨(Or.inl rfl), wm_887, by decide +kernel, wm_9, ⟨by decide +kernel, by decide +kernel⟩⟩
theorem mi_88 : cj_Mi 88 := ⟨(Or.inl rfl), wm_880, by decide +kernel, wm_9, ⟨by decide +kernel, by decide +kernel⟩⟩
theorem mi_89 : cj_Mi 89 := ⟨(Or.inl rfl), wm_1002, by decide +kernel, wm_9, ⟨by decide +kernel, by decide +kernel⟩⟩
theorem mi_90 : cj_Mi 90 := ⟨(Or.inl rfl), wm_898, by decide +kernel, wm_9, ⟨by decide +kernel, by decide +kernel⟩⟩
theorem mi_91 : cj_Mi 91 := ⟨(Or.inl rfl), wm_946, by decide +kernel, wm_9, ⟨by decide +kernel, by decide +kernel⟩⟩
theorem mi_92 : cj_Mi 92 := ⟨(Or.inl rfl), wm_990, by decide +kernel, wm_9, ⟨by decide +kernel, by decide +kernel⟩⟩
theorem mi_93 : cj_Mi 93 := ⟨(Or.inl rfl), wm_910, by decide +kernel, wm_9, ⟨by decide +kernel, by decide +kernel⟩⟩
theorem mi_94 : cj_Mi 94 := ⟨(Or.inl rfl), wm_954, by decide +kernel, wm_9, ⟨by decide +kernel, by decide +kernel⟩⟩
theorem mi_95 : cj_Mi 95 := ⟨(Or.inl rfl), wm_926, by decide +kernel, wm_9, ⟨by decide +kernel, by decide +kernel⟩⟩
theorem mi_96 : cj_Mi 96 := ⟨(Or.inl rfl), wm_934, by decide +kernel, wm_9, ⟨by decide +kernel, by decide +kernel⟩⟩
theorem mi_97 : cj_Mi 97 := ⟨(Or.inl rfl), wm_966, by decide +kernel, wm_9, ⟨by decide +kernel, by decide +kernel⟩⟩
theorem mi_98 : cj_Mi 98 := ⟨(Or.inl rfl), wm_858, by decide +kernel, wm_9, ⟨by decide +kernel, by decide +kernel⟩⟩
theorem mi_99 : cj_Mi 99 := ⟨(Or.inl rfl), wm_986, by decide +kernel, wm_9, ⟨by decide +kernel, by decide +kernel⟩⟩
theorem mi_100 : cj_Mi 100 := ⟨(Or.inl rfl), wm_714, by decide +kernel, wm_1, ⟨by decide +kernel, by decide +kernel⟩⟩
theorem mi_101 : cj_Mi 101 := ⟨(Or.inl rfl), wm_655, by decide +kernel, wm_1, ⟨by decide +kernel, by decide +kernel⟩⟩
theorem mi_102 : cj_Mi 102 := ⟨(Or.inl rfl), wm_527, by decide +kernel, wm_1, ⟨by decide +kernel, by decide +kernel⟩⟩
theorem mi_103 : cj_Mi 103 := ⟨(Or.inl rfl), wm_638, by decide +kernel, wm_1, ⟨by decide +kernel, by decide +kernel⟩⟩
theorem mi_104 : cj_Mi 104 := ⟨(Or.inl rfl), wm_676, by decide +kernel, wm_1, ⟨by decide +kernel, by decide +kernel⟩⟩
theorem mi_105 : cj_Mi 105 := ⟨(Or.inl rfl), wm_408, by decide +kernel, wm_1, ⟨by decide +kernel, by decide +kernel⟩⟩
theorem mi_106 : cj_Mi 106 := ⟨(Or.inl rfl), wm_259, by decide +kernel, wm_4, ⟨by decide +kernel, by decide +kernel⟩⟩
theorem mi_107 : cj_Mi 107 := ⟨(Or.inl rfl), wm_271, by decide +kernel, wm_4, ⟨by decide +kernel, by decide +kernel⟩⟩
theorem mi_108 : cj_Mi 108 := ⟨(Or.inl rfl), wm_321, by decide +kernel, wm_6, ⟨by decide +kernel, by decide +kernel⟩⟩
theorem mi_109 : cj_Mi 109 := ⟨(Or.inl rfl), wm_122, by decide +kernel, wm_7, ⟨by decide +kernel, by decide +kernel⟩⟩
theorem mi_110 : cj_Mi 110 := ⟨(Or.inr ⟨_, rfl⟩), wm_621, by decide +kernel, wm_0, ⟨by decide +kernel, by decide +kernel⟩⟩
theorem mi_111 : cj_Mi 111 := ⟨(Or.inr ⟨_, rfl⟩), wm_580, by decide +kernel, wm_0, ⟨by decide +kernel, by decide +kernel⟩⟩
theorem mi_112 : cj_Mi 112 := ⟨(Or.inr ⟨_, rfl⟩), wm_721, by decide +kernel, wm_0, ⟨by decide +kernel, by decide +kernel⟩⟩
theorem mi_113 : cj_Mi 113 := ⟨(Or.inr ⟨_, rfl⟩), wm_531, by decide +kernel, wm_0, ⟨by decide +kernel, by decide +kernel⟩⟩
theorem mi_114 : cj_Mi 114 := ⟨(Or.inr ⟨_, rfl⟩), wm_593, by decide +kernel, wm_0, ⟨by decide +kernel, by decide +kernel⟩⟩
theorem mi_115 : cj_Mi 115 := ⟨(Or.inl rfl), wm_902, by decide +kernel, wm_9, ⟨by decide +kernel, by decide +kernel⟩⟩
theorem mi_116 : cj_Mi 116 := ⟨(Or.inl rfl), wm_894, by decide +kernel, wm_9, ⟨by decide +kernel, by decide +kernel⟩⟩
theorem mi_117 : cj_Mi 117 := ⟨(Or.inl rfl), wm_998, by decide +kernel, wm_9, ⟨by decide +kernel, by decide +kernel⟩⟩
theorem mi_118 : cj_Mi 118 := ⟨(Or.inl rfl), wm_982, by decide +kernel, wm_9, ⟨by decide +kernel, by decide +kernel⟩⟩
theorem mi_119 : cj_Mi 119 := ⟨(Or.inl rfl), wm_906, by decide +kernel, wm_9, ⟨by decide +kernel, by decide +kernel⟩⟩
theorem mi_120 : cj_Mi 120 := ⟨(Or.inl rfl), wm_922, by decide +kernel, wm_9, ⟨by decide +kernel, by decide +kernel⟩⟩
theorem mi_121 : cj_Mi 121 := ⟨(Or.inl rfl), wm_994, by decide +kernel, wm_9, ⟨by decide +kernel, by decide +kernel⟩⟩
theorem mi_122 : cj_Mi 122 := ⟨(Or.inl rfl), wm_876, by decide +kernel, wm_9, ⟨by decide +kernel, by decide +kernel⟩⟩
theorem mi_123 : cj_Mi 123 := ⟨(Or.inl rfl), wm_962, by decide +kernel, wm_9, ⟨by decide +kernel, by decide +kernel⟩⟩
theorem mi_124 : cj_Mi 124 := ⟨(Or.inl rfl), wm_20, by decide +kernel, wm_1, ⟨by decide +kernel, by decide +kernel⟩⟩
theorem mi_125 : cj_Mi 125 := ⟨(Or.inl rfl), wm_710, by decide +kernel, wm_1, ⟨by decide +kernel, by decide +kernel⟩⟩
theorem mi_126 : cj_Mi 126 := ⟨(Or.inl rfl), wm_564, by decide +kernel, wm_1, ⟨by decide +kernel, by decide +kernel⟩⟩
theorem mi_127 : cj_Mi 127 := ⟨(Or.inl rfl), wm_610, by decide +kernel, wm_1, ⟨by decide +kernel, by decide +kernel⟩⟩
theorem mi_128 : cj_Mi 128 := ⟨(Or.inl rfl), wm_514, by decide +kernel, wm_1, ⟨by decide +kernel, by decide +kernel⟩⟩
theorem mi_129 : cj_Mi 129 := ⟨(Or.inl rfl), wm_297, by decide +kernel, wm_8, ⟨by decide +kernel, by decide +kernel⟩⟩
theorem mi_130 : cj_Mi 130 := ⟨(Or.inl rfl), wm_243, by decide +kernel, wm_4, ⟨by decide +kernel, by decide +kernel⟩⟩
theorem mi_131 : cj_Mi 131 := ⟨(Or.inl rfl), wm_360, by decide +kernel, wm_7, ⟨by decide +kernel, by decide +kernel⟩⟩
theorem mi_132 : cj_Mi 132 := ⟨(Or.inr ⟨_, rfl⟩), wm_651, by decide +kernel, wm_0, ⟨by decide +kernel, by decide +kernel⟩⟩
theorem mi_133 : cj_Mi 133 := ⟨(Or.inr ⟨_, rfl⟩), wm_634, by decide +kernel, wm_0, ⟨by decide +kernel, by decide +kernel⟩⟩
theorem mi_134 : cj_Mi 134 := ⟨(Or.inr ⟨_, rfl⟩), wm_672, by decide +kernel, wm_0, ⟨by decide +kernel, by decide +kernel⟩⟩
theorem mi_135 : cj_Mi 135 := ⟨(Or.inr ⟨_, rfl⟩), wm_402, by decide +kernel, wm_0, ⟨by decide +kernel, by decide +kernel⟩⟩
theorem mi_136 : cj_Mi 136 := ⟨(Or.inl rfl), wm_918, by decide +kernel, wm_9, ⟨by decide +kernel, by decide +kernel⟩⟩
theorem mi_137 : cj_Mi 137 := ⟨(Or.inl rfl), wm_705, by decide +kernel, wm_1, ⟨by decide +kernel, by decide +kernel⟩⟩
theorem mi_138 : cj_Mi 138 := ⟨(Or.inl rfl), wm_235, by decide +kernel, wm_5, ⟨by decide +kernel, by decide +kernel⟩⟩
theorem mi_139 : cj_Mi 139 := ⟨(Or.inr ⟨_, rfl⟩), wm_560, by decide +kernel, wm_0, ⟨by decide +kernel, by decide +kernel⟩⟩
theorem mi_140 : cj_Mi 140 := ⟨(Or.inr ⟨_, rfl⟩), wm_606, by decide +kernel, wm_0, ⟨by decide +kernel, by decide +kernel⟩⟩
theorem mi_141 : cj_Mi 141 := ⟨(Or.inr ⟨_, rfl⟩), wm_510, by decide +kernel, wm_0, ⟨by decide +kernel, by decide +kernel⟩⟩
theorem mi_142 : cj_Mi 142 := ⟨(Or.inl rfl), wm_914, by decide +kernel, wm_9, ⟨by decide +kernel, by decide +kernel⟩⟩
theorem mi_143 : cj_Mi 143 := ⟨(Or.inl rfl), wm_226, by decide +kernel, wm_5, ⟨by decide +kernel, by decide +kernel⟩⟩
theorem mi_144 : cj_Mi 144 := ⟨(Or.inr ⟨_, rfl⟩), wm_701, by decide +kernel, wm_0, ⟨by decide +kernel, by decide +kernel⟩⟩
theorem mi_145 : cj_Mi 145 := ⟨(Or.inl rfl), wm_214, by decide +kernel, wm_1, ⟨by decide +kernel, by decide +kernel⟩⟩
set_option maxRecDepth 100000 in
theorem xw_0 : cj_Xw "CatalogueSet" 110 "java/lang/IndexOutOfBoundsException" ["java/lang/RuntimeException", "java/lang/Exception"] := by unfold cj_Xw; decide +kernel
set_option maxRecDepth 100000 in
theorem xw_1 : cj_Xw "CatalogueSet" 76 "java/lang/IllegalStateException" ["java/lang/RuntimeException", "java/lang/Exception"] := by unfold cj_Xw; decide +kernel
set_option maxRecDepth 100000 in
theorem xw_2 : cj_Xw "CatalogueSet" 87 "java/lang/IllegalArgumentException" ["java/lang/RuntimeException", "java/lang/Exception"] := by unfold cj_Xw; decide +kernel
