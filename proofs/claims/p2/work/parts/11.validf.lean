set_option maxRecDepth 100000 in
theorem vv_102_0 {l : Launch} (hl : l.stackTraces = false) : cj_V1 l 102 0 (3, 1, 0, []) 1 := Or.inl ⟨by decide +kernel, ok_aload_n dm_102_0 rfl⟩
set_option maxRecDepth 100000 in
theorem vv_102_1 {l : Launch} (hl : l.stackTraces = false) : cj_V1 l 102 1 (80, 37, 1, [6]) 4 := Or.inr (Or.inr (Or.inl ⟨by decide +kernel, by decide +kernel, rfl, vc_virtual (n := 0) (q := (RK_6, TK_6, 2)) mi_37 dm_102_1 (Or.inl wm_523) wm_245 wm_246 rfl rfl (by decide +kernel) rfl (by decide +kernel) (by decide +kernel), (vx_none rfl)⟩))
set_option maxRecDepth 100000 in
theorem vv_102_4 {l : Launch} (hl : l.stackTraces = false) : cj_V1 l 102 4 (3, 1, 0, []) 5 := Or.inl ⟨by decide +kernel, ok_aload_n dm_102_4 rfl⟩
set_option maxRecDepth 100000 in
theorem vv_102_5 {l : Launch} (hl : l.stackTraces = false) : cj_V1 l 102 5 (3, 0, 0, []) 6 := Or.inl ⟨by decide +kernel, ok_aload_n dm_102_5 rfl⟩
set_option maxRecDepth 100000 in
theorem vv_102_6 {l : Launch} (hl : l.stackTraces = false) : cj_V1 l 102 6 (50, 0, 1, []) 9 := Or.inl ⟨by decide +kernel, ok_getfield (N := 11) (C := RK_0) (T := TK_0) dm_102_6 rfl inK_0 (by decide +kernel) wm_178⟩
set_option maxRecDepth 100000 in
theorem vv_102_9 {l : Launch} (hl : l.stackTraces = false) : cj_V1 l 102 9 (80, 84, 2, [6]) 12 := Or.inr (Or.inr (Or.inl ⟨by decide +kernel, by decide +kernel, rfl, vc_virtual (n := 1) (q := (RK_6, TK_6, 2)) mi_84 dm_102_9 (Or.inl wm_528) wm_273 wm_274 rfl rfl (by decide +kernel) rfl (by decide +kernel) (by decide +kernel), (vx_none rfl)⟩))
set_option maxRecDepth 100000 in
theorem vv_102_12 {l : Launch} (hl : l.stackTraces = false) : cj_V1 l 102 12 (3, 0, 0, []) 13 := Or.inl ⟨by decide +kernel, ok_aload_n dm_102_12 rfl⟩
set_option maxRecDepth 100000 in
theorem vv_102_13 {l : Launch} (hl : l.stackTraces = false) : cj_V1 l 102 13 (50, 0, 1, []) 16 := Or.inl ⟨by decide +kernel, ok_getfield (N := 11) (C := RK_0) (T := TK_0) dm_102_13 rfl inK_0 (by decide +kernel) wm_178⟩
set_option maxRecDepth 100000 in
theorem vv_102_16 {l : Launch} (hl : l.stackTraces = false) : cj_V1 l 102 16 (80, 37, 1, [6]) 19 := Or.inr (Or.inr (Or.inl ⟨by decide +kernel, by decide +kernel, rfl, vc_virtual (n := 0) (q := (RK_6, TK_6, 2)) mi_37 dm_102_16 (Or.inl wm_523) wm_245 wm_246 rfl rfl (by decide +kernel) rfl (by decide +kernel) (by decide +kernel), (vx_none rfl)⟩))
set_option maxRecDepth 100000 in
theorem vv_102_19 {l : Launch} (hl : l.stackTraces = false) : cj_V1 l 102 19 (3, 1, 0, []) 20 := Or.inl ⟨by decide +kernel, ok_aload_n dm_102_19 rfl⟩
set_option maxRecDepth 100000 in
theorem vv_102_20 {l : Launch} (hl : l.stackTraces = false) : cj_V1 l 102 20 (80, 39, 1, [6]) 23 := Or.inr (Or.inr (Or.inl ⟨by decide +kernel, by decide +kernel, rfl, vc_virtual (n := 0) (q := (RK_6, TK_6, 2)) mi_39 dm_102_20 (Or.inl wm_409) wm_249 wm_250 rfl rfl (by decide +kernel) rfl (by decide +kernel) (by decide +kernel), (vx_none rfl)⟩))
set_option maxRecDepth 100000 in
theorem vv_102_23 {l : Launch} (hl : l.stackTraces = false) : cj_V1 l 102 23 (90, 0, 0, []) 24 := Or.inr (Or.inl ⟨by decide +kernel, Or.inl (Or.inl ⟨rfl, dm_102_23, rfl⟩)⟩)
set_option maxRecDepth 100000 in
theorem vm_102 {l : Launch} (hl : l.stackTraces = false) : cj_Vm l 102 := cj_Vm_of (r := kc102_) rfl ⟨vv_102_0 hl, vv_102_1 hl, vv_102_4 hl, vv_102_5 hl, vv_102_6 hl, vv_102_9 hl, vv_102_12 hl, vv_102_13 hl, vv_102_16 hl, vv_102_19 hl, vv_102_20 hl, vv_102_23 hl, trivial⟩
set_option maxRecDepth 100000 in
theorem vv_103_0 {l : Launch} (hl : l.stackTraces = false) : cj_V1 l 103 0 (3, 0, 0, []) 1 := Or.inl ⟨by decide +kernel, ok_aload_n dm_103_0 rfl⟩
set_option maxRecDepth 100000 in
theorem vv_103_1 {l : Launch} (hl : l.stackTraces = false) : cj_V1 l 103 1 (2, 1, 0, []) 2 := Or.inl ⟨by decide +kernel, ok_iload_n dm_103_1 rfl⟩
set_option maxRecDepth 100000 in
theorem vv_103_2 {l : Launch} (hl : l.stackTraces = false) : cj_V1 l 103 2 (80, 1, 2, [0]) 5 := Or.inr (Or.inr (Or.inl ⟨by decide +kernel, by decide +kernel, rfl, vc_virtual (n := 1) (q := (RK_0, TK_0, 11)) mi_1 dm_103_2 (Or.inl wm_565) wm_567 wm_p14 rfl rfl (by decide +kernel) rfl (by decide +kernel) (by decide +kernel), (vx_none rfl)⟩))
set_option maxRecDepth 100000 in
theorem vv_103_5 {l : Launch} (hl : l.stackTraces = false) : cj_V1 l 103 5 (32, 18, 0, []) 8 := Or.inl ⟨by decide +kernel, ok_if_ne dm_103_5 (by decide +kernel)⟩
set_option maxRecDepth 100000 in
theorem vv_103_8 {l : Launch} (hl : l.stackTraces = false) : cj_V1 l 103 8 (95, 2, 0, []) 11 := Or.inr (Or.inl ⟨by decide +kernel, Or.inr (vt_throw (y := ky_ 0) (X := "java/lang/IndexOutOfBoundsException") (tx := "no such entry") (names := ["java/lang/RuntimeException", "java/lang/Exception"]) hl rfl dm_103_8 dm_103_11 dm_103_12 dm_103_14 dm_103_17 rfl wm_537 wm_538 wm_15 wm_598 xw_0 (by decide +kernel) (by decide +kernel) (by decide +kernel) (by decide +kernel))⟩)
set_option maxRecDepth 100000 in
theorem vv_103_18 {l : Launch} (hl : l.stackTraces = false) : cj_V1 l 103 18 (3, 0, 0, []) 19 := Or.inl ⟨by decide +kernel, ok_aload_n dm_103_18 rfl⟩
set_option maxRecDepth 100000 in
theorem vv_103_19 {l : Launch} (hl : l.stackTraces = false) : cj_V1 l 103 19 (50, 0, 8, []) 22 := Or.inl ⟨by decide +kernel, ok_getfield (N := 11) (C := RK_0) (T := TK_0) dm_103_19 rfl inK_0 (by decide +kernel) wm_185⟩
set_option maxRecDepth 100000 in
theorem vv_103_22 {l : Launch} (hl : l.stackTraces = false) : cj_V1 l 103 22 (32, 35, 0, []) 25 := Or.inl ⟨by decide +kernel, ok_if_ne dm_103_22 (by decide +kernel)⟩
set_option maxRecDepth 100000 in
theorem vv_103_25 {l : Launch} (hl : l.stackTraces = false) : cj_V1 l 103 25 (95, 0, 0, []) 28 := Or.inr (Or.inl ⟨by decide +kernel, Or.inr (vt_throw (y := ky_ 0) (X := "java/lang/IllegalStateException") (tx := "nothing was set") (names := ["java/lang/RuntimeException", "java/lang/Exception"]) hl rfl dm_103_25 dm_103_28 dm_103_29 dm_103_31 dm_103_34 rfl wm_416 wm_417 wm_13 wm_627 xw_1 (by decide +kernel) (by decide +kernel) (by decide +kernel) (by decide +kernel))⟩)
set_option maxRecDepth 100000 in
theorem vv_103_35 {l : Launch} (hl : l.stackTraces = false) : cj_V1 l 103 35 (3, 0, 0, []) 36 := Or.inl ⟨by decide +kernel, ok_aload_n dm_103_35 rfl⟩
set_option maxRecDepth 100000 in
theorem vv_103_36 {l : Launch} (hl : l.stackTraces = false) : cj_V1 l 103 36 (50, 0, 9, []) 39 := Or.inl ⟨by decide +kernel, ok_getfield (N := 11) (C := RK_0) (T := TK_0) dm_103_36 rfl inK_0 (by decide +kernel) wm_186⟩
set_option maxRecDepth 100000 in
theorem vv_103_39 {l : Launch} (hl : l.stackTraces = false) : cj_V1 l 103 39 (2, 1, 0, []) 40 := Or.inl ⟨by decide +kernel, ok_iload_n dm_103_39 rfl⟩
set_option maxRecDepth 100000 in
theorem vv_103_40 {l : Launch} (hl : l.stackTraces = false) : cj_V1 l 103 40 (80, 28, 2, [5]) 43 := Or.inr (Or.inr (Or.inl ⟨by decide +kernel, by decide +kernel, rfl, vc_virtual (n := 1) (q := (RK_5, TK_5, 10)) mi_28 dm_103_40 (Or.inl wm_639) wm_640 wm_641 rfl rfl (by decide +kernel) rfl (by decide +kernel) (by decide +kernel), (vx_none rfl)⟩))
set_option maxRecDepth 100000 in
theorem vv_103_43 {l : Launch} (hl : l.stackTraces = false) : cj_V1 l 103 43 (32, 56, 0, []) 46 := Or.inl ⟨by decide +kernel, ok_if_ne dm_103_43 (by decide +kernel)⟩
set_option maxRecDepth 100000 in
theorem vv_103_46 {l : Launch} (hl : l.stackTraces = false) : cj_V1 l 103 46 (95, 2, 0, []) 49 := Or.inr (Or.inl ⟨by decide +kernel, Or.inr (vt_throw (y := ky_ 0) (X := "java/lang/IndexOutOfBoundsException") (tx := "the entry was not there then") (names := ["java/lang/RuntimeException", "java/lang/Exception"]) hl rfl dm_103_46 dm_103_49 dm_103_50 dm_103_52 dm_103_55 rfl wm_537 wm_538 wm_15 wm_643 xw_0 (by decide +kernel) (by decide +kernel) (by decide +kernel) (by decide +kernel))⟩)
set_option maxRecDepth 100000 in
theorem vv_103_56 {l : Launch} (hl : l.stackTraces = false) : cj_V1 l 103 56 (3, 0, 0, []) 57 := Or.inl ⟨by decide +kernel, ok_aload_n dm_103_56 rfl⟩
set_option maxRecDepth 100000 in
theorem vv_103_57 {l : Launch} (hl : l.stackTraces = false) : cj_V1 l 103 57 (50, 0, 9, []) 60 := Or.inl ⟨by decide +kernel, ok_getfield (N := 11) (C := RK_0) (T := TK_0) dm_103_57 rfl inK_0 (by decide +kernel) wm_186⟩
set_option maxRecDepth 100000 in
theorem vv_103_60 {l : Launch} (hl : l.stackTraces = false) : cj_V1 l 103 60 (2, 1, 0, []) 61 := Or.inl ⟨by decide +kernel, ok_iload_n dm_103_60 rfl⟩
set_option maxRecDepth 100000 in
theorem vv_103_61 {l : Launch} (hl : l.stackTraces = false) : cj_V1 l 103 61 (80, 83, 2, [5]) 64 := Or.inr (Or.inr (Or.inl ⟨by decide +kernel, by decide +kernel, rfl, vc_virtual (n := 1) (q := (RK_5, TK_5, 10)) mi_83 dm_103_61 (Or.inl wm_644) wm_645 wm_646 rfl rfl (by decide +kernel) rfl (by decide +kernel) (by decide +kernel), (vx_none rfl)⟩))
set_option maxRecDepth 100000 in
theorem vv_103_64 {l : Launch} (hl : l.stackTraces = false) : cj_V1 l 103 64 (4, 2, 0, []) 65 := Or.inl ⟨by decide +kernel, ok_istore_n dm_103_64 rfl⟩
set_option maxRecDepth 100000 in
theorem vv_103_65 {l : Launch} (hl : l.stackTraces = false) : cj_V1 l 103 65 (2, 2, 0, []) 66 := Or.inl ⟨by decide +kernel, ok_iload_n dm_103_65 rfl⟩
set_option maxRecDepth 100000 in
theorem vv_103_66 {l : Launch} (hl : l.stackTraces = false) : cj_V1 l 103 66 (32, 73, 0, []) 69 := Or.inl ⟨by decide +kernel, ok_if_ne dm_103_66 (by decide +kernel)⟩
set_option maxRecDepth 100000 in
theorem vv_103_69 {l : Launch} (hl : l.stackTraces = false) : cj_V1 l 103 69 (1, 1, 0, []) 70 := Or.inl ⟨by decide +kernel, ok_iconst_m dm_103_69 (by decide +kernel)⟩
set_option maxRecDepth 100000 in
theorem vv_103_70 {l : Launch} (hl : l.stackTraces = false) : cj_V1 l 103 70 (30, 74, 0, []) 73 := Or.inl ⟨by decide +kernel, ok_goto dm_103_70 (by decide +kernel)⟩
set_option maxRecDepth 100000 in
theorem vv_103_73 {l : Launch} (hl : l.stackTraces = false) : cj_V1 l 103 73 (2, 2, 0, []) 74 := Or.inl ⟨by decide +kernel, ok_iload_n dm_103_73 rfl⟩
set_option maxRecDepth 100000 in
theorem vv_103_74 {l : Launch} (hl : l.stackTraces = false) : cj_V1 l 103 74 (90, 0, 0, []) 75 := Or.inr (Or.inl ⟨by decide +kernel, Or.inl (Or.inl ⟨rfl, dm_103_74, rfl⟩)⟩)
set_option maxRecDepth 100000 in
theorem vm_103 {l : Launch} (hl : l.stackTraces = false) : cj_Vm l 103 := cj_Vm_of (r := kc103_) rfl ⟨vv_103_0 hl, vv_103_1 hl, vv_103_2 hl, vv_103_5 hl, vv_103_8 hl, vv_103_18 hl, vv_103_19 hl, vv_103_22 hl, vv_103_25 hl, vv_103_35 hl, vv_103_36 hl, vv_103_39 hl, vv_103_40 hl, vv_103_43 hl, vv_103_46 hl, vv_103_56 hl, vv_103_57 hl, vv_103_60 hl, vv_103_61 hl, vv_103_64 hl, vv_103_65 hl, vv_103_66 hl, vv_103_69 hl, vv_103_70 hl, vv_103_73 hl, vv_103_74 hl, trivial⟩
set_option maxRecDepth 100000 in
theorem vv_104_0 {l : Launch} (hl : l.stackTraces = false) : cj_V1 l 104 0 (3, 0, 0, []) 1 := Or.inl ⟨by decide +kernel, ok_aload_n dm_104_0 rfl⟩
set_option maxRecDepth 100000 in
theorem vv_104_1 {l : Launch} (hl : l.stackTraces = false) : cj_V1 l 104 1 (2, 1, 0, []) 2 := Or.inl ⟨by decide +kernel, ok_iload_n dm_104_1 rfl⟩
set_option maxRecDepth 100000 in
theorem vv_104_2 {l : Launch} (hl : l.stackTraces = false) : cj_V1 l 104 2 (80, 1, 2, [0]) 5 := Or.inr (Or.inr (Or.inl ⟨by decide +kernel, by decide +kernel, rfl, vc_virtual (n := 1) (q := (RK_0, TK_0, 11)) mi_1 dm_104_2 (Or.inl wm_565) wm_567 wm_p14 rfl rfl (by decide +kernel) rfl (by decide +kernel) (by decide +kernel), (vx_none rfl)⟩))
set_option maxRecDepth 100000 in
theorem vv_104_5 {l : Launch} (hl : l.stackTraces = false) : cj_V1 l 104 5 (31, 28, 0, []) 8 := Or.inl ⟨by decide +kernel, ok_if_eq dm_104_5 (by decide +kernel)⟩
set_option maxRecDepth 100000 in
theorem vv_104_8 {l : Launch} (hl : l.stackTraces = false) : cj_V1 l 104 8 (2, 2, 0, []) 9 := Or.inl ⟨by decide +kernel, ok_iload_n dm_104_8 rfl⟩
set_option maxRecDepth 100000 in
theorem vv_104_9 {l : Launch} (hl : l.stackTraces = false) : cj_V1 l 104 9 (1, 1, 0, []) 10 := Or.inl ⟨by decide +kernel, ok_iconst_m dm_104_9 (by decide +kernel)⟩
set_option maxRecDepth 100000 in
theorem vv_104_10 {l : Launch} (hl : l.stackTraces = false) : cj_V1 l 104 10 (39, 28, 0, []) 13 := Or.inl ⟨by decide +kernel, ok_icmp_lt dm_104_10 (by decide +kernel)⟩
set_option maxRecDepth 100000 in
theorem vv_104_13 {l : Launch} (hl : l.stackTraces = false) : cj_V1 l 104 13 (2, 3, 0, []) 14 := Or.inl ⟨by decide +kernel, ok_iload_n dm_104_13 rfl⟩
set_option maxRecDepth 100000 in
theorem vv_104_14 {l : Launch} (hl : l.stackTraces = false) : cj_V1 l 104 14 (1, 1, 0, []) 15 := Or.inl ⟨by decide +kernel, ok_iconst_m dm_104_14 (by decide +kernel)⟩
set_option maxRecDepth 100000 in
theorem vv_104_15 {l : Launch} (hl : l.stackTraces = false) : cj_V1 l 104 15 (39, 28, 0, []) 18 := Or.inl ⟨by decide +kernel, ok_icmp_lt dm_104_15 (by decide +kernel)⟩
set_option maxRecDepth 100000 in
theorem vv_104_18 {l : Launch} (hl : l.stackTraces = false) : cj_V1 l 104 18 (2, 2, 0, []) 19 := Or.inl ⟨by decide +kernel, ok_iload_n dm_104_18 rfl⟩
set_option maxRecDepth 100000 in
theorem vv_104_19 {l : Launch} (hl : l.stackTraces = false) : cj_V1 l 104 19 (1, 1, 0, []) 20 := Or.inl ⟨by decide +kernel, ok_iconst_m dm_104_19 (by decide +kernel)⟩
set_option maxRecDepth 100000 in
theorem vv_104_20 {l : Launch} (hl : l.stackTraces = false) : cj_V1 l 104 20 (38, 38, 0, []) 23 := Or.inl ⟨by decide +kernel, ok_icmp_ne dm_104_20 (by decide +kernel)⟩
set_option maxRecDepth 100000 in
theorem vv_104_23 {l : Launch} (hl : l.stackTraces = false) : cj_V1 l 104 23 (2, 3, 0, []) 24 := Or.inl ⟨by decide +kernel, ok_iload_n dm_104_23 rfl⟩
set_option maxRecDepth 100000 in
theorem vv_104_24 {l : Launch} (hl : l.stackTraces = false) : cj_V1 l 104 24 (1, 1, 0, []) 25 := Or.inl ⟨by decide +kernel, ok_iconst_m dm_104_24 (by decide +kernel)⟩
set_option maxRecDepth 100000 in
theorem vv_104_25 {l : Launch} (hl : l.stackTraces = false) : cj_V1 l 104 25 (37, 38, 0, []) 28 := Or.inl ⟨by decide +kernel, ok_icmp_eq dm_104_25 (by decide +kernel)⟩
set_option maxRecDepth 100000 in
theorem vv_104_28 {l : Launch} (hl : l.stackTraces = false) : cj_V1 l 104 28 (95, 2, 0, []) 31 := Or.inr (Or.inl ⟨by decide +kernel, Or.inr (vt_throw (y := ky_ 0) (X := "java/lang/IndexOutOfBoundsException") (tx := "no such entry, line or place") (names := ["java/lang/RuntimeException", "java/lang/Exception"]) hl rfl dm_104_28 dm_104_31 dm_104_32 dm_104_34 dm_104_37 rfl wm_537 wm_538 wm_15 wm_677 xw_0 (by decide +kernel) (by decide +kernel) (by decide +kernel) (by decide +kernel))⟩)
set_option maxRecDepth 100000 in
theorem vv_104_38 {l : Launch} (hl : l.stackTraces = false) : cj_V1 l 104 38 (3, 0, 0, []) 39 := Or.inl ⟨by decide +kernel, ok_aload_n dm_104_38 rfl⟩
set_option maxRecDepth 100000 in
theorem vv_104_39 {l : Launch} (hl : l.stackTraces = false) : cj_V1 l 104 39 (50, 0, 8, []) 42 := Or.inl ⟨by decide +kernel, ok_getfield (N := 11) (C := RK_0) (T := TK_0) dm_104_39 rfl inK_0 (by decide +kernel) wm_185⟩
set_option maxRecDepth 100000 in
theorem vv_104_42 {l : Launch} (hl : l.stackTraces = false) : cj_V1 l 104 42 (32, 55, 0, []) 45 := Or.inl ⟨by decide +kernel, ok_if_ne dm_104_42 (by decide +kernel)⟩
set_option maxRecDepth 100000 in
theorem vv_104_45 {l : Launch} (hl : l.stackTraces = false) : cj_V1 l 104 45 (95, 0, 0, []) 48 := Or.inr (Or.inl ⟨by decide +kernel, Or.inr (vt_throw (y := ky_ 0) (X := "java/lang/IllegalStateException") (tx := "nothing was set") (names := ["java/lang/RuntimeException", "java/lang/Exception"]) hl rfl dm_104_45 dm_104_48 dm_104_49 dm_104_51 dm_104_54 rfl wm_416 wm_417 wm_13 wm_627 xw_1 (by decide +kernel) (by decide +kernel) (by decide +kernel) (by decide +kernel))⟩)
set_option maxRecDepth 100000 in
theorem vv_104_55 {l : Launch} (hl : l.stackTraces = false) : cj_V1 l 104 55 (3, 0, 0, []) 56 := Or.inl ⟨by decide +kernel, ok_aload_n dm_104_55 rfl⟩
set_option maxRecDepth 100000 in
theorem vv_104_56 {l : Launch} (hl : l.stackTraces = false) : cj_V1 l 104 56 (50, 0, 9, []) 59 := Or.inl ⟨by decide +kernel, ok_getfield (N := 11) (C := RK_0) (T := TK_0) dm_104_56 rfl inK_0 (by decide +kernel) wm_186⟩
set_option maxRecDepth 100000 in
theorem vv_104_59 {l : Launch} (hl : l.stackTraces = false) : cj_V1 l 104 59 (2, 1, 0, []) 60 := Or.inl ⟨by decide +kernel, ok_iload_n dm_104_59 rfl⟩
set_option maxRecDepth 100000 in
theorem vv_104_60 {l : Launch} (hl : l.stackTraces = false) : cj_V1 l 104 60 (2, 2, 0, []) 61 := Or.inl ⟨by decide +kernel, ok_iload_n dm_104_60 rfl⟩
set_option maxRecDepth 100000 in
theorem vv_104_61 {l : Launch} (hl : l.stackTraces = false) : cj_V1 l 104 61 (2, 3, 0, []) 62 := Or.inl ⟨by decide +kernel, ok_iload_n dm_104_61 rfl⟩
set_option maxRecDepth 100000 in
theorem vv_104_62 {l : Launch} (hl : l.stackTraces = false) : cj_V1 l 104 62 (80, 80, 4, [5]) 65 := Or.inr (Or.inr (Or.inl ⟨by decide +kernel, by decide +kernel, rfl, vc_virtual (n := 3) (q := (RK_5, TK_5, 10)) mi_80 dm_104_62 (Or.inl wm_678) wm_679 wm_680 rfl rfl (by decide +kernel) rfl (by decide +kernel) (by decide +kernel), (vx_none rfl)⟩))
set_option maxRecDepth 100000 in
theorem vv_104_65 {l : Launch} (hl : l.stackTraces = false) : cj_V1 l 104 65 (32, 78, 0, []) 68 := Or.inl ⟨by decide +kernel, ok_if_ne dm_104_65 (by decide +kernel)⟩
set_option maxRecDepth 100000 in
theorem vv_104_68 {l : Launch} (hl : l.stackTraces = false) : cj_V1 l 104 68 (95, 2, 0, []) 71 := Or.inr (Or.inl ⟨by decide +kernel, Or.inr (vt_throw (y := ky_ 0) (X := "java/lang/IndexOutOfBoundsException") (tx := "no such entry, line or place then") (names := ["java/lang/RuntimeException", "java/lang/Exception"]) hl rfl dm_104_68 dm_104_71 dm_104_72 dm_104_74 dm_104_77 rfl wm_537 wm_538 wm_15 wm_690 xw_0 (by decide +kernel) (by decide +kernel) (by decide +kernel) (by decide +kernel))⟩)
set_option maxRecDepth 100000 in
theorem vv_104_78 {l : Launch} (hl : l.stackTraces = false) : cj_V1 l 104 78 (3, 0, 0, []) 79 := Or.inl ⟨by decide +kernel, ok_aload_n dm_104_78 rfl⟩
set_option maxRecDepth 100000 in
theorem vv_104_79 {l : Launch} (hl : l.stackTraces = false) : cj_V1 l 104 79 (50, 0, 9, []) 82 := Or.inl ⟨by decide +kernel, ok_getfield (N := 11) (C := RK_0) (T := TK_0) dm_104_79 rfl inK_0 (by decide +kernel) wm_186⟩
set_option maxRecDepth 100000 in
theorem vv_104_82 {l : Launch} (hl : l.stackTraces = false) : cj_V1 l 104 82 (2, 1, 0, []) 83 := Or.inl ⟨by decide +kernel, ok_iload_n dm_104_82 rfl⟩
set_option maxRecDepth 100000 in
theorem vv_104_83 {l : Launch} (hl : l.stackTraces = false) : cj_V1 l 104 83 (80, 25, 2, [5]) 86 := Or.inr (Or.inr (Or.inl ⟨by decide +kernel, by decide +kernel, rfl, vc_virtual (n := 1) (q := (RK_5, TK_5, 10)) mi_25 dm_104_83 (Or.inl wm_691) wm_237 wm_238 rfl rfl (by decide +kernel) rfl (by decide +kernel) (by decide +kernel), (vx_none rfl)⟩))
set_option maxRecDepth 100000 in
theorem vv_104_86 {l : Launch} (hl : l.stackTraces = false) : cj_V1 l 104 86 (5, 4, 0, []) 88 := Or.inl ⟨by decide +kernel, ok_astore dm_104_86⟩
set_option maxRecDepth 100000 in
theorem vv_104_88 {l : Launch} (hl : l.stackTraces = false) : cj_V1 l 104 88 (2, 2, 0, []) 89 := Or.inl ⟨by decide +kernel, ok_iload_n dm_104_88 rfl⟩
set_option maxRecDepth 100000 in
theorem vv_104_89 {l : Launch} (hl : l.stackTraces = false) : cj_V1 l 104 89 (1, 1, 0, []) 90 := Or.inl ⟨by decide +kernel, ok_iconst_m dm_104_89 (by decide +kernel)⟩
set_option maxRecDepth 100000 in
theorem vv_104_90 {l : Launch} (hl : l.stackTraces = false) : cj_V1 l 104 90 (38, 99, 0, []) 93 := Or.inl ⟨by decide +kernel, ok_icmp_ne dm_104_90 (by decide +kernel)⟩
set_option maxRecDepth 100000 in
theorem vv_104_93 {l : Launch} (hl : l.stackTraces = false) : cj_V1 l 104 93 (3, 4, 0, []) 95 := Or.inl ⟨by decide +kernel, ok_aload dm_104_93⟩
set_option maxRecDepth 100000 in
theorem vv_104_95 {l : Launch} (hl : l.stackTraces = false) : cj_V1 l 104 95 (80, 7, 1, [1]) 98 := Or.inr (Or.inr (Or.inl ⟨by decide +kernel, by decide +kernel, rfl, vc_virtual (n := 0) (q := (RK_1, TK_1, 4)) mi_7 dm_104_95 (Or.inl wm_692) wm_683 wm_684 rfl rfl (by decide +kernel) rfl (by decide +kernel) (by decide +kernel), (vx_none rfl)⟩))
set_option maxRecDepth 100000 in
theorem vv_104_98 {l : Launch} (hl : l.stackTraces = false) : cj_V1 l 104 98 (90, 0, 0, []) 99 := Or.inr (Or.inl ⟨by decide +kernel, Or.inl (Or.inl ⟨rfl, dm_104_98, rfl⟩)⟩)
set_option maxRecDepth 100000 in
theorem vv_104_99 {l : Launch} (hl : l.stackTraces = false) : cj_V1 l 104 99 (2, 3, 0, []) 100 := Or.inl ⟨by decide +kernel, ok_iload_n dm_104_99 rfl⟩
set_option maxRecDepth 100000 in
theorem vv_104_100 {l : Launch} (hl : l.stackTraces = false) : cj_V1 l 104 100 (1, 1, 0, []) 101 := Or.inl ⟨by decide +kernel, ok_iconst_m dm_104_100 (by decide +kernel)⟩
set_option maxRecDepth 100000 in
theorem vv_104_101 {l : Launch} (hl : l.stackTraces = false) : cj_V1 l 104 101 (38, 113, 0, []) 104 := Or.inl ⟨by decide +kernel, ok_icmp_ne dm_104_101 (by decide +kernel)⟩
set_option maxRecDepth 100000 in
theorem vv_104_104 {l : Launch} (hl : l.stackTraces = false) : cj_V1 l 104 104 (3, 4, 0, []) 106 := Or.inl ⟨by decide +kernel, ok_aload dm_104_104⟩
set_option maxRecDepth 100000 in
theorem vv_104_106 {l : Launch} (hl : l.stackTraces = false) : cj_V1 l 104 106 (2, 2, 0, []) 107 := Or.inl ⟨by decide +kernel, ok_iload_n dm_104_106 rfl⟩
set_option maxRecDepth 100000 in
theorem vv_104_107 {l : Launch} (hl : l.stackTraces = false) : cj_V1 l 104 107 (80, 5, 2, [1]) 110 := Or.inr (Or.inr (Or.inl ⟨by decide +kernel, by decide +kernel, rfl, vc_virtual (n := 1) (q := (RK_1, TK_1, 4)) mi_5 dm_104_107 (Or.inl wm_693) wm_687 wm_688 rfl rfl (by decide +kernel) rfl (by decide +kernel) (by decide +kernel), (vx_none rfl)⟩))
set_option maxRecDepth 100000 in
theorem vv_104_110 {l : Launch} (hl : l.stackTraces = false) : cj_V1 l 104 110 (30, 120, 0, []) 113 := Or.inl ⟨by decide +kernel, ok_goto dm_104_110 (by decide +kernel)⟩
set_option maxRecDepth 100000 in
theorem vv_104_113 {l : Launch} (hl : l.stackTraces = false) : cj_V1 l 104 113 (3, 4, 0, []) 115 := Or.inl ⟨by decide +kernel, ok_aload dm_104_113⟩
set_option maxRecDepth 100000 in
theorem vv_104_115 {l : Launch} (hl : l.stackTraces = false) : cj_V1 l 104 115 (2, 2, 0, []) 116 := Or.inl ⟨by decide +kernel, ok_iload_n dm_104_115 rfl⟩
set_option maxRecDepth 100000 in
theorem vv_104_116 {l : Launch} (hl : l.stackTraces = false) : cj_V1 l 104 116 (2, 3, 0, []) 117 := Or.inl ⟨by decide +kernel, ok_iload_n dm_104_116 rfl⟩
set_option maxRecDepth 100000 in
theorem vv_104_117 {l : Launch} (hl : l.stackTraces = false) : cj_V1 l 104 117 (80, 72, 3, [1]) 120 := Or.inr (Or.inr (Or.inl ⟨by decide +kernel, by decide +kernel, rfl, vc_virtual (n := 2) (q := (RK_1, TK_1, 4)) mi_72 dm_104_117 (Or.inl wm_694) wm_695 wm_696 rfl rfl (by decide +kernel) rfl (by decide +kernel) (by decide +kernel), (vx_none rfl)⟩))
set_option maxRecDepth 100000 in
theorem vv_104_120 {l : Launch} (hl : l.stackTraces = false) : cj_V1 l 104 120 (90, 0, 0, []) 121 := Or.inr (Or.inl ⟨by decide +kernel, Or.inl (Or.inl ⟨rfl, dm_104_120, rfl⟩)⟩)
set_option maxRecDepth 100000 in
theorem vm_104 {l : Launch} (hl : l.stackTraces = false) : cj_Vm l 104 := cj_Vm_of (r := kc104_) rfl ⟨vv_104_0 hl, vv_104_1 hl, vv_104_2 hl, vv_104_5 hl, vv_104_8 hl, vv_104_9 hl, vv_104_10 hl, vv_104_13 hl, vv_104_14 hl, vv_104_15 hl, vv_104_18 hl, vv_104_19 hl, vv_104_20 hl, vv_104_23 hl, vv_104_24 hl, vv_104_25 hl, vv_104_28 hl, vv_104_38 hl, vv_104_39 hl, vv_104_42 hl, vv_104_45 hl, vv_104_55 hl, vv_104_56 hl, vv_104_59 hl, vv_104_60 hl, vv_104_61 hl, vv_104_62 hl, vv_104_65 hl, vv_104_68 hl, vv_104_78 hl, vv_104_79 hl, vv_104_82 hl, vv_104_83 hl, vv_104_86 hl, vv_104_88 hl, vv_104_89 hl, vv_104_90 hl, vv_104_93 hl, vv_104_95 hl, vv_104_98 hl, vv_104_99 hl, vv_104_100 hl, vv_104_101 hl, vv_104_104 hl, vv_104_106 hl, vv_104_107 hl, vv_104_110 hl, vv_104_113 hl, vv_104_115 hl, vv_104_116 hl, vv_104_117 hl, vv_104_120 hl, trivial⟩
set_option maxRecDepth 100000 in
theorem vv_105_0 {l : Launch} (hl : l.stackTraces = false) : cj_V1 l 105 0 (3, 0, 0, []) 1 := Or.inl ⟨by decide +kernel, ok_aload_n dm_105_0 rfl⟩
set_option maxRecDepth 100000 in
theorem vv_105_1 {l : Launch} (hl : l.stackTraces = false) : cj_V1 l 105 1 (50, 0, 1, []) 4 := Or.inl ⟨by decide +kernel, ok_getfield (N := 11) (C := RK_0) (T := TK_0) dm_105_1 rfl inK_0 (by decide +kernel) wm_178⟩
set_option maxRecDepth 100000 in
theorem vv_105_4 {l : Launch} (hl : l.stackTraces = false) : cj_V1 l 105 4 (80, 39, 1, [6]) 7 := Or.inr (Or.inr (Or.inl ⟨by decide +kernel, by decide +kernel, rfl, vc_virtual (n := 0) (q := (RK_6, TK_6, 2)) mi_39 dm_105_4 (Or.inl wm_409) wm_249 wm_250 rfl rfl (by decide +kernel) rfl (by decide +kernel) (by decide +kernel), (vx_none rfl)⟩))
set_option maxRecDepth 100000 in
theorem vv_105_7 {l : Launch} (hl : l.stackTraces = false) : cj_V1 l 105 7 (2, 1, 0, []) 8 := Or.inl ⟨by decide +kernel, ok_iload_n dm_105_7 rfl⟩
set_option maxRecDepth 100000 in
theorem vv_105_8 {l : Launch} (hl : l.stackTraces = false) : cj_V1 l 105 8 (81, 69, 1, []) 11 := Or.inr (Or.inr (Or.inl ⟨by decide +kernel, by decide +kernel, rfl, vc_static mi_69 dm_105_8 (Or.inl wm_410) wm_411 (by decide +kernel) (by decide +kernel) (by decide +kernel), (vx_none rfl)⟩))
set_option maxRecDepth 100000 in
theorem vv_105_11 {l : Launch} (hl : l.stackTraces = false) : cj_V1 l 105 11 (10, 0, 0, []) 12 := Or.inl ⟨by decide +kernel, ok_iadd dm_105_11⟩
set_option maxRecDepth 100000 in
theorem vv_105_12 {l : Launch} (hl : l.stackTraces = false) : cj_V1 l 105 12 (2, 2, 0, []) 13 := Or.inl ⟨by decide +kernel, ok_iload_n dm_105_12 rfl⟩
set_option maxRecDepth 100000 in
theorem vv_105_13 {l : Launch} (hl : l.stackTraces = false) : cj_V1 l 105 13 (81, 69, 1, []) 16 := Or.inr (Or.inr (Or.inl ⟨by decide +kernel, by decide +kernel, rfl, vc_static mi_69 dm_105_13 (Or.inl wm_410) wm_411 (by decide +kernel) (by decide +kernel) (by decide +kernel), (vx_none rfl)⟩))
set_option maxRecDepth 100000 in
theorem vv_105_16 {l : Launch} (hl : l.stackTraces = false) : cj_V1 l 105 16 (10, 0, 0, []) 17 := Or.inl ⟨by decide +kernel, ok_iadd dm_105_16⟩
set_option maxRecDepth 100000 in
theorem vv_105_17 {l : Launch} (hl : l.stackTraces = false) : cj_V1 l 105 17 (0, 32, 0, []) 19 := Or.inl ⟨by decide +kernel, ok_bipush dm_105_17 (by decide +kernel)⟩
set_option maxRecDepth 100000 in
theorem vv_105_19 {l : Launch} (hl : l.stackTraces = false) : cj_V1 l 105 19 (42, 32, 0, []) 22 := Or.inl ⟨by decide +kernel, ok_icmp_le dm_105_19 (by decide +kernel)⟩
set_option maxRecDepth 100000 in
theorem vv_105_22 {l : Launch} (hl : l.stackTraces = false) : cj_V1 l 105 22 (95, 0, 0, []) 25 := Or.inr (Or.inl ⟨by decide +kernel, Or.inr (vt_throw (y := ky_ 0) (X := "java/lang/IllegalStateException") (tx := "the pad would have more than 32 signs") (names := ["java/lang/RuntimeException", "java/lang/Exception"]) hl rfl dm_105_22 dm_105_25 dm_105_26 dm_105_28 dm_105_31 rfl wm_416 wm_417 wm_13 wm_457 xw_1 (by decide +kernel) (by decide +kernel) (by decide +kernel) (by decide +kernel))⟩)
set_option maxRecDepth 100000 in
theorem vv_105_32 {l : Launch} (hl : l.stackTraces = false) : cj_V1 l 105 32 (2, 1, 0, []) 33 := Or.inl ⟨by decide +kernel, ok_iload_n dm_105_32 rfl⟩
set_option maxRecDepth 100000 in
theorem vv_105_33 {l : Launch} (hl : l.stackTraces = false) : cj_V1 l 105 33 (81, 64, 1, []) 36 := Or.inr (Or.inr (Or.inl ⟨by decide +kernel, by decide +kernel, rfl, vc_static mi_64 dm_105_33 (Or.inl wm_484) wm_485 (by decide +kernel) (by decide +kernel) (by decide +kernel), (vx_none rfl)⟩))
set_option maxRecDepth 100000 in
theorem vv_105_36 {l : Launch} (hl : l.stackTraces = false) : cj_V1 l 105 36 (31, 46, 0, []) 39 := Or.inl ⟨by decide +kernel, ok_if_eq dm_105_36 (by decide +kernel)⟩
set_option maxRecDepth 100000 in
theorem vv_105_39 {l : Launch} (hl : l.stackTraces = false) : cj_V1 l 105 39 (2, 2, 0, []) 40 := Or.inl ⟨by decide +kernel, ok_iload_n dm_105_39 rfl⟩
set_option maxRecDepth 100000 in
theorem vv_105_40 {l : Launch} (hl : l.stackTraces = false) : cj_V1 l 105 40 (81, 64, 1, []) 43 := Or.inr (Or.inr (Or.inl ⟨by decide +kernel, by decide +kernel, rfl, vc_static mi_64 dm_105_40 (Or.inl wm_484) wm_485 (by decide +kernel) (by decide +kernel) (by decide +kernel), (vx_none rfl)⟩))
set_option maxRecDepth 100000 in
theorem vv_105_43 {l : Launch} (hl : l.stackTraces = false) : cj_V1 l 105 43 (32, 56, 0, []) 46 := Or.inl ⟨by decide +kernel, ok_if_ne dm_105_43 (by decide +kernel)⟩
set_option maxRecDepth 100000 in
theorem vv_105_46 {l : Launch} (hl : l.stackTraces = false) : cj_V1 l 105 46 (95, 1, 0, []) 49 := Or.inr (Or.inl ⟨by decide +kernel, Or.inr (vt_throw (y := ky_ 0) (X := "java/lang/IllegalArgumentException") (tx := "a sign is not 32 .. 126") (names := ["java/lang/RuntimeException", "java/lang/Exception"]) hl rfl dm_105_46 dm_105_49 dm_105_50 dm_105_52 dm_105_55 rfl wm_487 wm_488 wm_14 wm_496 xw_2 (by decide +kernel) (by decide +kernel) (by decide +kernel) (by decide +kernel))⟩)
set_option maxRecDepth 100000 in
theorem vv_105_56 {l : Launch} (hl : l.stackTraces = false) : cj_V1 l 105 56 (3, 0, 0, []) 57 := Or.inl ⟨by decide +kernel, ok_aload_n dm_105_56 rfl⟩
set_option maxRecDepth 100000 in
theorem vv_105_57 {l : Launch} (hl : l.stackTraces = false) : cj_V1 l 105 57 (2, 1, 0, []) 58 := Or.inl ⟨by decide +kernel, ok_iload_n dm_105_57 rfl⟩
set_option maxRecDepth 100000 in
theorem vv_105_58 {l : Launch} (hl : l.stackTraces = false) : cj_V1 l 105 58 (80, 58, 2, [0]) 61 := Or.inr (Or.inr (Or.inl ⟨by decide +kernel, by decide +kernel, rfl, vc_virtual (n := 1) (q := (RK_0, TK_0, 11)) mi_58 dm_105_58 (Or.inl wm_503) wm_505 wm_p12 rfl rfl (by decide +kernel) rfl (by decide +kernel) (by decide +kernel), (vx_none rfl)⟩))
set_option maxRecDepth 100000 in
theorem vv_105_61 {l : Launch} (hl : l.stackTraces = false) : cj_V1 l 105 61 (3, 0, 0, []) 62 := Or.inl ⟨by decide +kernel, ok_aload_n dm_105_61 rfl⟩
set_option maxRecDepth 100000 in
theorem vv_105_62 {l : Launch} (hl : l.stackTraces = false) : cj_V1 l 105 62 (2, 2, 0, []) 63 := Or.inl ⟨by decide +kernel, ok_iload_n dm_105_62 rfl⟩
set_option maxRecDepth 100000 in
theorem vv_105_63 {l : Launch} (hl : l.stackTraces = false) : cj_V1 l 105 63 (80, 58, 2, [0]) 66 := Or.inr (Or.inr (Or.inl ⟨by decide +kernel, by decide +kernel, rfl, vc_virtual (n := 1) (q := (RK_0, TK_0, 11)) mi_58 dm_105_63 (Or.inl wm_503) wm_505 wm_p12 rfl rfl (by decide +kernel) rfl (by decide +kernel) (by decide +kernel), (vx_none rfl)⟩))
set_option maxRecDepth 100000 in
theorem vv_105_66 {l : Launch} (hl : l.stackTraces = false) : cj_V1 l 105 66 (3, 0, 0, []) 67 := Or.inl ⟨by decide +kernel, ok_aload_n dm_105_66 rfl⟩
set_option maxRecDepth 100000 in
theorem vv_105_67 {l : Launch} (hl : l.stackTraces = false) : cj_V1 l 105 67 (50, 0, 1, []) 70 := Or.inl ⟨by decide +kernel, ok_getfield (N := 11) (C := RK_0) (T := TK_0) dm_105_67 rfl inK_0 (by decide +kernel) wm_178⟩
set_option maxRecDepth 100000 in
theorem vv_105_70 {l : Launch} (hl : l.stackTraces = false) : cj_V1 l 105 70 (80, 39, 1, [6]) 73 := Or.inr (Or.inr (Or.inl ⟨by decide +kernel, by decide +kernel, rfl, vc_virtual (n := 0) (q := (RK_6, TK_6, 2)) mi_39 dm_105_70 (Or.inl wm_409) wm_249 wm_250 rfl rfl (by decide +kernel) rfl (by decide +kernel) (by decide +kernel), (vx_none rfl)⟩))
set_option maxRecDepth 100000 in
theorem vv_105_73 {l : Launch} (hl : l.stackTraces = false) : cj_V1 l 105 73 (90, 0, 0, []) 74 := Or.inr (Or.inl ⟨by decide +kernel, Or.inl (Or.inl ⟨rfl, dm_105_73, rfl⟩)⟩)
set_option maxRecDepth 100000 in
theorem vm_105 {l : Launch} (hl : l.stackTraces = false) : cj_Vm l 105 := cj_Vm_of (r := kc105_) rfl ⟨vv_105_0 hl, vv_105_1 hl, vv_105_4 hl, vv_105_7 hl, vv_105_8 hl, vv_105_11 hl, vv_105_12 hl, vv_105_13 hl, vv_105_16 hl, vv_105_17 hl, vv_105_19 hl, vv_105_22 hl, vv_105_32 hl, vv_105_33 hl, vv_105_36 hl, vv_105_39 hl, vv_105_40 hl, vv_105_43 hl, vv_105_46 hl, vv_105_56 hl, vv_105_57 hl, vv_105_58 hl, vv_105_61 hl, vv_105_62 hl, vv_105_63 hl, vv_105_66 hl, vv_105_67 hl, vv_105_70 hl, vv_105_73 hl, trivial⟩
set_option maxRecDepth 100000 in
theorem vv_106_0 {l : Launch} (hl : l.stackTraces = false) : cj_V1 l 106 0 (3, 0, 0, []) 1 := Or.inl ⟨by decide +kernel, ok_aload_n dm_106_0 rfl⟩
set_option maxRecDepth 100000 in
theorem vv_106_1 {l : Launch} (hl : l.stackTraces = false) : cj_V1 l 106 1 (2, 1, 0, []) 2 := Or.inl ⟨by decide +kernel, ok_iload_n dm_106_1 rfl⟩
set_option maxRecDepth 100000 in
theorem vv_106_2 {l : Launch} (hl : l.stackTraces = false) : cj_V1 l 106 2 (80, 75, 2, [2]) 5 := Or.inr (Or.inr (Or.inl ⟨by decide +kernel, by decide +kernel, rfl, vc_virtual (n := 1) (q := (RK_2, TK_2, 4)) mi_75 dm_106_2 (Or.inl wm_260) wm_262 wm_p3 rfl rfl (by decide +kernel) rfl (by decide +kernel) (by decide +kernel), (vx_none rfl)⟩))
set_option maxRecDepth 100000 in
theorem vv_106_5 {l : Launch} (hl : l.stackTraces = false) : cj_V1 l 106 5 (4, 2, 0, []) 6 := Or.inl ⟨by decide +kernel, ok_istore_n dm_106_5 rfl⟩
set_option maxRecDepth 100000 in
theorem vv_106_6 {l : Launch} (hl : l.stackTraces = false) : cj_V1 l 106 6 (2, 1, 0, []) 7 := Or.inl ⟨by decide +kernel, ok_iload_n dm_106_6 rfl⟩
set_option maxRecDepth 100000 in
theorem vv_106_7 {l : Launch} (hl : l.stackTraces = false) : cj_V1 l 106 7 (4, 3, 0, []) 8 := Or.inl ⟨by decide +kernel, ok_istore_n dm_106_7 rfl⟩
set_option maxRecDepth 100000 in
theorem vv_106_8 {l : Launch} (hl : l.stackTraces = false) : cj_V1 l 106 8 (2, 3, 0, []) 9 := Or.inl ⟨by decide +kernel, ok_iload_n dm_106_8 rfl⟩
set_option maxRecDepth 100000 in
theorem vv_106_9 {l : Launch} (hl : l.stackTraces = false) : cj_V1 l 106 9 (2, 2, 0, []) 10 := Or.inl ⟨by decide +kernel, ok_iload_n dm_106_9 rfl⟩
set_option maxRecDepth 100000 in
theorem vv_106_10 {l : Launch} (hl : l.stackTraces = false) : cj_V1 l 106 10 (40, 57, 0, []) 13 := Or.inl ⟨by decide +kernel, ok_icmp_ge dm_106_10 (by decide +kernel)⟩
set_option maxRecDepth 100000 in
theorem vv_106_13 {l : Launch} (hl : l.stackTraces = false) : cj_V1 l 106 13 (3, 0, 0, []) 14 := Or.inl ⟨by decide +kernel, ok_aload_n dm_106_13 rfl⟩
set_option maxRecDepth 100000 in
theorem vv_106_14 {l : Launch} (hl : l.stackTraces = false) : cj_V1 l 106 14 (50, 2, 2, []) 17 := Or.inl ⟨by decide +kernel, ok_getfield (N := 4) (C := RK_2) (T := TK_2) dm_106_14 rfl inK_2 (by decide +kernel) wm_57⟩
set_option maxRecDepth 100000 in
theorem vv_106_17 {l : Launch} (hl : l.stackTraces = false) : cj_V1 l 106 17 (2, 3, 0, []) 18 := Or.inl ⟨by decide +kernel, ok_iload_n dm_106_17 rfl⟩
set_option maxRecDepth 100000 in
theorem vv_106_18 {l : Launch} (hl : l.stackTraces = false) : cj_V1 l 106 18 (80, 36, 2, [6]) 21 := Or.inr (Or.inr (Or.inl ⟨by decide +kernel, by decide +kernel, rfl, vc_virtual (n := 1) (q := (RK_6, TK_6, 2)) mi_36 dm_106_18 (Or.inl wm_252) wm_253 wm_254 rfl rfl (by decide +kernel) rfl (by decide +kernel) (by decide +kernel), (vx_none rfl)⟩))
set_option maxRecDepth 100000 in
theorem vv_106_21 {l : Launch} (hl : l.stackTraces = false) : cj_V1 l 106 21 (0, 35, 0, []) 23 := Or.inl ⟨by decide +kernel, ok_bipush dm_106_21 (by decide +kernel)⟩
set_option maxRecDepth 100000 in
theorem vv_106_23 {l : Launch} (hl : l.stackTraces = false) : cj_V1 l 106 23 (38, 51, 0, []) 26 := Or.inl ⟨by decide +kernel, ok_icmp_ne dm_106_23 (by decide +kernel)⟩
set_option maxRecDepth 100000 in
theorem vv_106_26 {l : Launch} (hl : l.stackTraces = false) : cj_V1 l 106 26 (3, 0, 0, []) 27 := Or.inl ⟨by decide +kernel, ok_aload_n dm_106_26 rfl⟩
set_option maxRecDepth 100000 in
theorem vv_106_27 {l : Launch} (hl : l.stackTraces = false) : cj_V1 l 106 27 (3, 0, 0, []) 28 := Or.inl ⟨by decide +kernel, ok_aload_n dm_106_27 rfl⟩
set_option maxRecDepth 100000 in
theorem vv_106_28 {l : Launch} (hl : l.stackTraces = false) : cj_V1 l 106 28 (50, 2, 2, []) 31 := Or.inl ⟨by decide +kernel, ok_getfield (N := 4) (C := RK_2) (T := TK_2) dm_106_28 rfl inK_2 (by decide +kernel) wm_57⟩
set_option maxRecDepth 100000 in
theorem vv_106_31 {l : Launch} (hl : l.stackTraces = false) : cj_V1 l 106 31 (2, 3, 0, []) 32 := Or.inl ⟨by decide +kernel, ok_iload_n dm_106_31 rfl⟩
set_option maxRecDepth 100000 in
theorem vv_106_32 {l : Launch} (hl : l.stackTraces = false) : cj_V1 l 106 32 (0, 1, 0, []) 33 := Or.inl ⟨by decide +kernel, ok_iconst dm_106_32 (by decide +kernel)⟩
set_option maxRecDepth 100000 in
theorem vv_106_33 {l : Launch} (hl : l.stackTraces = false) : cj_V1 l 106 33 (10, 0, 0, []) 34 := Or.inl ⟨by decide +kernel, ok_iadd dm_106_33⟩
set_option maxRecDepth 100000 in
theorem vv_106_34 {l : Launch} (hl : l.stackTraces = false) : cj_V1 l 106 34 (80, 36, 2, [6]) 37 := Or.inr (Or.inr (Or.inl ⟨by decide +kernel, by decide +kernel, rfl, vc_virtual (n := 1) (q := (RK_6, TK_6, 2)) mi_36 dm_106_34 (Or.inl wm_252) wm_253 wm_254 rfl rfl (by decide +kernel) rfl (by decide +kernel) (by decide +kernel), (vx_none rfl)⟩))
set_option maxRecDepth 100000 in
theorem vv_106_37 {l : Launch} (hl : l.stackTraces = false) : cj_V1 l 106 37 (0, 48, 0, []) 39 := Or.inl ⟨by decide +kernel, ok_bipush dm_106_37 (by decide +kernel)⟩
set_option maxRecDepth 100000 in
theorem vv_106_39 {l : Launch} (hl : l.stackTraces = false) : cj_V1 l 106 39 (11, 0, 0, []) 40 := Or.inl ⟨by decide +kernel, ok_isub dm_106_39⟩
set_option maxRecDepth 100000 in
theorem vv_106_40 {l : Launch} (hl : l.stackTraces = false) : cj_V1 l 106 40 (80, 14, 2, [2]) 43 := Or.inr (Or.inr (Or.inl ⟨by decide +kernel, by decide +kernel, rfl, vc_virtual (n := 1) (q := (RK_2, TK_2, 4)) mi_14 dm_106_40 (Or.inl wm_264) wm_265 wm_266 rfl rfl (by decide +kernel) rfl (by decide +kernel) (by decide +kernel), (vx_none rfl)⟩))
set_option maxRecDepth 100000 in
theorem vv_106_43 {l : Launch} (hl : l.stackTraces = false) : cj_V1 l 106 43 (80, 39, 1, [6]) 46 := Or.inr (Or.inr (Or.inl ⟨by decide +kernel, by decide +kernel, rfl, vc_virtual (n := 0) (q := (RK_6, TK_6, 2)) mi_39 dm_106_43 (Or.inl wm_248) wm_249 wm_250 rfl rfl (by decide +kernel) rfl (by decide +kernel) (by decide +kernel), (vx_none rfl)⟩))
set_option maxRecDepth 100000 in
theorem vv_106_46 {l : Launch} (hl : l.stackTraces = false) : cj_V1 l 106 46 (32, 51, 0, []) 49 := Or.inl ⟨by decide +kernel, ok_if_ne dm_106_46 (by decide +kernel)⟩
set_option maxRecDepth 100000 in
theorem vv_106_49 {l : Launch} (hl : l.stackTraces = false) : cj_V1 l 106 49 (0, 0, 0, []) 50 := Or.inl ⟨by decide +kernel, ok_iconst dm_106_49 (by decide +kernel)⟩
set_option maxRecDepth 100000 in
theorem vv_106_50 {l : Launch} (hl : l.stackTraces = false) : cj_V1 l 106 50 (93, 0, 0, []) 51 := Or.inr (Or.inl ⟨by decide +kernel, Or.inl (Or.inr (Or.inr (Or.inr ⟨rfl, dm_106_50, rfl⟩)))⟩)
set_option maxRecDepth 100000 in
theorem vv_106_51 {l : Launch} (hl : l.stackTraces = false) : cj_V1 l 106 51 (6, 3, 1, []) 54 := Or.inl ⟨by decide +kernel, ok_iinc6 dm_106_51 (by decide +kernel)⟩
set_option maxRecDepth 100000 in
theorem vv_106_54 {l : Launch} (hl : l.stackTraces = false) : cj_V1 l 106 54 (30, 8, 0, []) 57 := Or.inl ⟨by decide +kernel, ok_goto dm_106_54 (by decide +kernel)⟩
set_option maxRecDepth 100000 in
theorem vv_106_57 {l : Launch} (hl : l.stackTraces = false) : cj_V1 l 106 57 (0, 1, 0, []) 58 := Or.inl ⟨by decide +kernel, ok_iconst dm_106_57 (by decide +kernel)⟩
set_option maxRecDepth 100000 in
theorem vv_106_58 {l : Launch} (hl : l.stackTraces = false) : cj_V1 l 106 58 (93, 0, 0, []) 59 := Or.inr (Or.inl ⟨by decide +kernel, Or.inl (Or.inr (Or.inr (Or.inr ⟨rfl, dm_106_58, rfl⟩)))⟩)
set_option maxRecDepth 100000 in
theorem vm_106 {l : Launch} (hl : l.stackTraces = false) : cj_Vm l 106 := cj_Vm_of (r := kc106_) rfl ⟨vv_106_0 hl, vv_106_1 hl, vv_106_2 hl, vv_106_5 hl, vv_106_6 hl, vv_106_7 hl, vv_106_8 hl, vv_106_9 hl, vv_106_10 hl, vv_106_13 hl, vv_106_14 hl, vv_106_17 hl, vv_106_18 hl, vv_106_21 hl, vv_106_23 hl, vv_106_26 hl, vv_106_27 hl, vv_106_28 hl, vv_106_31 hl, vv_106_32 hl, vv_106_33 hl, vv_106_34 hl, vv_106_37 hl, vv_106_39 hl, vv_106_40 hl, vv_106_43 hl, vv_106_46 hl, vv_106_49 hl, vv_106_50 hl, vv_106_51 hl, vv_106_54 hl, vv_106_57 hl, vv_106_58 hl, trivial⟩
set_option maxRecDepth 100000 in
theorem vv_107_0 {l : Launch} (hl : l.stackTraces = false) : cj_V1 l 107 0 (2, 2, 0, []) 1 := Or.inl ⟨by decide +kernel, ok_iload_n dm_107_0 rfl⟩
set_option maxRecDepth 100000 in
theorem vv_107_1 {l : Launch} (hl : l.stackTraces = false) : cj_V1 l 107 1 (0, 35, 0, []) 3 := Or.inl ⟨by decide +kernel, ok_bipush dm_107_1 (by decide +kernel)⟩
set_option maxRecDepth 100000 in
theorem vv_107_3 {l : Launch} (hl : l.stackTraces = false) : cj_V1 l 107 3 (38, 18, 0, []) 6 := Or.inl ⟨by decide +kernel, ok_icmp_ne dm_107_3 (by decide +kernel)⟩
set_option maxRecDepth 100000 in
theorem vv_107_6 {l : Launch} (hl : l.stackTraces = false) : cj_V1 l 107 6 (3, 1, 0, []) 7 := Or.inl ⟨by decide +kernel, ok_aload_n dm_107_6 rfl⟩
set_option maxRecDepth 100000 in
theorem vv_107_7 {l : Launch} (hl : l.stackTraces = false) : cj_V1 l 107 7 (3, 0, 0, []) 8 := Or.inl ⟨by decide +kernel, ok_aload_n dm_107_7 rfl⟩
set_option maxRecDepth 100000 in
theorem vv_107_8 {l : Launch} (hl : l.stackTraces = false) : cj_V1 l 107 8 (2, 3, 0, []) 9 := Or.inl ⟨by decide +kernel, ok_iload_n dm_107_8 rfl⟩
set_option maxRecDepth 100000 in
theorem vv_107_9 {l : Launch} (hl : l.stackTraces = false) : cj_V1 l 107 9 (80, 14, 2, [2]) 12 := Or.inr (Or.inr (Or.inl ⟨by decide +kernel, by decide +kernel, rfl, vc_virtual (n := 1) (q := (RK_2, TK_2, 4)) mi_14 dm_107_9 (Or.inl wm_264) wm_265 wm_266 rfl rfl (by decide +kernel) rfl (by decide +kernel) (by decide +kernel), (vx_none rfl)⟩))
set_option maxRecDepth 100000 in
theorem vv_107_12 {l : Launch} (hl : l.stackTraces = false) : cj_V1 l 107 12 (80, 84, 2, [6]) 15 := Or.inr (Or.inr (Or.inl ⟨by decide +kernel, by decide +kernel, rfl, vc_virtual (n := 1) (q := (RK_6, TK_6, 2)) mi_84 dm_107_12 (Or.inl wm_272) wm_273 wm_274 rfl rfl (by decide +kernel) rfl (by decide +kernel) (by decide +kernel), (vx_none rfl)⟩))
set_option maxRecDepth 100000 in
theorem vv_107_15 {l : Launch} (hl : l.stackTraces = false) : cj_V1 l 107 15 (30, 37, 0, []) 18 := Or.inl ⟨by decide +kernel, ok_goto dm_107_15 (by decide +kernel)⟩
set_option maxRecDepth 100000 in
theorem vv_107_18 {l : Launch} (hl : l.stackTraces = false) : cj_V1 l 107 18 (2, 3, 0, []) 19 := Or.inl ⟨by decide +kernel, ok_iload_n dm_107_18 rfl⟩
set_option maxRecDepth 100000 in
theorem vv_107_19 {l : Launch} (hl : l.stackTraces = false) : cj_V1 l 107 19 (33, 37, 0, []) 22 := Or.inl ⟨by decide +kernel, ok_if_lt dm_107_19 (by decide +kernel)⟩
set_option maxRecDepth 100000 in
theorem vv_107_22 {l : Launch} (hl : l.stackTraces = false) : cj_V1 l 107 22 (2, 3, 0, []) 23 := Or.inl ⟨by decide +kernel, ok_iload_n dm_107_22 rfl⟩
set_option maxRecDepth 100000 in
theorem vv_107_23 {l : Launch} (hl : l.stackTraces = false) : cj_V1 l 107 23 (3, 4, 0, []) 25 := Or.inl ⟨by decide +kernel, ok_aload dm_107_23⟩
set_option maxRecDepth 100000 in
theorem vv_107_25 {l : Launch} (hl : l.stackTraces = false) : cj_V1 l 107 25 (53, 0, 0, []) 26 := Or.inl ⟨by decide +kernel, ok_arraylength dm_107_25⟩
set_option maxRecDepth 100000 in
theorem vv_107_26 {l : Launch} (hl : l.stackTraces = false) : cj_V1 l 107 26 (40, 37, 0, []) 29 := Or.inl ⟨by decide +kernel, ok_icmp_ge dm_107_26 (by decide +kernel)⟩
set_option maxRecDepth 100000 in
theorem vv_107_29 {l : Launch} (hl : l.stackTraces = false) : cj_V1 l 107 29 (3, 1, 0, []) 30 := Or.inl ⟨by decide +kernel, ok_aload_n dm_107_29 rfl⟩
set_option maxRecDepth 100000 in
theorem vv_107_30 {l : Launch} (hl : l.stackTraces = false) : cj_V1 l 107 30 (3, 4, 0, []) 32 := Or.inl ⟨by decide +kernel, ok_aload dm_107_30⟩
set_option maxRecDepth 100000 in
theorem vv_107_32 {l : Launch} (hl : l.stackTraces = false) : cj_V1 l 107 32 (2, 3, 0, []) 33 := Or.inl ⟨by decide +kernel, ok_iload_n dm_107_32 rfl⟩
set_option maxRecDepth 100000 in
theorem vv_107_33 {l : Launch} (hl : l.stackTraces = false) : cj_V1 l 107 33 (54, 0, 0, []) 34 := Or.inl ⟨by decide +kernel, ok_iaload dm_107_33 rfl⟩
set_option maxRecDepth 100000 in
theorem vv_107_34 {l : Launch} (hl : l.stackTraces = false) : cj_V1 l 107 34 (81, 76, 2, []) 37 := Or.inr (Or.inr (Or.inl ⟨by decide +kernel, by decide +kernel, rfl, vc_static mi_76 dm_107_34 (Or.inl wm_282) wm_283 (by decide +kernel) (by decide +kernel) (by decide +kernel), (vx_none rfl)⟩))
set_option maxRecDepth 100000 in
theorem vv_107_37 {l : Launch} (hl : l.stackTraces = false) : cj_V1 l 107 37 (91, 0, 0, []) 38 := Or.inr (Or.inl ⟨by decide +kernel, Or.inl (Or.inr (Or.inl ⟨rfl, dm_107_37, rfl⟩))⟩)
set_option maxRecDepth 100000 in
theorem vm_107 {l : Launch} (hl : l.stackTraces = false) : cj_Vm l 107 := cj_Vm_of (r := kc107_) rfl ⟨vv_107_0 hl, vv_107_1 hl, vv_107_3 hl, vv_107_6 hl, vv_107_7 hl, vv_107_8 hl, vv_107_9 hl, vv_107_12 hl, vv_107_15 hl, vv_107_18 hl, vv_107_19 hl, vv_107_22 hl, vv_107_23 hl, vv_107_25 hl, vv_107_26 hl, vv_107_29 hl, vv_107_30 hl, vv_107_32 hl, vv_107_33 hl, vv_107_34 hl, vv_107_37 hl, trivial⟩
set_option maxRecDepth 100000 in
theorem vv_108_0 {l : Launch} (hl : l.stackTraces = false) : cj_V1 l 108 0 (3, 0, 0, []) 1 := Or.inl ⟨by decide +kernel, ok_aload_n dm_108_0 rfl⟩
set_option maxRecDepth 100000 in
theorem vv_108_1 {l : Launch} (hl : l.stackTraces = false) : cj_V1 l 108 1 (50, 3, 1, []) 4 := Or.inl ⟨by decide +kernel, ok_getfield (N := 6) (C := RK_3) (T := TK_3) dm_108_1 rfl inK_3 (by decide +kernel) wm_84⟩
set_option maxRecDepth 100000 in
theorem vv_108_4 {l : Launch} (hl : l.stackTraces = false) : cj_V1 l 108 4 (3, 0, 0, []) 5 := Or.inl ⟨by decide +kernel, ok_aload_n dm_108_4 rfl⟩
set_option maxRecDepth 100000 in
theorem vv_108_5 {l : Launch} (hl : l.stackTraces = false) : cj_V1 l 108 5 (50, 3, 3, []) 8 := Or.inl ⟨by decide +kernel, ok_getfield (N := 6) (C := RK_3) (T := TK_3) dm_108_5 rfl inK_3 (by decide +kernel) wm_86⟩
set_option maxRecDepth 100000 in
theorem vv_108_8 {l : Launch} (hl : l.stackTraces = false) : cj_V1 l 108 8 (0, 0, 0, []) 9 := Or.inl ⟨by decide +kernel, ok_iconst dm_108_8 (by decide +kernel)⟩
set_option maxRecDepth 100000 in
theorem vv_108_9 {l : Launch} (hl : l.stackTraces = false) : cj_V1 l 108 9 (56, 0, 0, []) 10 := Or.inl ⟨by decide +kernel, ok_iastore dm_108_9 rfl⟩
set_option maxRecDepth 100000 in
theorem vv_108_10 {l : Launch} (hl : l.stackTraces = false) : cj_V1 l 108 10 (3, 0, 0, []) 11 := Or.inl ⟨by decide +kernel, ok_aload_n dm_108_10 rfl⟩
set_option maxRecDepth 100000 in
theorem vv_108_11 {l : Launch} (hl : l.stackTraces = false) : cj_V1 l 108 11 (50, 3, 3, []) 14 := Or.inl ⟨by decide +kernel, ok_getfield (N := 6) (C := RK_3) (T := TK_3) dm_108_11 rfl inK_3 (by decide +kernel) wm_86⟩
set_option maxRecDepth 100000 in
theorem vv_108_14 {l : Launch} (hl : l.stackTraces = false) : cj_V1 l 108 14 (0, 1, 0, []) 15 := Or.inl ⟨by decide +kernel, ok_iconst dm_108_14 (by decide +kernel)⟩
set_option maxRecDepth 100000 in
theorem vv_108_15 {l : Launch} (hl : l.stackTraces = false) : cj_V1 l 108 15 (11, 0, 0, []) 16 := Or.inl ⟨by decide +kernel, ok_isub dm_108_15⟩
set_option maxRecDepth 100000 in
theorem vv_108_16 {l : Launch} (hl : l.stackTraces = false) : cj_V1 l 108 16 (4, 1, 0, []) 17 := Or.inl ⟨by decide +kernel, ok_istore_n dm_108_16 rfl⟩
set_option maxRecDepth 100000 in
theorem vv_108_17 {l : Launch} (hl : l.stackTraces = false) : cj_V1 l 108 17 (2, 1, 0, []) 18 := Or.inl ⟨by decide +kernel, ok_iload_n dm_108_17 rfl⟩
set_option maxRecDepth 100000 in
theorem vv_108_18 {l : Launch} (hl : l.stackTraces = false) : cj_V1 l 108 18 (33, 32, 0, []) 21 := Or.inl ⟨by decide +kernel, ok_if_lt dm_108_18 (by decide +kernel)⟩
set_option maxRecDepth 100000 in
theorem vv_108_21 {l : Launch} (hl : l.stackTraces = false) : cj_V1 l 108 21 (3, 0, 0, []) 22 := Or.inl ⟨by decide +kernel, ok_aload_n dm_108_21 rfl⟩
set_option maxRecDepth 100000 in
theorem vv_108_22 {l : Launch} (hl : l.stackTraces = false) : cj_V1 l 108 22 (2, 1, 0, []) 23 := Or.inl ⟨by decide +kernel, ok_iload_n dm_108_22 rfl⟩
set_option maxRecDepth 100000 in
theorem vv_108_23 {l : Launch} (hl : l.stackTraces = false) : cj_V1 l 108 23 (80, 77, 2, [3]) 26 := Or.inr (Or.inr (Or.inl ⟨by decide +kernel, by decide +kernel, rfl, vc_virtual (n := 1) (q := (RK_3, TK_3, 6)) mi_77 dm_108_23 (Or.inl wm_322) wm_324 wm_p6 rfl rfl (by decide +kernel) rfl (by decide +kernel) (by decide +kernel), (vx_none rfl)⟩))
set_option maxRecDepth 100000 in
theorem vv_108_26 {l : Launch} (hl : l.stackTraces = false) : cj_V1 l 108 26 (7, 1, 1, []) 29 := Or.inl ⟨by decide +kernel, ok_iinc7 dm_108_26 (by decide +kernel)⟩
set_option maxRecDepth 100000 in
theorem vv_108_29 {l : Launch} (hl : l.stackTraces = false) : cj_V1 l 108 29 (30, 17, 0, []) 32 := Or.inl ⟨by decide +kernel, ok_goto dm_108_29 (by decide +kernel)⟩
set_option maxRecDepth 100000 in
theorem vv_108_32 {l : Launch} (hl : l.stackTraces = false) : cj_V1 l 108 32 (91, 0, 0, []) 33 := Or.inr (Or.inl ⟨by decide +kernel, Or.inl (Or.inr (Or.inl ⟨rfl, dm_108_32, rfl⟩))⟩)
set_option maxRecDepth 100000 in
theorem vm_108 {l : Launch} (hl : l.stackTraces = false) : cj_Vm l 108 := cj_Vm_of (r := kc108_) rfl ⟨vv_108_0 hl, vv_108_1 hl, vv_108_4 hl, vv_108_5 hl, vv_108_8 hl, vv_108_9 hl, vv_108_10 hl, vv_108_11 hl, vv_108_14 hl, vv_108_15 hl, vv_108_16 hl, vv_108_17 hl, vv_108_18 hl, vv_108_21 hl, vv_108_22 hl, vv_108_23 hl, vv_108_26 hl, vv_108_29 hl, vv_108_32 hl, trivial⟩
set_option maxRecDepth 100000 in
theorem vv_109_0 {l : Launch} (hl : l.stackTraces = false) : cj_V1 l 109 0 (3, 0, 0, []) 1 := Or.inl ⟨by decide +kernel, ok_aload_n dm_109_0 rfl⟩
set_option maxRecDepth 100000 in
theorem vv_109_1 {l : Launch} (hl : l.stackTraces = false) : cj_V1 l 109 1 (83, 0, 0, []) 4 := Or.inl ⟨by decide +kernel, ok_objInit dm_109_1 wm_123 wm_22 wm_23 (by decide +kernel) (by decide +kernel)⟩
set_option maxRecDepth 100000 in
theorem vv_109_4 {l : Launch} (hl : l.stackTraces = false) : cj_V1 l 109 4 (3, 0, 0, []) 5 := Or.inl ⟨by decide +kernel, ok_aload_n dm_109_4 rfl⟩
set_option maxRecDepth 100000 in
theorem vv_109_5 {l : Launch} (hl : l.stackTraces = false) : cj_V1 l 109 5 (0, 8, 0, []) 7 := Or.inl ⟨by decide +kernel, ok_bipush dm_109_5 (by decide +kernel)⟩
set_option maxRecDepth 100000 in
theorem vv_109_7 {l : Launch} (hl : l.stackTraces = false) : cj_V1 l 109 7 (73, 5, 0, []) 10 := Or.inl ⟨by decide +kernel, ok_anewarray (C := "CatalogueSet$Block") dm_109_7 wm_124 wm_125 rfl⟩
set_option maxRecDepth 100000 in
theorem vv_109_10 {l : Launch} (hl : l.stackTraces = false) : cj_V1 l 109 10 (51, 5, 0, [2]) 13 := Or.inl ⟨by decide +kernel, ok_putfield (N := 10) (C := RK_5) (T := TK_5) (ty0 := tyK_5) dm_109_10 rfl inK_5 (by decide +kernel) wm_146 tyK_5_ok nmK_5 (Or.inr ⟨rfl, rfl, rfl⟩) (Or.inr (Or.inr (Or.inl ⟨rfl, Or.inr ⟨_, rfl⟩⟩)))⟩
set_option maxRecDepth 100000 in
theorem vv_109_13 {l : Launch} (hl : l.stackTraces = false) : cj_V1 l 109 13 (3, 0, 0, []) 14 := Or.inl ⟨by decide +kernel, ok_aload_n dm_109_13 rfl⟩
set_option maxRecDepth 100000 in
theorem vv_109_14 {l : Launch} (hl : l.stackTraces = false) : cj_V1 l 109 14 (0, 9, 0, []) 16 := Or.inl ⟨by decide +kernel, ok_bipush dm_109_14 (by decide +kernel)⟩
set_option maxRecDepth 100000 in
theorem vv_109_16 {l : Launch} (hl : l.stackTraces = false) : cj_V1 l 109 16 (71, 0, 0, []) 18 := Or.inl ⟨by decide +kernel, ok_newarray (ty := .int) (x := (.inl (fun _ => 0))) dm_109_16 rfl rfl wm_68 (fun _ _ => rfl) (fun _ _ => trivial) (by decide +kernel) rfl (fun _ _ _ _ => rfl)⟩
set_option maxRecDepth 100000 in
theorem vv_109_18 {l : Launch} (hl : l.stackTraces = false) : cj_V1 l 109 18 (51, 5, 1, [2]) 21 := Or.inl ⟨by decide +kernel, ok_putfield (N := 10) (C := RK_5) (T := TK_5) (ty0 := tyK_5) dm_109_18 rfl inK_5 (by decide +kernel) wm_147 tyK_5_ok nmK_5 (Or.inr ⟨rfl, rfl, rfl⟩) (Or.inr (Or.inr (Or.inl ⟨rfl, Or.inr ⟨_, rfl⟩⟩)))⟩
set_option maxRecDepth 100000 in
theorem vv_109_21 {l : Launch} (hl : l.stackTraces = false) : cj_V1 l 109 21 (3, 0, 0, []) 22 := Or.inl ⟨by decide +kernel, ok_aload_n dm_109_21 rfl⟩
set_option maxRecDepth 100000 in
theorem vv_109_22 {l : Launch} (hl : l.stackTraces = false) : cj_V1 l 109 22 (0, 849, 0, []) 25 := Or.inl ⟨by decide +kernel, ok_sipush dm_109_22 (by decide +kernel)⟩
set_option maxRecDepth 100000 in
theorem vv_109_25 {l : Launch} (hl : l.stackTraces = false) : cj_V1 l 109 25 (71, 0, 0, []) 27 := Or.inl ⟨by decide +kernel, ok_newarray (ty := .int) (x := (.inl (fun _ => 0))) dm_109_25 rfl rfl wm_68 (fun _ _ => rfl) (fun _ _ => trivial) (by decide +kernel) rfl (fun _ _ _ _ => rfl)⟩
set_option maxRecDepth 100000 in
theorem vv_109_27 {l : Launch} (hl : l.stackTraces = false) : cj_V1 l 109 27 (51, 5, 2, [2]) 30 := Or.inl ⟨by decide +kernel, ok_putfield (N := 10) (C := RK_5) (T := TK_5) (ty0 := tyK_5) dm_109_27 rfl inK_5 (by decide +kernel) wm_148 tyK_5_ok nmK_5 (Or.inr ⟨rfl, rfl, rfl⟩) (Or.inr (Or.inr (Or.inl ⟨rfl, Or.inr ⟨_, rfl⟩⟩)))⟩
set_option maxRecDepth 100000 in
theorem vv_109_30 {l : Launch} (hl : l.stackTraces = false) : cj_V1 l 109 30 (3, 0, 0, []) 31 := Or.inl ⟨by decide +kernel, ok_aload_n dm_109_30 rfl⟩
set_option maxRecDepth 100000 in
theorem vv_109_31 {l : Launch} (hl : l.stackTraces = false) : cj_V1 l 109 31 (0, 8, 0, []) 33 := Or.inl ⟨by decide +kernel, ok_bipush dm_109_31 (by decide +kernel)⟩
set_option maxRecDepth 100000 in
theorem vv_109_33 {l : Launch} (hl : l.stackTraces = false) : cj_V1 l 109 33 (71, 0, 0, []) 35 := Or.inl ⟨by decide +kernel, ok_newarray (ty := .int) (x := (.inl (fun _ => 0))) dm_109_33 rfl rfl wm_68 (fun _ _ => rfl) (fun _ _ => trivial) (by decide +kernel) rfl (fun _ _ _ _ => rfl)⟩
set_option maxRecDepth 100000 in
theorem vv_109_35 {l : Launch} (hl : l.stackTraces = false) : cj_V1 l 109 35 (51, 5, 3, [2]) 38 := Or.inl ⟨by decide +kernel, ok_putfield (N := 10) (C := RK_5) (T := TK_5) (ty0 := tyK_5) dm_109_35 rfl inK_5 (by decide +kernel) wm_149 tyK_5_ok nmK_5 (Or.inr ⟨rfl, rfl, rfl⟩) (Or.inr (Or.inr (Or.inl ⟨rfl, Or.inr ⟨_, rfl⟩⟩)))⟩
set_option maxRecDepth 100000 in
theorem vv_109_38 {l : Launch} (hl : l.stackTraces = false) : cj_V1 l 109 38 (0, 0, 0, []) 39 := Or.inl ⟨by decide +kernel, ok_iconst dm_109_38 (by decide +kernel)⟩
set_option maxRecDepth 100000 in
theorem vv_109_39 {l : Launch} (hl : l.stackTraces = false) : cj_V1 l 109 39 (4, 1, 0, []) 40 := Or.inl ⟨by decide +kernel, ok_istore_n dm_109_39 rfl⟩
set_option maxRecDepth 100000 in
theorem vv_109_40 {l : Launch} (hl : l.stackTraces = false) : cj_V1 l 109 40 (2, 1, 0, []) 41 := Or.inl ⟨by decide +kernel, ok_iload_n dm_109_40 rfl⟩
set_option maxRecDepth 100000 in
theorem vv_109_41 {l : Launch} (hl : l.stackTraces = false) : cj_V1 l 109 41 (0, 8, 0, []) 43 := Or.inl ⟨by decide +kernel, ok_bipush dm_109_41 (by decide +kernel)⟩
set_option maxRecDepth 100000 in
theorem vv_109_43 {l : Launch} (hl : l.stackTraces = false) : cj_V1 l 109 43 (40, 65, 0, []) 46 := Or.inl ⟨by decide +kernel, ok_icmp_ge dm_109_43 (by decide +kernel)⟩
set_option maxRecDepth 100000 in
theorem vv_109_46 {l : Launch} (hl : l.stackTraces = false) : cj_V1 l 109 46 (3, 0, 0, []) 47 := Or.inl ⟨by decide +kernel, ok_aload_n dm_109_46 rfl⟩
set_option maxRecDepth 100000 in
theorem vv_109_47 {l : Launch} (hl : l.stackTraces = false) : cj_V1 l 109 47 (50, 5, 0, []) 50 := Or.inl ⟨by decide +kernel, ok_getfield (N := 10) (C := RK_5) (T := TK_5) dm_109_47 rfl inK_5 (by decide +kernel) wm_146⟩
set_option maxRecDepth 100000 in
theorem vv_109_50 {l : Launch} (hl : l.stackTraces = false) : cj_V1 l 109 50 (2, 1, 0, []) 51 := Or.inl ⟨by decide +kernel, ok_iload_n dm_109_50 rfl⟩
set_option maxRecDepth 100000 in
theorem vv_109_51 {l : Launch} (hl : l.stackTraces = false) : cj_V1 l 109 51 (70, 1, 4, [2, 2, 0, 0]) 54 := Or.inl ⟨by decide +kernel, ok_new (N := 4) (C := RK_1) (T := TK_1) (ty0 := tyK_1) dm_109_51 rfl inK_1 wm_124 wm_126 wm_8 rfl rfl tyK_1_ok (by decide +kernel)⟩
set_option maxRecDepth 100000 in
theorem vv_109_54 {l : Launch} (hl : l.stackTraces = false) : cj_V1 l 109 54 (25, 0, 0, []) 55 := Or.inl ⟨by decide +kernel, ok_dup dm_109_54⟩
set_option maxRecDepth 100000 in
theorem vv_109_55 {l : Launch} (hl : l.stackTraces = false) : cj_V1 l 109 55 (82, 70, 1, []) 58 := Or.inr (Or.inr (Or.inl ⟨by decide +kernel, by decide +kernel, rfl, vc_special (n := 0) mi_70 rfl rfl dm_109_55 (Or.inr ⟨"CatalogueSet", wm_127⟩) wm_128 (by decide +kernel) rfl (by decide +kernel) (by decide +kernel), (vx_none rfl)⟩))
set_option maxRecDepth 100000 in
theorem vv_109_58 {l : Launch} (hl : l.stackTraces = false) : cj_V1 l 109 58 (60, 1, 5, []) 59 := Or.inl ⟨by decide +kernel, ok_aastore (q1 := (RK_1, TK_1, 4)) dm_109_58 rfl rfl⟩
set_option maxRecDepth 100000 in
theorem vv_109_59 {l : Launch} (hl : l.stackTraces = false) : cj_V1 l 109 59 (6, 1, 1, []) 62 := Or.inl ⟨by decide +kernel, ok_iinc6 dm_109_59 (by decide +kernel)⟩
set_option maxRecDepth 100000 in
theorem vv_109_62 {l : Launch} (hl : l.stackTraces = false) : cj_V1 l 109 62 (30, 40, 0, []) 65 := Or.inl ⟨by decide +kernel, ok_goto dm_109_62 (by decide +kernel)⟩
set_option maxRecDepth 100000 in
theorem vv_109_65 {l : Launch} (hl : l.stackTraces = false) : cj_V1 l 109 65 (91, 0, 0, []) 66 := Or.inr (Or.inl ⟨by decide +kernel, Or.inl (Or.inr (Or.inl ⟨rfl, dm_109_65, rfl⟩))⟩)
set_option maxRecDepth 100000 in
theorem vm_109 {l : Launch} (hl : l.stackTraces = false) : cj_Vm l 109 := cj_Vm_of (r := kc109_) rfl ⟨vv_109_0 hl, vv_109_1 hl, vv_109_4 hl, vv_109_5 hl, vv_109_7 hl, vv_109_10 hl, vv_109_13 hl, vv_109_14 hl, vv_109_16 hl, vv_109_18 hl, vv_109_21 hl, vv_109_22 hl, vv_109_25 hl, vv_109_27 hl, vv_109_30 hl, vv_109_31 hl, vv_109_33 hl, vv_109_35 hl, vv_109_38 hl, vv_109_39 hl, vv_109_40 hl, vv_109_41 hl, vv_109_43 hl, vv_109_46 hl, vv_109_47 hl, vv_109_50 hl, vv_109_51 hl, vv_109_54 hl, vv_109_55 hl, vv_109_58 hl, vv_109_59 hl, vv_109_62 hl, vv_109_65 hl, trivial⟩
set_option maxRecDepth 100000 in
theorem vv_110_0 {l : Launch} (hl : l.stackTraces = false) : cj_V1 l 110 0 (3, 2, 0, []) 1 := Or.inl ⟨by decide +kernel, ok_aload_n dm_110_0 rfl⟩
set_option maxRecDepth 100000 in
theorem vv_110_1 {l : Launch} (hl : l.stackTraces = false) : cj_V1 l 110 1 (0, 0, 0, []) 2 := Or.inl ⟨by decide +kernel, ok_iconst dm_110_1 (by decide +kernel)⟩
set_option maxRecDepth 100000 in
theorem vv_110_2 {l : Launch} (hl : l.stackTraces = false) : cj_V1 l 110 2 (3, 0, 0, []) 3 := Or.inl ⟨by decide +kernel, ok_aload_n dm_110_2 rfl⟩
set_option maxRecDepth 100000 in
theorem vv_110_3 {l : Launch} (hl : l.stackTraces = false) : cj_V1 l 110 3 (2, 1, 0, []) 4 := Or.inl ⟨by decide +kernel, ok_iload_n dm_110_3 rfl⟩
set_option maxRecDepth 100000 in
theorem vv_110_4 {l : Launch} (hl : l.stackTraces = false) : cj_V1 l 110 4 (80, 57, 2, [0]) 7 := Or.inr (Or.inr (Or.inl ⟨by decide +kernel, by decide +kernel, rfl, vc_virtual (n := 1) (q := (RK_0, TK_0, 11)) mi_57 dm_110_4 (Or.inl wm_622) wm_623 wm_624 rfl rfl (by decide +kernel) rfl (by decide +kernel) (by decide +kernel), (vx_some rfl ⟨⟨rfl, rfl, wm_532, wm_539, (by decide +kernel), (by decide +kernel), (Or.inr ⟨3, dm_110_12, rfl, rfl⟩)⟩, ⟨rfl, rfl, wm_403, wm_418, (by decide +kernel), (by decide +kernel), (Or.inr ⟨3, dm_110_15, rfl, rfl⟩)⟩, trivial⟩ (by decide +kernel) (vc_virtual (n := 1) (q := (RK_0, TK_0, 11)) mi_57 dm_110_4 (Or.inl wm_622) wm_623 wm_624 rfl rfl (by decide +kernel) rfl (by decide +kernel) (by decide +kernel)))⟩))
set_option maxRecDepth 100000 in
theorem vv_110_7 {l : Launch} (hl : l.stackTraces = false) : cj_V1 l 110 7 (23, 0, 0, []) 8 := Or.inl ⟨by decide +kernel, ok_i2l dm_110_7⟩
set_option maxRecDepth 100000 in
theorem vv_110_8 {l : Launch} (hl : l.stackTraces = false) : cj_V1 l 110 8 (59, 2, 0, []) 9 := Or.inl ⟨by decide +kernel, ok_lastore dm_110_8 rfl⟩
set_option maxRecDepth 100000 in
theorem vv_110_9 {l : Launch} (hl : l.stackTraces = false) : cj_V1 l 110 9 (30, 18, 0, []) 12 := Or.inl ⟨by decide +kernel, ok_goto dm_110_9 (by decide +kernel)⟩
set_option maxRecDepth 100000 in
theorem vv_110_12 {l : Launch} (hl : l.stackTraces = false) : cj_V1 l 110 12 (5, 3, 0, []) 13 := Or.inl ⟨by decide +kernel, ok_astore_n dm_110_12 rfl⟩
set_option maxRecDepth 100000 in
theorem vv_110_13 {l : Launch} (hl : l.stackTraces = false) : cj_V1 l 110 13 (0, 1, 0, []) 14 := Or.inl ⟨by decide +kernel, ok_iconst dm_110_13 (by decide +kernel)⟩
set_option maxRecDepth 100000 in
theorem vv_110_14 {l : Launch} (hl : l.stackTraces = false) : cj_V1 l 110 14 (90, 0, 0, []) 15 := Or.inr (Or.inl ⟨by decide +kernel, Or.inl (Or.inl ⟨rfl, dm_110_14, rfl⟩)⟩)
set_option maxRecDepth 100000 in
theorem vv_110_15 {l : Launch} (hl : l.stackTraces = false) : cj_V1 l 110 15 (5, 3, 0, []) 16 := Or.inl ⟨by decide +kernel, ok_astore_n dm_110_15 rfl⟩
set_option maxRecDepth 100000 in
theorem vv_110_16 {l : Launch} (hl : l.stackTraces = false) : cj_V1 l 110 16 (0, 2, 0, []) 17 := Or.inl ⟨by decide +kernel, ok_iconst dm_110_16 (by decide +kernel)⟩
set_option maxRecDepth 100000 in
theorem vv_110_17 {l : Launch} (hl : l.stackTraces = false) : cj_V1 l 110 17 (90, 0, 0, []) 18 := Or.inr (Or.inl ⟨by decide +kernel, Or.inl (Or.inl ⟨rfl, dm_110_17, rfl⟩)⟩)
set_option maxRecDepth 100000 in
theorem vv_110_18 {l : Launch} (hl : l.stackTraces = false) : cj_V1 l 110 18 (0, 0, 0, []) 19 := Or.inl ⟨by decide +kernel, ok_iconst dm_110_18 (by decide +kernel)⟩
set_option maxRecDepth 100000 in
theorem vv_110_19 {l : Launch} (hl : l.stackTraces = false) : cj_V1 l 110 19 (90, 0, 0, []) 20 := Or.inr (Or.inl ⟨by decide +kernel, Or.inl (Or.inl ⟨rfl, dm_110_19, rfl⟩)⟩)
set_option maxRecDepth 100000 in
theorem vm_110 {l : Launch} (hl : l.stackTraces = false) : cj_Vm l 110 := cj_Vm_of (r := kc110_) rfl ⟨vv_110_0 hl, vv_110_1 hl, vv_110_2 hl, vv_110_3 hl, vv_110_4 hl, vv_110_7 hl, vv_110_8 hl, vv_110_9 hl, vv_110_12 hl, vv_110_13 hl, vv_110_14 hl, vv_110_15 hl, vv_110_16 hl, vv_110_17 hl, vv_110_18 hl, vv_110_19 hl, trivial⟩
set_option maxRecDepth 100000 in
theorem vv_111_0 {l : Launch} (hl : l.stackTraces = false) : cj_V1 l 111 0 (3, 4, 0, []) 2 := Or.inl ⟨by decide +kernel, ok_aload dm_111_0⟩
set_option maxRecDepth 100000 in
theorem vv_111_2 {l : Launch} (hl : l.stackTraces = false) : cj_V1 l 111 2 (0, 0, 0, []) 3 := Or.inl ⟨by decide +kernel, ok_iconst dm_111_2 (by decide +kernel)⟩
set_option maxRecDepth 100000 in
theorem vv_111_3 {l : Launch} (hl : l.stackTraces = false) : cj_V1 l 111 3 (3, 0, 0, []) 4 := Or.inl ⟨by decide +kernel, ok_aload_n dm_111_3 rfl⟩
set_option maxRecDepth 100000 in
theorem vv_111_4 {l : Launch} (hl : l.stackTraces = false) : cj_V1 l 111 4 (2, 1, 0, []) 5 := Or.inl ⟨by decide +kernel, ok_iload_n dm_111_4 rfl⟩
set_option maxRecDepth 100000 in
theorem vv_111_5 {l : Launch} (hl : l.stackTraces = false) : cj_V1 l 111 5 (2, 2, 0, []) 6 := Or.inl ⟨by decide +kernel, ok_iload_n dm_111_5 rfl⟩
set_option maxRecDepth 100000 in
theorem vv_111_6 {l : Launch} (hl : l.stackTraces = false) : cj_V1 l 111 6 (2, 3, 0, []) 7 := Or.inl ⟨by decide +kernel, ok_iload_n dm_111_6 rfl⟩
set_option maxRecDepth 100000 in
theorem vv_111_7 {l : Launch} (hl : l.stackTraces = false) : cj_V1 l 111 7 (80, 59, 4, [0]) 10 := Or.inr (Or.inr (Or.inl ⟨by decide +kernel, by decide +kernel, rfl, vc_virtual (n := 3) (q := (RK_0, TK_0, 11)) mi_59 dm_111_7 (Or.inl wm_581) wm_582 wm_583 rfl rfl (by decide +kernel) rfl (by decide +kernel) (by decide +kernel), (vx_some rfl ⟨⟨rfl, rfl, wm_532, wm_539, (by decide +kernel), (by decide +kernel), (Or.inl ⟨dm_111_15, rfl⟩)⟩, ⟨rfl, rfl, wm_404, wm_489, (by decide +kernel), (by decide +kernel), (Or.inl ⟨dm_111_19, rfl⟩)⟩, trivial⟩ (by decide +kernel) (vc_virtual (n := 3) (q := (RK_0, TK_0, 11)) mi_59 dm_111_7 (Or.inl wm_581) wm_582 wm_583 rfl rfl (by decide +kernel) rfl (by decide +kernel) (by decide +kernel)))⟩))
set_option maxRecDepth 100000 in
theorem vv_111_10 {l : Launch} (hl : l.stackTraces = false) : cj_V1 l 111 10 (23, 0, 0, []) 11 := Or.inl ⟨by decide +kernel, ok_i2l dm_111_10⟩
set_option maxRecDepth 100000 in
theorem vv_111_11 {l : Launch} (hl : l.stackTraces = false) : cj_V1 l 111 11 (59, 2, 0, []) 12 := Or.inl ⟨by decide +kernel, ok_lastore dm_111_11 rfl⟩
set_option maxRecDepth 100000 in
theorem vv_111_12 {l : Launch} (hl : l.stackTraces = false) : cj_V1 l 111 12 (30, 23, 0, []) 15 := Or.inl ⟨by decide +kernel, ok_goto dm_111_12 (by decide +kernel)⟩
set_option maxRecDepth 100000 in
theorem vv_111_15 {l : Launch} (hl : l.stackTraces = false) : cj_V1 l 111 15 (5, 5, 0, []) 17 := Or.inl ⟨by decide +kernel, ok_astore dm_111_15⟩
set_option maxRecDepth 100000 in
theorem vv_111_17 {l : Launch} (hl : l.stackTraces = false) : cj_V1 l 111 17 (0, 1, 0, []) 18 := Or.inl ⟨by decide +kernel, ok_iconst dm_111_17 (by decide +kernel)⟩
set_option maxRecDepth 100000 in
theorem vv_111_18 {l : Launch} (hl : l.stackTraces = false) : cj_V1 l 111 18 (90, 0, 0, []) 19 := Or.inr (Or.inl ⟨by decide +kernel, Or.inl (Or.inl ⟨rfl, dm_111_18, rfl⟩)⟩)
set_option maxRecDepth 100000 in
theorem vv_111_19 {l : Launch} (hl : l.stackTraces = false) : cj_V1 l 111 19 (5, 5, 0, []) 21 := Or.inl ⟨by decide +kernel, ok_astore dm_111_19⟩
set_option maxRecDepth 100000 in
theorem vv_111_21 {l : Launch} (hl : l.stackTraces = false) : cj_V1 l 111 21 (0, 2, 0, []) 22 := Or.inl ⟨by decide +kernel, ok_iconst dm_111_21 (by decide +kernel)⟩
set_option maxRecDepth 100000 in
theorem vv_111_22 {l : Launch} (hl : l.stackTraces = false) : cj_V1 l 111 22 (90, 0, 0, []) 23 := Or.inr (Or.inl ⟨by decide +kernel, Or.inl (Or.inl ⟨rfl, dm_111_22, rfl⟩)⟩)
set_option maxRecDepth 100000 in
theorem vv_111_23 {l : Launch} (hl : l.stackTraces = false) : cj_V1 l 111 23 (0, 0, 0, []) 24 := Or.inl ⟨by decide +kernel, ok_iconst dm_111_23 (by decide +kernel)⟩
set_option maxRecDepth 100000 in
theorem vv_111_24 {l : Launch} (hl : l.stackTraces = false) : cj_V1 l 111 24 (90, 0, 0, []) 25 := Or.inr (Or.inl ⟨by decide +kernel, Or.inl (Or.inl ⟨rfl, dm_111_24, rfl⟩)⟩)
set_option maxRecDepth 100000 in
theorem vm_111 {l : Launch} (hl : l.stackTraces = false) : cj_Vm l 111 := cj_Vm_of (r := kc111_) rfl ⟨vv_111_0 hl, vv_111_2 hl, vv_111_3 hl, vv_111_4 hl, vv_111_5 hl, vv_111_6 hl, vv_111_7 hl, vv_111_10 hl, vv_111_11 hl, vv_111_12 hl, vv_111_15 hl, vv_111_17 hl, vv_111_18 hl, vv_111_19 hl, vv_111_21 hl, vv_111_22 hl, vv_111_23 hl, vv_111_24 hl, trivial⟩
set_option maxRecDepth 100000 in
theorem vv_112_0 {l : Launch} (hl : l.stackTraces = false) : cj_V1 l 112 0 (3, 2, 0, []) 1 := Or.inl ⟨by decide +kernel, ok_aload_n dm_112_0 rfl⟩
set_option maxRecDepth 100000 in
theorem vv_112_1 {l : Launch} (hl : l.stackTraces = false) : cj_V1 l 112 1 (0, 0, 0, []) 2 := Or.inl ⟨by decide +kernel, ok_iconst dm_112_1 (by decide +kernel)⟩
set_option maxRecDepth 100000 in
theorem vv_112_2 {l : Launch} (hl : l.stackTraces = false) : cj_V1 l 112 2 (3, 0, 0, []) 3 := Or.inl ⟨by decide +kernel, ok_aload_n dm_112_2 rfl⟩
set_option maxRecDepth 100000 in
theorem vv_112_3 {l : Launch} (hl : l.stackTraces = false) : cj_V1 l 112 3 (2, 1, 0, []) 4 := Or.inl ⟨by decide +kernel, ok_iload_n dm_112_3 rfl⟩
set_option maxRecDepth 100000 in
theorem vv_112_4 {l : Launch} (hl : l.stackTraces = false) : cj_V1 l 112 4 (80, 60, 2, [0]) 7 := Or.inr (Or.inr (Or.inl ⟨by decide +kernel, by decide +kernel, rfl, vc_virtual (n := 1) (q := (RK_0, TK_0, 11)) mi_60 dm_112_4 (Or.inl wm_722) wm_723 wm_724 rfl rfl (by decide +kernel) rfl (by decide +kernel) (by decide +kernel), (vx_some rfl ⟨⟨rfl, rfl, wm_532, wm_539, (by decide +kernel), (by decide +kernel), (Or.inr ⟨3, dm_112_12, rfl, rfl⟩)⟩, trivial⟩ (by decide +kernel) (vc_virtual (n := 1) (q := (RK_0, TK_0, 11)) mi_60 dm_112_4 (Or.inl wm_722) wm_723 wm_724 rfl rfl (by decide +kernel) rfl (by decide +kernel) (by decide +kernel)))⟩))
set_option maxRecDepth 100000 in
theorem vv_112_7 {l : Launch} (hl : l.stackTraces = false) : cj_V1 l 112 7 (23, 0, 0, []) 8 := Or.inl ⟨by decide +kernel, ok_i2l dm_112_7⟩
set_option maxRecDepth 100000 in
theorem vv_112_8 {l : Launch} (hl : l.stackTraces = false) : cj_V1 l 112 8 (59, 2, 0, []) 9 := Or.inl ⟨by decide +kernel, ok_lastore dm_112_8 rfl⟩
set_option maxRecDepth 100000 in
theorem vv_112_9 {l : Launch} (hl : l.stackTraces = false) : cj_V1 l 112 9 (30, 15, 0, []) 12 := Or.inl ⟨by decide +kernel, ok_goto dm_112_9 (by decide +kernel)⟩
set_option maxRecDepth 100000 in
theorem vv_112_12 {l : Launch} (hl : l.stackTraces = false) : cj_V1 l 112 12 (5, 3, 0, []) 13 := Or.inl ⟨by decide +kernel, ok_astore_n dm_112_12 rfl⟩
set_option maxRecDepth 100000 in
theorem vv_112_13 {l : Launch} (hl : l.stackTraces = false) : cj_V1 l 112 13 (0, 1, 0, []) 14 := Or.inl ⟨by decide +kernel, ok_iconst dm_112_13 (by decide +kernel)⟩
set_option maxRecDepth 100000 in
theorem vv_112_14 {l : Launch} (hl : l.stackTraces = false) : cj_V1 l 112 14 (90, 0, 0, []) 15 := Or.inr (Or.inl ⟨by decide +kernel, Or.inl (Or.inl ⟨rfl, dm_112_14, rfl⟩)⟩)
set_option maxRecDepth 100000 in
theorem vv_112_15 {l : Launch} (hl : l.stackTraces = false) : cj_V1 l 112 15 (0, 0, 0, []) 16 := Or.inl ⟨by decide +kernel, ok_iconst dm_112_15 (by decide +kernel)⟩
set_option maxRecDepth 100000 in
theorem vv_112_16 {l : Launch} (hl : l.stackTraces = false) : cj_V1 l 112 16 (90, 0, 0, []) 17 := Or.inr (Or.inl ⟨by decide +kernel, Or.inl (Or.inl ⟨rfl, dm_112_16, rfl⟩)⟩)
set_option maxRecDepth 100000 in
theorem vm_112 {l : Launch} (hl : l.stackTraces = false) : cj_Vm l 112 := cj_Vm_of (r := kc112_) rfl ⟨vv_112_0 hl, vv_112_1 hl, vv_112_2 hl, vv_112_3 hl, vv_112_4 hl, vv_112_7 hl, vv_112_8 hl, vv_112_9 hl, vv_112_12 hl, vv_112_13 hl, vv_112_14 hl, vv_112_15 hl, vv_112_16 hl, trivial⟩
set_option maxRecDepth 100000 in
theorem vv_113_0 {l : Launch} (hl : l.stackTraces = false) : cj_V1 l 113 0 (3, 2, 0, []) 1 := Or.inl ⟨by decide +kernel, ok_aload_n dm_113_0 rfl⟩
set_option maxRecDepth 100000 in
theorem vv_113_1 {l : Launch} (hl : l.stackTraces = false) : cj_V1 l 113 1 (0, 0, 0, []) 2 := Or.inl ⟨by decide +kernel, ok_iconst dm_113_1 (by decide +kernel)⟩
set_option maxRecDepth 100000 in
theorem vv_113_2 {l : Launch} (hl : l.stackTraces = false) : cj_V1 l 113 2 (3, 0, 0, []) 3 := Or.inl ⟨by decide +kernel, ok_aload_n dm_113_2 rfl⟩
set_option maxRecDepth 100000 in
theorem vv_113_3 {l : Launch} (hl : l.stackTraces = false) : cj_V1 l 113 3 (2, 1, 0, []) 4 := Or.inl ⟨by decide +kernel, ok_iload_n dm_113_3 rfl⟩
set_option maxRecDepth 100000 in
theorem vv_113_4 {l : Launch} (hl : l.stackTraces = false) : cj_V1 l 113 4 (80, 61, 2, [0]) 7 := Or.inr (Or.inr (Or.inl ⟨by decide +kernel, by decide +kernel, rfl, vc_virtual (n := 1) (q := (RK_0, TK_0, 11)) mi_61 dm_113_4 (Or.inl wm_533) wm_534 wm_535 rfl rfl (by decide +kernel) rfl (by decide +kernel) (by decide +kernel), (vx_some rfl ⟨⟨rfl, rfl, wm_532, wm_539, (by decide +kernel), (by decide +kernel), (Or.inr ⟨3, dm_113_12, rfl, rfl⟩)⟩, ⟨rfl, rfl, wm_403, wm_418, (by decide +kernel), (by decide +kernel), (Or.inr ⟨3, dm_113_15, rfl, rfl⟩)⟩, trivial⟩ (by decide +kernel) (vc_virtual (n := 1) (q := (RK_0, TK_0, 11)) mi_61 dm_113_4 (Or.inl wm_533) wm_534 wm_535 rfl rfl (by decide +kernel) rfl (by decide +kernel) (by decide +kernel)))⟩))
set_option maxRecDepth 100000 in
theorem vv_113_7 {l : Launch} (hl : l.stackTraces = false) : cj_V1 l 113 7 (23, 0, 0, []) 8 := Or.inl ⟨by decide +kernel, ok_i2l dm_113_7⟩
set_option maxRecDepth 100000 in
theorem vv_113_8 {l : Launch} (hl : l.stackTraces = false) : cj_V1 l 113 8 (59, 2, 0, []) 9 := Or.inl ⟨by decide +kernel, ok_lastore dm_113_8 rfl⟩
set_option maxRecDepth 100000 in
theorem vv_113_9 {l : Launch} (hl : l.stackTraces = false) : cj_V1 l 113 9 (30, 18, 0, []) 12 := Or.inl ⟨by decide +kernel, ok_goto dm_113_9 (by decide +kernel)⟩
set_option maxRecDepth 100000 in
theorem vv_113_12 {l : Launch} (hl : l.stackTraces = false) : cj_V1 l 113 12 (5, 3, 0, []) 13 := Or.inl ⟨by decide +kernel, ok_astore_n dm_113_12 rfl⟩
set_option maxRecDepth 100000 in
theorem vv_113_13 {l : Launch} (hl : l.stackTraces = false) : cj_V1 l 113 13 (0, 1, 0, []) 14 := Or.inl ⟨by decide +kernel, ok_iconst dm_113_13 (by decide +kernel)⟩
set_option maxRecDepth 100000 in
theorem vv_113_14 {l : Launch} (hl : l.stackTraces = false) : cj_V1 l 113 14 (90, 0, 0, []) 15 := Or.inr (Or.inl ⟨by decide +kernel, Or.inl (Or.inl ⟨rfl, dm_113_14, rfl⟩)⟩)
set_option maxRecDepth 100000 in
theorem vv_113_15 {l : Launch} (hl : l.stackTraces = false) : cj_V1 l 113 15 (5, 3, 0, []) 16 := Or.inl ⟨by decide +kernel, ok_astore_n dm_113_15 rfl⟩
set_option maxRecDepth 100000 in
theorem vv_113_16 {l : Launch} (hl : l.stackTraces = false) : cj_V1 l 113 16 (0, 2, 0, []) 17 := Or.inl ⟨by decide +kernel, ok_iconst dm_113_16 (by decide +kernel)⟩
set_option maxRecDepth 100000 in
theorem vv_113_17 {l : Launch} (hl : l.stackTraces = false) : cj_V1 l 113 17 (90, 0, 0, []) 18 := Or.inr (Or.inl ⟨by decide +kernel, Or.inl (Or.inl ⟨rfl, dm_113_17, rfl⟩)⟩)
set_option maxRecDepth 100000 in
theorem vv_113_18 {l : Launch} (hl : l.stackTraces = false) : cj_V1 l 113 18 (0, 0, 0, []) 19 := Or.inl ⟨by decide +kernel, ok_iconst dm_113_18 (by decide +kernel)⟩
set_option maxRecDepth 100000 in
theorem vv_113_19 {l : Launch} (hl : l.stackTraces = false) : cj_V1 l 113 19 (90, 0, 0, []) 20 := Or.inr (Or.inl ⟨by decide +kernel, Or.inl (Or.inl ⟨rfl, dm_113_19, rfl⟩)⟩)
set_option maxRecDepth 100000 in
theorem vm_113 {l : Launch} (hl : l.stackTraces = false) : cj_Vm l 113 := cj_Vm_of (r := kc113_) rfl ⟨vv_113_0 hl, vv_113_1 hl, vv_113_2 hl, vv_113_3 hl, vv_113_4 hl, vv_113_7 hl, vv_113_8 hl, vv_113_9 hl, vv_113_12 hl, vv_113_13 hl, vv_113_14 hl, vv_113_15 hl, vv_113_16 hl, vv_113_17 hl, vv_113_18 hl, vv_113_19 hl, trivial⟩
set_option maxRecDepth 100000 in
theorem vv_114_0 {l : Launch} (hl : l.stackTraces = false) : cj_V1 l 114 0 (3, 3, 0, []) 1 := Or.inl ⟨by decide +kernel, ok_aload_n dm_114_0 rfl⟩
set_option maxRecDepth 100000 in
theorem vv_114_1 {l : Launch} (hl : l.stackTraces = false) : cj_V1 l 114 1 (0, 0, 0, []) 2 := Or.inl ⟨by decide +kernel, ok_iconst dm_114_1 (by decide +kernel)⟩
set_option maxRecDepth 100000 in
theorem vv_114_2 {l : Launch} (hl : l.stackTraces = false) : cj_V1 l 114 2 (3, 0, 0, []) 3 := Or.inl ⟨by decide +kernel, ok_aload_n dm_114_2 rfl⟩
set_option maxRecDepth 100000 in
theorem vv_114_3 {l : Launch} (hl : l.stackTraces = false) : cj_V1 l 114 3 (2, 1, 0, []) 4 := Or.inl ⟨by decide +kernel, ok_iload_n dm_114_3 rfl⟩
set_option maxRecDepth 100000 in
theorem vv_114_4 {l : Launch} (hl : l.stackTraces = false) : cj_V1 l 114 4 (2, 2, 0, []) 5 := Or.inl ⟨by decide +kernel, ok_iload_n dm_114_4 rfl⟩
set_option maxRecDepth 100000 in
theorem vv_114_5 {l : Launch} (hl : l.stackTraces = false) : cj_V1 l 114 5 (80, 67, 3, [0]) 8 := Or.inr (Or.inr (Or.inl ⟨by decide +kernel, by decide +kernel, rfl, vc_virtual (n := 2) (q := (RK_0, TK_0, 11)) mi_67 dm_114_5 (Or.inl wm_594) wm_595 wm_596 rfl rfl (by decide +kernel) rfl (by decide +kernel) (by decide +kernel), (vx_some rfl ⟨⟨rfl, rfl, wm_532, wm_539, (by decide +kernel), (by decide +kernel), (Or.inl ⟨dm_114_13, rfl⟩)⟩, ⟨rfl, rfl, wm_404, wm_489, (by decide +kernel), (by decide +kernel), (Or.inl ⟨dm_114_17, rfl⟩)⟩, trivial⟩ (by decide +kernel) (vc_virtual (n := 2) (q := (RK_0, TK_0, 11)) mi_67 dm_114_5 (Or.inl wm_594) wm_595 wm_596 rfl rfl (by decide +kernel) rfl (by decide +kernel) (by decide +kernel)))⟩))
set_option maxRecDepth 100000 in
theorem vv_114_8 {l : Launch} (hl : l.stackTraces = false) : cj_V1 l 114 8 (23, 0, 0, []) 9 := Or.inl ⟨by decide +kernel, ok_i2l dm_114_8⟩
set_option maxRecDepth 100000 in
theorem vv_114_9 {l : Launch} (hl : l.stackTraces = false) : cj_V1 l 114 9 (59, 2, 0, []) 10 := Or.inl ⟨by decide +kernel, ok_lastore dm_114_9 rfl⟩
set_option maxRecDepth 100000 in
theorem vv_114_10 {l : Launch} (hl : l.stackTraces = false) : cj_V1 l 114 10 (30, 21, 0, []) 13 := Or.inl ⟨by decide +kernel, ok_goto dm_114_10 (by decide +kernel)⟩
set_option maxRecDepth 100000 in
theorem vv_114_13 {l : Launch} (hl : l.stackTraces = false) : cj_V1 l 114 13 (5, 4, 0, []) 15 := Or.inl ⟨by decide +kernel, ok_astore dm_114_13⟩
set_option maxRecDepth 100000 in
theorem vv_114_15 {l : Launch} (hl : l.stackTraces = false) : cj_V1 l 114 15 (0, 1, 0, []) 16 := Or.inl ⟨by decide +kernel, ok_iconst dm_114_15 (by decide +kernel)⟩
set_option maxRecDepth 100000 in
theorem vv_114_16 {l : Launch} (hl : l.stackTraces = false) : cj_V1 l 114 16 (90, 0, 0, []) 17 := Or.inr (Or.inl ⟨by decide +kernel, Or.inl (Or.inl ⟨rfl, dm_114_16, rfl⟩)⟩)
set_option maxRecDepth 100000 in
theorem vv_114_17 {l : Launch} (hl : l.stackTraces = false) : cj_V1 l 114 17 (5, 4, 0, []) 19 := Or.inl ⟨by decide +kernel, ok_astore dm_114_17⟩
set_option maxRecDepth 100000 in
theorem vv_114_19 {l : Launch} (hl : l.stackTraces = false) : cj_V1 l 114 19 (0, 2, 0, []) 20 := Or.inl ⟨by decide +kernel, ok_iconst dm_114_19 (by decide +kernel)⟩
set_option maxRecDepth 100000 in
theorem vv_114_20 {l : Launch} (hl : l.stackTraces = false) : cj_V1 l 114 20 (90, 0, 0, []) 21 := Or.inr (Or.inl ⟨by decide +kernel, Or.inl (Or.inl ⟨rfl, dm_114_20, rfl⟩)⟩)
set_option maxRecDepth 100000 in
theorem vv_114_21 {l : Launch} (hl : l.stackTraces = false) : cj_V1 l 114 21 (0, 0, 0, []) 22 := Or.inl ⟨by decide +kernel, ok_iconst dm_114_21 (by decide +kernel)⟩
set_option maxRecDepth 100000 in
theorem vv_114_22 {l : Launch} (hl : l.stackTraces = false) : cj_V1 l 114 22 (90, 0, 0, []) 23 := Or.inr (Or.inl ⟨by decide +kernel, Or.inl (Or.inl ⟨rfl, dm_114_22, rfl⟩)⟩)
set_option maxRecDepth 100000 in
theorem vm_114 {l : Launch} (hl : l.stackTraces = false) : cj_Vm l 114 := cj_Vm_of (r := kc114_) rfl ⟨vv_114_0 hl, vv_114_1 hl, vv_114_2 hl, vv_114_3 hl, vv_114_4 hl, vv_114_5 hl, vv_114_8 hl, vv_114_9 hl, vv_114_10 hl, vv_114_13 hl, vv_114_15 hl, vv_114_16 hl, vv_114_17 hl, vv_114_19 hl, vv_114_20 hl, vv_114_21 hl, vv_114_22 hl, trivial⟩
set_option maxRecDepth 100000 in
theorem vv_115_0 {l : Launch} (hl : l.stackTraces = false) : cj_V1 l 115 0 (3, 0, 0, []) 1 := Or.inl ⟨by decide +kernel, ok_aload_n dm_115_0 rfl⟩
set_option maxRecDepth 100000 in
theorem vv_115_1 {l : Launch} (hl : l.stackTraces = false) : cj_V1 l 115 1 (3, 0, 0, []) 2 := Or.inl ⟨by decide +kernel, ok_aload_n dm_115_1 rfl⟩
set_option maxRecDepth 100000 in
theorem vv_115_2 {l : Launch} (hl : l.stackTraces = false) : cj_V1 l 115 2 (2, 1, 0, []) 3 := Or.inl ⟨by decide +kernel, ok_iload_n dm_115_2 rfl⟩
set_option maxRecDepth 100000 in
theorem vv_115_3 {l : Launch} (hl : l.stackTraces = false) : cj_V1 l 115 3 (80, 90, 2, [7]) 6 := Or.inr (Or.inr (Or.inl ⟨by decide +kernel, by decide +kernel, rfl, vc_virtual (n := 1) (q := (RK_7, TK_7, 39)) mi_90 dm_115_3 (Or.inl wm_895) wm_897 wm_p22 rfl rfl (by decide +kernel) rfl (by decide +kernel) (by decide +kernel), (vx_none rfl)⟩))
set_option maxRecDepth 100000 in
theorem vv_115_6 {l : Launch} (hl : l.stackTraces = false) : cj_V1 l 115 6 (31, 21, 0, []) 9 := Or.inl ⟨by decide +kernel, ok_if_eq dm_115_6 (by decide +kernel)⟩
set_option maxRecDepth 100000 in
theorem vv_115_9 {l : Launch} (hl : l.stackTraces = false) : cj_V1 l 115 9 (2, 2, 0, []) 10 := Or.inl ⟨by decide +kernel, ok_iload_n dm_115_9 rfl⟩
set_option maxRecDepth 100000 in
theorem vv_115_10 {l : Launch} (hl : l.stackTraces = false) : cj_V1 l 115 10 (0, 4, 0, []) 11 := Or.inl ⟨by decide +kernel, ok_iconst dm_115_10 (by decide +kernel)⟩
set_option maxRecDepth 100000 in
theorem vv_115_11 {l : Launch} (hl : l.stackTraces = false) : cj_V1 l 115 11 (81, 44, 2, []) 14 := Or.inr (Or.inr (Or.inl ⟨by decide +kernel, by decide +kernel, rfl, vc_static mi_44 dm_115_11 (Or.inl wm_888) wm_889 (by decide +kernel) (by decide +kernel) (by decide +kernel), (vx_none rfl)⟩))
set_option maxRecDepth 100000 in
theorem vv_115_14 {l : Launch} (hl : l.stackTraces = false) : cj_V1 l 115 14 (31, 21, 0, []) 17 := Or.inl ⟨by decide +kernel, ok_if_eq dm_115_14 (by decide +kernel)⟩
set_option maxRecDepth 100000 in
theorem vv_115_17 {l : Launch} (hl : l.stackTraces = false) : cj_V1 l 115 17 (0, 1, 0, []) 18 := Or.inl ⟨by decide +kernel, ok_iconst dm_115_17 (by decide +kernel)⟩
set_option maxRecDepth 100000 in
theorem vv_115_18 {l : Launch} (hl : l.stackTraces = false) : cj_V1 l 115 18 (30, 22, 0, []) 21 := Or.inl ⟨by decide +kernel, ok_goto dm_115_18 (by decide +kernel)⟩
set_option maxRecDepth 100000 in
theorem vv_115_21 {l : Launch} (hl : l.stackTraces = false) : cj_V1 l 115 21 (0, 0, 0, []) 22 := Or.inl ⟨by decide +kernel, ok_iconst dm_115_21 (by decide +kernel)⟩
set_option maxRecDepth 100000 in
theorem vv_115_22 {l : Launch} (hl : l.stackTraces = false) : cj_V1 l 115 22 (2, 3, 0, []) 23 := Or.inl ⟨by decide +kernel, ok_iload_n dm_115_22 rfl⟩
set_option maxRecDepth 100000 in
theorem vv_115_23 {l : Launch} (hl : l.stackTraces = false) : cj_V1 l 115 23 (1, 1, 0, []) 24 := Or.inl ⟨by decide +kernel, ok_iconst_m dm_115_23 (by decide +kernel)⟩
set_option maxRecDepth 100000 in
theorem vv_115_24 {l : Launch} (hl : l.stackTraces = false) : cj_V1 l 115 24 (39, 36, 0, []) 27 := Or.inl ⟨by decide +kernel, ok_icmp_lt dm_115_24 (by decide +kernel)⟩
set_option maxRecDepth 100000 in
theorem vv_115_27 {l : Launch} (hl : l.stackTraces = false) : cj_V1 l 115 27 (2, 3, 0, []) 28 := Or.inl ⟨by decide +kernel, ok_iload_n dm_115_27 rfl⟩
set_option maxRecDepth 100000 in
theorem vv_115_28 {l : Launch} (hl : l.stackTraces = false) : cj_V1 l 115 28 (0, 1, 0, []) 29 := Or.inl ⟨by decide +kernel, ok_iconst dm_115_28 (by decide +kernel)⟩
set_option maxRecDepth 100000 in
theorem vv_115_29 {l : Launch} (hl : l.stackTraces = false) : cj_V1 l 115 29 (41, 36, 0, []) 32 := Or.inl ⟨by decide +kernel, ok_icmp_gt dm_115_29 (by decide +kernel)⟩
set_option maxRecDepth 100000 in
theorem vv_115_32 {l : Launch} (hl : l.stackTraces = false) : cj_V1 l 115 32 (0, 1, 0, []) 33 := Or.inl ⟨by decide +kernel, ok_iconst dm_115_32 (by decide +kernel)⟩
set_option maxRecDepth 100000 in
theorem vv_115_33 {l : Launch} (hl : l.stackTraces = false) : cj_V1 l 115 33 (30, 37, 0, []) 36 := Or.inl ⟨by decide +kernel, ok_goto dm_115_33 (by decide +kernel)⟩
set_option maxRecDepth 100000 in
theorem vv_115_36 {l : Launch} (hl : l.stackTraces = false) : cj_V1 l 115 36 (0, 0, 0, []) 37 := Or.inl ⟨by decide +kernel, ok_iconst dm_115_36 (by decide +kernel)⟩
set_option maxRecDepth 100000 in
theorem vv_115_37 {l : Launch} (hl : l.stackTraces = false) : cj_V1 l 115 37 (80, 46, 3, [7]) 40 := Or.inr (Or.inr (Or.inl ⟨by decide +kernel, by decide +kernel, rfl, vc_virtual (n := 2) (q := (RK_7, TK_7, 39)) mi_46 dm_115_37 (Or.inl wm_865) wm_867 wm_p19 rfl rfl (by decide +kernel) rfl (by decide +kernel) (by decide +kernel), (vx_none rfl)⟩))
set_option maxRecDepth 100000 in
theorem vv_115_40 {l : Launch} (hl : l.stackTraces = false) : cj_V1 l 115 40 (32, 45, 0, []) 43 := Or.inl ⟨by decide +kernel, ok_if_ne dm_115_40 (by decide +kernel)⟩
set_option maxRecDepth 100000 in
theorem vv_115_43 {l : Launch} (hl : l.stackTraces = false) : cj_V1 l 115 43 (0, 0, 0, []) 44 := Or.inl ⟨by decide +kernel, ok_iconst dm_115_43 (by decide +kernel)⟩
set_option maxRecDepth 100000 in
theorem vv_115_44 {l : Launch} (hl : l.stackTraces = false) : cj_V1 l 115 44 (90, 0, 0, []) 45 := Or.inr (Or.inl ⟨by decide +kernel, Or.inl (Or.inl ⟨rfl, dm_115_44, rfl⟩)⟩)
set_option maxRecDepth 100000 in
theorem vv_115_45 {l : Launch} (hl : l.stackTraces = false) : cj_V1 l 115 45 (3, 0, 0, []) 46 := Or.inl ⟨by decide +kernel, ok_aload_n dm_115_45 rfl⟩
set_option maxRecDepth 100000 in
theorem vv_115_46 {l : Launch} (hl : l.stackTraces = false) : cj_V1 l 115 46 (50, 7, 13, []) 49 := Or.inl ⟨by decide +kernel, ok_getfield (N := 39) (C := RK_7) (T := TK_7) dm_115_46 rfl inK_7 (by decide +kernel) wm_746⟩
set_option maxRecDepth 100000 in
theorem vv_115_49 {l : Launch} (hl : l.stackTraces = false) : cj_V1 l 115 49 (0, 4, 0, []) 50 := Or.inl ⟨by decide +kernel, ok_iconst dm_115_49 (by decide +kernel)⟩
set_option maxRecDepth 100000 in
theorem vv_115_50 {l : Launch} (hl : l.stackTraces = false) : cj_V1 l 115 50 (2, 1, 0, []) 51 := Or.inl ⟨by decide +kernel, ok_iload_n dm_115_50 rfl⟩
set_option maxRecDepth 100000 in
theorem vv_115_51 {l : Launch} (hl : l.stackTraces = false) : cj_V1 l 115 51 (12, 0, 0, []) 52 := Or.inl ⟨by decide +kernel, ok_imul dm_115_51⟩
set_option maxRecDepth 100000 in
theorem vv_115_52 {l : Launch} (hl : l.stackTraces = false) : cj_V1 l 115 52 (2, 2, 0, []) 53 := Or.inl ⟨by decide +kernel, ok_iload_n dm_115_52 rfl⟩
set_option maxRecDepth 100000 in
theorem vv_115_53 {l : Launch} (hl : l.stackTraces = false) : cj_V1 l 115 53 (10, 0, 0, []) 54 := Or.inl ⟨by decide +kernel, ok_iadd dm_115_53⟩
set_option maxRecDepth 100000 in
theorem vv_115_54 {l : Launch} (hl : l.stackTraces = false) : cj_V1 l 115 54 (54, 0, 0, []) 55 := Or.inl ⟨by decide +kernel, ok_iaload dm_115_54 rfl⟩
set_option maxRecDepth 100000 in
theorem vv_115_55 {l : Launch} (hl : l.stackTraces = false) : cj_V1 l 115 55 (4, 4, 0, []) 57 := Or.inl ⟨by decide +kernel, ok_istore dm_115_55⟩
set_option maxRecDepth 100000 in
theorem vv_115_57 {l : Launch} (hl : l.stackTraces = false) : cj_V1 l 115 57 (3, 0, 0, []) 58 := Or.inl ⟨by decide +kernel, ok_aload_n dm_115_57 rfl⟩
set_option maxRecDepth 100000 in
theorem vv_115_58 {l : Launch} (hl : l.stackTraces = false) : cj_V1 l 115 58 (50, 7, 13, []) 61 := Or.inl ⟨by decide +kernel, ok_getfield (N := 39) (C := RK_7) (T := TK_7) dm_115_58 rfl inK_7 (by decide +kernel) wm_746⟩
set_option maxRecDepth 100000 in
theorem vv_115_61 {l : Launch} (hl : l.stackTraces = false) : cj_V1 l 115 61 (0, 4, 0, []) 62 := Or.inl ⟨by decide +kernel, ok_iconst dm_115_61 (by decide +kernel)⟩
set_option maxRecDepth 100000 in
theorem vv_115_62 {l : Launch} (hl : l.stackTraces = false) : cj_V1 l 115 62 (2, 1, 0, []) 63 := Or.inl ⟨by decide +kernel, ok_iload_n dm_115_62 rfl⟩
set_option maxRecDepth 100000 in
theorem vv_115_63 {l : Launch} (hl : l.stackTraces = false) : cj_V1 l 115 63 (12, 0, 0, []) 64 := Or.inl ⟨by decide +kernel, ok_imul dm_115_63⟩
set_option maxRecDepth 100000 in
theorem vv_115_64 {l : Launch} (hl : l.stackTraces = false) : cj_V1 l 115 64 (2, 2, 0, []) 65 := Or.inl ⟨by decide +kernel, ok_iload_n dm_115_64 rfl⟩
set_option maxRecDepth 100000 in
theorem vv_115_65 {l : Launch} (hl : l.stackTraces = false) : cj_V1 l 115 65 (10, 0, 0, []) 66 := Or.inl ⟨by decide +kernel, ok_iadd dm_115_65⟩
set_option maxRecDepth 100000 in
theorem vv_115_66 {l : Launch} (hl : l.stackTraces = false) : cj_V1 l 115 66 (2, 3, 0, []) 67 := Or.inl ⟨by decide +kernel, ok_iload_n dm_115_66 rfl⟩
set_option maxRecDepth 100000 in
theorem vv_115_67 {l : Launch} (hl : l.stackTraces = false) : cj_V1 l 115 67 (56, 0, 0, []) 68 := Or.inl ⟨by decide +kernel, ok_iastore dm_115_67 rfl⟩
set_option maxRecDepth 100000 in
theorem vv_115_68 {l : Launch} (hl : l.stackTraces = false) : cj_V1 l 115 68 (2, 4, 0, []) 70 := Or.inl ⟨by decide +kernel, ok_iload dm_115_68⟩
set_option maxRecDepth 100000 in
theorem vv_115_70 {l : Launch} (hl : l.stackTraces = false) : cj_V1 l 115 70 (90, 0, 0, []) 71 := Or.inr (Or.inl ⟨by decide +kernel, Or.inl (Or.inl ⟨rfl, dm_115_70, rfl⟩)⟩)
set_option maxRecDepth 100000 in
theorem vm_115 {l : Launch} (hl : l.stackTraces = false) : cj_Vm l 115 := cj_Vm_of (r := kc115_) rfl ⟨vv_115_0 hl, vv_115_1 hl, vv_115_2 hl, vv_115_3 hl, vv_115_6 hl, vv_115_9 hl, vv_115_10 hl, vv_115_11 hl, vv_115_14 hl, vv_115_17 hl, vv_115_18 hl, vv_115_21 hl, vv_115_22 hl, vv_115_23 hl, vv_115_24 hl, vv_115_27 hl, vv_115_28 hl, vv_115_29 hl, vv_115_32 hl, vv_115_33 hl, vv_115_36 hl, vv_115_37 hl, vv_115_40 hl, vv_115_43 hl, vv_115_44 hl, vv_115_45 hl, vv_115_46 hl, vv_115_49 hl, vv_115_50 hl, vv_115_51 hl, vv_115_52 hl, vv_115_53 hl, vv_115_54 hl, vv_115_55 hl, vv_115_57 hl, vv_115_58 hl, vv_115_61 hl, vv_115_62 hl, vv_115_63 hl, vv_115_64 hl, vv_115_65 hl, vv_115_66 hl, vv_115_67 hl, vv_115_68 hl, vv_115_70 hl, trivial⟩
set_option maxRecDepth 100000 in
theorem vv_116_0 {l : Launch} (hl : l.stackTraces = false) : cj_V1 l 116 0 (0, 1, 0, []) 1 := Or.inl ⟨by decide +kernel, ok_iconst dm_116_0 (by decide +kernel)⟩
set_option maxRecDepth 100000 in
theorem vv_116_1 {l : Launch} (hl : l.stackTraces = false) : cj_V1 l 116 1 (4, 3, 0, []) 2 := Or.inl ⟨by decide +kernel, ok_istore_n dm_116_1 rfl⟩
set_option maxRecDepth 100000 in
theorem vv_116_2 {l : Launch} (hl : l.stackTraces = false) : cj_V1 l 116 2 (0, 0, 0, []) 3 := Or.inl ⟨by decide +kernel, ok_iconst dm_116_2 (by decide +kernel)⟩
set_option maxRecDepth 100000 in
theorem vv_116_3 {l : Launch} (hl : l.stackTraces = false) : cj_V1 l 116 3 (4, 4, 0, []) 5 := Or.inl ⟨by decide +kernel, ok_istore dm_116_3⟩
set_option maxRecDepth 100000 in
theorem vv_116_5 {l : Launch} (hl : l.stackTraces = false) : cj_V1 l 116 5 (2, 4, 0, []) 7 := Or.inl ⟨by decide +kernel, ok_iload dm_116_5⟩
set_option maxRecDepth 100000 in
theorem vv_116_7 {l : Launch} (hl : l.stackTraces = false) : cj_V1 l 116 7 (3, 0, 0, []) 8 := Or.inl ⟨by decide +kernel, ok_aload_n dm_116_7 rfl⟩
set_option maxRecDepth 100000 in
theorem vv_116_8 {l : Launch} (hl : l.stackTraces = false) : cj_V1 l 116 8 (50, 7, 3, []) 11 := Or.inl ⟨by decide +kernel, ok_getfield (N := 39) (C := RK_7) (T := TK_7) dm_116_8 rfl inK_7 (by decide +kernel) wm_736⟩
set_option maxRecDepth 100000 in
theorem vv_116_11 {l : Launch} (hl : l.stackTraces = false) : cj_V1 l 116 11 (40, 55, 0, []) 14 := Or.inl ⟨by decide +kernel, ok_icmp_ge dm_116_11 (by decide +kernel)⟩
set_option maxRecDepth 100000 in
theorem vv_116_14 {l : Launch} (hl : l.stackTraces = false) : cj_V1 l 116 14 (2, 3, 0, []) 15 := Or.inl ⟨by decide +kernel, ok_iload_n dm_116_14 rfl⟩
set_option maxRecDepth 100000 in
theorem vv_116_15 {l : Launch} (hl : l.stackTraces = false) : cj_V1 l 116 15 (31, 47, 0, []) 18 := Or.inl ⟨by decide +kernel, ok_if_eq dm_116_15 (by decide +kernel)⟩
set_option maxRecDepth 100000 in
theorem vv_116_18 {l : Launch} (hl : l.stackTraces = false) : cj_V1 l 116 18 (3, 0, 0, []) 19 := Or.inl ⟨by decide +kernel, ok_aload_n dm_116_18 rfl⟩
set_option maxRecDepth 100000 in
theorem vv_116_19 {l : Launch} (hl : l.stackTraces = false) : cj_V1 l 116 19 (50, 7, 4, []) 22 := Or.inl ⟨by decide +kernel, ok_getfield (N := 39) (C := RK_7) (T := TK_7) dm_116_19 rfl inK_7 (by decide +kernel) wm_737⟩
set_option maxRecDepth 100000 in
theorem vv_116_22 {l : Launch} (hl : l.stackTraces = false) : cj_V1 l 116 22 (2, 4, 0, []) 24 := Or.inl ⟨by decide +kernel, ok_iload dm_116_22⟩
set_option maxRecDepth 100000 in
theorem vv_116_24 {l : Launch} (hl : l.stackTraces = false) : cj_V1 l 116 24 (54, 0, 0, []) 25 := Or.inl ⟨by decide +kernel, ok_iaload dm_116_24 rfl⟩
set_option maxRecDepth 100000 in
theorem vv_116_25 {l : Launch} (hl : l.stackTraces = false) : cj_V1 l 116 25 (81, 49, 1, []) 28 := Or.inr (Or.inr (Or.inl ⟨by decide +kernel, by decide +kernel, rfl, vc_static mi_49 dm_116_25 (Or.inl wm_881) wm_882 (by decide +kernel) (by decide +kernel) (by decide +kernel), (vx_none rfl)⟩))
set_option maxRecDepth 100000 in
theorem vv_116_28 {l : Launch} (hl : l.stackTraces = false) : cj_V1 l 116 28 (32, 43, 0, []) 31 := Or.inl ⟨by decide +kernel, ok_if_ne dm_116_28 (by decide +kernel)⟩
set_option maxRecDepth 100000 in
theorem vv_116_31 {l : Launch} (hl : l.stackTraces = false) : cj_V1 l 116 31 (3, 0, 0, []) 32 := Or.inl ⟨by decide +kernel, ok_aload_n dm_116_31 rfl⟩
set_option maxRecDepth 100000 in
theorem vv_116_32 {l : Launch} (hl : l.stackTraces = false) : cj_V1 l 116 32 (50, 7, 4, []) 35 := Or.inl ⟨by decide +kernel, ok_getfield (N := 39) (C := RK_7) (T := TK_7) dm_116_32 rfl inK_7 (by decide +kernel) wm_737⟩
set_option maxRecDepth 100000 in
theorem vv_116_35 {l : Launch} (hl : l.stackTraces = false) : cj_V1 l 116 35 (2, 4, 0, []) 37 := Or.inl ⟨by decide +kernel, ok_iload dm_116_35⟩
set_option maxRecDepth 100000 in
theorem vv_116_37 {l : Launch} (hl : l.stackTraces = false) : cj_V1 l 116 37 (54, 0, 0, []) 38 := Or.inl ⟨by decide +kernel, ok_iaload dm_116_37 rfl⟩
set_option maxRecDepth 100000 in
theorem vv_116_38 {l : Launch} (hl : l.stackTraces = false) : cj_V1 l 116 38 (0, 32, 0, []) 40 := Or.inl ⟨by decide +kernel, ok_bipush dm_116_38 (by decide +kernel)⟩
set_option maxRecDepth 100000 in
theorem vv_116_40 {l : Launch} (hl : l.stackTraces = false) : cj_V1 l 116 40 (38, 47, 0, []) 43 := Or.inl ⟨by decide +kernel, ok_icmp_ne dm_116_40 (by decide +kernel)⟩
set_option maxRecDepth 100000 in
theorem vv_116_43 {l : Launch} (hl : l.stackTraces = false) : cj_V1 l 116 43 (0, 1, 0, []) 44 := Or.inl ⟨by decide +kernel, ok_iconst dm_116_43 (by decide +kernel)⟩
set_option maxRecDepth 100000 in
theorem vv_116_44 {l : Launch} (hl : l.stackTraces = false) : cj_V1 l 116 44 (30, 48, 0, []) 47 := Or.inl ⟨by decide +kernel, ok_goto dm_116_44 (by decide +kernel)⟩
set_option maxRecDepth 100000 in
theorem vv_116_47 {l : Launch} (hl : l.stackTraces = false) : cj_V1 l 116 47 (0, 0, 0, []) 48 := Or.inl ⟨by decide +kernel, ok_iconst dm_116_47 (by decide +kernel)⟩
set_option maxRecDepth 100000 in
theorem vv_116_48 {l : Launch} (hl : l.stackTraces = false) : cj_V1 l 116 48 (4, 3, 0, []) 49 := Or.inl ⟨by decide +kernel, ok_istore_n dm_116_48 rfl⟩
set_option maxRecDepth 100000 in
theorem vv_116_49 {l : Launch} (hl : l.stackTraces = false) : cj_V1 l 116 49 (6, 4, 1, []) 52 := Or.inl ⟨by decide +kernel, ok_iinc6 dm_116_49 (by decide +kernel)⟩
set_option maxRecDepth 100000 in
theorem vv_116_52 {l : Launch} (hl : l.stackTraces = false) : cj_V1 l 116 52 (30, 5, 0, []) 55 := Or.inl ⟨by decide +kernel, ok_goto dm_116_52 (by decide +kernel)⟩
set_option maxRecDepth 100000 in
theorem vv_116_55 {l : Launch} (hl : l.stackTraces = false) : cj_V1 l 116 55 (3, 0, 0, []) 56 := Or.inl ⟨by decide +kernel, ok_aload_n dm_116_55 rfl⟩
set_option maxRecDepth 100000 in
theorem vv_116_56 {l : Launch} (hl : l.stackTraces = false) : cj_V1 l 116 56 (3, 0, 0, []) 57 := Or.inl ⟨by decide +kernel, ok_aload_n dm_116_56 rfl⟩
set_option maxRecDepth 100000 in
theorem vv_116_57 {l : Launch} (hl : l.stackTraces = false) : cj_V1 l 116 57 (2, 1, 0, []) 58 := Or.inl ⟨by decide +kernel, ok_iload_n dm_116_57 rfl⟩
set_option maxRecDepth 100000 in
theorem vv_116_58 {l : Launch} (hl : l.stackTraces = false) : cj_V1 l 116 58 (80, 90, 2, [7]) 61 := Or.inr (Or.inr (Or.inl ⟨by decide +kernel, by decide +kernel, rfl, vc_virtual (n := 1) (q := (RK_7, TK_7, 39)) mi_90 dm_116_58 (Or.inl wm_895) wm_897 wm_p22 rfl rfl (by decide +kernel) rfl (by decide +kernel) (by decide +kernel), (vx_none rfl)⟩))
set_option maxRecDepth 100000 in
theorem vv_116_61 {l : Launch} (hl : l.stackTraces = false) : cj_V1 l 116 61 (31, 76, 0, []) 64 := Or.inl ⟨by decide +kernel, ok_if_eq dm_116_61 (by decide +kernel)⟩
set_option maxRecDepth 100000 in
theorem vv_116_64 {l : Launch} (hl : l.stackTraces = false) : cj_V1 l 116 64 (2, 2, 0, []) 65 := Or.inl ⟨by decide +kernel, ok_iload_n dm_116_64 rfl⟩
set_option maxRecDepth 100000 in
theorem vv_116_65 {l : Launch} (hl : l.stackTraces = false) : cj_V1 l 116 65 (0, 4, 0, []) 66 := Or.inl ⟨by decide +kernel, ok_iconst dm_116_65 (by decide +kernel)⟩
set_option maxRecDepth 100000 in
theorem vv_116_66 {l : Launch} (hl : l.stackTraces = false) : cj_V1 l 116 66 (81, 44, 2, []) 69 := Or.inr (Or.inr (Or.inl ⟨by decide +kernel, by decide +kernel, rfl, vc_static mi_44 dm_116_66 (Or.inl wm_888) wm_889 (by decide +kernel) (by decide +kernel) (by decide +kernel), (vx_none rfl)⟩))
set_option maxRecDepth 100000 in
theorem vv_116_69 {l : Launch} (hl : l.stackTraces = false) : cj_V1 l 116 69 (31, 76, 0, []) 72 := Or.inl ⟨by decide +kernel, ok_if_eq dm_116_69 (by decide +kernel)⟩
set_option maxRecDepth 100000 in
theorem vv_116_72 {l : Launch} (hl : l.stackTraces = false) : cj_V1 l 116 72 (0, 1, 0, []) 73 := Or.inl ⟨by decide +kernel, ok_iconst dm_116_72 (by decide +kernel)⟩
set_option maxRecDepth 100000 in
theorem vv_116_73 {l : Launch} (hl : l.stackTraces = false) : cj_V1 l 116 73 (30, 77, 0, []) 76 := Or.inl ⟨by decide +kernel, ok_goto dm_116_73 (by decide +kernel)⟩
set_option maxRecDepth 100000 in
theorem vv_116_76 {l : Launch} (hl : l.stackTraces = false) : cj_V1 l 116 76 (0, 0, 0, []) 77 := Or.inl ⟨by decide +kernel, ok_iconst dm_116_76 (by decide +kernel)⟩
set_option maxRecDepth 100000 in
theorem vv_116_77 {l : Launch} (hl : l.stackTraces = false) : cj_V1 l 116 77 (2, 3, 0, []) 78 := Or.inl ⟨by decide +kernel, ok_iload_n dm_116_77 rfl⟩
set_option maxRecDepth 100000 in
theorem vv_116_78 {l : Launch} (hl : l.stackTraces = false) : cj_V1 l 116 78 (80, 46, 3, [7]) 81 := Or.inr (Or.inr (Or.inl ⟨by decide +kernel, by decide +kernel, rfl, vc_virtual (n := 2) (q := (RK_7, TK_7, 39)) mi_46 dm_116_78 (Or.inl wm_865) wm_867 wm_p19 rfl rfl (by decide +kernel) rfl (by decide +kernel) (by decide +kernel), (vx_none rfl)⟩))
set_option maxRecDepth 100000 in
theorem vv_116_81 {l : Launch} (hl : l.stackTraces = false) : cj_V1 l 116 81 (32, 86, 0, []) 84 := Or.inl ⟨by decide +kernel, ok_if_ne dm_116_81 (by decide +kernel)⟩
set_option maxRecDepth 100000 in
theorem vv_116_84 {l : Launch} (hl : l.stackTraces = false) : cj_V1 l 116 84 (0, 0, 0, []) 85 := Or.inl ⟨by decide +kernel, ok_iconst dm_116_84 (by decide +kernel)⟩
set_option maxRecDepth 100000 in
theorem vv_116_85 {l : Launch} (hl : l.stackTraces = false) : cj_V1 l 116 85 (90, 0, 0, []) 86 := Or.inr (Or.inl ⟨by decide +kernel, Or.inl (Or.inl ⟨rfl, dm_116_85, rfl⟩)⟩)
set_option maxRecDepth 100000 in
theorem vv_116_86 {l : Launch} (hl : l.stackTraces = false) : cj_V1 l 116 86 (0, 4, 0, []) 87 := Or.inl ⟨by decide +kernel, ok_iconst dm_116_86 (by decide +kernel)⟩
set_option maxRecDepth 100000 in
theorem vv_116_87 {l : Launch} (hl : l.stackTraces = false) : cj_V1 l 116 87 (2, 1, 0, []) 88 := Or.inl ⟨by decide +kernel, ok_iload_n dm_116_87 rfl⟩
set_option maxRecDepth 100000 in
theorem vv_116_88 {l : Launch} (hl : l.stackTraces = false) : cj_V1 l 116 88 (12, 0, 0, []) 89 := Or.inl ⟨by decide +kernel, ok_imul dm_116_88⟩
set_option maxRecDepth 100000 in
theorem vv_116_89 {l : Launch} (hl : l.stackTraces = false) : cj_V1 l 116 89 (2, 2, 0, []) 90 := Or.inl ⟨by decide +kernel, ok_iload_n dm_116_89 rfl⟩
set_option maxRecDepth 100000 in
theorem vv_116_90 {l : Launch} (hl : l.stackTraces = false) : cj_V1 l 116 90 (10, 0, 0, []) 91 := Or.inl ⟨by decide +kernel, ok_iadd dm_116_90⟩
set_option maxRecDepth 100000 in
theorem vv_116_91 {l : Launch} (hl : l.stackTraces = false) : cj_V1 l 116 91 (4, 4, 0, []) 93 := Or.inl ⟨by decide +kernel, ok_istore dm_116_91⟩
set_option maxRecDepth 100000 in
theorem vv_116_93 {l : Launch} (hl : l.stackTraces = false) : cj_V1 l 116 93 (3, 0, 0, []) 94 := Or.inl ⟨by decide +kernel, ok_aload_n dm_116_93 rfl⟩
set_option maxRecDepth 100000 in
theorem vv_116_94 {l : Launch} (hl : l.stackTraces = false) : cj_V1 l 116 94 (50, 7, 10, []) 97 := Or.inl ⟨by decide +kernel, ok_getfield (N := 39) (C := RK_7) (T := TK_7) dm_116_94 rfl inK_7 (by decide +kernel) wm_743⟩
set_option maxRecDepth 100000 in
theorem vv_116_97 {l : Launch} (hl : l.stackTraces = false) : cj_V1 l 116 97 (2, 4, 0, []) 99 := Or.inl ⟨by decide +kernel, ok_iload dm_116_97⟩
set_option maxRecDepth 100000 in
theorem vv_116_99 {l : Launch} (hl : l.stackTraces = false) : cj_V1 l 116 99 (3, 0, 0, []) 100 := Or.inl ⟨by decide +kernel, ok_aload_n dm_116_99 rfl⟩
set_option maxRecDepth 100000 in
theorem vv_116_100 {l : Launch} (hl : l.stackTraces = false) : cj_V1 l 116 100 (50, 7, 3, []) 103 := Or.inl ⟨by decide +kernel, ok_getfield (N := 39) (C := RK_7) (T := TK_7) dm_116_100 rfl inK_7 (by decide +kernel) wm_736⟩
set_option maxRecDepth 100000 in
theorem vv_116_103 {l : Launch} (hl : l.stackTraces = false) : cj_V1 l 116 103 (56, 0, 0, []) 104 := Or.inl ⟨by decide +kernel, ok_iastore dm_116_103 rfl⟩
set_option maxRecDepth 100000 in
theorem vv_116_104 {l : Launch} (hl : l.stackTraces = false) : cj_V1 l 116 104 (0, 0, 0, []) 105 := Or.inl ⟨by decide +kernel, ok_iconst dm_116_104 (by decide +kernel)⟩
set_option maxRecDepth 100000 in
theorem vv_116_105 {l : Launch} (hl : l.stackTraces = false) : cj_V1 l 116 105 (4, 5, 0, []) 107 := Or.inl ⟨by decide +kernel, ok_istore dm_116_105⟩
set_option maxRecDepth 100000 in
theorem vv_116_107 {l : Launch} (hl : l.stackTraces = false) : cj_V1 l 116 107 (2, 5, 0, []) 109 := Or.inl ⟨by decide +kernel, ok_iload dm_116_107⟩
set_option maxRecDepth 100000 in
theorem vv_116_109 {l : Launch} (hl : l.stackTraces = false) : cj_V1 l 116 109 (3, 0, 0, []) 110 := Or.inl ⟨by decide +kernel, ok_aload_n dm_116_109 rfl⟩
set_option maxRecDepth 100000 in
theorem vv_116_110 {l : Launch} (hl : l.stackTraces = false) : cj_V1 l 116 110 (50, 7, 3, []) 113 := Or.inl ⟨by decide +kernel, ok_getfield (N := 39) (C := RK_7) (T := TK_7) dm_116_110 rfl inK_7 (by decide +kernel) wm_736⟩
set_option maxRecDepth 100000 in
theorem vv_116_113 {l : Launch} (hl : l.stackTraces = false) : cj_V1 l 116 113 (40, 142, 0, []) 116 := Or.inl ⟨by decide +kernel, ok_icmp_ge dm_116_113 (by decide +kernel)⟩
set_option maxRecDepth 100000 in
theorem vv_116_116 {l : Launch} (hl : l.stackTraces = false) : cj_V1 l 116 116 (3, 0, 0, []) 117 := Or.inl ⟨by decide +kernel, ok_aload_n dm_116_116 rfl⟩
set_option maxRecDepth 100000 in
theorem vv_116_117 {l : Launch} (hl : l.stackTraces = false) : cj_V1 l 116 117 (50, 7, 11, []) 120 := Or.inl ⟨by decide +kernel, ok_getfield (N := 39) (C := RK_7) (T := TK_7) dm_116_117 rfl inK_7 (by decide +kernel) wm_744⟩
set_option maxRecDepth 100000 in
theorem vv_116_120 {l : Launch} (hl : l.stackTraces = false) : cj_V1 l 116 120 (0, 32, 0, []) 122 := Or.inl ⟨by decide +kernel, ok_bipush dm_116_120 (by decide +kernel)⟩
set_option maxRecDepth 100000 in
theorem vv_116_122 {l : Launch} (hl : l.stackTraces = false) : cj_V1 l 116 122 (2, 4, 0, []) 124 := Or.inl ⟨by decide +kernel, ok_iload dm_116_122⟩
set_option maxRecDepth 100000 in
theorem vv_116_124 {l : Launch} (hl : l.stackTraces = false) : cj_V1 l 116 124 (12, 0, 0, []) 125 := Or.inl ⟨by decide +kernel, ok_imul dm_116_124⟩
set_option maxRecDepth 100000 in
theorem vv_116_125 {l : Launch} (hl : l.stackTraces = false) : cj_V1 l 116 125 (2, 5, 0, []) 127 := Or.inl ⟨by decide +kernel, ok_iload dm_116_125⟩
set_option maxRecDepth 100000 in
theorem vv_116_127 {l : Launch} (hl : l.stackTraces = false) : cj_V1 l 116 127 (10, 0, 0, []) 128 := Or.inl ⟨by decide +kernel, ok_iadd dm_116_127⟩
set_option maxRecDepth 100000 in
theorem vv_116_128 {l : Launch} (hl : l.stackTraces = false) : cj_V1 l 116 128 (3, 0, 0, []) 129 := Or.inl ⟨by decide +kernel, ok_aload_n dm_116_128 rfl⟩
set_option maxRecDepth 100000 in
theorem vv_116_129 {l : Launch} (hl : l.stackTraces = false) : cj_V1 l 116 129 (50, 7, 4, []) 132 := Or.inl ⟨by decide +kernel, ok_getfield (N := 39) (C := RK_7) (T := TK_7) dm_116_129 rfl inK_7 (by decide +kernel) wm_737⟩
set_option maxRecDepth 100000 in
theorem vv_116_132 {l : Launch} (hl : l.stackTraces = false) : cj_V1 l 116 132 (2, 5, 0, []) 134 := Or.inl ⟨by decide +kernel, ok_iload dm_116_132⟩
set_option maxRecDepth 100000 in
theorem vv_116_134 {l : Launch} (hl : l.stackTraces = false) : cj_V1 l 116 134 (54, 0, 0, []) 135 := Or.inl ⟨by decide +kernel, ok_iaload dm_116_134 rfl⟩
set_option maxRecDepth 100000 in
theorem vv_116_135 {l : Launch} (hl : l.stackTraces = false) : cj_V1 l 116 135 (56, 0, 0, []) 136 := Or.inl ⟨by decide +kernel, ok_iastore dm_116_135 rfl⟩
set_option maxRecDepth 100000 in
theorem vv_116_136 {l : Launch} (hl : l.stackTraces = false) : cj_V1 l 116 136 (6, 5, 1, []) 139 := Or.inl ⟨by decide +kernel, ok_iinc6 dm_116_136 (by decide +kernel)⟩
set_option maxRecDepth 100000 in
theorem vv_116_139 {l : Launch} (hl : l.stackTraces = false) : cj_V1 l 116 139 (30, 107, 0, []) 142 := Or.inl ⟨by decide +kernel, ok_goto dm_116_139 (by decide +kernel)⟩
set_option maxRecDepth 100000 in
theorem vv_116_142 {l : Launch} (hl : l.stackTraces = false) : cj_V1 l 116 142 (3, 0, 0, []) 143 := Or.inl ⟨by decide +kernel, ok_aload_n dm_116_142 rfl⟩
set_option maxRecDepth 100000 in
theorem vv_116_143 {l : Launch} (hl : l.stackTraces = false) : cj_V1 l 116 143 (0, 0, 0, []) 144 := Or.inl ⟨by decide +kernel, ok_iconst dm_116_143 (by decide +kernel)⟩
set_option maxRecDepth 100000 in
theorem vv_116_144 {l : Launch} (hl : l.stackTraces = false) : cj_V1 l 116 144 (51, 7, 3, [0]) 147 := Or.inl ⟨by decide +kernel, ok_putfield (N := 39) (C := RK_7) (T := TK_7) (ty0 := tyK_7) dm_116_144 rfl inK_7 (by decide +kernel) wm_736 tyK_7_ok nmK_7 (Or.inl rfl) (Or.inl ⟨rfl, rfl⟩)⟩
set_option maxRecDepth 100000 in
theorem vv_116_147 {l : Launch} (hl : l.stackTraces = false) : cj_V1 l 116 147 (3, 0, 0, []) 148 := Or.inl ⟨by decide +kernel, ok_aload_n dm_116_147 rfl⟩
set_option maxRecDepth 100000 in
theorem vv_116_148 {l : Launch} (hl : l.stackTraces = false) : cj_V1 l 116 148 (50, 7, 10, []) 151 := Or.inl ⟨by decide +kernel, ok_getfield (N := 39) (C := RK_7) (T := TK_7) dm_116_148 rfl inK_7 (by decide +kernel) wm_743⟩
set_option maxRecDepth 100000 in
theorem vv_116_151 {l : Launch} (hl : l.stackTraces = false) : cj_V1 l 116 151 (2, 4, 0, []) 153 := Or.inl ⟨by decide +kernel, ok_iload dm_116_151⟩
set_option maxRecDepth 100000 in
theorem vv_116_153 {l : Launch} (hl : l.stackTraces = false) : cj_V1 l 116 153 (54, 0, 0, []) 154 := Or.inl ⟨by decide +kernel, ok_iaload dm_116_153 rfl⟩
set_option maxRecDepth 100000 in
theorem vv_116_154 {l : Launch} (hl : l.stackTraces = false) : cj_V1 l 116 154 (90, 0, 0, []) 155 := Or.inr (Or.inl ⟨by decide +kernel, Or.inl (Or.inl ⟨rfl, dm_116_154, rfl⟩)⟩)
set_option maxRecDepth 100000 in
theorem vm_116 {l : Launch} (hl : l.stackTraces = false) : cj_Vm l 116 := cj_Vm_of (r := kc116_) rfl ⟨vv_116_0 hl, vv_116_1 hl, vv_116_2 hl, vv_116_3 hl, vv_116_5 hl, vv_116_7 hl, vv_116_8 hl, vv_116_11 hl, vv_116_14 hl, vv_116_15 hl, vv_116_18 hl, vv_116_19 hl, vv_116_22 hl, vv_116_24 hl, vv_116_25 hl, vv_116_28 hl, vv_116_31 hl, vv_116_32 hl, vv_116_35 hl, vv_116_37 hl, vv_116_38 hl, vv_116_40 hl, vv_116_43 hl, vv_116_44 hl, vv_116_47 hl, vv_116_48 hl, vv_116_49 hl, vv_116_52 hl, vv_116_55 hl, vv_116_56 hl, vv_116_57 hl, vv_116_58 hl, vv_116_61 hl, vv_116_64 hl, vv_116_65 hl, vv_116_66 hl, vv_116_69 hl, vv_116_72 hl, vv_116_73 hl, vv_116_76 hl, vv_116_77 hl, vv_116_78 hl, vv_116_81 hl, vv_116_84 hl, vv_116_85 hl, vv_116_86 hl, vv_116_87 hl, vv_116_88 hl, vv_116_89 hl, vv_116_90 hl, vv_116_91 hl, vv_116_93 hl, vv_116_94 hl, vv_116_97 hl, vv_116_99 hl, vv_116_100 hl, vv_116_103 hl, vv_116_104 hl, vv_116_105 hl, vv_116_107 hl, vv_116_109 hl, vv_116_110 hl, vv_116_113 hl, vv_116_116 hl, vv_116_117 hl, vv_116_120 hl, vv_116_122 hl, vv_116_124 hl, vv_116_125 hl, vv_116_127 hl, vv_116_128 hl, vv_116_129 hl, vv_116_132 hl, vv_116_134 hl, vv_116_135 hl, vv_116_136 hl, vv_116_139 hl, vv_116_142 hl, vv_116_143 hl, vv_116_144 hl, vv_116_147 hl, vv_116_148 hl, vv_116_151 hl, vv_116_153 hl, vv_116_154 hl, trivial⟩
set_option maxRecDepth 100000 in
theorem vv_117_0 {l : Launch} (hl : l.stackTraces = false) : cj_V1 l 117 0 (3, 0, 0, []) 1 := Or.inl ⟨by decide +kernel, ok_aload_n dm_117_0 rfl⟩
set_option maxRecDepth 100000 in
theorem vv_117_1 {l : Launch} (hl : l.stackTraces = false) : cj_V1 l 117 1 (2, 1, 0, []) 2 := Or.inl ⟨by decide +kernel, ok_iload_n dm_117_1 rfl⟩
set_option maxRecDepth 100000 in
theorem vv_117_2 {l : Launch} (hl : l.stackTraces = false) : cj_V1 l 117 2 (0, 4, 0, []) 3 := Or.inl ⟨by decide +kernel, ok_iconst dm_117_2 (by decide +kernel)⟩
set_option maxRecDepth 100000 in
theorem vv_117_3 {l : Launch} (hl : l.stackTraces = false) : cj_V1 l 117 3 (81, 44, 2, []) 6 := Or.inr (Or.inr (Or.inl ⟨by decide +kernel, by decide +kernel, rfl, vc_static mi_44 dm_117_3 (Or.inl wm_888) wm_889 (by decide +kernel) (by decide +kernel) (by decide +kernel), (vx_none rfl)⟩))
set_option maxRecDepth 100000 in
theorem vv_117_6 {l : Launch} (hl : l.stackTraces = false) : cj_V1 l 117 6 (31, 17, 0, []) 9 := Or.inl ⟨by decide +kernel, ok_if_eq dm_117_6 (by decide +kernel)⟩
set_option maxRecDepth 100000 in
theorem vv_117_9 {l : Launch} (hl : l.stackTraces = false) : cj_V1 l 117 9 (2, 2, 0, []) 10 := Or.inl ⟨by decide +kernel, ok_iload_n dm_117_9 rfl⟩
set_option maxRecDepth 100000 in
theorem vv_117_10 {l : Launch} (hl : l.stackTraces = false) : cj_V1 l 117 10 (33, 17, 0, []) 13 := Or.inl ⟨by decide +kernel, ok_if_lt dm_117_10 (by decide +kernel)⟩
set_option maxRecDepth 100000 in
theorem vv_117_13 {l : Launch} (hl : l.stackTraces = false) : cj_V1 l 117 13 (0, 1, 0, []) 14 := Or.inl ⟨by decide +kernel, ok_iconst dm_117_13 (by decide +kernel)⟩
set_option maxRecDepth 100000 in
theorem vv_117_14 {l : Launch} (hl : l.stackTraces = false) : cj_V1 l 117 14 (30, 18, 0, []) 17 := Or.inl ⟨by decide +kernel, ok_goto dm_117_14 (by decide +kernel)⟩
set_option maxRecDepth 100000 in
theorem vv_117_17 {l : Launch} (hl : l.stackTraces = false) : cj_V1 l 117 17 (0, 0, 0, []) 18 := Or.inl ⟨by decide +kernel, ok_iconst dm_117_17 (by decide +kernel)⟩
set_option maxRecDepth 100000 in
theorem vv_117_18 {l : Launch} (hl : l.stackTraces = false) : cj_V1 l 117 18 (0, 1, 0, []) 19 := Or.inl ⟨by decide +kernel, ok_iconst dm_117_18 (by decide +kernel)⟩
set_option maxRecDepth 100000 in
theorem vv_117_19 {l : Launch} (hl : l.stackTraces = false) : cj_V1 l 117 19 (80, 46, 3, [7]) 22 := Or.inr (Or.inr (Or.inl ⟨by decide +kernel, by decide +kernel, rfl, vc_virtual (n := 2) (q := (RK_7, TK_7, 39)) mi_46 dm_117_19 (Or.inl wm_865) wm_867 wm_p19 rfl rfl (by decide +kernel) rfl (by decide +kernel) (by decide +kernel), (vx_none rfl)⟩))
set_option maxRecDepth 100000 in
theorem vv_117_22 {l : Launch} (hl : l.stackTraces = false) : cj_V1 l 117 22 (32, 27, 0, []) 25 := Or.inl ⟨by decide +kernel, ok_if_ne dm_117_22 (by decide +kernel)⟩
set_option maxRecDepth 100000 in
theorem vv_117_25 {l : Launch} (hl : l.stackTraces = false) : cj_V1 l 117 25 (0, 0, 0, []) 26 := Or.inl ⟨by decide +kernel, ok_iconst dm_117_25 (by decide +kernel)⟩
set_option maxRecDepth 100000 in
theorem vv_117_26 {l : Launch} (hl : l.stackTraces = false) : cj_V1 l 117 26 (90, 0, 0, []) 27 := Or.inr (Or.inl ⟨by decide +kernel, Or.inl (Or.inl ⟨rfl, dm_117_26, rfl⟩)⟩)
set_option maxRecDepth 100000 in
theorem vv_117_27 {l : Launch} (hl : l.stackTraces = false) : cj_V1 l 117 27 (1, 1, 0, []) 28 := Or.inl ⟨by decide +kernel, ok_iconst_m dm_117_27 (by decide +kernel)⟩
set_option maxRecDepth 100000 in
theorem vv_117_28 {l : Launch} (hl : l.stackTraces = false) : cj_V1 l 117 28 (4, 3, 0, []) 29 := Or.inl ⟨by decide +kernel, ok_istore_n dm_117_28 rfl⟩
set_option maxRecDepth 100000 in
theorem vv_117_29 {l : Launch} (hl : l.stackTraces = false) : cj_V1 l 117 29 (0, 0, 0, []) 30 := Or.inl ⟨by decide +kernel, ok_iconst dm_117_29 (by decide +kernel)⟩
set_option maxRecDepth 100000 in
theorem vv_117_30 {l : Launch} (hl : l.stackTraces = false) : cj_V1 l 117 30 (4, 4, 0, []) 32 := Or.inl ⟨by decide +kernel, ok_istore dm_117_30⟩
set_option maxRecDepth 100000 in
theorem vv_117_32 {l : Launch} (hl : l.stackTraces = false) : cj_V1 l 117 32 (2, 4, 0, []) 34 := Or.inl ⟨by decide +kernel, ok_iload dm_117_32⟩
set_option maxRecDepth 100000 in
theorem vv_117_34 {l : Launch} (hl : l.stackTraces = false) : cj_V1 l 117 34 (3, 0, 0, []) 35 := Or.inl ⟨by decide +kernel, ok_aload_n dm_117_34 rfl⟩
set_option maxRecDepth 100000 in
theorem vv_117_35 {l : Launch} (hl : l.stackTraces = false) : cj_V1 l 117 35 (50, 7, 8, []) 38 := Or.inl ⟨by decide +kernel, ok_getfield (N := 39) (C := RK_7) (T := TK_7) dm_117_35 rfl inK_7 (by decide +kernel) wm_741⟩
set_option maxRecDepth 100000 in
theorem vv_117_38 {l : Launch} (hl : l.stackTraces = false) : cj_V1 l 117 38 (40, 139, 0, []) 41 := Or.inl ⟨by decide +kernel, ok_icmp_ge dm_117_38 (by decide +kernel)⟩
set_option maxRecDepth 100000 in
theorem vv_117_41 {l : Launch} (hl : l.stackTraces = false) : cj_V1 l 117 41 (0, 0, 0, []) 42 := Or.inl ⟨by decide +kernel, ok_iconst dm_117_41 (by decide +kernel)⟩
set_option maxRecDepth 100000 in
theorem vv_117_42 {l : Launch} (hl : l.stackTraces = false) : cj_V1 l 117 42 (4, 5, 0, []) 44 := Or.inl ⟨by decide +kernel, ok_istore dm_117_42⟩
set_option maxRecDepth 100000 in
theorem vv_117_44 {l : Launch} (hl : l.stackTraces = false) : cj_V1 l 117 44 (0, 0, 0, []) 45 := Or.inl ⟨by decide +kernel, ok_iconst dm_117_44 (by decide +kernel)⟩
set_option maxRecDepth 100000 in
theorem vv_117_45 {l : Launch} (hl : l.stackTraces = false) : cj_V1 l 117 45 (4, 6, 0, []) 47 := Or.inl ⟨by decide +kernel, ok_istore dm_117_45⟩
set_option maxRecDepth 100000 in
theorem vv_117_47 {l : Launch} (hl : l.stackTraces = false) : cj_V1 l 117 47 (2, 6, 0, []) 49 := Or.inl ⟨by decide +kernel, ok_iload dm_117_47⟩
set_option maxRecDepth 100000 in
theorem vv_117_49 {l : Launch} (hl : l.stackTraces = false) : cj_V1 l 117 49 (3, 0, 0, []) 50 := Or.inl ⟨by decide +kernel, ok_aload_n dm_117_49 rfl⟩
set_option maxRecDepth 100000 in
theorem vv_117_50 {l : Launch} (hl : l.stackTraces = false) : cj_V1 l 117 50 (50, 7, 8, []) 53 := Or.inl ⟨by decide +kernel, ok_getfield (N := 39) (C := RK_7) (T := TK_7) dm_117_50 rfl inK_7 (by decide +kernel) wm_741⟩
set_option maxRecDepth 100000 in
theorem vv_117_53 {l : Launch} (hl : l.stackTraces = false) : cj_V1 l 117 53 (40, 106, 0, []) 56 := Or.inl ⟨by decide +kernel, ok_icmp_ge dm_117_53 (by decide +kernel)⟩
set_option maxRecDepth 100000 in
theorem vv_117_56 {l : Launch} (hl : l.stackTraces = false) : cj_V1 l 117 56 (2, 6, 0, []) 58 := Or.inl ⟨by decide +kernel, ok_iload dm_117_56⟩
set_option maxRecDepth 100000 in
theorem vv_117_58 {l : Launch} (hl : l.stackTraces = false) : cj_V1 l 117 58 (2, 4, 0, []) 60 := Or.inl ⟨by decide +kernel, ok_iload dm_117_58⟩
set_option maxRecDepth 100000 in
theorem vv_117_60 {l : Launch} (hl : l.stackTraces = false) : cj_V1 l 117 60 (37, 96, 0, []) 63 := Or.inl ⟨by decide +kernel, ok_icmp_eq dm_117_60 (by decide +kernel)⟩
set_option maxRecDepth 100000 in
theorem vv_117_63 {l : Launch} (hl : l.stackTraces = false) : cj_V1 l 117 63 (3, 0, 0, []) 64 := Or.inl ⟨by decide +kernel, ok_aload_n dm_117_63 rfl⟩
set_option maxRecDepth 100000 in
theorem vv_117_64 {l : Launch} (hl : l.stackTraces = false) : cj_V1 l 117 64 (50, 7, 10, []) 67 := Or.inl ⟨by decide +kernel, ok_getfield (N := 39) (C := RK_7) (T := TK_7) dm_117_64 rfl inK_7 (by decide +kernel) wm_743⟩
set_option maxRecDepth 100000 in
theorem vv_117_67 {l : Launch} (hl : l.stackTraces = false) : cj_V1 l 117 67 (0, 4, 0, []) 68 := Or.inl ⟨by decide +kernel, ok_iconst dm_117_67 (by decide +kernel)⟩
set_option maxRecDepth 100000 in
theorem vv_117_68 {l : Launch} (hl : l.stackTraces = false) : cj_V1 l 117 68 (2, 6, 0, []) 70 := Or.inl ⟨by decide +kernel, ok_iload dm_117_68⟩
set_option maxRecDepth 100000 in
theorem vv_117_70 {l : Launch} (hl : l.stackTraces = false) : cj_V1 l 117 70 (12, 0, 0, []) 71 := Or.inl ⟨by decide +kernel, ok_imul dm_117_70⟩
set_option maxRecDepth 100000 in
theorem vv_117_71 {l : Launch} (hl : l.stackTraces = false) : cj_V1 l 117 71 (2, 1, 0, []) 72 := Or.inl ⟨by decide +kernel, ok_iload_n dm_117_71 rfl⟩
set_option maxRecDepth 100000 in
theorem vv_117_72 {l : Launch} (hl : l.stackTraces = false) : cj_V1 l 117 72 (10, 0, 0, []) 73 := Or.inl ⟨by decide +kernel, ok_iadd dm_117_72⟩
set_option maxRecDepth 100000 in
theorem vv_117_73 {l : Launch} (hl : l.stackTraces = false) : cj_V1 l 117 73 (54, 0, 0, []) 74 := Or.inl ⟨by decide +kernel, ok_iaload dm_117_73 rfl⟩
set_option maxRecDepth 100000 in
theorem vv_117_74 {l : Launch} (hl : l.stackTraces = false) : cj_V1 l 117 74 (36, 96, 0, []) 77 := Or.inl ⟨by decide +kernel, ok_if_le dm_117_74 (by decide +kernel)⟩
set_option maxRecDepth 100000 in
theorem vv_117_77 {l : Launch} (hl : l.stackTraces = false) : cj_V1 l 117 77 (3, 0, 0, []) 78 := Or.inl ⟨by decide +kernel, ok_aload_n dm_117_77 rfl⟩
set_option maxRecDepth 100000 in
theorem vv_117_78 {l : Launch} (hl : l.stackTraces = false) : cj_V1 l 117 78 (2, 6, 0, []) 80 := Or.inl ⟨by decide +kernel, ok_iload dm_117_78⟩
set_option maxRecDepth 100000 in
theorem vv_117_80 {l : Launch} (hl : l.stackTraces = false) : cj_V1 l 117 80 (2, 4, 0, []) 82 := Or.inl ⟨by decide +kernel, ok_iload dm_117_80⟩
set_option maxRecDepth 100000 in
theorem vv_117_82 {l : Launch} (hl : l.stackTraces = false) : cj_V1 l 117 82 (2, 1, 0, []) 83 := Or.inl ⟨by decide +kernel, ok_iload_n dm_117_82 rfl⟩
set_option maxRecDepth 100000 in
theorem vv_117_83 {l : Launch} (hl : l.stackTraces = false) : cj_V1 l 117 83 (80, 89, 4, [7]) 86 := Or.inr (Or.inr (Or.inl ⟨by decide +kernel, by decide +kernel, rfl, vc_virtual (n := 3) (q := (RK_7, TK_7, 39)) mi_89 dm_117_83 (Or.inl wm_999) wm_1001 wm_p39 rfl rfl (by decide +kernel) rfl (by decide +kernel) (by decide +kernel), (vx_none rfl)⟩))
set_option maxRecDepth 100000 in
theorem vv_117_86 {l : Launch} (hl : l.stackTraces = false) : cj_V1 l 117 86 (31, 96, 0, []) 89 := Or.inl ⟨by decide +kernel, ok_if_eq dm_117_86 (by decide +kernel)⟩
set_option maxRecDepth 100000 in
theorem vv_117_89 {l : Launch} (hl : l.stackTraces = false) : cj_V1 l 117 89 (2, 5, 0, []) 91 := Or.inl ⟨by decide +kernel, ok_iload dm_117_89⟩
set_option maxRecDepth 100000 in
theorem vv_117_91 {l : Launch} (hl : l.stackTraces = false) : cj_V1 l 117 91 (0, 1, 0, []) 92 := Or.inl ⟨by decide +kernel, ok_iconst dm_117_91 (by decide +kernel)⟩
set_option maxRecDepth 100000 in
theorem vv_117_92 {l : Launch} (hl : l.stackTraces = false) : cj_V1 l 117 92 (10, 0, 0, []) 93 := Or.inl ⟨by decide +kernel, ok_iadd dm_117_92⟩
set_option maxRecDepth 100000 in
theorem vv_117_93 {l : Launch} (hl : l.stackTraces = false) : cj_V1 l 117 93 (30, 98, 0, []) 96 := Or.inl ⟨by decide +kernel, ok_goto dm_117_93 (by decide +kernel)⟩
set_option maxRecDepth 100000 in
theorem vv_117_96 {l : Launch} (hl : l.stackTraces = false) : cj_V1 l 117 96 (2, 5, 0, []) 98 := Or.inl ⟨by decide +kernel, ok_iload dm_117_96⟩
set_option maxRecDepth 100000 in
theorem vv_117_98 {l : Launch} (hl : l.stackTraces = false) : cj_V1 l 117 98 (4, 5, 0, []) 100 := Or.inl ⟨by decide +kernel, ok_istore dm_117_98⟩
set_option maxRecDepth 100000 in
theorem vv_117_100 {l : Launch} (hl : l.stackTraces = false) : cj_V1 l 117 100 (6, 6, 1, []) 103 := Or.inl ⟨by decide +kernel, ok_iinc6 dm_117_100 (by decide +kernel)⟩
set_option maxRecDepth 100000 in
theorem vv_117_103 {l : Launch} (hl : l.stackTraces = false) : cj_V1 l 117 103 (30, 47, 0, []) 106 := Or.inl ⟨by decide +kernel, ok_goto dm_117_103 (by decide +kernel)⟩
set_option maxRecDepth 100000 in
theorem vv_117_106 {l : Launch} (hl : l.stackTraces = false) : cj_V1 l 117 106 (3, 0, 0, []) 107 := Or.inl ⟨by decide +kernel, ok_aload_n dm_117_106 rfl⟩
set_option maxRecDepth 100000 in
theorem vv_117_107 {l : Launch} (hl : l.stackTraces = false) : cj_V1 l 117 107 (50, 7, 10, []) 110 := Or.inl ⟨by decide +kernel, ok_getfield (N := 39) (C := RK_7) (T := TK_7) dm_117_107 rfl inK_7 (by decide +kernel) wm_743⟩
set_option maxRecDepth 100000 in
theorem vv_117_110 {l : Launch} (hl : l.stackTraces = false) : cj_V1 l 117 110 (0, 4, 0, []) 111 := Or.inl ⟨by decide +kernel, ok_iconst dm_117_110 (by decide +kernel)⟩
set_option maxRecDepth 100000 in
theorem vv_117_111 {l : Launch} (hl : l.stackTraces = false) : cj_V1 l 117 111 (2, 4, 0, []) 113 := Or.inl ⟨by decide +kernel, ok_iload dm_117_111⟩
set_option maxRecDepth 100000 in
theorem vv_117_113 {l : Launch} (hl : l.stackTraces = false) : cj_V1 l 117 113 (12, 0, 0, []) 114 := Or.inl ⟨by decide +kernel, ok_imul dm_117_113⟩
set_option maxRecDepth 100000 in
theorem vv_117_114 {l : Launch} (hl : l.stackTraces = false) : cj_V1 l 117 114 (2, 1, 0, []) 115 := Or.inl ⟨by decide +kernel, ok_iload_n dm_117_114 rfl⟩
set_option maxRecDepth 100000 in
theorem vv_117_115 {l : Launch} (hl : l.stackTraces = false) : cj_V1 l 117 115 (10, 0, 0, []) 116 := Or.inl ⟨by decide +kernel, ok_iadd dm_117_115⟩
set_option maxRecDepth 100000 in
theorem vv_117_116 {l : Launch} (hl : l.stackTraces = false) : cj_V1 l 117 116 (54, 0, 0, []) 117 := Or.inl ⟨by decide +kernel, ok_iaload dm_117_116 rfl⟩
set_option maxRecDepth 100000 in
theorem vv_117_117 {l : Launch} (hl : l.stackTraces = false) : cj_V1 l 117 117 (36, 131, 0, []) 120 := Or.inl ⟨by decide +kernel, ok_if_le dm_117_117 (by decide +kernel)⟩
set_option maxRecDepth 100000 in
theorem vv_117_120 {l : Launch} (hl : l.stackTraces = false) : cj_V1 l 117 120 (2, 5, 0, []) 122 := Or.inl ⟨by decide +kernel, ok_iload dm_117_120⟩
set_option maxRecDepth 100000 in
theorem vv_117_122 {l : Launch} (hl : l.stackTraces = false) : cj_V1 l 117 122 (2, 2, 0, []) 123 := Or.inl ⟨by decide +kernel, ok_iload_n dm_117_122 rfl⟩
set_option maxRecDepth 100000 in
theorem vv_117_123 {l : Launch} (hl : l.stackTraces = false) : cj_V1 l 117 123 (38, 131, 0, []) 126 := Or.inl ⟨by decide +kernel, ok_icmp_ne dm_117_123 (by decide +kernel)⟩
set_option maxRecDepth 100000 in
theorem vv_117_126 {l : Launch} (hl : l.stackTraces = false) : cj_V1 l 117 126 (2, 4, 0, []) 128 := Or.inl ⟨by decide +kernel, ok_iload dm_117_126⟩
set_option maxRecDepth 100000 in
theorem vv_117_128 {l : Launch} (hl : l.stackTraces = false) : cj_V1 l 117 128 (30, 132, 0, []) 131 := Or.inl ⟨by decide +kernel, ok_goto dm_117_128 (by decide +kernel)⟩
set_option maxRecDepth 100000 in
theorem vv_117_131 {l : Launch} (hl : l.stackTraces = false) : cj_V1 l 117 131 (2, 3, 0, []) 132 := Or.inl ⟨by decide +kernel, ok_iload_n dm_117_131 rfl⟩
set_option maxRecDepth 100000 in
theorem vv_117_132 {l : Launch} (hl : l.stackTraces = false) : cj_V1 l 117 132 (4, 3, 0, []) 133 := Or.inl ⟨by decide +kernel, ok_istore_n dm_117_132 rfl⟩
set_option maxRecDepth 100000 in
theorem vv_117_133 {l : Launch} (hl : l.stackTraces = false) : cj_V1 l 117 133 (6, 4, 1, []) 136 := Or.inl ⟨by decide +kernel, ok_iinc6 dm_117_133 (by decide +kernel)⟩
set_option maxRecDepth 100000 in
theorem vv_117_136 {l : Launch} (hl : l.stackTraces = false) : cj_V1 l 117 136 (30, 32, 0, []) 139 := Or.inl ⟨by decide +kernel, ok_goto dm_117_136 (by decide +kernel)⟩
set_option maxRecDepth 100000 in
theorem vv_117_139 {l : Launch} (hl : l.stackTraces = false) : cj_V1 l 117 139 (2, 3, 0, []) 140 := Or.inl ⟨by decide +kernel, ok_iload_n dm_117_139 rfl⟩
set_option maxRecDepth 100000 in
theorem vv_117_140 {l : Launch} (hl : l.stackTraces = false) : cj_V1 l 117 140 (90, 0, 0, []) 141 := Or.inr (Or.inl ⟨by decide +kernel, Or.inl (Or.inl ⟨rfl, dm_117_140, rfl⟩)⟩)
set_option maxRecDepth 100000 in
theorem vm_117 {l : Launch} (hl : l.stackTraces = false) : cj_Vm l 117 := cj_Vm_of (r := kc117_) rfl ⟨vv_117_0 hl, vv_117_1 hl, vv_117_2 hl, vv_117_3 hl, vv_117_6 hl, vv_117_9 hl, vv_117_10 hl, vv_117_13 hl, vv_117_14 hl, vv_117_17 hl, vv_117_18 hl, vv_117_19 hl, vv_117_22 hl, vv_117_25 hl, vv_117_26 hl, vv_117_27 hl, vv_117_28 hl, vv_117_29 hl, vv_117_30 hl, vv_117_32 hl, vv_117_34 hl, vv_117_35 hl, vv_117_38 hl, vv_117_41 hl, vv_117_42 hl, vv_117_44 hl, vv_117_45 hl, vv_117_47 hl, vv_117_49 hl, vv_117_50 hl, vv_117_53 hl, vv_117_56 hl, vv_117_58 hl, vv_117_60 hl, vv_117_63 hl, vv_117_64 hl, vv_117_67 hl, vv_117_68 hl, vv_117_70 hl, vv_117_71 hl, vv_117_72 hl, vv_117_73 hl, vv_117_74 hl, vv_117_77 hl, vv_117_78 hl, vv_117_80 hl, vv_117_82 hl, vv_117_83 hl, vv_117_86 hl, vv_117_89 hl, vv_117_91 hl, vv_117_92 hl, vv_117_93 hl, vv_117_96 hl, vv_117_98 hl, vv_117_100 hl, vv_117_103 hl, vv_117_106 hl, vv_117_107 hl, vv_117_110 hl, vv_117_111 hl, vv_117_113 hl, vv_117_114 hl, vv_117_115 hl, vv_117_116 hl, vv_117_117 hl, vv_117_120 hl, vv_117_122 hl, vv_117_123 hl, vv_117_126 hl, vv_117_128 hl, vv_117_131 hl, vv_117_132 hl, vv_117_133 hl, vv_117_136 hl, vv_117_139 hl, vv_117_140 hl, trivial⟩
