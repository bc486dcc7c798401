set_option maxRecDepth 100000 in
theorem vv_125_0 {l : Launch} (hl : l.stackTraces = false) : cj_V1 l 125 0 (3, 0, 0, []) 1 := Or.inl ⟨by decide +kernel, ok_aload_n dm_125_0 rfl⟩
set_option maxRecDepth 100000 in
theorem vv_125_1 {l : Launch} (hl : l.stackTraces = false) : cj_V1 l 125 1 (50, 0, 4, []) 4 := Or.inl ⟨by decide +kernel, ok_getfield (N := 11) (C := RK_0) (T := TK_0) dm_125_1 rfl inK_0 (by decide +kernel) wm_181⟩
set_option maxRecDepth 100000 in
theorem vv_125_4 {l : Launch} (hl : l.stackTraces = false) : cj_V1 l 125 4 (2, 1, 0, []) 5 := Or.inl ⟨by decide +kernel, ok_iload_n dm_125_4 rfl⟩
set_option maxRecDepth 100000 in
theorem vv_125_5 {l : Launch} (hl : l.stackTraces = false) : cj_V1 l 125 5 (54, 4, 0, []) 6 := Or.inl ⟨by decide +kernel, ok_aaload (C := "CatalogueSet$Entry") dm_125_5 rfl⟩
set_option maxRecDepth 100000 in
theorem vv_125_6 {l : Launch} (hl : l.stackTraces = false) : cj_V1 l 125 6 (2, 2, 0, []) 7 := Or.inl ⟨by decide +kernel, ok_iload_n dm_125_6 rfl⟩
set_option maxRecDepth 100000 in
theorem vv_125_7 {l : Launch} (hl : l.stackTraces = false) : cj_V1 l 125 7 (80, 14, 2, [2]) 10 := Or.inr (Or.inr (Or.inl ⟨by decide +kernel, by decide +kernel, rfl, vc_virtual (n := 1) (q := (RK_2, TK_2, 4)) mi_14 dm_125_7 (Or.inl wm_577) wm_265 wm_266 rfl rfl (by decide +kernel) rfl (by decide +kernel) (by decide +kernel), (vx_none rfl)⟩))
set_option maxRecDepth 100000 in
theorem vv_125_10 {l : Launch} (hl : l.stackTraces = false) : cj_V1 l 125 10 (5, 3, 0, []) 11 := Or.inl ⟨by decide +kernel, ok_astore_n dm_125_10 rfl⟩
set_option maxRecDepth 100000 in
theorem vv_125_11 {l : Launch} (hl : l.stackTraces = false) : cj_V1 l 125 11 (0, 0, 0, []) 12 := Or.inl ⟨by decide +kernel, ok_iconst dm_125_11 (by decide +kernel)⟩
set_option maxRecDepth 100000 in
theorem vv_125_12 {l : Launch} (hl : l.stackTraces = false) : cj_V1 l 125 12 (4, 4, 0, []) 14 := Or.inl ⟨by decide +kernel, ok_istore dm_125_12⟩
set_option maxRecDepth 100000 in
theorem vv_125_14 {l : Launch} (hl : l.stackTraces = false) : cj_V1 l 125 14 (0, 0, 0, []) 15 := Or.inl ⟨by decide +kernel, ok_iconst dm_125_14 (by decide +kernel)⟩
set_option maxRecDepth 100000 in
theorem vv_125_15 {l : Launch} (hl : l.stackTraces = false) : cj_V1 l 125 15 (4, 5, 0, []) 17 := Or.inl ⟨by decide +kernel, ok_istore dm_125_15⟩
set_option maxRecDepth 100000 in
theorem vv_125_17 {l : Launch} (hl : l.stackTraces = false) : cj_V1 l 125 17 (2, 5, 0, []) 19 := Or.inl ⟨by decide +kernel, ok_iload dm_125_17⟩
set_option maxRecDepth 100000 in
theorem vv_125_19 {l : Launch} (hl : l.stackTraces = false) : cj_V1 l 125 19 (3, 0, 0, []) 20 := Or.inl ⟨by decide +kernel, ok_aload_n dm_125_19 rfl⟩
set_option maxRecDepth 100000 in
theorem vv_125_20 {l : Launch} (hl : l.stackTraces = false) : cj_V1 l 125 20 (50, 0, 7, []) 23 := Or.inl ⟨by decide +kernel, ok_getfield (N := 11) (C := RK_0) (T := TK_0) dm_125_20 rfl inK_0 (by decide +kernel) wm_184⟩
set_option maxRecDepth 100000 in
theorem vv_125_23 {l : Launch} (hl : l.stackTraces = false) : cj_V1 l 125 23 (40, 87, 0, []) 26 := Or.inl ⟨by decide +kernel, ok_icmp_ge dm_125_23 (by decide +kernel)⟩
set_option maxRecDepth 100000 in
theorem vv_125_26 {l : Launch} (hl : l.stackTraces = false) : cj_V1 l 125 26 (3, 0, 0, []) 27 := Or.inl ⟨by decide +kernel, ok_aload_n dm_125_26 rfl⟩
set_option maxRecDepth 100000 in
theorem vv_125_27 {l : Launch} (hl : l.stackTraces = false) : cj_V1 l 125 27 (50, 0, 4, []) 30 := Or.inl ⟨by decide +kernel, ok_getfield (N := 11) (C := RK_0) (T := TK_0) dm_125_27 rfl inK_0 (by decide +kernel) wm_181⟩
set_option maxRecDepth 100000 in
theorem vv_125_30 {l : Launch} (hl : l.stackTraces = false) : cj_V1 l 125 30 (2, 5, 0, []) 32 := Or.inl ⟨by decide +kernel, ok_iload dm_125_30⟩
set_option maxRecDepth 100000 in
theorem vv_125_32 {l : Launch} (hl : l.stackTraces = false) : cj_V1 l 125 32 (54, 4, 0, []) 33 := Or.inl ⟨by decide +kernel, ok_aaload (C := "CatalogueSet$Entry") dm_125_32 rfl⟩
set_option maxRecDepth 100000 in
theorem vv_125_33 {l : Launch} (hl : l.stackTraces = false) : cj_V1 l 125 33 (2, 2, 0, []) 34 := Or.inl ⟨by decide +kernel, ok_iload_n dm_125_33 rfl⟩
set_option maxRecDepth 100000 in
theorem vv_125_34 {l : Launch} (hl : l.stackTraces = false) : cj_V1 l 125 34 (80, 14, 2, [2]) 37 := Or.inr (Or.inr (Or.inl ⟨by decide +kernel, by decide +kernel, rfl, vc_virtual (n := 1) (q := (RK_2, TK_2, 4)) mi_14 dm_125_34 (Or.inl wm_577) wm_265 wm_266 rfl rfl (by decide +kernel) rfl (by decide +kernel) (by decide +kernel), (vx_none rfl)⟩))
set_option maxRecDepth 100000 in
theorem vv_125_37 {l : Launch} (hl : l.stackTraces = false) : cj_V1 l 125 37 (5, 6, 0, []) 39 := Or.inl ⟨by decide +kernel, ok_astore dm_125_37⟩
set_option maxRecDepth 100000 in
theorem vv_125_39 {l : Launch} (hl : l.stackTraces = false) : cj_V1 l 125 39 (2, 5, 0, []) 41 := Or.inl ⟨by decide +kernel, ok_iload dm_125_39⟩
set_option maxRecDepth 100000 in
theorem vv_125_41 {l : Launch} (hl : l.stackTraces = false) : cj_V1 l 125 41 (2, 1, 0, []) 42 := Or.inl ⟨by decide +kernel, ok_iload_n dm_125_41 rfl⟩
set_option maxRecDepth 100000 in
theorem vv_125_42 {l : Launch} (hl : l.stackTraces = false) : cj_V1 l 125 42 (37, 81, 0, []) 45 := Or.inl ⟨by decide +kernel, ok_icmp_eq dm_125_42 (by decide +kernel)⟩
set_option maxRecDepth 100000 in
theorem vv_125_45 {l : Launch} (hl : l.stackTraces = false) : cj_V1 l 125 45 (3, 6, 0, []) 47 := Or.inl ⟨by decide +kernel, ok_aload dm_125_45⟩
set_option maxRecDepth 100000 in
theorem vv_125_47 {l : Launch} (hl : l.stackTraces = false) : cj_V1 l 125 47 (80, 39, 1, [6]) 50 := Or.inr (Or.inr (Or.inl ⟨by decide +kernel, by decide +kernel, rfl, vc_virtual (n := 0) (q := (RK_6, TK_6, 2)) mi_39 dm_125_47 (Or.inl wm_409) wm_249 wm_250 rfl rfl (by decide +kernel) rfl (by decide +kernel) (by decide +kernel), (vx_none rfl)⟩))
set_option maxRecDepth 100000 in
theorem vv_125_50 {l : Launch} (hl : l.stackTraces = false) : cj_V1 l 125 50 (36, 81, 0, []) 53 := Or.inl ⟨by decide +kernel, ok_if_le dm_125_50 (by decide +kernel)⟩
set_option maxRecDepth 100000 in
theorem vv_125_53 {l : Launch} (hl : l.stackTraces = false) : cj_V1 l 125 53 (3, 0, 0, []) 54 := Or.inl ⟨by decide +kernel, ok_aload_n dm_125_53 rfl⟩
set_option maxRecDepth 100000 in
theorem vv_125_54 {l : Launch} (hl : l.stackTraces = false) : cj_V1 l 125 54 (3, 6, 0, []) 56 := Or.inl ⟨by decide +kernel, ok_aload dm_125_54⟩
set_option maxRecDepth 100000 in
theorem vv_125_56 {l : Launch} (hl : l.stackTraces = false) : cj_V1 l 125 56 (3, 3, 0, []) 57 := Or.inl ⟨by decide +kernel, ok_aload_n dm_125_56 rfl⟩
set_option maxRecDepth 100000 in
theorem vv_125_57 {l : Launch} (hl : l.stackTraces = false) : cj_V1 l 125 57 (80, 100, 3, [0]) 60 := Or.inr (Or.inr (Or.inl ⟨by decide +kernel, by decide +kernel, rfl, vc_virtual (n := 2) (q := (RK_0, TK_0, 11)) mi_100 dm_125_57 (Or.inl wm_711) wm_713 wm_p17 rfl rfl (by decide +kernel) rfl (by decide +kernel) (by decide +kernel), (vx_none rfl)⟩))
set_option maxRecDepth 100000 in
theorem vv_125_60 {l : Launch} (hl : l.stackTraces = false) : cj_V1 l 125 60 (4, 7, 0, []) 62 := Or.inl ⟨by decide +kernel, ok_istore dm_125_60⟩
set_option maxRecDepth 100000 in
theorem vv_125_62 {l : Launch} (hl : l.stackTraces = false) : cj_V1 l 125 62 (2, 7, 0, []) 64 := Or.inl ⟨by decide +kernel, ok_iload dm_125_62⟩
set_option maxRecDepth 100000 in
theorem vv_125_64 {l : Launch} (hl : l.stackTraces = false) : cj_V1 l 125 64 (33, 78, 0, []) 67 := Or.inl ⟨by decide +kernel, ok_if_lt dm_125_64 (by decide +kernel)⟩
set_option maxRecDepth 100000 in
theorem vv_125_67 {l : Launch} (hl : l.stackTraces = false) : cj_V1 l 125 67 (2, 7, 0, []) 69 := Or.inl ⟨by decide +kernel, ok_iload dm_125_67⟩
set_option maxRecDepth 100000 in
theorem vv_125_69 {l : Launch} (hl : l.stackTraces = false) : cj_V1 l 125 69 (32, 81, 0, []) 72 := Or.inl ⟨by decide +kernel, ok_if_ne dm_125_69 (by decide +kernel)⟩
set_option maxRecDepth 100000 in
theorem vv_125_72 {l : Launch} (hl : l.stackTraces = false) : cj_V1 l 125 72 (2, 5, 0, []) 74 := Or.inl ⟨by decide +kernel, ok_iload dm_125_72⟩
set_option maxRecDepth 100000 in
theorem vv_125_74 {l : Launch} (hl : l.stackTraces = false) : cj_V1 l 125 74 (2, 1, 0, []) 75 := Or.inl ⟨by decide +kernel, ok_iload_n dm_125_74 rfl⟩
set_option maxRecDepth 100000 in
theorem vv_125_75 {l : Launch} (hl : l.stackTraces = false) : cj_V1 l 125 75 (40, 81, 0, []) 78 := Or.inl ⟨by decide +kernel, ok_icmp_ge dm_125_75 (by decide +kernel)⟩
set_option maxRecDepth 100000 in
theorem vv_125_78 {l : Launch} (hl : l.stackTraces = false) : cj_V1 l 125 78 (6, 4, 1, []) 81 := Or.inl ⟨by decide +kernel, ok_iinc6 dm_125_78 (by decide +kernel)⟩
set_option maxRecDepth 100000 in
theorem vv_125_81 {l : Launch} (hl : l.stackTraces = false) : cj_V1 l 125 81 (6, 5, 1, []) 84 := Or.inl ⟨by decide +kernel, ok_iinc6 dm_125_81 (by decide +kernel)⟩
set_option maxRecDepth 100000 in
theorem vv_125_84 {l : Launch} (hl : l.stackTraces = false) : cj_V1 l 125 84 (30, 17, 0, []) 87 := Or.inl ⟨by decide +kernel, ok_goto dm_125_84 (by decide +kernel)⟩
set_option maxRecDepth 100000 in
theorem vv_125_87 {l : Launch} (hl : l.stackTraces = false) : cj_V1 l 125 87 (2, 4, 0, []) 89 := Or.inl ⟨by decide +kernel, ok_iload dm_125_87⟩
set_option maxRecDepth 100000 in
theorem vv_125_89 {l : Launch} (hl : l.stackTraces = false) : cj_V1 l 125 89 (90, 0, 0, []) 90 := Or.inr (Or.inl ⟨by decide +kernel, Or.inl (Or.inl ⟨rfl, dm_125_89, rfl⟩)⟩)
set_option maxRecDepth 100000 in
theorem vm_125 {l : Launch} (hl : l.stackTraces = false) : cj_Vm l 125 := cj_Vm_of (r := kc125_) rfl ⟨vv_125_0 hl, vv_125_1 hl, vv_125_4 hl, vv_125_5 hl, vv_125_6 hl, vv_125_7 hl, vv_125_10 hl, vv_125_11 hl, vv_125_12 hl, vv_125_14 hl, vv_125_15 hl, vv_125_17 hl, vv_125_19 hl, vv_125_20 hl, vv_125_23 hl, vv_125_26 hl, vv_125_27 hl, vv_125_30 hl, vv_125_32 hl, vv_125_33 hl, vv_125_34 hl, vv_125_37 hl, vv_125_39 hl, vv_125_41 hl, vv_125_42 hl, vv_125_45 hl, vv_125_47 hl, vv_125_50 hl, vv_125_53 hl, vv_125_54 hl, vv_125_56 hl, vv_125_57 hl, vv_125_60 hl, vv_125_62 hl, vv_125_64 hl, vv_125_67 hl, vv_125_69 hl, vv_125_72 hl, vv_125_74 hl, vv_125_75 hl, vv_125_78 hl, vv_125_81 hl, vv_125_84 hl, vv_125_87 hl, vv_125_89 hl, trivial⟩
set_option maxRecDepth 100000 in
theorem vv_126_0 {l : Launch} (hl : l.stackTraces = false) : cj_V1 l 126 0 (3, 0, 0, []) 1 := Or.inl ⟨by decide +kernel, ok_aload_n dm_126_0 rfl⟩
set_option maxRecDepth 100000 in
theorem vv_126_1 {l : Launch} (hl : l.stackTraces = false) : cj_V1 l 126 1 (2, 1, 0, []) 2 := Or.inl ⟨by decide +kernel, ok_iload_n dm_126_1 rfl⟩
set_option maxRecDepth 100000 in
theorem vv_126_2 {l : Launch} (hl : l.stackTraces = false) : cj_V1 l 126 2 (80, 1, 2, [0]) 5 := Or.inr (Or.inr (Or.inl ⟨by decide +kernel, by decide +kernel, rfl, vc_virtual (n := 1) (q := (RK_0, TK_0, 11)) mi_1 dm_126_2 (Or.inl wm_565) wm_567 wm_p14 rfl rfl (by decide +kernel) rfl (by decide +kernel) (by decide +kernel), (vx_none rfl)⟩))
set_option maxRecDepth 100000 in
theorem vv_126_5 {l : Launch} (hl : l.stackTraces = false) : cj_V1 l 126 5 (31, 15, 0, []) 8 := Or.inl ⟨by decide +kernel, ok_if_eq dm_126_5 (by decide +kernel)⟩
set_option maxRecDepth 100000 in
theorem vv_126_8 {l : Launch} (hl : l.stackTraces = false) : cj_V1 l 126 8 (2, 2, 0, []) 9 := Or.inl ⟨by decide +kernel, ok_iload_n dm_126_8 rfl⟩
set_option maxRecDepth 100000 in
theorem vv_126_9 {l : Launch} (hl : l.stackTraces = false) : cj_V1 l 126 9 (81, 2, 1, []) 12 := Or.inr (Or.inr (Or.inl ⟨by decide +kernel, by decide +kernel, rfl, vc_static mi_2 dm_126_9 (Or.inl wm_569) wm_570 (by decide +kernel) (by decide +kernel) (by decide +kernel), (vx_none rfl)⟩))
set_option maxRecDepth 100000 in
theorem vv_126_12 {l : Launch} (hl : l.stackTraces = false) : cj_V1 l 126 12 (32, 25, 0, []) 15 := Or.inl ⟨by decide +kernel, ok_if_ne dm_126_12 (by decide +kernel)⟩
set_option maxRecDepth 100000 in
theorem vv_126_15 {l : Launch} (hl : l.stackTraces = false) : cj_V1 l 126 15 (95, 2, 0, []) 18 := Or.inr (Or.inl ⟨by decide +kernel, Or.inr (vt_throw (y := ky_ 0) (X := "java/lang/IndexOutOfBoundsException") (tx := "no such entry or field") (names := ["java/lang/RuntimeException", "java/lang/Exception"]) hl rfl dm_126_15 dm_126_18 dm_126_19 dm_126_21 dm_126_24 rfl wm_537 wm_538 wm_15 wm_572 xw_0 (by decide +kernel) (by decide +kernel) (by decide +kernel) (by decide +kernel))⟩)
set_option maxRecDepth 100000 in
theorem vv_126_25 {l : Launch} (hl : l.stackTraces = false) : cj_V1 l 126 25 (3, 0, 0, []) 26 := Or.inl ⟨by decide +kernel, ok_aload_n dm_126_25 rfl⟩
set_option maxRecDepth 100000 in
theorem vv_126_26 {l : Launch} (hl : l.stackTraces = false) : cj_V1 l 126 26 (50, 0, 1, []) 29 := Or.inl ⟨by decide +kernel, ok_getfield (N := 11) (C := RK_0) (T := TK_0) dm_126_26 rfl inK_0 (by decide +kernel) wm_178⟩
set_option maxRecDepth 100000 in
theorem vv_126_29 {l : Launch} (hl : l.stackTraces = false) : cj_V1 l 126 29 (81, 65, 1, []) 32 := Or.inr (Or.inr (Or.inl ⟨by decide +kernel, by decide +kernel, rfl, vc_static mi_65 dm_126_29 (Or.inl wm_573) wm_574 (by decide +kernel) (by decide +kernel) (by decide +kernel), (vx_none rfl)⟩))
set_option maxRecDepth 100000 in
theorem vv_126_32 {l : Launch} (hl : l.stackTraces = false) : cj_V1 l 126 32 (32, 45, 0, []) 35 := Or.inl ⟨by decide +kernel, ok_if_ne dm_126_32 (by decide +kernel)⟩
set_option maxRecDepth 100000 in
theorem vv_126_35 {l : Launch} (hl : l.stackTraces = false) : cj_V1 l 126 35 (95, 1, 0, []) 38 := Or.inr (Or.inl ⟨by decide +kernel, Or.inr (vt_throw (y := ky_ 0) (X := "java/lang/IllegalArgumentException") (tx := "the pad is no field's text") (names := ["java/lang/RuntimeException", "java/lang/Exception"]) hl rfl dm_126_35 dm_126_38 dm_126_39 dm_126_41 dm_126_44 rfl wm_487 wm_488 wm_14 wm_576 xw_2 (by decide +kernel) (by decide +kernel) (by decide +kernel) (by decide +kernel))⟩)
set_option maxRecDepth 100000 in
theorem vv_126_45 {l : Launch} (hl : l.stackTraces = false) : cj_V1 l 126 45 (3, 0, 0, []) 46 := Or.inl ⟨by decide +kernel, ok_aload_n dm_126_45 rfl⟩
set_option maxRecDepth 100000 in
theorem vv_126_46 {l : Launch} (hl : l.stackTraces = false) : cj_V1 l 126 46 (3, 0, 0, []) 47 := Or.inl ⟨by decide +kernel, ok_aload_n dm_126_46 rfl⟩
set_option maxRecDepth 100000 in
theorem vv_126_47 {l : Launch} (hl : l.stackTraces = false) : cj_V1 l 126 47 (50, 0, 4, []) 50 := Or.inl ⟨by decide +kernel, ok_getfield (N := 11) (C := RK_0) (T := TK_0) dm_126_47 rfl inK_0 (by decide +kernel) wm_181⟩
set_option maxRecDepth 100000 in
theorem vv_126_50 {l : Launch} (hl : l.stackTraces = false) : cj_V1 l 126 50 (2, 1, 0, []) 51 := Or.inl ⟨by decide +kernel, ok_iload_n dm_126_50 rfl⟩
set_option maxRecDepth 100000 in
theorem vv_126_51 {l : Launch} (hl : l.stackTraces = false) : cj_V1 l 126 51 (54, 4, 0, []) 52 := Or.inl ⟨by decide +kernel, ok_aaload (C := "CatalogueSet$Entry") dm_126_51 rfl⟩
set_option maxRecDepth 100000 in
theorem vv_126_52 {l : Launch} (hl : l.stackTraces = false) : cj_V1 l 126 52 (2, 2, 0, []) 53 := Or.inl ⟨by decide +kernel, ok_iload_n dm_126_52 rfl⟩
set_option maxRecDepth 100000 in
theorem vv_126_53 {l : Launch} (hl : l.stackTraces = false) : cj_V1 l 126 53 (80, 14, 2, [2]) 56 := Or.inr (Or.inr (Or.inl ⟨by decide +kernel, by decide +kernel, rfl, vc_virtual (n := 1) (q := (RK_2, TK_2, 4)) mi_14 dm_126_53 (Or.inl wm_577) wm_265 wm_266 rfl rfl (by decide +kernel) rfl (by decide +kernel) (by decide +kernel), (vx_none rfl)⟩))
set_option maxRecDepth 100000 in
theorem vv_126_56 {l : Launch} (hl : l.stackTraces = false) : cj_V1 l 126 56 (80, 102, 2, [0]) 59 := Or.inr (Or.inr (Or.inl ⟨by decide +kernel, by decide +kernel, rfl, vc_virtual (n := 1) (q := (RK_0, TK_0, 11)) mi_102 dm_126_56 (Or.inl wm_524) wm_526 wm_p13 rfl rfl (by decide +kernel) rfl (by decide +kernel) (by decide +kernel), (vx_none rfl)⟩))
set_option maxRecDepth 100000 in
theorem vv_126_59 {l : Launch} (hl : l.stackTraces = false) : cj_V1 l 126 59 (90, 0, 0, []) 60 := Or.inr (Or.inl ⟨by decide +kernel, Or.inl (Or.inl ⟨rfl, dm_126_59, rfl⟩)⟩)
set_option maxRecDepth 100000 in
theorem vm_126 {l : Launch} (hl : l.stackTraces = false) : cj_Vm l 126 := cj_Vm_of (r := kc126_) rfl ⟨vv_126_0 hl, vv_126_1 hl, vv_126_2 hl, vv_126_5 hl, vv_126_8 hl, vv_126_9 hl, vv_126_12 hl, vv_126_15 hl, vv_126_25 hl, vv_126_26 hl, vv_126_29 hl, vv_126_32 hl, vv_126_35 hl, vv_126_45 hl, vv_126_46 hl, vv_126_47 hl, vv_126_50 hl, vv_126_51 hl, vv_126_52 hl, vv_126_53 hl, vv_126_56 hl, vv_126_59 hl, trivial⟩
set_option maxRecDepth 100000 in
theorem vv_127_0 {l : Launch} (hl : l.stackTraces = false) : cj_V1 l 127 0 (3, 0, 0, []) 1 := Or.inl ⟨by decide +kernel, ok_aload_n dm_127_0 rfl⟩
set_option maxRecDepth 100000 in
theorem vv_127_1 {l : Launch} (hl : l.stackTraces = false) : cj_V1 l 127 1 (50, 0, 1, []) 4 := Or.inl ⟨by decide +kernel, ok_getfield (N := 11) (C := RK_0) (T := TK_0) dm_127_1 rfl inK_0 (by decide +kernel) wm_178⟩
set_option maxRecDepth 100000 in
theorem vv_127_4 {l : Launch} (hl : l.stackTraces = false) : cj_V1 l 127 4 (81, 66, 1, []) 7 := Or.inr (Or.inr (Or.inl ⟨by decide +kernel, by decide +kernel, rfl, vc_static mi_66 dm_127_4 (Or.inl wm_611) wm_612 (by decide +kernel) (by decide +kernel) (by decide +kernel), (vx_none rfl)⟩))
set_option maxRecDepth 100000 in
theorem vv_127_7 {l : Launch} (hl : l.stackTraces = false) : cj_V1 l 127 7 (32, 20, 0, []) 10 := Or.inl ⟨by decide +kernel, ok_if_ne dm_127_7 (by decide +kernel)⟩
set_option maxRecDepth 100000 in
theorem vv_127_10 {l : Launch} (hl : l.stackTraces = false) : cj_V1 l 127 10 (95, 1, 0, []) 13 := Or.inr (Or.inl ⟨by decide +kernel, Or.inr (vt_throw (y := ky_ 0) (X := "java/lang/IllegalArgumentException") (tx := "the pad is no order of letters") (names := ["java/lang/RuntimeException", "java/lang/Exception"]) hl rfl dm_127_10 dm_127_13 dm_127_14 dm_127_16 dm_127_19 rfl wm_487 wm_488 wm_14 wm_618 xw_2 (by decide +kernel) (by decide +kernel) (by decide +kernel) (by decide +kernel))⟩)
set_option maxRecDepth 100000 in
theorem vv_127_20 {l : Launch} (hl : l.stackTraces = false) : cj_V1 l 127 20 (3, 0, 0, []) 21 := Or.inl ⟨by decide +kernel, ok_aload_n dm_127_20 rfl⟩
set_option maxRecDepth 100000 in
theorem vv_127_21 {l : Launch} (hl : l.stackTraces = false) : cj_V1 l 127 21 (3, 0, 0, []) 22 := Or.inl ⟨by decide +kernel, ok_aload_n dm_127_21 rfl⟩
set_option maxRecDepth 100000 in
theorem vv_127_22 {l : Launch} (hl : l.stackTraces = false) : cj_V1 l 127 22 (50, 0, 2, []) 25 := Or.inl ⟨by decide +kernel, ok_getfield (N := 11) (C := RK_0) (T := TK_0) dm_127_22 rfl inK_0 (by decide +kernel) wm_179⟩
set_option maxRecDepth 100000 in
theorem vv_127_25 {l : Launch} (hl : l.stackTraces = false) : cj_V1 l 127 25 (80, 102, 2, [0]) 28 := Or.inr (Or.inr (Or.inl ⟨by decide +kernel, by decide +kernel, rfl, vc_virtual (n := 1) (q := (RK_0, TK_0, 11)) mi_102 dm_127_25 (Or.inl wm_524) wm_526 wm_p13 rfl rfl (by decide +kernel) rfl (by decide +kernel) (by decide +kernel), (vx_none rfl)⟩))
set_option maxRecDepth 100000 in
theorem vv_127_28 {l : Launch} (hl : l.stackTraces = false) : cj_V1 l 127 28 (90, 0, 0, []) 29 := Or.inr (Or.inl ⟨by decide +kernel, Or.inl (Or.inl ⟨rfl, dm_127_28, rfl⟩)⟩)
set_option maxRecDepth 100000 in
theorem vm_127 {l : Launch} (hl : l.stackTraces = false) : cj_Vm l 127 := cj_Vm_of (r := kc127_) rfl ⟨vv_127_0 hl, vv_127_1 hl, vv_127_4 hl, vv_127_7 hl, vv_127_10 hl, vv_127_20 hl, vv_127_21 hl, vv_127_22 hl, vv_127_25 hl, vv_127_28 hl, trivial⟩
set_option maxRecDepth 100000 in
theorem vv_128_0 {l : Launch} (hl : l.stackTraces = false) : cj_V1 l 128 0 (3, 0, 0, []) 1 := Or.inl ⟨by decide +kernel, ok_aload_n dm_128_0 rfl⟩
set_option maxRecDepth 100000 in
theorem vv_128_1 {l : Launch} (hl : l.stackTraces = false) : cj_V1 l 128 1 (50, 0, 6, []) 4 := Or.inl ⟨by decide +kernel, ok_getfield (N := 11) (C := RK_0) (T := TK_0) dm_128_1 rfl inK_0 (by decide +kernel) wm_183⟩
set_option maxRecDepth 100000 in
theorem vv_128_4 {l : Launch} (hl : l.stackTraces = false) : cj_V1 l 128 4 (0, 6, 0, []) 6 := Or.inl ⟨by decide +kernel, ok_bipush dm_128_4 (by decide +kernel)⟩
set_option maxRecDepth 100000 in
theorem vv_128_6 {l : Launch} (hl : l.stackTraces = false) : cj_V1 l 128 6 (39, 19, 0, []) 9 := Or.inl ⟨by decide +kernel, ok_icmp_lt dm_128_6 (by decide +kernel)⟩
set_option maxRecDepth 100000 in
theorem vv_128_9 {l : Launch} (hl : l.stackTraces = false) : cj_V1 l 128 9 (95, 0, 0, []) 12 := Or.inr (Or.inl ⟨by decide +kernel, Or.inr (vt_throw (y := ky_ 0) (X := "java/lang/IllegalStateException") (tx := "there are six templates") (names := ["java/lang/RuntimeException", "java/lang/Exception"]) hl rfl dm_128_9 dm_128_12 dm_128_13 dm_128_15 dm_128_18 rfl wm_416 wm_417 wm_13 wm_515 xw_1 (by decide +kernel) (by decide +kernel) (by decide +kernel) (by decide +kernel))⟩)
set_option maxRecDepth 100000 in
theorem vv_128_19 {l : Launch} (hl : l.stackTraces = false) : cj_V1 l 128 19 (3, 0, 0, []) 20 := Or.inl ⟨by decide +kernel, ok_aload_n dm_128_19 rfl⟩
set_option maxRecDepth 100000 in
theorem vv_128_20 {l : Launch} (hl : l.stackTraces = false) : cj_V1 l 128 20 (50, 0, 1, []) 23 := Or.inl ⟨by decide +kernel, ok_getfield (N := 11) (C := RK_0) (T := TK_0) dm_128_20 rfl inK_0 (by decide +kernel) wm_178⟩
set_option maxRecDepth 100000 in
theorem vv_128_23 {l : Launch} (hl : l.stackTraces = false) : cj_V1 l 128 23 (81, 63, 1, []) 26 := Or.inr (Or.inr (Or.inl ⟨by decide +kernel, by decide +kernel, rfl, vc_static mi_63 dm_128_23 (Or.inl wm_516) wm_517 (by decide +kernel) (by decide +kernel) (by decide +kernel), (vx_none rfl)⟩))
set_option maxRecDepth 100000 in
theorem vv_128_26 {l : Launch} (hl : l.stackTraces = false) : cj_V1 l 128 26 (4, 1, 0, []) 27 := Or.inl ⟨by decide +kernel, ok_istore_n dm_128_26 rfl⟩
set_option maxRecDepth 100000 in
theorem vv_128_27 {l : Launch} (hl : l.stackTraces = false) : cj_V1 l 128 27 (2, 1, 0, []) 28 := Or.inl ⟨by decide +kernel, ok_iload_n dm_128_27 rfl⟩
set_option maxRecDepth 100000 in
theorem vv_128_28 {l : Launch} (hl : l.stackTraces = false) : cj_V1 l 128 28 (1, 1, 0, []) 29 := Or.inl ⟨by decide +kernel, ok_iconst_m dm_128_28 (by decide +kernel)⟩
set_option maxRecDepth 100000 in
theorem vv_128_29 {l : Launch} (hl : l.stackTraces = false) : cj_V1 l 128 29 (37, 43, 0, []) 32 := Or.inl ⟨by decide +kernel, ok_icmp_eq dm_128_29 (by decide +kernel)⟩
set_option maxRecDepth 100000 in
theorem vv_128_32 {l : Launch} (hl : l.stackTraces = false) : cj_V1 l 128 32 (3, 0, 0, []) 33 := Or.inl ⟨by decide +kernel, ok_aload_n dm_128_32 rfl⟩
set_option maxRecDepth 100000 in
theorem vv_128_33 {l : Launch} (hl : l.stackTraces = false) : cj_V1 l 128 33 (50, 0, 1, []) 36 := Or.inl ⟨by decide +kernel, ok_getfield (N := 11) (C := RK_0) (T := TK_0) dm_128_33 rfl inK_0 (by decide +kernel) wm_178⟩
set_option maxRecDepth 100000 in
theorem vv_128_36 {l : Launch} (hl : l.stackTraces = false) : cj_V1 l 128 36 (80, 37, 1, [6]) 39 := Or.inr (Or.inr (Or.inl ⟨by decide +kernel, by decide +kernel, rfl, vc_virtual (n := 0) (q := (RK_6, TK_6, 2)) mi_37 dm_128_36 (Or.inl wm_523) wm_245 wm_246 rfl rfl (by decide +kernel) rfl (by decide +kernel) (by decide +kernel), (vx_none rfl)⟩))
set_option maxRecDepth 100000 in
theorem vv_128_39 {l : Launch} (hl : l.stackTraces = false) : cj_V1 l 128 39 (1, 1, 0, []) 40 := Or.inl ⟨by decide +kernel, ok_iconst_m dm_128_39 (by decide +kernel)⟩
set_option maxRecDepth 100000 in
theorem vv_128_40 {l : Launch} (hl : l.stackTraces = false) : cj_V1 l 128 40 (2, 1, 0, []) 41 := Or.inl ⟨by decide +kernel, ok_iload_n dm_128_40 rfl⟩
set_option maxRecDepth 100000 in
theorem vv_128_41 {l : Launch} (hl : l.stackTraces = false) : cj_V1 l 128 41 (11, 0, 0, []) 42 := Or.inl ⟨by decide +kernel, ok_isub dm_128_41⟩
set_option maxRecDepth 100000 in
theorem vv_128_42 {l : Launch} (hl : l.stackTraces = false) : cj_V1 l 128 42 (90, 0, 0, []) 43 := Or.inr (Or.inl ⟨by decide +kernel, Or.inl (Or.inl ⟨rfl, dm_128_42, rfl⟩)⟩)
set_option maxRecDepth 100000 in
theorem vv_128_43 {l : Launch} (hl : l.stackTraces = false) : cj_V1 l 128 43 (3, 0, 0, []) 44 := Or.inl ⟨by decide +kernel, ok_aload_n dm_128_43 rfl⟩
set_option maxRecDepth 100000 in
theorem vv_128_44 {l : Launch} (hl : l.stackTraces = false) : cj_V1 l 128 44 (3, 0, 0, []) 45 := Or.inl ⟨by decide +kernel, ok_aload_n dm_128_44 rfl⟩
set_option maxRecDepth 100000 in
theorem vv_128_45 {l : Launch} (hl : l.stackTraces = false) : cj_V1 l 128 45 (50, 0, 3, []) 48 := Or.inl ⟨by decide +kernel, ok_getfield (N := 11) (C := RK_0) (T := TK_0) dm_128_45 rfl inK_0 (by decide +kernel) wm_180⟩
set_option maxRecDepth 100000 in
theorem vv_128_48 {l : Launch} (hl : l.stackTraces = false) : cj_V1 l 128 48 (3, 0, 0, []) 49 := Or.inl ⟨by decide +kernel, ok_aload_n dm_128_48 rfl⟩
set_option maxRecDepth 100000 in
theorem vv_128_49 {l : Launch} (hl : l.stackTraces = false) : cj_V1 l 128 49 (50, 0, 6, []) 52 := Or.inl ⟨by decide +kernel, ok_getfield (N := 11) (C := RK_0) (T := TK_0) dm_128_49 rfl inK_0 (by decide +kernel) wm_183⟩
set_option maxRecDepth 100000 in
theorem vv_128_52 {l : Launch} (hl : l.stackTraces = false) : cj_V1 l 128 52 (54, 3, 0, []) 53 := Or.inl ⟨by decide +kernel, ok_aaload (C := "CatalogueSet$Signs") dm_128_52 rfl⟩
set_option maxRecDepth 100000 in
theorem vv_128_53 {l : Launch} (hl : l.stackTraces = false) : cj_V1 l 128 53 (80, 102, 2, [0]) 56 := Or.inr (Or.inr (Or.inl ⟨by decide +kernel, by decide +kernel, rfl, vc_virtual (n := 1) (q := (RK_0, TK_0, 11)) mi_102 dm_128_53 (Or.inl wm_524) wm_526 wm_p13 rfl rfl (by decide +kernel) rfl (by decide +kernel) (by decide +kernel), (vx_none rfl)⟩))
set_option maxRecDepth 100000 in
theorem vv_128_56 {l : Launch} (hl : l.stackTraces = false) : cj_V1 l 128 56 (26, 0, 0, []) 57 := Or.inl ⟨by decide +kernel, ok_pop dm_128_56⟩
set_option maxRecDepth 100000 in
theorem vv_128_57 {l : Launch} (hl : l.stackTraces = false) : cj_V1 l 128 57 (3, 0, 0, []) 58 := Or.inl ⟨by decide +kernel, ok_aload_n dm_128_57 rfl⟩
set_option maxRecDepth 100000 in
theorem vv_128_58 {l : Launch} (hl : l.stackTraces = false) : cj_V1 l 128 58 (25, 0, 0, []) 59 := Or.inl ⟨by decide +kernel, ok_dup dm_128_58⟩
set_option maxRecDepth 100000 in
theorem vv_128_59 {l : Launch} (hl : l.stackTraces = false) : cj_V1 l 128 59 (50, 0, 6, []) 62 := Or.inl ⟨by decide +kernel, ok_getfield (N := 11) (C := RK_0) (T := TK_0) dm_128_59 rfl inK_0 (by decide +kernel) wm_183⟩
set_option maxRecDepth 100000 in
theorem vv_128_62 {l : Launch} (hl : l.stackTraces = false) : cj_V1 l 128 62 (0, 1, 0, []) 63 := Or.inl ⟨by decide +kernel, ok_iconst dm_128_62 (by decide +kernel)⟩
set_option maxRecDepth 100000 in
theorem vv_128_63 {l : Launch} (hl : l.stackTraces = false) : cj_V1 l 128 63 (10, 0, 0, []) 64 := Or.inl ⟨by decide +kernel, ok_iadd dm_128_63⟩
set_option maxRecDepth 100000 in
theorem vv_128_64 {l : Launch} (hl : l.stackTraces = false) : cj_V1 l 128 64 (51, 0, 6, [0]) 67 := Or.inl ⟨by decide +kernel, ok_putfield (N := 11) (C := RK_0) (T := TK_0) (ty0 := tyK_0) dm_128_64 rfl inK_0 (by decide +kernel) wm_183 tyK_0_ok nmK_0 (Or.inl rfl) (Or.inl ⟨rfl, rfl⟩)⟩
set_option maxRecDepth 100000 in
theorem vv_128_67 {l : Launch} (hl : l.stackTraces = false) : cj_V1 l 128 67 (3, 0, 0, []) 68 := Or.inl ⟨by decide +kernel, ok_aload_n dm_128_67 rfl⟩
set_option maxRecDepth 100000 in
theorem vv_128_68 {l : Launch} (hl : l.stackTraces = false) : cj_V1 l 128 68 (50, 0, 6, []) 71 := Or.inl ⟨by decide +kernel, ok_getfield (N := 11) (C := RK_0) (T := TK_0) dm_128_68 rfl inK_0 (by decide +kernel) wm_183⟩
set_option maxRecDepth 100000 in
theorem vv_128_71 {l : Launch} (hl : l.stackTraces = false) : cj_V1 l 128 71 (0, 1, 0, []) 72 := Or.inl ⟨by decide +kernel, ok_iconst dm_128_71 (by decide +kernel)⟩
set_option maxRecDepth 100000 in
theorem vv_128_72 {l : Launch} (hl : l.stackTraces = false) : cj_V1 l 128 72 (11, 0, 0, []) 73 := Or.inl ⟨by decide +kernel, ok_isub dm_128_72⟩
set_option maxRecDepth 100000 in
theorem vv_128_73 {l : Launch} (hl : l.stackTraces = false) : cj_V1 l 128 73 (90, 0, 0, []) 74 := Or.inr (Or.inl ⟨by decide +kernel, Or.inl (Or.inl ⟨rfl, dm_128_73, rfl⟩)⟩)
set_option maxRecDepth 100000 in
theorem vm_128 {l : Launch} (hl : l.stackTraces = false) : cj_Vm l 128 := cj_Vm_of (r := kc128_) rfl ⟨vv_128_0 hl, vv_128_1 hl, vv_128_4 hl, vv_128_6 hl, vv_128_9 hl, vv_128_19 hl, vv_128_20 hl, vv_128_23 hl, vv_128_26 hl, vv_128_27 hl, vv_128_28 hl, vv_128_29 hl, vv_128_32 hl, vv_128_33 hl, vv_128_36 hl, vv_128_39 hl, vv_128_40 hl, vv_128_41 hl, vv_128_42 hl, vv_128_43 hl, vv_128_44 hl, vv_128_45 hl, vv_128_48 hl, vv_128_49 hl, vv_128_52 hl, vv_128_53 hl, vv_128_56 hl, vv_128_57 hl, vv_128_58 hl, vv_128_59 hl, vv_128_62 hl, vv_128_63 hl, vv_128_64 hl, vv_128_67 hl, vv_128_68 hl, vv_128_71 hl, vv_128_72 hl, vv_128_73 hl, trivial⟩
set_option maxRecDepth 100000 in
theorem vv_129_0 {l : Launch} (hl : l.stackTraces = false) : cj_V1 l 129 0 (3, 0, 0, []) 1 := Or.inl ⟨by decide +kernel, ok_aload_n dm_129_0 rfl⟩
set_option maxRecDepth 100000 in
theorem vv_129_1 {l : Launch} (hl : l.stackTraces = false) : cj_V1 l 129 1 (0, 0, 0, []) 2 := Or.inl ⟨by decide +kernel, ok_iconst dm_129_1 (by decide +kernel)⟩
set_option maxRecDepth 100000 in
theorem vv_129_2 {l : Launch} (hl : l.stackTraces = false) : cj_V1 l 129 2 (51, 1, 2, [0]) 5 := Or.inl ⟨by decide +kernel, ok_putfield (N := 4) (C := RK_1) (T := TK_1) (ty0 := tyK_1) dm_129_2 rfl inK_1 (by decide +kernel) wm_135 tyK_1_ok nmK_1 (Or.inl rfl) (Or.inl ⟨rfl, rfl⟩)⟩
set_option maxRecDepth 100000 in
theorem vv_129_5 {l : Launch} (hl : l.stackTraces = false) : cj_V1 l 129 5 (3, 3, 0, []) 6 := Or.inl ⟨by decide +kernel, ok_aload_n dm_129_5 rfl⟩
set_option maxRecDepth 100000 in
theorem vv_129_6 {l : Launch} (hl : l.stackTraces = false) : cj_V1 l 129 6 (2, 2, 0, []) 7 := Or.inl ⟨by decide +kernel, ok_iload_n dm_129_6 rfl⟩
set_option maxRecDepth 100000 in
theorem vv_129_7 {l : Launch} (hl : l.stackTraces = false) : cj_V1 l 129 7 (0, 1, 0, []) 8 := Or.inl ⟨by decide +kernel, ok_iconst dm_129_7 (by decide +kernel)⟩
set_option maxRecDepth 100000 in
theorem vv_129_8 {l : Launch} (hl : l.stackTraces = false) : cj_V1 l 129 8 (80, 23, 3, [3]) 11 := Or.inr (Or.inr (Or.inl ⟨by decide +kernel, by decide +kernel, rfl, vc_virtual (n := 2) (q := (RK_3, TK_3, 6)) mi_23 dm_129_8 (Or.inl wm_298) wm_299 wm_300 rfl rfl (by decide +kernel) rfl (by decide +kernel) (by decide +kernel), (vx_none rfl)⟩))
set_option maxRecDepth 100000 in
theorem vv_129_11 {l : Launch} (hl : l.stackTraces = false) : cj_V1 l 129 11 (3, 0, 0, []) 12 := Or.inl ⟨by decide +kernel, ok_aload_n dm_129_11 rfl⟩
set_option maxRecDepth 100000 in
theorem vv_129_12 {l : Launch} (hl : l.stackTraces = false) : cj_V1 l 129 12 (3, 1, 0, []) 13 := Or.inl ⟨by decide +kernel, ok_aload_n dm_129_12 rfl⟩
set_option maxRecDepth 100000 in
theorem vv_129_13 {l : Launch} (hl : l.stackTraces = false) : cj_V1 l 129 13 (3, 3, 0, []) 14 := Or.inl ⟨by decide +kernel, ok_aload_n dm_129_13 rfl⟩
set_option maxRecDepth 100000 in
theorem vv_129_14 {l : Launch} (hl : l.stackTraces = false) : cj_V1 l 129 14 (80, 73, 3, [1]) 17 := Or.inr (Or.inr (Or.inl ⟨by decide +kernel, by decide +kernel, rfl, vc_virtual (n := 2) (q := (RK_1, TK_1, 4)) mi_73 dm_129_14 (Or.inl wm_302) wm_304 wm_p5 rfl rfl (by decide +kernel) rfl (by decide +kernel) (by decide +kernel), (vx_none rfl)⟩))
set_option maxRecDepth 100000 in
theorem vv_129_17 {l : Launch} (hl : l.stackTraces = false) : cj_V1 l 129 17 (3, 3, 0, []) 18 := Or.inl ⟨by decide +kernel, ok_aload_n dm_129_17 rfl⟩
set_option maxRecDepth 100000 in
theorem vv_129_18 {l : Launch} (hl : l.stackTraces = false) : cj_V1 l 129 18 (80, 19, 1, [3]) 21 := Or.inr (Or.inr (Or.inl ⟨by decide +kernel, by decide +kernel, rfl, vc_virtual (n := 0) (q := (RK_3, TK_3, 6)) mi_19 dm_129_18 (Or.inl wm_314) wm_315 wm_316 rfl rfl (by decide +kernel) rfl (by decide +kernel) (by decide +kernel), (vx_none rfl)⟩))
set_option maxRecDepth 100000 in
theorem vv_129_21 {l : Launch} (hl : l.stackTraces = false) : cj_V1 l 129 21 (32, 26, 0, []) 24 := Or.inl ⟨by decide +kernel, ok_if_ne dm_129_21 (by decide +kernel)⟩
set_option maxRecDepth 100000 in
theorem vv_129_24 {l : Launch} (hl : l.stackTraces = false) : cj_V1 l 129 24 (0, 0, 0, []) 25 := Or.inl ⟨by decide +kernel, ok_iconst dm_129_24 (by decide +kernel)⟩
set_option maxRecDepth 100000 in
theorem vv_129_25 {l : Launch} (hl : l.stackTraces = false) : cj_V1 l 129 25 (93, 0, 0, []) 26 := Or.inr (Or.inl ⟨by decide +kernel, Or.inl (Or.inr (Or.inr (Or.inr ⟨rfl, dm_129_25, rfl⟩)))⟩)
set_option maxRecDepth 100000 in
theorem vv_129_26 {l : Launch} (hl : l.stackTraces = false) : cj_V1 l 129 26 (3, 3, 0, []) 27 := Or.inl ⟨by decide +kernel, ok_aload_n dm_129_26 rfl⟩
set_option maxRecDepth 100000 in
theorem vv_129_27 {l : Launch} (hl : l.stackTraces = false) : cj_V1 l 129 27 (80, 108, 1, [3]) 30 := Or.inr (Or.inr (Or.inl ⟨by decide +kernel, by decide +kernel, rfl, vc_virtual (n := 0) (q := (RK_3, TK_3, 6)) mi_108 dm_129_27 (Or.inl wm_318) wm_319 wm_320 rfl rfl (by decide +kernel) rfl (by decide +kernel) (by decide +kernel), (vx_none rfl)⟩))
set_option maxRecDepth 100000 in
theorem vv_129_30 {l : Launch} (hl : l.stackTraces = false) : cj_V1 l 129 30 (3, 0, 0, []) 31 := Or.inl ⟨by decide +kernel, ok_aload_n dm_129_30 rfl⟩
set_option maxRecDepth 100000 in
theorem vv_129_31 {l : Launch} (hl : l.stackTraces = false) : cj_V1 l 129 31 (3, 3, 0, []) 32 := Or.inl ⟨by decide +kernel, ok_aload_n dm_129_31 rfl⟩
set_option maxRecDepth 100000 in
theorem vv_129_32 {l : Launch} (hl : l.stackTraces = false) : cj_V1 l 129 32 (80, 71, 2, [1]) 35 := Or.inr (Or.inr (Or.inl ⟨by decide +kernel, by decide +kernel, rfl, vc_virtual (n := 1) (q := (RK_1, TK_1, 4)) mi_71 dm_129_32 (Or.inl wm_331) wm_333 wm_p7 rfl rfl (by decide +kernel) rfl (by decide +kernel) (by decide +kernel), (vx_none rfl)⟩))
set_option maxRecDepth 100000 in
theorem vv_129_35 {l : Launch} (hl : l.stackTraces = false) : cj_V1 l 129 35 (0, 1, 0, []) 36 := Or.inl ⟨by decide +kernel, ok_iconst dm_129_35 (by decide +kernel)⟩
set_option maxRecDepth 100000 in
theorem vv_129_36 {l : Launch} (hl : l.stackTraces = false) : cj_V1 l 129 36 (93, 0, 0, []) 37 := Or.inr (Or.inl ⟨by decide +kernel, Or.inl (Or.inr (Or.inr (Or.inr ⟨rfl, dm_129_36, rfl⟩)))⟩)
set_option maxRecDepth 100000 in
theorem vm_129 {l : Launch} (hl : l.stackTraces = false) : cj_Vm l 129 := cj_Vm_of (r := kc129_) rfl ⟨vv_129_0 hl, vv_129_1 hl, vv_129_2 hl, vv_129_5 hl, vv_129_6 hl, vv_129_7 hl, vv_129_8 hl, vv_129_11 hl, vv_129_12 hl, vv_129_13 hl, vv_129_14 hl, vv_129_17 hl, vv_129_18 hl, vv_129_21 hl, vv_129_24 hl, vv_129_25 hl, vv_129_26 hl, vv_129_27 hl, vv_129_30 hl, vv_129_31 hl, vv_129_32 hl, vv_129_35 hl, vv_129_36 hl, trivial⟩
set_option maxRecDepth 100000 in
theorem vv_130_0 {l : Launch} (hl : l.stackTraces = false) : cj_V1 l 130 0 (3, 1, 0, []) 1 := Or.inl ⟨by decide +kernel, ok_aload_n dm_130_0 rfl⟩
set_option maxRecDepth 100000 in
theorem vv_130_1 {l : Launch} (hl : l.stackTraces = false) : cj_V1 l 130 1 (80, 37, 1, [6]) 4 := Or.inr (Or.inr (Or.inl ⟨by decide +kernel, by decide +kernel, rfl, vc_virtual (n := 0) (q := (RK_6, TK_6, 2)) mi_37 dm_130_1 (Or.inl wm_244) wm_245 wm_246 rfl rfl (by decide +kernel) rfl (by decide +kernel) (by decide +kernel), (vx_none rfl)⟩))
set_option maxRecDepth 100000 in
theorem vv_130_4 {l : Launch} (hl : l.stackTraces = false) : cj_V1 l 130 4 (0, 0, 0, []) 5 := Or.inl ⟨by decide +kernel, ok_iconst dm_130_4 (by decide +kernel)⟩
set_option maxRecDepth 100000 in
theorem vv_130_5 {l : Launch} (hl : l.stackTraces = false) : cj_V1 l 130 5 (4, 3, 0, []) 6 := Or.inl ⟨by decide +kernel, ok_istore_n dm_130_5 rfl⟩
set_option maxRecDepth 100000 in
theorem vv_130_6 {l : Launch} (hl : l.stackTraces = false) : cj_V1 l 130 6 (2, 3, 0, []) 7 := Or.inl ⟨by decide +kernel, ok_iload_n dm_130_6 rfl⟩
set_option maxRecDepth 100000 in
theorem vv_130_7 {l : Launch} (hl : l.stackTraces = false) : cj_V1 l 130 7 (3, 0, 0, []) 8 := Or.inl ⟨by decide +kernel, ok_aload_n dm_130_7 rfl⟩
set_option maxRecDepth 100000 in
theorem vv_130_8 {l : Launch} (hl : l.stackTraces = false) : cj_V1 l 130 8 (50, 2, 2, []) 11 := Or.inl ⟨by decide +kernel, ok_getfield (N := 4) (C := RK_2) (T := TK_2) dm_130_8 rfl inK_2 (by decide +kernel) wm_57⟩
set_option maxRecDepth 100000 in
theorem vv_130_11 {l : Launch} (hl : l.stackTraces = false) : cj_V1 l 130 11 (80, 39, 1, [6]) 14 := Or.inr (Or.inr (Or.inl ⟨by decide +kernel, by decide +kernel, rfl, vc_virtual (n := 0) (q := (RK_6, TK_6, 2)) mi_39 dm_130_11 (Or.inl wm_248) wm_249 wm_250 rfl rfl (by decide +kernel) rfl (by decide +kernel) (by decide +kernel), (vx_none rfl)⟩))
set_option maxRecDepth 100000 in
theorem vv_130_14 {l : Launch} (hl : l.stackTraces = false) : cj_V1 l 130 14 (40, 116, 0, []) 17 := Or.inl ⟨by decide +kernel, ok_icmp_ge dm_130_14 (by decide +kernel)⟩
set_option maxRecDepth 100000 in
theorem vv_130_17 {l : Launch} (hl : l.stackTraces = false) : cj_V1 l 130 17 (3, 0, 0, []) 18 := Or.inl ⟨by decide +kernel, ok_aload_n dm_130_17 rfl⟩
set_option maxRecDepth 100000 in
theorem vv_130_18 {l : Launch} (hl : l.stackTraces = false) : cj_V1 l 130 18 (50, 2, 2, []) 21 := Or.inl ⟨by decide +kernel, ok_getfield (N := 4) (C := RK_2) (T := TK_2) dm_130_18 rfl inK_2 (by decide +kernel) wm_57⟩
set_option maxRecDepth 100000 in
theorem vv_130_21 {l : Launch} (hl : l.stackTraces = false) : cj_V1 l 130 21 (2, 3, 0, []) 22 := Or.inl ⟨by decide +kernel, ok_iload_n dm_130_21 rfl⟩
set_option maxRecDepth 100000 in
theorem vv_130_22 {l : Launch} (hl : l.stackTraces = false) : cj_V1 l 130 22 (80, 36, 2, [6]) 25 := Or.inr (Or.inr (Or.inl ⟨by decide +kernel, by decide +kernel, rfl, vc_virtual (n := 1) (q := (RK_6, TK_6, 2)) mi_36 dm_130_22 (Or.inl wm_252) wm_253 wm_254 rfl rfl (by decide +kernel) rfl (by decide +kernel) (by decide +kernel), (vx_none rfl)⟩))
set_option maxRecDepth 100000 in
theorem vv_130_25 {l : Launch} (hl : l.stackTraces = false) : cj_V1 l 130 25 (4, 4, 0, []) 27 := Or.inl ⟨by decide +kernel, ok_istore dm_130_25⟩
set_option maxRecDepth 100000 in
theorem vv_130_27 {l : Launch} (hl : l.stackTraces = false) : cj_V1 l 130 27 (2, 4, 0, []) 29 := Or.inl ⟨by decide +kernel, ok_iload dm_130_27⟩
set_option maxRecDepth 100000 in
theorem vv_130_29 {l : Launch} (hl : l.stackTraces = false) : cj_V1 l 130 29 (0, 91, 0, []) 31 := Or.inl ⟨by decide +kernel, ok_bipush dm_130_29 (by decide +kernel)⟩
set_option maxRecDepth 100000 in
theorem vv_130_31 {l : Launch} (hl : l.stackTraces = false) : cj_V1 l 130 31 (38, 51, 0, []) 34 := Or.inl ⟨by decide +kernel, ok_icmp_ne dm_130_31 (by decide +kernel)⟩
set_option maxRecDepth 100000 in
theorem vv_130_34 {l : Launch} (hl : l.stackTraces = false) : cj_V1 l 130 34 (3, 0, 0, []) 35 := Or.inl ⟨by decide +kernel, ok_aload_n dm_130_34 rfl⟩
set_option maxRecDepth 100000 in
theorem vv_130_35 {l : Launch} (hl : l.stackTraces = false) : cj_V1 l 130 35 (2, 3, 0, []) 36 := Or.inl ⟨by decide +kernel, ok_iload_n dm_130_35 rfl⟩
set_option maxRecDepth 100000 in
theorem vv_130_36 {l : Launch} (hl : l.stackTraces = false) : cj_V1 l 130 36 (80, 106, 2, [2]) 39 := Or.inr (Or.inr (Or.inl ⟨by decide +kernel, by decide +kernel, rfl, vc_virtual (n := 1) (q := (RK_2, TK_2, 4)) mi_106 dm_130_36 (Or.inl wm_256) wm_258 wm_p2 rfl rfl (by decide +kernel) rfl (by decide +kernel) (by decide +kernel), (vx_none rfl)⟩))
set_option maxRecDepth 100000 in
theorem vv_130_39 {l : Launch} (hl : l.stackTraces = false) : cj_V1 l 130 39 (32, 51, 0, []) 42 := Or.inl ⟨by decide +kernel, ok_if_ne dm_130_39 (by decide +kernel)⟩
set_option maxRecDepth 100000 in
theorem vv_130_42 {l : Launch} (hl : l.stackTraces = false) : cj_V1 l 130 42 (3, 0, 0, []) 43 := Or.inl ⟨by decide +kernel, ok_aload_n dm_130_42 rfl⟩
set_option maxRecDepth 100000 in
theorem vv_130_43 {l : Launch} (hl : l.stackTraces = false) : cj_V1 l 130 43 (2, 3, 0, []) 44 := Or.inl ⟨by decide +kernel, ok_iload_n dm_130_43 rfl⟩
set_option maxRecDepth 100000 in
theorem vv_130_44 {l : Launch} (hl : l.stackTraces = false) : cj_V1 l 130 44 (80, 75, 2, [2]) 47 := Or.inr (Or.inr (Or.inl ⟨by decide +kernel, by decide +kernel, rfl, vc_virtual (n := 1) (q := (RK_2, TK_2, 4)) mi_75 dm_130_44 (Or.inl wm_260) wm_262 wm_p3 rfl rfl (by decide +kernel) rfl (by decide +kernel) (by decide +kernel), (vx_none rfl)⟩))
set_option maxRecDepth 100000 in
theorem vv_130_47 {l : Launch} (hl : l.stackTraces = false) : cj_V1 l 130 47 (4, 3, 0, []) 48 := Or.inl ⟨by decide +kernel, ok_istore_n dm_130_47 rfl⟩
set_option maxRecDepth 100000 in
theorem vv_130_48 {l : Launch} (hl : l.stackTraces = false) : cj_V1 l 130 48 (30, 110, 0, []) 51 := Or.inl ⟨by decide +kernel, ok_goto dm_130_48 (by decide +kernel)⟩
set_option maxRecDepth 100000 in
theorem vv_130_51 {l : Launch} (hl : l.stackTraces = false) : cj_V1 l 130 51 (2, 4, 0, []) 53 := Or.inl ⟨by decide +kernel, ok_iload dm_130_51⟩
set_option maxRecDepth 100000 in
theorem vv_130_53 {l : Launch} (hl : l.stackTraces = false) : cj_V1 l 130 53 (0, 35, 0, []) 55 := Or.inl ⟨by decide +kernel, ok_bipush dm_130_53 (by decide +kernel)⟩
set_option maxRecDepth 100000 in
theorem vv_130_55 {l : Launch} (hl : l.stackTraces = false) : cj_V1 l 130 55 (37, 65, 0, []) 58 := Or.inl ⟨by decide +kernel, ok_icmp_eq dm_130_55 (by decide +kernel)⟩
set_option maxRecDepth 100000 in
theorem vv_130_58 {l : Launch} (hl : l.stackTraces = false) : cj_V1 l 130 58 (2, 4, 0, []) 60 := Or.inl ⟨by decide +kernel, ok_iload dm_130_58⟩
set_option maxRecDepth 100000 in
theorem vv_130_60 {l : Launch} (hl : l.stackTraces = false) : cj_V1 l 130 60 (0, 64, 0, []) 62 := Or.inl ⟨by decide +kernel, ok_bipush dm_130_60 (by decide +kernel)⟩
set_option maxRecDepth 100000 in
theorem vv_130_62 {l : Launch} (hl : l.stackTraces = false) : cj_V1 l 130 62 (38, 90, 0, []) 65 := Or.inl ⟨by decide +kernel, ok_icmp_ne dm_130_62 (by decide +kernel)⟩
set_option maxRecDepth 100000 in
theorem vv_130_65 {l : Launch} (hl : l.stackTraces = false) : cj_V1 l 130 65 (6, 3, 1, []) 68 := Or.inl ⟨by decide +kernel, ok_iinc6 dm_130_65 (by decide +kernel)⟩
set_option maxRecDepth 100000 in
theorem vv_130_68 {l : Launch} (hl : l.stackTraces = false) : cj_V1 l 130 68 (3, 0, 0, []) 69 := Or.inl ⟨by decide +kernel, ok_aload_n dm_130_68 rfl⟩
set_option maxRecDepth 100000 in
theorem vv_130_69 {l : Launch} (hl : l.stackTraces = false) : cj_V1 l 130 69 (3, 1, 0, []) 70 := Or.inl ⟨by decide +kernel, ok_aload_n dm_130_69 rfl⟩
set_option maxRecDepth 100000 in
theorem vv_130_70 {l : Launch} (hl : l.stackTraces = false) : cj_V1 l 130 70 (2, 4, 0, []) 72 := Or.inl ⟨by decide +kernel, ok_iload dm_130_70⟩
set_option maxRecDepth 100000 in
theorem vv_130_72 {l : Launch} (hl : l.stackTraces = false) : cj_V1 l 130 72 (3, 0, 0, []) 73 := Or.inl ⟨by decide +kernel, ok_aload_n dm_130_72 rfl⟩
set_option maxRecDepth 100000 in
theorem vv_130_73 {l : Launch} (hl : l.stackTraces = false) : cj_V1 l 130 73 (50, 2, 2, []) 76 := Or.inl ⟨by decide +kernel, ok_getfield (N := 4) (C := RK_2) (T := TK_2) dm_130_73 rfl inK_2 (by decide +kernel) wm_57⟩
set_option maxRecDepth 100000 in
theorem vv_130_76 {l : Launch} (hl : l.stackTraces = false) : cj_V1 l 130 76 (2, 3, 0, []) 77 := Or.inl ⟨by decide +kernel, ok_iload_n dm_130_76 rfl⟩
set_option maxRecDepth 100000 in
theorem vv_130_77 {l : Launch} (hl : l.stackTraces = false) : cj_V1 l 130 77 (80, 36, 2, [6]) 80 := Or.inr (Or.inr (Or.inl ⟨by decide +kernel, by decide +kernel, rfl, vc_virtual (n := 1) (q := (RK_6, TK_6, 2)) mi_36 dm_130_77 (Or.inl wm_252) wm_253 wm_254 rfl rfl (by decide +kernel) rfl (by decide +kernel) (by decide +kernel), (vx_none rfl)⟩))
set_option maxRecDepth 100000 in
theorem vv_130_80 {l : Launch} (hl : l.stackTraces = false) : cj_V1 l 130 80 (0, 48, 0, []) 82 := Or.inl ⟨by decide +kernel, ok_bipush dm_130_80 (by decide +kernel)⟩
set_option maxRecDepth 100000 in
theorem vv_130_82 {l : Launch} (hl : l.stackTraces = false) : cj_V1 l 130 82 (11, 0, 0, []) 83 := Or.inl ⟨by decide +kernel, ok_isub dm_130_82⟩
set_option maxRecDepth 100000 in
theorem vv_130_83 {l : Launch} (hl : l.stackTraces = false) : cj_V1 l 130 83 (3, 2, 0, []) 84 := Or.inl ⟨by decide +kernel, ok_aload_n dm_130_83 rfl⟩
set_option maxRecDepth 100000 in
theorem vv_130_84 {l : Launch} (hl : l.stackTraces = false) : cj_V1 l 130 84 (80, 107, 5, [2]) 87 := Or.inr (Or.inr (Or.inl ⟨by decide +kernel, by decide +kernel, rfl, vc_virtual (n := 4) (q := (RK_2, TK_2, 4)) mi_107 dm_130_84 (Or.inl wm_268) wm_270 wm_p4 rfl rfl (by decide +kernel) rfl (by decide +kernel) (by decide +kernel), (vx_none rfl)⟩))
set_option maxRecDepth 100000 in
theorem vv_130_87 {l : Launch} (hl : l.stackTraces = false) : cj_V1 l 130 87 (30, 110, 0, []) 90 := Or.inl ⟨by decide +kernel, ok_goto dm_130_87 (by decide +kernel)⟩
set_option maxRecDepth 100000 in
theorem vv_130_90 {l : Launch} (hl : l.stackTraces = false) : cj_V1 l 130 90 (2, 4, 0, []) 92 := Or.inl ⟨by decide +kernel, ok_iload dm_130_90⟩
set_option maxRecDepth 100000 in
theorem vv_130_92 {l : Launch} (hl : l.stackTraces = false) : cj_V1 l 130 92 (0, 91, 0, []) 94 := Or.inl ⟨by decide +kernel, ok_bipush dm_130_92 (by decide +kernel)⟩
set_option maxRecDepth 100000 in
theorem vv_130_94 {l : Launch} (hl : l.stackTraces = false) : cj_V1 l 130 94 (37, 110, 0, []) 97 := Or.inl ⟨by decide +kernel, ok_icmp_eq dm_130_94 (by decide +kernel)⟩
set_option maxRecDepth 100000 in
theorem vv_130_97 {l : Launch} (hl : l.stackTraces = false) : cj_V1 l 130 97 (2, 4, 0, []) 99 := Or.inl ⟨by decide +kernel, ok_iload dm_130_97⟩
set_option maxRecDepth 100000 in
theorem vv_130_99 {l : Launch} (hl : l.stackTraces = false) : cj_V1 l 130 99 (0, 93, 0, []) 101 := Or.inl ⟨by decide +kernel, ok_bipush dm_130_99 (by decide +kernel)⟩
set_option maxRecDepth 100000 in
theorem vv_130_101 {l : Launch} (hl : l.stackTraces = false) : cj_V1 l 130 101 (37, 110, 0, []) 104 := Or.inl ⟨by decide +kernel, ok_icmp_eq dm_130_101 (by decide +kernel)⟩
set_option maxRecDepth 100000 in
theorem vv_130_104 {l : Launch} (hl : l.stackTraces = false) : cj_V1 l 130 104 (3, 1, 0, []) 105 := Or.inl ⟨by decide +kernel, ok_aload_n dm_130_104 rfl⟩
set_option maxRecDepth 100000 in
theorem vv_130_105 {l : Launch} (hl : l.stackTraces = false) : cj_V1 l 130 105 (2, 4, 0, []) 107 := Or.inl ⟨by decide +kernel, ok_iload dm_130_105⟩
set_option maxRecDepth 100000 in
theorem vv_130_107 {l : Launch} (hl : l.stackTraces = false) : cj_V1 l 130 107 (80, 35, 2, [6]) 110 := Or.inr (Or.inr (Or.inl ⟨by decide +kernel, by decide +kernel, rfl, vc_virtual (n := 1) (q := (RK_6, TK_6, 2)) mi_35 dm_130_107 (Or.inl wm_285) wm_279 wm_280 rfl rfl (by decide +kernel) rfl (by decide +kernel) (by decide +kernel), (vx_none rfl)⟩))
set_option maxRecDepth 100000 in
theorem vv_130_110 {l : Launch} (hl : l.stackTraces = false) : cj_V1 l 130 110 (6, 3, 1, []) 113 := Or.inl ⟨by decide +kernel, ok_iinc6 dm_130_110 (by decide +kernel)⟩
set_option maxRecDepth 100000 in
theorem vv_130_113 {l : Launch} (hl : l.stackTraces = false) : cj_V1 l 130 113 (30, 6, 0, []) 116 := Or.inl ⟨by decide +kernel, ok_goto dm_130_113 (by decide +kernel)⟩
set_option maxRecDepth 100000 in
theorem vv_130_116 {l : Launch} (hl : l.stackTraces = false) : cj_V1 l 130 116 (91, 0, 0, []) 117 := Or.inr (Or.inl ⟨by decide +kernel, Or.inl (Or.inr (Or.inl ⟨rfl, dm_130_116, rfl⟩))⟩)
set_option maxRecDepth 100000 in
theorem vm_130 {l : Launch} (hl : l.stackTraces = false) : cj_Vm l 130 := cj_Vm_of (r := kc130_) rfl ⟨vv_130_0 hl, vv_130_1 hl, vv_130_4 hl, vv_130_5 hl, vv_130_6 hl, vv_130_7 hl, vv_130_8 hl, vv_130_11 hl, vv_130_14 hl, vv_130_17 hl, vv_130_18 hl, vv_130_21 hl, vv_130_22 hl, vv_130_25 hl, vv_130_27 hl, vv_130_29 hl, vv_130_31 hl, vv_130_34 hl, vv_130_35 hl, vv_130_36 hl, vv_130_39 hl, vv_130_42 hl, vv_130_43 hl, vv_130_44 hl, vv_130_47 hl, vv_130_48 hl, vv_130_51 hl, vv_130_53 hl, vv_130_55 hl, vv_130_58 hl, vv_130_60 hl, vv_130_62 hl, vv_130_65 hl, vv_130_68 hl, vv_130_69 hl, vv_130_70 hl, vv_130_72 hl, vv_130_73 hl, vv_130_76 hl, vv_130_77 hl, vv_130_80 hl, vv_130_82 hl, vv_130_83 hl, vv_130_84 hl, vv_130_87 hl, vv_130_90 hl, vv_130_92 hl, vv_130_94 hl, vv_130_97 hl, vv_130_99 hl, vv_130_101 hl, vv_130_104 hl, vv_130_105 hl, vv_130_107 hl, vv_130_110 hl, vv_130_113 hl, vv_130_116 hl, trivial⟩
set_option maxRecDepth 100000 in
theorem vv_131_0 {l : Launch} (hl : l.stackTraces = false) : cj_V1 l 131 0 (3, 2, 0, []) 1 := Or.inl ⟨by decide +kernel, ok_aload_n dm_131_0 rfl⟩
set_option maxRecDepth 100000 in
theorem vv_131_1 {l : Launch} (hl : l.stackTraces = false) : cj_V1 l 131 1 (2, 1, 0, []) 2 := Or.inl ⟨by decide +kernel, ok_iload_n dm_131_1 rfl⟩
set_option maxRecDepth 100000 in
theorem vv_131_2 {l : Launch} (hl : l.stackTraces = false) : cj_V1 l 131 2 (0, 0, 0, []) 3 := Or.inl ⟨by decide +kernel, ok_iconst dm_131_2 (by decide +kernel)⟩
set_option maxRecDepth 100000 in
theorem vv_131_3 {l : Launch} (hl : l.stackTraces = false) : cj_V1 l 131 3 (80, 23, 3, [3]) 6 := Or.inr (Or.inr (Or.inl ⟨by decide +kernel, by decide +kernel, rfl, vc_virtual (n := 2) (q := (RK_3, TK_3, 6)) mi_23 dm_131_3 (Or.inl wm_361) wm_299 wm_300 rfl rfl (by decide +kernel) rfl (by decide +kernel) (by decide +kernel), (vx_none rfl)⟩))
set_option maxRecDepth 100000 in
theorem vv_131_6 {l : Launch} (hl : l.stackTraces = false) : cj_V1 l 131 6 (0, 0, 0, []) 7 := Or.inl ⟨by decide +kernel, ok_iconst dm_131_6 (by decide +kernel)⟩
set_option maxRecDepth 100000 in
theorem vv_131_7 {l : Launch} (hl : l.stackTraces = false) : cj_V1 l 131 7 (4, 3, 0, []) 8 := Or.inl ⟨by decide +kernel, ok_istore_n dm_131_7 rfl⟩
set_option maxRecDepth 100000 in
theorem vv_131_8 {l : Launch} (hl : l.stackTraces = false) : cj_V1 l 131 8 (2, 3, 0, []) 9 := Or.inl ⟨by decide +kernel, ok_iload_n dm_131_8 rfl⟩
set_option maxRecDepth 100000 in
theorem vv_131_9 {l : Launch} (hl : l.stackTraces = false) : cj_V1 l 131 9 (3, 0, 0, []) 10 := Or.inl ⟨by decide +kernel, ok_aload_n dm_131_9 rfl⟩
set_option maxRecDepth 100000 in
theorem vv_131_10 {l : Launch} (hl : l.stackTraces = false) : cj_V1 l 131 10 (50, 5, 4, []) 13 := Or.inl ⟨by decide +kernel, ok_getfield (N := 10) (C := RK_5) (T := TK_5) dm_131_10 rfl inK_5 (by decide +kernel) wm_150⟩
set_option maxRecDepth 100000 in
theorem vv_131_13 {l : Launch} (hl : l.stackTraces = false) : cj_V1 l 131 13 (40, 70, 0, []) 16 := Or.inl ⟨by decide +kernel, ok_icmp_ge dm_131_13 (by decide +kernel)⟩
set_option maxRecDepth 100000 in
theorem vv_131_16 {l : Launch} (hl : l.stackTraces = false) : cj_V1 l 131 16 (3, 0, 0, []) 17 := Or.inl ⟨by decide +kernel, ok_aload_n dm_131_16 rfl⟩
set_option maxRecDepth 100000 in
theorem vv_131_17 {l : Launch} (hl : l.stackTraces = false) : cj_V1 l 131 17 (50, 5, 1, []) 20 := Or.inl ⟨by decide +kernel, ok_getfield (N := 10) (C := RK_5) (T := TK_5) dm_131_17 rfl inK_5 (by decide +kernel) wm_147⟩
set_option maxRecDepth 100000 in
theorem vv_131_20 {l : Launch} (hl : l.stackTraces = false) : cj_V1 l 131 20 (2, 3, 0, []) 21 := Or.inl ⟨by decide +kernel, ok_iload_n dm_131_20 rfl⟩
set_option maxRecDepth 100000 in
theorem vv_131_21 {l : Launch} (hl : l.stackTraces = false) : cj_V1 l 131 21 (3, 2, 0, []) 22 := Or.inl ⟨by decide +kernel, ok_aload_n dm_131_21 rfl⟩
set_option maxRecDepth 100000 in
theorem vv_131_22 {l : Launch} (hl : l.stackTraces = false) : cj_V1 l 131 22 (80, 20, 1, [3]) 25 := Or.inr (Or.inr (Or.inl ⟨by decide +kernel, by decide +kernel, rfl, vc_virtual (n := 0) (q := (RK_3, TK_3, 6)) mi_20 dm_131_22 (Or.inl wm_362) wm_336 wm_337 rfl rfl (by decide +kernel) rfl (by decide +kernel) (by decide +kernel), (vx_none rfl)⟩))
set_option maxRecDepth 100000 in
theorem vv_131_25 {l : Launch} (hl : l.stackTraces = false) : cj_V1 l 131 25 (56, 0, 0, []) 26 := Or.inl ⟨by decide +kernel, ok_iastore dm_131_25 rfl⟩
set_option maxRecDepth 100000 in
theorem vv_131_26 {l : Launch} (hl : l.stackTraces = false) : cj_V1 l 131 26 (0, 0, 0, []) 27 := Or.inl ⟨by decide +kernel, ok_iconst dm_131_26 (by decide +kernel)⟩
set_option maxRecDepth 100000 in
theorem vv_131_27 {l : Launch} (hl : l.stackTraces = false) : cj_V1 l 131 27 (4, 4, 0, []) 29 := Or.inl ⟨by decide +kernel, ok_istore dm_131_27⟩
set_option maxRecDepth 100000 in
theorem vv_131_29 {l : Launch} (hl : l.stackTraces = false) : cj_V1 l 131 29 (2, 4, 0, []) 31 := Or.inl ⟨by decide +kernel, ok_iload dm_131_29⟩
set_option maxRecDepth 100000 in
theorem vv_131_31 {l : Launch} (hl : l.stackTraces = false) : cj_V1 l 131 31 (3, 0, 0, []) 32 := Or.inl ⟨by decide +kernel, ok_aload_n dm_131_31 rfl⟩
set_option maxRecDepth 100000 in
theorem vv_131_32 {l : Launch} (hl : l.stackTraces = false) : cj_V1 l 131 32 (50, 5, 0, []) 35 := Or.inl ⟨by decide +kernel, ok_getfield (N := 10) (C := RK_5) (T := TK_5) dm_131_32 rfl inK_5 (by decide +kernel) wm_146⟩
set_option maxRecDepth 100000 in
theorem vv_131_35 {l : Launch} (hl : l.stackTraces = false) : cj_V1 l 131 35 (2, 3, 0, []) 36 := Or.inl ⟨by decide +kernel, ok_iload_n dm_131_35 rfl⟩
set_option maxRecDepth 100000 in
theorem vv_131_36 {l : Launch} (hl : l.stackTraces = false) : cj_V1 l 131 36 (54, 5, 0, []) 37 := Or.inl ⟨by decide +kernel, ok_aaload (C := "CatalogueSet$Block") dm_131_36 rfl⟩
set_option maxRecDepth 100000 in
theorem vv_131_37 {l : Launch} (hl : l.stackTraces = false) : cj_V1 l 131 37 (80, 9, 1, [1]) 40 := Or.inr (Or.inr (Or.inl ⟨by decide +kernel, by decide +kernel, rfl, vc_virtual (n := 0) (q := (RK_1, TK_1, 4)) mi_9 dm_131_37 (Or.inl wm_363) wm_364 wm_365 rfl rfl (by decide +kernel) rfl (by decide +kernel) (by decide +kernel), (vx_none rfl)⟩))
set_option maxRecDepth 100000 in
theorem vv_131_40 {l : Launch} (hl : l.stackTraces = false) : cj_V1 l 131 40 (40, 64, 0, []) 43 := Or.inl ⟨by decide +kernel, ok_icmp_ge dm_131_40 (by decide +kernel)⟩
set_option maxRecDepth 100000 in
theorem vv_131_43 {l : Launch} (hl : l.stackTraces = false) : cj_V1 l 131 43 (3, 2, 0, []) 44 := Or.inl ⟨by decide +kernel, ok_aload_n dm_131_43 rfl⟩
set_option maxRecDepth 100000 in
theorem vv_131_44 {l : Launch} (hl : l.stackTraces = false) : cj_V1 l 131 44 (3, 0, 0, []) 45 := Or.inl ⟨by decide +kernel, ok_aload_n dm_131_44 rfl⟩
set_option maxRecDepth 100000 in
theorem vv_131_45 {l : Launch} (hl : l.stackTraces = false) : cj_V1 l 131 45 (50, 5, 0, []) 48 := Or.inl ⟨by decide +kernel, ok_getfield (N := 10) (C := RK_5) (T := TK_5) dm_131_45 rfl inK_5 (by decide +kernel) wm_146⟩
set_option maxRecDepth 100000 in
theorem vv_131_48 {l : Launch} (hl : l.stackTraces = false) : cj_V1 l 131 48 (2, 3, 0, []) 49 := Or.inl ⟨by decide +kernel, ok_iload_n dm_131_48 rfl⟩
set_option maxRecDepth 100000 in
theorem vv_131_49 {l : Launch} (hl : l.stackTraces = false) : cj_V1 l 131 49 (54, 5, 0, []) 50 := Or.inl ⟨by decide +kernel, ok_aaload (C := "CatalogueSet$Block") dm_131_49 rfl⟩
set_option maxRecDepth 100000 in
theorem vv_131_50 {l : Launch} (hl : l.stackTraces = false) : cj_V1 l 131 50 (2, 4, 0, []) 52 := Or.inl ⟨by decide +kernel, ok_iload dm_131_50⟩
set_option maxRecDepth 100000 in
theorem vv_131_52 {l : Launch} (hl : l.stackTraces = false) : cj_V1 l 131 52 (80, 4, 2, [1]) 55 := Or.inr (Or.inr (Or.inl ⟨by decide +kernel, by decide +kernel, rfl, vc_virtual (n := 1) (q := (RK_1, TK_1, 4)) mi_4 dm_131_52 (Or.inl wm_368) wm_345 wm_346 rfl rfl (by decide +kernel) rfl (by decide +kernel) (by decide +kernel), (vx_none rfl)⟩))
set_option maxRecDepth 100000 in
theorem vv_131_55 {l : Launch} (hl : l.stackTraces = false) : cj_V1 l 131 55 (80, 17, 2, [3]) 58 := Or.inr (Or.inr (Or.inl ⟨by decide +kernel, by decide +kernel, rfl, vc_virtual (n := 1) (q := (RK_3, TK_3, 6)) mi_17 dm_131_55 (Or.inl wm_369) wm_311 wm_312 rfl rfl (by decide +kernel) rfl (by decide +kernel) (by decide +kernel), (vx_none rfl)⟩))
set_option maxRecDepth 100000 in
theorem vv_131_58 {l : Launch} (hl : l.stackTraces = false) : cj_V1 l 131 58 (6, 4, 1, []) 61 := Or.inl ⟨by decide +kernel, ok_iinc6 dm_131_58 (by decide +kernel)⟩
set_option maxRecDepth 100000 in
theorem vv_131_61 {l : Launch} (hl : l.stackTraces = false) : cj_V1 l 131 61 (30, 29, 0, []) 64 := Or.inl ⟨by decide +kernel, ok_goto dm_131_61 (by decide +kernel)⟩
set_option maxRecDepth 100000 in
theorem vv_131_64 {l : Launch} (hl : l.stackTraces = false) : cj_V1 l 131 64 (6, 3, 1, []) 67 := Or.inl ⟨by decide +kernel, ok_iinc6 dm_131_64 (by decide +kernel)⟩
set_option maxRecDepth 100000 in
theorem vv_131_67 {l : Launch} (hl : l.stackTraces = false) : cj_V1 l 131 67 (30, 8, 0, []) 70 := Or.inl ⟨by decide +kernel, ok_goto dm_131_67 (by decide +kernel)⟩
set_option maxRecDepth 100000 in
theorem vv_131_70 {l : Launch} (hl : l.stackTraces = false) : cj_V1 l 131 70 (3, 0, 0, []) 71 := Or.inl ⟨by decide +kernel, ok_aload_n dm_131_70 rfl⟩
set_option maxRecDepth 100000 in
theorem vv_131_71 {l : Launch} (hl : l.stackTraces = false) : cj_V1 l 131 71 (50, 5, 1, []) 74 := Or.inl ⟨by decide +kernel, ok_getfield (N := 10) (C := RK_5) (T := TK_5) dm_131_71 rfl inK_5 (by decide +kernel) wm_147⟩
set_option maxRecDepth 100000 in
theorem vv_131_74 {l : Launch} (hl : l.stackTraces = false) : cj_V1 l 131 74 (3, 0, 0, []) 75 := Or.inl ⟨by decide +kernel, ok_aload_n dm_131_74 rfl⟩
set_option maxRecDepth 100000 in
theorem vv_131_75 {l : Launch} (hl : l.stackTraces = false) : cj_V1 l 131 75 (50, 5, 4, []) 78 := Or.inl ⟨by decide +kernel, ok_getfield (N := 10) (C := RK_5) (T := TK_5) dm_131_75 rfl inK_5 (by decide +kernel) wm_150⟩
set_option maxRecDepth 100000 in
theorem vv_131_78 {l : Launch} (hl : l.stackTraces = false) : cj_V1 l 131 78 (3, 2, 0, []) 79 := Or.inl ⟨by decide +kernel, ok_aload_n dm_131_78 rfl⟩
set_option maxRecDepth 100000 in
theorem vv_131_79 {l : Launch} (hl : l.stackTraces = false) : cj_V1 l 131 79 (80, 20, 1, [3]) 82 := Or.inr (Or.inr (Or.inl ⟨by decide +kernel, by decide +kernel, rfl, vc_virtual (n := 0) (q := (RK_3, TK_3, 6)) mi_20 dm_131_79 (Or.inl wm_362) wm_336 wm_337 rfl rfl (by decide +kernel) rfl (by decide +kernel) (by decide +kernel), (vx_none rfl)⟩))
set_option maxRecDepth 100000 in
theorem vv_131_82 {l : Launch} (hl : l.stackTraces = false) : cj_V1 l 131 82 (56, 0, 0, []) 83 := Or.inl ⟨by decide +kernel, ok_iastore dm_131_82 rfl⟩
set_option maxRecDepth 100000 in
theorem vv_131_83 {l : Launch} (hl : l.stackTraces = false) : cj_V1 l 131 83 (3, 2, 0, []) 84 := Or.inl ⟨by decide +kernel, ok_aload_n dm_131_83 rfl⟩
set_option maxRecDepth 100000 in
theorem vv_131_84 {l : Launch} (hl : l.stackTraces = false) : cj_V1 l 131 84 (80, 108, 1, [3]) 87 := Or.inr (Or.inr (Or.inl ⟨by decide +kernel, by decide +kernel, rfl, vc_virtual (n := 0) (q := (RK_3, TK_3, 6)) mi_108 dm_131_84 (Or.inl wm_370) wm_319 wm_320 rfl rfl (by decide +kernel) rfl (by decide +kernel) (by decide +kernel), (vx_none rfl)⟩))
set_option maxRecDepth 100000 in
theorem vv_131_87 {l : Launch} (hl : l.stackTraces = false) : cj_V1 l 131 87 (3, 0, 0, []) 88 := Or.inl ⟨by decide +kernel, ok_aload_n dm_131_87 rfl⟩
set_option maxRecDepth 100000 in
theorem vv_131_88 {l : Launch} (hl : l.stackTraces = false) : cj_V1 l 131 88 (3, 2, 0, []) 89 := Or.inl ⟨by decide +kernel, ok_aload_n dm_131_88 rfl⟩
set_option maxRecDepth 100000 in
theorem vv_131_89 {l : Launch} (hl : l.stackTraces = false) : cj_V1 l 131 89 (80, 21, 1, [3]) 92 := Or.inr (Or.inr (Or.inl ⟨by decide +kernel, by decide +kernel, rfl, vc_virtual (n := 0) (q := (RK_3, TK_3, 6)) mi_21 dm_131_89 (Or.inl wm_371) wm_350 wm_351 rfl rfl (by decide +kernel) rfl (by decide +kernel) (by decide +kernel), (vx_none rfl)⟩))
set_option maxRecDepth 100000 in
theorem vv_131_92 {l : Launch} (hl : l.stackTraces = false) : cj_V1 l 131 92 (51, 5, 9, [0]) 95 := Or.inl ⟨by decide +kernel, ok_putfield (N := 10) (C := RK_5) (T := TK_5) (ty0 := tyK_5) dm_131_92 rfl inK_5 (by decide +kernel) wm_155 tyK_5_ok nmK_5 (Or.inl rfl) (Or.inl ⟨rfl, rfl⟩)⟩
set_option maxRecDepth 100000 in
theorem vv_131_95 {l : Launch} (hl : l.stackTraces = false) : cj_V1 l 131 95 (3, 0, 0, []) 96 := Or.inl ⟨by decide +kernel, ok_aload_n dm_131_95 rfl⟩
set_option maxRecDepth 100000 in
theorem vv_131_96 {l : Launch} (hl : l.stackTraces = false) : cj_V1 l 131 96 (3, 2, 0, []) 97 := Or.inl ⟨by decide +kernel, ok_aload_n dm_131_96 rfl⟩
set_option maxRecDepth 100000 in
theorem vv_131_97 {l : Launch} (hl : l.stackTraces = false) : cj_V1 l 131 97 (80, 81, 2, [5]) 100 := Or.inr (Or.inr (Or.inl ⟨by decide +kernel, by decide +kernel, rfl, vc_virtual (n := 1) (q := (RK_5, TK_5, 10)) mi_81 dm_131_97 (Or.inl wm_372) wm_374 wm_p8 rfl rfl (by decide +kernel) rfl (by decide +kernel) (by decide +kernel), (vx_none rfl)⟩))
set_option maxRecDepth 100000 in
theorem vv_131_100 {l : Launch} (hl : l.stackTraces = false) : cj_V1 l 131 100 (3, 0, 0, []) 101 := Or.inl ⟨by decide +kernel, ok_aload_n dm_131_100 rfl⟩
set_option maxRecDepth 100000 in
theorem vv_131_101 {l : Launch} (hl : l.stackTraces = false) : cj_V1 l 131 101 (80, 79, 1, [5]) 104 := Or.inr (Or.inr (Or.inl ⟨by decide +kernel, by decide +kernel, rfl, vc_virtual (n := 0) (q := (RK_5, TK_5, 10)) mi_79 dm_131_101 (Or.inl wm_377) wm_379 wm_p9 rfl rfl (by decide +kernel) rfl (by decide +kernel) (by decide +kernel), (vx_none rfl)⟩))
set_option maxRecDepth 100000 in
theorem vv_131_104 {l : Launch} (hl : l.stackTraces = false) : cj_V1 l 131 104 (91, 0, 0, []) 105 := Or.inr (Or.inl ⟨by decide +kernel, Or.inl (Or.inr (Or.inl ⟨rfl, dm_131_104, rfl⟩))⟩)
set_option maxRecDepth 100000 in
theorem vm_131 {l : Launch} (hl : l.stackTraces = false) : cj_Vm l 131 := cj_Vm_of (r := kc131_) rfl ⟨vv_131_0 hl, vv_131_1 hl, vv_131_2 hl, vv_131_3 hl, vv_131_6 hl, vv_131_7 hl, vv_131_8 hl, vv_131_9 hl, vv_131_10 hl, vv_131_13 hl, vv_131_16 hl, vv_131_17 hl, vv_131_20 hl, vv_131_21 hl, vv_131_22 hl, vv_131_25 hl, vv_131_26 hl, vv_131_27 hl, vv_131_29 hl, vv_131_31 hl, vv_131_32 hl, vv_131_35 hl, vv_131_36 hl, vv_131_37 hl, vv_131_40 hl, vv_131_43 hl, vv_131_44 hl, vv_131_45 hl, vv_131_48 hl, vv_131_49 hl, vv_131_50 hl, vv_131_52 hl, vv_131_55 hl, vv_131_58 hl, vv_131_61 hl, vv_131_64 hl, vv_131_67 hl, vv_131_70 hl, vv_131_71 hl, vv_131_74 hl, vv_131_75 hl, vv_131_78 hl, vv_131_79 hl, vv_131_82 hl, vv_131_83 hl, vv_131_84 hl, vv_131_87 hl, vv_131_88 hl, vv_131_89 hl, vv_131_92 hl, vv_131_95 hl, vv_131_96 hl, vv_131_97 hl, vv_131_100 hl, vv_131_101 hl, vv_131_104 hl, trivial⟩
set_option maxRecDepth 100000 in
theorem vv_132_0 {l : Launch} (hl : l.stackTraces = false) : cj_V1 l 132 0 (3, 4, 0, []) 2 := Or.inl ⟨by decide +kernel, ok_aload dm_132_0⟩
set_option maxRecDepth 100000 in
theorem vv_132_2 {l : Launch} (hl : l.stackTraces = false) : cj_V1 l 132 2 (0, 0, 0, []) 3 := Or.inl ⟨by decide +kernel, ok_iconst dm_132_2 (by decide +kernel)⟩
set_option maxRecDepth 100000 in
theorem vv_132_3 {l : Launch} (hl : l.stackTraces = false) : cj_V1 l 132 3 (3, 0, 0, []) 4 := Or.inl ⟨by decide +kernel, ok_aload_n dm_132_3 rfl⟩
set_option maxRecDepth 100000 in
theorem vv_132_4 {l : Launch} (hl : l.stackTraces = false) : cj_V1 l 132 4 (2, 1, 0, []) 5 := Or.inl ⟨by decide +kernel, ok_iload_n dm_132_4 rfl⟩
set_option maxRecDepth 100000 in
theorem vv_132_5 {l : Launch} (hl : l.stackTraces = false) : cj_V1 l 132 5 (2, 2, 0, []) 6 := Or.inl ⟨by decide +kernel, ok_iload_n dm_132_5 rfl⟩
set_option maxRecDepth 100000 in
theorem vv_132_6 {l : Launch} (hl : l.stackTraces = false) : cj_V1 l 132 6 (2, 3, 0, []) 7 := Or.inl ⟨by decide +kernel, ok_iload_n dm_132_6 rfl⟩
set_option maxRecDepth 100000 in
theorem vv_132_7 {l : Launch} (hl : l.stackTraces = false) : cj_V1 l 132 7 (80, 101, 4, [0]) 10 := Or.inr (Or.inr (Or.inl ⟨by decide +kernel, by decide +kernel, rfl, vc_virtual (n := 3) (q := (RK_0, TK_0, 11)) mi_101 dm_132_7 (Or.inl wm_652) wm_653 wm_654 rfl rfl (by decide +kernel) rfl (by decide +kernel) (by decide +kernel), (vx_some rfl ⟨⟨rfl, rfl, wm_532, wm_539, (by decide +kernel), (by decide +kernel), (Or.inl ⟨dm_132_15, rfl⟩)⟩, ⟨rfl, rfl, wm_403, wm_418, (by decide +kernel), (by decide +kernel), (Or.inl ⟨dm_132_19, rfl⟩)⟩, trivial⟩ (by decide +kernel) (vc_virtual (n := 3) (q := (RK_0, TK_0, 11)) mi_101 dm_132_7 (Or.inl wm_652) wm_653 wm_654 rfl rfl (by decide +kernel) rfl (by decide +kernel) (by decide +kernel)))⟩))
set_option maxRecDepth 100000 in
theorem vv_132_10 {l : Launch} (hl : l.stackTraces = false) : cj_V1 l 132 10 (23, 0, 0, []) 11 := Or.inl ⟨by decide +kernel, ok_i2l dm_132_10⟩
set_option maxRecDepth 100000 in
theorem vv_132_11 {l : Launch} (hl : l.stackTraces = false) : cj_V1 l 132 11 (59, 2, 0, []) 12 := Or.inl ⟨by decide +kernel, ok_lastore dm_132_11 rfl⟩
set_option maxRecDepth 100000 in
theorem vv_132_12 {l : Launch} (hl : l.stackTraces = false) : cj_V1 l 132 12 (30, 23, 0, []) 15 := Or.inl ⟨by decide +kernel, ok_goto dm_132_12 (by decide +kernel)⟩
set_option maxRecDepth 100000 in
theorem vv_132_15 {l : Launch} (hl : l.stackTraces = false) : cj_V1 l 132 15 (5, 5, 0, []) 17 := Or.inl ⟨by decide +kernel, ok_astore dm_132_15⟩
set_option maxRecDepth 100000 in
theorem vv_132_17 {l : Launch} (hl : l.stackTraces = false) : cj_V1 l 132 17 (0, 1, 0, []) 18 := Or.inl ⟨by decide +kernel, ok_iconst dm_132_17 (by decide +kernel)⟩
set_option maxRecDepth 100000 in
theorem vv_132_18 {l : Launch} (hl : l.stackTraces = false) : cj_V1 l 132 18 (90, 0, 0, []) 19 := Or.inr (Or.inl ⟨by decide +kernel, Or.inl (Or.inl ⟨rfl, dm_132_18, rfl⟩)⟩)
set_option maxRecDepth 100000 in
theorem vv_132_19 {l : Launch} (hl : l.stackTraces = false) : cj_V1 l 132 19 (5, 5, 0, []) 21 := Or.inl ⟨by decide +kernel, ok_astore dm_132_19⟩
set_option maxRecDepth 100000 in
theorem vv_132_21 {l : Launch} (hl : l.stackTraces = false) : cj_V1 l 132 21 (0, 2, 0, []) 22 := Or.inl ⟨by decide +kernel, ok_iconst dm_132_21 (by decide +kernel)⟩
set_option maxRecDepth 100000 in
theorem vv_132_22 {l : Launch} (hl : l.stackTraces = false) : cj_V1 l 132 22 (90, 0, 0, []) 23 := Or.inr (Or.inl ⟨by decide +kernel, Or.inl (Or.inl ⟨rfl, dm_132_22, rfl⟩)⟩)
set_option maxRecDepth 100000 in
theorem vv_132_23 {l : Launch} (hl : l.stackTraces = false) : cj_V1 l 132 23 (0, 0, 0, []) 24 := Or.inl ⟨by decide +kernel, ok_iconst dm_132_23 (by decide +kernel)⟩
set_option maxRecDepth 100000 in
theorem vv_132_24 {l : Launch} (hl : l.stackTraces = false) : cj_V1 l 132 24 (90, 0, 0, []) 25 := Or.inr (Or.inl ⟨by decide +kernel, Or.inl (Or.inl ⟨rfl, dm_132_24, rfl⟩)⟩)
set_option maxRecDepth 100000 in
theorem vm_132 {l : Launch} (hl : l.stackTraces = false) : cj_Vm l 132 := cj_Vm_of (r := kc132_) rfl ⟨vv_132_0 hl, vv_132_2 hl, vv_132_3 hl, vv_132_4 hl, vv_132_5 hl, vv_132_6 hl, vv_132_7 hl, vv_132_10 hl, vv_132_11 hl, vv_132_12 hl, vv_132_15 hl, vv_132_17 hl, vv_132_18 hl, vv_132_19 hl, vv_132_21 hl, vv_132_22 hl, vv_132_23 hl, vv_132_24 hl, trivial⟩
set_option maxRecDepth 100000 in
theorem vv_133_0 {l : Launch} (hl : l.stackTraces = false) : cj_V1 l 133 0 (3, 2, 0, []) 1 := Or.inl ⟨by decide +kernel, ok_aload_n dm_133_0 rfl⟩
set_option maxRecDepth 100000 in
theorem vv_133_1 {l : Launch} (hl : l.stackTraces = false) : cj_V1 l 133 1 (0, 0, 0, []) 2 := Or.inl ⟨by decide +kernel, ok_iconst dm_133_1 (by decide +kernel)⟩
set_option maxRecDepth 100000 in
theorem vv_133_2 {l : Launch} (hl : l.stackTraces = false) : cj_V1 l 133 2 (3, 0, 0, []) 3 := Or.inl ⟨by decide +kernel, ok_aload_n dm_133_2 rfl⟩
set_option maxRecDepth 100000 in
theorem vv_133_3 {l : Launch} (hl : l.stackTraces = false) : cj_V1 l 133 3 (2, 1, 0, []) 4 := Or.inl ⟨by decide +kernel, ok_iload_n dm_133_3 rfl⟩
set_option maxRecDepth 100000 in
theorem vv_133_4 {l : Launch} (hl : l.stackTraces = false) : cj_V1 l 133 4 (80, 103, 2, [0]) 7 := Or.inr (Or.inr (Or.inl ⟨by decide +kernel, by decide +kernel, rfl, vc_virtual (n := 1) (q := (RK_0, TK_0, 11)) mi_103 dm_133_4 (Or.inl wm_635) wm_636 wm_637 rfl rfl (by decide +kernel) rfl (by decide +kernel) (by decide +kernel), (vx_some rfl ⟨⟨rfl, rfl, wm_532, wm_539, (by decide +kernel), (by decide +kernel), (Or.inr ⟨3, dm_133_12, rfl, rfl⟩)⟩, ⟨rfl, rfl, wm_403, wm_418, (by decide +kernel), (by decide +kernel), (Or.inr ⟨3, dm_133_15, rfl, rfl⟩)⟩, trivial⟩ (by decide +kernel) (vc_virtual (n := 1) (q := (RK_0, TK_0, 11)) mi_103 dm_133_4 (Or.inl wm_635) wm_636 wm_637 rfl rfl (by decide +kernel) rfl (by decide +kernel) (by decide +kernel)))⟩))
set_option maxRecDepth 100000 in
theorem vv_133_7 {l : Launch} (hl : l.stackTraces = false) : cj_V1 l 133 7 (23, 0, 0, []) 8 := Or.inl ⟨by decide +kernel, ok_i2l dm_133_7⟩
set_option maxRecDepth 100000 in
theorem vv_133_8 {l : Launch} (hl : l.stackTraces = false) : cj_V1 l 133 8 (59, 2, 0, []) 9 := Or.inl ⟨by decide +kernel, ok_lastore dm_133_8 rfl⟩
set_option maxRecDepth 100000 in
theorem vv_133_9 {l : Launch} (hl : l.stackTraces = false) : cj_V1 l 133 9 (30, 18, 0, []) 12 := Or.inl ⟨by decide +kernel, ok_goto dm_133_9 (by decide +kernel)⟩
set_option maxRecDepth 100000 in
theorem vv_133_12 {l : Launch} (hl : l.stackTraces = false) : cj_V1 l 133 12 (5, 3, 0, []) 13 := Or.inl ⟨by decide +kernel, ok_astore_n dm_133_12 rfl⟩
set_option maxRecDepth 100000 in
theorem vv_133_13 {l : Launch} (hl : l.stackTraces = false) : cj_V1 l 133 13 (0, 1, 0, []) 14 := Or.inl ⟨by decide +kernel, ok_iconst dm_133_13 (by decide +kernel)⟩
set_option maxRecDepth 100000 in
theorem vv_133_14 {l : Launch} (hl : l.stackTraces = false) : cj_V1 l 133 14 (90, 0, 0, []) 15 := Or.inr (Or.inl ⟨by decide +kernel, Or.inl (Or.inl ⟨rfl, dm_133_14, rfl⟩)⟩)
set_option maxRecDepth 100000 in
theorem vv_133_15 {l : Launch} (hl : l.stackTraces = false) : cj_V1 l 133 15 (5, 3, 0, []) 16 := Or.inl ⟨by decide +kernel, ok_astore_n dm_133_15 rfl⟩
set_option maxRecDepth 100000 in
theorem vv_133_16 {l : Launch} (hl : l.stackTraces = false) : cj_V1 l 133 16 (0, 2, 0, []) 17 := Or.inl ⟨by decide +kernel, ok_iconst dm_133_16 (by decide +kernel)⟩
set_option maxRecDepth 100000 in
theorem vv_133_17 {l : Launch} (hl : l.stackTraces = false) : cj_V1 l 133 17 (90, 0, 0, []) 18 := Or.inr (Or.inl ⟨by decide +kernel, Or.inl (Or.inl ⟨rfl, dm_133_17, rfl⟩)⟩)
set_option maxRecDepth 100000 in
theorem vv_133_18 {l : Launch} (hl : l.stackTraces = false) : cj_V1 l 133 18 (0, 0, 0, []) 19 := Or.inl ⟨by decide +kernel, ok_iconst dm_133_18 (by decide +kernel)⟩
set_option maxRecDepth 100000 in
theorem vv_133_19 {l : Launch} (hl : l.stackTraces = false) : cj_V1 l 133 19 (90, 0, 0, []) 20 := Or.inr (Or.inl ⟨by decide +kernel, Or.inl (Or.inl ⟨rfl, dm_133_19, rfl⟩)⟩)
set_option maxRecDepth 100000 in
theorem vm_133 {l : Launch} (hl : l.stackTraces = false) : cj_Vm l 133 := cj_Vm_of (r := kc133_) rfl ⟨vv_133_0 hl, vv_133_1 hl, vv_133_2 hl, vv_133_3 hl, vv_133_4 hl, vv_133_7 hl, vv_133_8 hl, vv_133_9 hl, vv_133_12 hl, vv_133_13 hl, vv_133_14 hl, vv_133_15 hl, vv_133_16 hl, vv_133_17 hl, vv_133_18 hl, vv_133_19 hl, trivial⟩
set_option maxRecDepth 100000 in
theorem vv_134_0 {l : Launch} (hl : l.stackTraces = false) : cj_V1 l 134 0 (3, 4, 0, []) 2 := Or.inl ⟨by decide +kernel, ok_aload dm_134_0⟩
set_option maxRecDepth 100000 in
theorem vv_134_2 {l : Launch} (hl : l.stackTraces = false) : cj_V1 l 134 2 (0, 0, 0, []) 3 := Or.inl ⟨by decide +kernel, ok_iconst dm_134_2 (by decide +kernel)⟩
set_option maxRecDepth 100000 in
theorem vv_134_3 {l : Launch} (hl : l.stackTraces = false) : cj_V1 l 134 3 (3, 0, 0, []) 4 := Or.inl ⟨by decide +kernel, ok_aload_n dm_134_3 rfl⟩
set_option maxRecDepth 100000 in
theorem vv_134_4 {l : Launch} (hl : l.stackTraces = false) : cj_V1 l 134 4 (2, 1, 0, []) 5 := Or.inl ⟨by decide +kernel, ok_iload_n dm_134_4 rfl⟩
set_option maxRecDepth 100000 in
theorem vv_134_5 {l : Launch} (hl : l.stackTraces = false) : cj_V1 l 134 5 (2, 2, 0, []) 6 := Or.inl ⟨by decide +kernel, ok_iload_n dm_134_5 rfl⟩
set_option maxRecDepth 100000 in
theorem vv_134_6 {l : Launch} (hl : l.stackTraces = false) : cj_V1 l 134 6 (2, 3, 0, []) 7 := Or.inl ⟨by decide +kernel, ok_iload_n dm_134_6 rfl⟩
set_option maxRecDepth 100000 in
theorem vv_134_7 {l : Launch} (hl : l.stackTraces = false) : cj_V1 l 134 7 (80, 104, 4, [0]) 10 := Or.inr (Or.inr (Or.inl ⟨by decide +kernel, by decide +kernel, rfl, vc_virtual (n := 3) (q := (RK_0, TK_0, 11)) mi_104 dm_134_7 (Or.inl wm_673) wm_674 wm_675 rfl rfl (by decide +kernel) rfl (by decide +kernel) (by decide +kernel), (vx_some rfl ⟨⟨rfl, rfl, wm_532, wm_539, (by decide +kernel), (by decide +kernel), (Or.inl ⟨dm_134_15, rfl⟩)⟩, ⟨rfl, rfl, wm_403, wm_418, (by decide +kernel), (by decide +kernel), (Or.inl ⟨dm_134_19, rfl⟩)⟩, trivial⟩ (by decide +kernel) (vc_virtual (n := 3) (q := (RK_0, TK_0, 11)) mi_104 dm_134_7 (Or.inl wm_673) wm_674 wm_675 rfl rfl (by decide +kernel) rfl (by decide +kernel) (by decide +kernel)))⟩))
set_option maxRecDepth 100000 in
theorem vv_134_10 {l : Launch} (hl : l.stackTraces = false) : cj_V1 l 134 10 (23, 0, 0, []) 11 := Or.inl ⟨by decide +kernel, ok_i2l dm_134_10⟩
set_option maxRecDepth 100000 in
theorem vv_134_11 {l : Launch} (hl : l.stackTraces = false) : cj_V1 l 134 11 (59, 2, 0, []) 12 := Or.inl ⟨by decide +kernel, ok_lastore dm_134_11 rfl⟩
set_option maxRecDepth 100000 in
theorem vv_134_12 {l : Launch} (hl : l.stackTraces = false) : cj_V1 l 134 12 (30, 23, 0, []) 15 := Or.inl ⟨by decide +kernel, ok_goto dm_134_12 (by decide +kernel)⟩
set_option maxRecDepth 100000 in
theorem vv_134_15 {l : Launch} (hl : l.stackTraces = false) : cj_V1 l 134 15 (5, 5, 0, []) 17 := Or.inl ⟨by decide +kernel, ok_astore dm_134_15⟩
set_option maxRecDepth 100000 in
theorem vv_134_17 {l : Launch} (hl : l.stackTraces = false) : cj_V1 l 134 17 (0, 1, 0, []) 18 := Or.inl ⟨by decide +kernel, ok_iconst dm_134_17 (by decide +kernel)⟩
set_option maxRecDepth 100000 in
theorem vv_134_18 {l : Launch} (hl : l.stackTraces = false) : cj_V1 l 134 18 (90, 0, 0, []) 19 := Or.inr (Or.inl ⟨by decide +kernel, Or.inl (Or.inl ⟨rfl, dm_134_18, rfl⟩)⟩)
set_option maxRecDepth 100000 in
theorem vv_134_19 {l : Launch} (hl : l.stackTraces = false) : cj_V1 l 134 19 (5, 5, 0, []) 21 := Or.inl ⟨by decide +kernel, ok_astore dm_134_19⟩
set_option maxRecDepth 100000 in
theorem vv_134_21 {l : Launch} (hl : l.stackTraces = false) : cj_V1 l 134 21 (0, 2, 0, []) 22 := Or.inl ⟨by decide +kernel, ok_iconst dm_134_21 (by decide +kernel)⟩
set_option maxRecDepth 100000 in
theorem vv_134_22 {l : Launch} (hl : l.stackTraces = false) : cj_V1 l 134 22 (90, 0, 0, []) 23 := Or.inr (Or.inl ⟨by decide +kernel, Or.inl (Or.inl ⟨rfl, dm_134_22, rfl⟩)⟩)
set_option maxRecDepth 100000 in
theorem vv_134_23 {l : Launch} (hl : l.stackTraces = false) : cj_V1 l 134 23 (0, 0, 0, []) 24 := Or.inl ⟨by decide +kernel, ok_iconst dm_134_23 (by decide +kernel)⟩
set_option maxRecDepth 100000 in
theorem vv_134_24 {l : Launch} (hl : l.stackTraces = false) : cj_V1 l 134 24 (90, 0, 0, []) 25 := Or.inr (Or.inl ⟨by decide +kernel, Or.inl (Or.inl ⟨rfl, dm_134_24, rfl⟩)⟩)
set_option maxRecDepth 100000 in
theorem vm_134 {l : Launch} (hl : l.stackTraces = false) : cj_Vm l 134 := cj_Vm_of (r := kc134_) rfl ⟨vv_134_0 hl, vv_134_2 hl, vv_134_3 hl, vv_134_4 hl, vv_134_5 hl, vv_134_6 hl, vv_134_7 hl, vv_134_10 hl, vv_134_11 hl, vv_134_12 hl, vv_134_15 hl, vv_134_17 hl, vv_134_18 hl, vv_134_19 hl, vv_134_21 hl, vv_134_22 hl, vv_134_23 hl, vv_134_24 hl, trivial⟩
set_option maxRecDepth 100000 in
theorem vv_135_0 {l : Launch} (hl : l.stackTraces = false) : cj_V1 l 135 0 (3, 3, 0, []) 1 := Or.inl ⟨by decide +kernel, ok_aload_n dm_135_0 rfl⟩
set_option maxRecDepth 100000 in
theorem vv_135_1 {l : Launch} (hl : l.stackTraces = false) : cj_V1 l 135 1 (0, 0, 0, []) 2 := Or.inl ⟨by decide +kernel, ok_iconst dm_135_1 (by decide +kernel)⟩
set_option maxRecDepth 100000 in
theorem vv_135_2 {l : Launch} (hl : l.stackTraces = false) : cj_V1 l 135 2 (3, 0, 0, []) 3 := Or.inl ⟨by decide +kernel, ok_aload_n dm_135_2 rfl⟩
set_option maxRecDepth 100000 in
theorem vv_135_3 {l : Launch} (hl : l.stackTraces = false) : cj_V1 l 135 3 (2, 1, 0, []) 4 := Or.inl ⟨by decide +kernel, ok_iload_n dm_135_3 rfl⟩
set_option maxRecDepth 100000 in
theorem vv_135_4 {l : Launch} (hl : l.stackTraces = false) : cj_V1 l 135 4 (2, 2, 0, []) 5 := Or.inl ⟨by decide +kernel, ok_iload_n dm_135_4 rfl⟩
set_option maxRecDepth 100000 in
theorem vv_135_5 {l : Launch} (hl : l.stackTraces = false) : cj_V1 l 135 5 (80, 105, 3, [0]) 8 := Or.inr (Or.inr (Or.inl ⟨by decide +kernel, by decide +kernel, rfl, vc_virtual (n := 2) (q := (RK_0, TK_0, 11)) mi_105 dm_135_5 (Or.inl wm_405) wm_406 wm_407 rfl rfl (by decide +kernel) rfl (by decide +kernel) (by decide +kernel), (vx_some rfl ⟨⟨rfl, rfl, wm_403, wm_418, (by decide +kernel), (by decide +kernel), (Or.inl ⟨dm_135_13, rfl⟩)⟩, ⟨rfl, rfl, wm_404, wm_489, (by decide +kernel), (by decide +kernel), (Or.inl ⟨dm_135_17, rfl⟩)⟩, trivial⟩ (by decide +kernel) (vc_virtual (n := 2) (q := (RK_0, TK_0, 11)) mi_105 dm_135_5 (Or.inl wm_405) wm_406 wm_407 rfl rfl (by decide +kernel) rfl (by decide +kernel) (by decide +kernel)))⟩))
set_option maxRecDepth 100000 in
theorem vv_135_8 {l : Launch} (hl : l.stackTraces = false) : cj_V1 l 135 8 (23, 0, 0, []) 9 := Or.inl ⟨by decide +kernel, ok_i2l dm_135_8⟩
set_option maxRecDepth 100000 in
theorem vv_135_9 {l : Launch} (hl : l.stackTraces = false) : cj_V1 l 135 9 (59, 2, 0, []) 10 := Or.inl ⟨by decide +kernel, ok_lastore dm_135_9 rfl⟩
set_option maxRecDepth 100000 in
theorem vv_135_10 {l : Launch} (hl : l.stackTraces = false) : cj_V1 l 135 10 (30, 21, 0, []) 13 := Or.inl ⟨by decide +kernel, ok_goto dm_135_10 (by decide +kernel)⟩
set_option maxRecDepth 100000 in
theorem vv_135_13 {l : Launch} (hl : l.stackTraces = false) : cj_V1 l 135 13 (5, 4, 0, []) 15 := Or.inl ⟨by decide +kernel, ok_astore dm_135_13⟩
set_option maxRecDepth 100000 in
theorem vv_135_15 {l : Launch} (hl : l.stackTraces = false) : cj_V1 l 135 15 (0, 1, 0, []) 16 := Or.inl ⟨by decide +kernel, ok_iconst dm_135_15 (by decide +kernel)⟩
set_option maxRecDepth 100000 in
theorem vv_135_16 {l : Launch} (hl : l.stackTraces = false) : cj_V1 l 135 16 (90, 0, 0, []) 17 := Or.inr (Or.inl ⟨by decide +kernel, Or.inl (Or.inl ⟨rfl, dm_135_16, rfl⟩)⟩)
set_option maxRecDepth 100000 in
theorem vv_135_17 {l : Launch} (hl : l.stackTraces = false) : cj_V1 l 135 17 (5, 4, 0, []) 19 := Or.inl ⟨by decide +kernel, ok_astore dm_135_17⟩
set_option maxRecDepth 100000 in
theorem vv_135_19 {l : Launch} (hl : l.stackTraces = false) : cj_V1 l 135 19 (0, 2, 0, []) 20 := Or.inl ⟨by decide +kernel, ok_iconst dm_135_19 (by decide +kernel)⟩
set_option maxRecDepth 100000 in
theorem vv_135_20 {l : Launch} (hl : l.stackTraces = false) : cj_V1 l 135 20 (90, 0, 0, []) 21 := Or.inr (Or.inl ⟨by decide +kernel, Or.inl (Or.inl ⟨rfl, dm_135_20, rfl⟩)⟩)
set_option maxRecDepth 100000 in
theorem vv_135_21 {l : Launch} (hl : l.stackTraces = false) : cj_V1 l 135 21 (0, 0, 0, []) 22 := Or.inl ⟨by decide +kernel, ok_iconst dm_135_21 (by decide +kernel)⟩
set_option maxRecDepth 100000 in
theorem vv_135_22 {l : Launch} (hl : l.stackTraces = false) : cj_V1 l 135 22 (90, 0, 0, []) 23 := Or.inr (Or.inl ⟨by decide +kernel, Or.inl (Or.inl ⟨rfl, dm_135_22, rfl⟩)⟩)
set_option maxRecDepth 100000 in
theorem vm_135 {l : Launch} (hl : l.stackTraces = false) : cj_Vm l 135 := cj_Vm_of (r := kc135_) rfl ⟨vv_135_0 hl, vv_135_1 hl, vv_135_2 hl, vv_135_3 hl, vv_135_4 hl, vv_135_5 hl, vv_135_8 hl, vv_135_9 hl, vv_135_10 hl, vv_135_13 hl, vv_135_15 hl, vv_135_16 hl, vv_135_17 hl, vv_135_19 hl, vv_135_20 hl, vv_135_21 hl, vv_135_22 hl, trivial⟩
set_option maxRecDepth 100000 in
theorem vv_136_0 {l : Launch} (hl : l.stackTraces = false) : cj_V1 l 136 0 (3, 0, 0, []) 1 := Or.inl ⟨by decide +kernel, ok_aload_n dm_136_0 rfl⟩
set_option maxRecDepth 100000 in
theorem vv_136_1 {l : Launch} (hl : l.stackTraces = false) : cj_V1 l 136 1 (50, 7, 32, []) 4 := Or.inl ⟨by decide +kernel, ok_getfield (N := 39) (C := RK_7) (T := TK_7) dm_136_1 rfl inK_7 (by decide +kernel) wm_765⟩
set_option maxRecDepth 100000 in
theorem vv_136_4 {l : Launch} (hl : l.stackTraces = false) : cj_V1 l 136 4 (2, 1, 0, []) 5 := Or.inl ⟨by decide +kernel, ok_iload_n dm_136_4 rfl⟩
set_option maxRecDepth 100000 in
theorem vv_136_5 {l : Launch} (hl : l.stackTraces = false) : cj_V1 l 136 5 (0, 0, 0, []) 6 := Or.inl ⟨by decide +kernel, ok_iconst dm_136_5 (by decide +kernel)⟩
set_option maxRecDepth 100000 in
theorem vv_136_6 {l : Launch} (hl : l.stackTraces = false) : cj_V1 l 136 6 (56, 0, 0, []) 7 := Or.inl ⟨by decide +kernel, ok_iastore dm_136_6 rfl⟩
set_option maxRecDepth 100000 in
theorem vv_136_7 {l : Launch} (hl : l.stackTraces = false) : cj_V1 l 136 7 (3, 0, 0, []) 8 := Or.inl ⟨by decide +kernel, ok_aload_n dm_136_7 rfl⟩
set_option maxRecDepth 100000 in
theorem vv_136_8 {l : Launch} (hl : l.stackTraces = false) : cj_V1 l 136 8 (50, 7, 25, []) 11 := Or.inl ⟨by decide +kernel, ok_getfield (N := 39) (C := RK_7) (T := TK_7) dm_136_8 rfl inK_7 (by decide +kernel) wm_758⟩
set_option maxRecDepth 100000 in
theorem vv_136_11 {l : Launch} (hl : l.stackTraces = false) : cj_V1 l 136 11 (0, 5, 0, []) 12 := Or.inl ⟨by decide +kernel, ok_iconst dm_136_11 (by decide +kernel)⟩
set_option maxRecDepth 100000 in
theorem vv_136_12 {l : Launch} (hl : l.stackTraces = false) : cj_V1 l 136 12 (2, 1, 0, []) 13 := Or.inl ⟨by decide +kernel, ok_iload_n dm_136_12 rfl⟩
set_option maxRecDepth 100000 in
theorem vv_136_13 {l : Launch} (hl : l.stackTraces = false) : cj_V1 l 136 13 (12, 0, 0, []) 14 := Or.inl ⟨by decide +kernel, ok_imul dm_136_13⟩
set_option maxRecDepth 100000 in
theorem vv_136_14 {l : Launch} (hl : l.stackTraces = false) : cj_V1 l 136 14 (0, 3, 0, []) 15 := Or.inl ⟨by decide +kernel, ok_iconst dm_136_14 (by decide +kernel)⟩
set_option maxRecDepth 100000 in
theorem vv_136_15 {l : Launch} (hl : l.stackTraces = false) : cj_V1 l 136 15 (10, 0, 0, []) 16 := Or.inl ⟨by decide +kernel, ok_iadd dm_136_15⟩
set_option maxRecDepth 100000 in
theorem vv_136_16 {l : Launch} (hl : l.stackTraces = false) : cj_V1 l 136 16 (0, 0, 0, []) 17 := Or.inl ⟨by decide +kernel, ok_iconst dm_136_16 (by decide +kernel)⟩
set_option maxRecDepth 100000 in
theorem vv_136_17 {l : Launch} (hl : l.stackTraces = false) : cj_V1 l 136 17 (56, 0, 0, []) 18 := Or.inl ⟨by decide +kernel, ok_iastore dm_136_17 rfl⟩
set_option maxRecDepth 100000 in
theorem vv_136_18 {l : Launch} (hl : l.stackTraces = false) : cj_V1 l 136 18 (0, 0, 0, []) 19 := Or.inl ⟨by decide +kernel, ok_iconst dm_136_18 (by decide +kernel)⟩
set_option maxRecDepth 100000 in
theorem vv_136_19 {l : Launch} (hl : l.stackTraces = false) : cj_V1 l 136 19 (4, 2, 0, []) 20 := Or.inl ⟨by decide +kernel, ok_istore_n dm_136_19 rfl⟩
set_option maxRecDepth 100000 in
theorem vv_136_20 {l : Launch} (hl : l.stackTraces = false) : cj_V1 l 136 20 (2, 2, 0, []) 21 := Or.inl ⟨by decide +kernel, ok_iload_n dm_136_20 rfl⟩
set_option maxRecDepth 100000 in
theorem vv_136_21 {l : Launch} (hl : l.stackTraces = false) : cj_V1 l 136 21 (3, 0, 0, []) 22 := Or.inl ⟨by decide +kernel, ok_aload_n dm_136_21 rfl⟩
set_option maxRecDepth 100000 in
theorem vv_136_22 {l : Launch} (hl : l.stackTraces = false) : cj_V1 l 136 22 (50, 7, 8, []) 25 := Or.inl ⟨by decide +kernel, ok_getfield (N := 39) (C := RK_7) (T := TK_7) dm_136_22 rfl inK_7 (by decide +kernel) wm_741⟩
set_option maxRecDepth 100000 in
theorem vv_136_25 {l : Launch} (hl : l.stackTraces = false) : cj_V1 l 136 25 (40, 59, 0, []) 28 := Or.inl ⟨by decide +kernel, ok_icmp_ge dm_136_25 (by decide +kernel)⟩
set_option maxRecDepth 100000 in
theorem vv_136_28 {l : Launch} (hl : l.stackTraces = false) : cj_V1 l 136 28 (3, 0, 0, []) 29 := Or.inl ⟨by decide +kernel, ok_aload_n dm_136_28 rfl⟩
set_option maxRecDepth 100000 in
theorem vv_136_29 {l : Launch} (hl : l.stackTraces = false) : cj_V1 l 136 29 (2, 2, 0, []) 30 := Or.inl ⟨by decide +kernel, ok_iload_n dm_136_29 rfl⟩
set_option maxRecDepth 100000 in
theorem vv_136_30 {l : Launch} (hl : l.stackTraces = false) : cj_V1 l 136 30 (80, 120, 2, [7]) 33 := Or.inr (Or.inr (Or.inl ⟨by decide +kernel, by decide +kernel, rfl, vc_virtual (n := 1) (q := (RK_7, TK_7, 39)) mi_120 dm_136_30 (Or.inl wm_919) wm_921 wm_p24 rfl rfl (by decide +kernel) rfl (by decide +kernel) (by decide +kernel), (vx_none rfl)⟩))
set_option maxRecDepth 100000 in
theorem vv_136_33 {l : Launch} (hl : l.stackTraces = false) : cj_V1 l 136 33 (3, 0, 0, []) 34 := Or.inl ⟨by decide +kernel, ok_aload_n dm_136_33 rfl⟩
set_option maxRecDepth 100000 in
theorem vv_136_34 {l : Launch} (hl : l.stackTraces = false) : cj_V1 l 136 34 (2, 1, 0, []) 35 := Or.inl ⟨by decide +kernel, ok_iload_n dm_136_34 rfl⟩
set_option maxRecDepth 100000 in
theorem vv_136_35 {l : Launch} (hl : l.stackTraces = false) : cj_V1 l 136 35 (2, 2, 0, []) 36 := Or.inl ⟨by decide +kernel, ok_iload_n dm_136_35 rfl⟩
set_option maxRecDepth 100000 in
theorem vv_136_36 {l : Launch} (hl : l.stackTraces = false) : cj_V1 l 136 36 (80, 91, 3, [7]) 39 := Or.inr (Or.inr (Or.inl ⟨by decide +kernel, by decide +kernel, rfl, vc_virtual (n := 2) (q := (RK_7, TK_7, 39)) mi_91 dm_136_36 (Or.inl wm_943) wm_945 wm_p30 rfl rfl (by decide +kernel) rfl (by decide +kernel) (by decide +kernel), (vx_none rfl)⟩))
set_option maxRecDepth 100000 in
theorem vv_136_39 {l : Launch} (hl : l.stackTraces = false) : cj_V1 l 136 39 (31, 51, 0, []) 42 := Or.inl ⟨by decide +kernel, ok_if_eq dm_136_39 (by decide +kernel)⟩
set_option maxRecDepth 100000 in
theorem vv_136_42 {l : Launch} (hl : l.stackTraces = false) : cj_V1 l 136 42 (3, 0, 0, []) 43 := Or.inl ⟨by decide +kernel, ok_aload_n dm_136_42 rfl⟩
set_option maxRecDepth 100000 in
theorem vv_136_43 {l : Launch} (hl : l.stackTraces = false) : cj_V1 l 136 43 (2, 1, 0, []) 44 := Or.inl ⟨by decide +kernel, ok_iload_n dm_136_43 rfl⟩
set_option maxRecDepth 100000 in
theorem vv_136_44 {l : Launch} (hl : l.stackTraces = false) : cj_V1 l 136 44 (2, 2, 0, []) 45 := Or.inl ⟨by decide +kernel, ok_iload_n dm_136_44 rfl⟩
set_option maxRecDepth 100000 in
theorem vv_136_45 {l : Launch} (hl : l.stackTraces = false) : cj_V1 l 136 45 (80, 94, 3, [7]) 48 := Or.inr (Or.inr (Or.inl ⟨by decide +kernel, by decide +kernel, rfl, vc_virtual (n := 2) (q := (RK_7, TK_7, 39)) mi_94 dm_136_45 (Or.inl wm_951) wm_953 wm_p32 rfl rfl (by decide +kernel) rfl (by decide +kernel) (by decide +kernel), (vx_none rfl)⟩))
set_option maxRecDepth 100000 in
theorem vv_136_48 {l : Launch} (hl : l.stackTraces = false) : cj_V1 l 136 48 (32, 53, 0, []) 51 := Or.inl ⟨by decide +kernel, ok_if_ne dm_136_48 (by decide +kernel)⟩
set_option maxRecDepth 100000 in
theorem vv_136_51 {l : Launch} (hl : l.stackTraces = false) : cj_V1 l 136 51 (2, 2, 0, []) 52 := Or.inl ⟨by decide +kernel, ok_iload_n dm_136_51 rfl⟩
set_option maxRecDepth 100000 in
theorem vv_136_52 {l : Launch} (hl : l.stackTraces = false) : cj_V1 l 136 52 (90, 0, 0, []) 53 := Or.inr (Or.inl ⟨by decide +kernel, Or.inl (Or.inl ⟨rfl, dm_136_52, rfl⟩)⟩)
set_option maxRecDepth 100000 in
theorem vv_136_53 {l : Launch} (hl : l.stackTraces = false) : cj_V1 l 136 53 (6, 2, 1, []) 56 := Or.inl ⟨by decide +kernel, ok_iinc6 dm_136_53 (by decide +kernel)⟩
set_option maxRecDepth 100000 in
theorem vv_136_56 {l : Launch} (hl : l.stackTraces = false) : cj_V1 l 136 56 (30, 20, 0, []) 59 := Or.inl ⟨by decide +kernel, ok_goto dm_136_56 (by decide +kernel)⟩
set_option maxRecDepth 100000 in
theorem vv_136_59 {l : Launch} (hl : l.stackTraces = false) : cj_V1 l 136 59 (3, 0, 0, []) 60 := Or.inl ⟨by decide +kernel, ok_aload_n dm_136_59 rfl⟩
set_option maxRecDepth 100000 in
theorem vv_136_60 {l : Launch} (hl : l.stackTraces = false) : cj_V1 l 136 60 (2, 1, 0, []) 61 := Or.inl ⟨by decide +kernel, ok_iload_n dm_136_60 rfl⟩
set_option maxRecDepth 100000 in
theorem vv_136_61 {l : Launch} (hl : l.stackTraces = false) : cj_V1 l 136 61 (80, 123, 2, [7]) 64 := Or.inr (Or.inr (Or.inl ⟨by decide +kernel, by decide +kernel, rfl, vc_virtual (n := 1) (q := (RK_7, TK_7, 39)) mi_123 dm_136_61 (Or.inl wm_959) wm_961 wm_p34 rfl rfl (by decide +kernel) rfl (by decide +kernel) (by decide +kernel), (vx_none rfl)⟩))
set_option maxRecDepth 100000 in
theorem vv_136_64 {l : Launch} (hl : l.stackTraces = false) : cj_V1 l 136 64 (1, 1, 0, []) 65 := Or.inl ⟨by decide +kernel, ok_iconst_m dm_136_64 (by decide +kernel)⟩
set_option maxRecDepth 100000 in
theorem vv_136_65 {l : Launch} (hl : l.stackTraces = false) : cj_V1 l 136 65 (90, 0, 0, []) 66 := Or.inr (Or.inl ⟨by decide +kernel, Or.inl (Or.inl ⟨rfl, dm_136_65, rfl⟩)⟩)
set_option maxRecDepth 100000 in
theorem vm_136 {l : Launch} (hl : l.stackTraces = false) : cj_Vm l 136 := cj_Vm_of (r := kc136_) rfl ⟨vv_136_0 hl, vv_136_1 hl, vv_136_4 hl, vv_136_5 hl, vv_136_6 hl, vv_136_7 hl, vv_136_8 hl, vv_136_11 hl, vv_136_12 hl, vv_136_13 hl, vv_136_14 hl, vv_136_15 hl, vv_136_16 hl, vv_136_17 hl, vv_136_18 hl, vv_136_19 hl, vv_136_20 hl, vv_136_21 hl, vv_136_22 hl, vv_136_25 hl, vv_136_28 hl, vv_136_29 hl, vv_136_30 hl, vv_136_33 hl, vv_136_34 hl, vv_136_35 hl, vv_136_36 hl, vv_136_39 hl, vv_136_42 hl, vv_136_43 hl, vv_136_44 hl, vv_136_45 hl, vv_136_48 hl, vv_136_51 hl, vv_136_52 hl, vv_136_53 hl, vv_136_56 hl, vv_136_59 hl, vv_136_60 hl, vv_136_61 hl, vv_136_64 hl, vv_136_65 hl, trivial⟩
set_option maxRecDepth 100000 in
theorem vv_137_0 {l : Launch} (hl : l.stackTraces = false) : cj_V1 l 137 0 (2, 1, 0, []) 1 := Or.inl ⟨by decide +kernel, ok_iload_n dm_137_0 rfl⟩
set_option maxRecDepth 100000 in
theorem vv_137_1 {l : Launch} (hl : l.stackTraces = false) : cj_V1 l 137 1 (81, 2, 1, []) 4 := Or.inr (Or.inr (Or.inl ⟨by decide +kernel, by decide +kernel, rfl, vc_static mi_2 dm_137_1 (Or.inl wm_569) wm_570 (by decide +kernel) (by decide +kernel) (by decide +kernel), (vx_none rfl)⟩))
set_option maxRecDepth 100000 in
theorem vv_137_4 {l : Launch} (hl : l.stackTraces = false) : cj_V1 l 137 4 (31, 11, 0, []) 7 := Or.inl ⟨by decide +kernel, ok_if_eq dm_137_4 (by decide +kernel)⟩
set_option maxRecDepth 100000 in
theorem vv_137_7 {l : Launch} (hl : l.stackTraces = false) : cj_V1 l 137 7 (2, 2, 0, []) 8 := Or.inl ⟨by decide +kernel, ok_iload_n dm_137_7 rfl⟩
set_option maxRecDepth 100000 in
theorem vv_137_8 {l : Launch} (hl : l.stackTraces = false) : cj_V1 l 137 8 (34, 21, 0, []) 11 := Or.inl ⟨by decide +kernel, ok_if_ge dm_137_8 (by decide +kernel)⟩
set_option maxRecDepth 100000 in
theorem vv_137_11 {l : Launch} (hl : l.stackTraces = false) : cj_V1 l 137 11 (95, 2, 0, []) 14 := Or.inr (Or.inl ⟨by decide +kernel, Or.inr (vt_throw (y := ky_ 0) (X := "java/lang/IndexOutOfBoundsException") (tx := "no such field or place") (names := ["java/lang/RuntimeException", "java/lang/Exception"]) hl rfl dm_137_11 dm_137_14 dm_137_15 dm_137_17 dm_137_20 rfl wm_537 wm_538 wm_15 wm_706 xw_0 (by decide +kernel) (by decide +kernel) (by decide +kernel) (by decide +kernel))⟩)
set_option maxRecDepth 100000 in
theorem vv_137_21 {l : Launch} (hl : l.stackTraces = false) : cj_V1 l 137 21 (0, 0, 0, []) 22 := Or.inl ⟨by decide +kernel, ok_iconst dm_137_21 (by decide +kernel)⟩
set_option maxRecDepth 100000 in
theorem vv_137_22 {l : Launch} (hl : l.stackTraces = false) : cj_V1 l 137 22 (4, 3, 0, []) 23 := Or.inl ⟨by decide +kernel, ok_istore_n dm_137_22 rfl⟩
set_option maxRecDepth 100000 in
theorem vv_137_23 {l : Launch} (hl : l.stackTraces = false) : cj_V1 l 137 23 (2, 3, 0, []) 24 := Or.inl ⟨by decide +kernel, ok_iload_n dm_137_23 rfl⟩
set_option maxRecDepth 100000 in
theorem vv_137_24 {l : Launch} (hl : l.stackTraces = false) : cj_V1 l 137 24 (3, 0, 0, []) 25 := Or.inl ⟨by decide +kernel, ok_aload_n dm_137_24 rfl⟩
set_option maxRecDepth 100000 in
theorem vv_137_25 {l : Launch} (hl : l.stackTraces = false) : cj_V1 l 137 25 (50, 0, 7, []) 28 := Or.inl ⟨by decide +kernel, ok_getfield (N := 11) (C := RK_0) (T := TK_0) dm_137_25 rfl inK_0 (by decide +kernel) wm_184⟩
set_option maxRecDepth 100000 in
theorem vv_137_28 {l : Launch} (hl : l.stackTraces = false) : cj_V1 l 137 28 (40, 65, 0, []) 31 := Or.inl ⟨by decide +kernel, ok_icmp_ge dm_137_28 (by decide +kernel)⟩
set_option maxRecDepth 100000 in
theorem vv_137_31 {l : Launch} (hl : l.stackTraces = false) : cj_V1 l 137 31 (3, 0, 0, []) 32 := Or.inl ⟨by decide +kernel, ok_aload_n dm_137_31 rfl⟩
set_option maxRecDepth 100000 in
theorem vv_137_32 {l : Launch} (hl : l.stackTraces = false) : cj_V1 l 137 32 (50, 0, 4, []) 35 := Or.inl ⟨by decide +kernel, ok_getfield (N := 11) (C := RK_0) (T := TK_0) dm_137_32 rfl inK_0 (by decide +kernel) wm_181⟩
set_option maxRecDepth 100000 in
theorem vv_137_35 {l : Launch} (hl : l.stackTraces = false) : cj_V1 l 137 35 (2, 3, 0, []) 36 := Or.inl ⟨by decide +kernel, ok_iload_n dm_137_35 rfl⟩
set_option maxRecDepth 100000 in
theorem vv_137_36 {l : Launch} (hl : l.stackTraces = false) : cj_V1 l 137 36 (54, 4, 0, []) 37 := Or.inl ⟨by decide +kernel, ok_aaload (C := "CatalogueSet$Entry") dm_137_36 rfl⟩
set_option maxRecDepth 100000 in
theorem vv_137_37 {l : Launch} (hl : l.stackTraces = false) : cj_V1 l 137 37 (2, 1, 0, []) 38 := Or.inl ⟨by decide +kernel, ok_iload_n dm_137_37 rfl⟩
set_option maxRecDepth 100000 in
theorem vv_137_38 {l : Launch} (hl : l.stackTraces = false) : cj_V1 l 137 38 (80, 14, 2, [2]) 41 := Or.inr (Or.inr (Or.inl ⟨by decide +kernel, by decide +kernel, rfl, vc_virtual (n := 1) (q := (RK_2, TK_2, 4)) mi_14 dm_137_38 (Or.inl wm_577) wm_265 wm_266 rfl rfl (by decide +kernel) rfl (by decide +kernel) (by decide +kernel), (vx_none rfl)⟩))
set_option maxRecDepth 100000 in
theorem vv_137_41 {l : Launch} (hl : l.stackTraces = false) : cj_V1 l 137 41 (80, 39, 1, [6]) 44 := Or.inr (Or.inr (Or.inl ⟨by decide +kernel, by decide +kernel, rfl, vc_virtual (n := 0) (q := (RK_6, TK_6, 2)) mi_39 dm_137_41 (Or.inl wm_409) wm_249 wm_250 rfl rfl (by decide +kernel) rfl (by decide +kernel) (by decide +kernel), (vx_none rfl)⟩))
set_option maxRecDepth 100000 in
theorem vv_137_44 {l : Launch} (hl : l.stackTraces = false) : cj_V1 l 137 44 (36, 59, 0, []) 47 := Or.inl ⟨by decide +kernel, ok_if_le dm_137_44 (by decide +kernel)⟩
set_option maxRecDepth 100000 in
theorem vv_137_47 {l : Launch} (hl : l.stackTraces = false) : cj_V1 l 137 47 (3, 0, 0, []) 48 := Or.inl ⟨by decide +kernel, ok_aload_n dm_137_47 rfl⟩
set_option maxRecDepth 100000 in
theorem vv_137_48 {l : Launch} (hl : l.stackTraces = false) : cj_V1 l 137 48 (2, 3, 0, []) 49 := Or.inl ⟨by decide +kernel, ok_iload_n dm_137_48 rfl⟩
set_option maxRecDepth 100000 in
theorem vv_137_49 {l : Launch} (hl : l.stackTraces = false) : cj_V1 l 137 49 (2, 1, 0, []) 50 := Or.inl ⟨by decide +kernel, ok_iload_n dm_137_49 rfl⟩
set_option maxRecDepth 100000 in
theorem vv_137_50 {l : Launch} (hl : l.stackTraces = false) : cj_V1 l 137 50 (80, 125, 3, [0]) 53 := Or.inr (Or.inr (Or.inl ⟨by decide +kernel, by decide +kernel, rfl, vc_virtual (n := 2) (q := (RK_0, TK_0, 11)) mi_125 dm_137_50 (Or.inl wm_707) wm_709 wm_p16 rfl rfl (by decide +kernel) rfl (by decide +kernel) (by decide +kernel), (vx_none rfl)⟩))
set_option maxRecDepth 100000 in
theorem vv_137_53 {l : Launch} (hl : l.stackTraces = false) : cj_V1 l 137 53 (2, 2, 0, []) 54 := Or.inl ⟨by decide +kernel, ok_iload_n dm_137_53 rfl⟩
set_option maxRecDepth 100000 in
theorem vv_137_54 {l : Launch} (hl : l.stackTraces = false) : cj_V1 l 137 54 (38, 59, 0, []) 57 := Or.inl ⟨by decide +kernel, ok_icmp_ne dm_137_54 (by decide +kernel)⟩
set_option maxRecDepth 100000 in
theorem vv_137_57 {l : Launch} (hl : l.stackTraces = false) : cj_V1 l 137 57 (2, 3, 0, []) 58 := Or.inl ⟨by decide +kernel, ok_iload_n dm_137_57 rfl⟩
set_option maxRecDepth 100000 in
theorem vv_137_58 {l : Launch} (hl : l.stackTraces = false) : cj_V1 l 137 58 (90, 0, 0, []) 59 := Or.inr (Or.inl ⟨by decide +kernel, Or.inl (Or.inl ⟨rfl, dm_137_58, rfl⟩)⟩)
set_option maxRecDepth 100000 in
theorem vv_137_59 {l : Launch} (hl : l.stackTraces = false) : cj_V1 l 137 59 (6, 3, 1, []) 62 := Or.inl ⟨by decide +kernel, ok_iinc6 dm_137_59 (by decide +kernel)⟩
set_option maxRecDepth 100000 in
theorem vv_137_62 {l : Launch} (hl : l.stackTraces = false) : cj_V1 l 137 62 (30, 23, 0, []) 65 := Or.inl ⟨by decide +kernel, ok_goto dm_137_62 (by decide +kernel)⟩
set_option maxRecDepth 100000 in
theorem vv_137_65 {l : Launch} (hl : l.stackTraces = false) : cj_V1 l 137 65 (1, 1, 0, []) 66 := Or.inl ⟨by decide +kernel, ok_iconst_m dm_137_65 (by decide +kernel)⟩
set_option maxRecDepth 100000 in
theorem vv_137_66 {l : Launch} (hl : l.stackTraces = false) : cj_V1 l 137 66 (90, 0, 0, []) 67 := Or.inr (Or.inl ⟨by decide +kernel, Or.inl (Or.inl ⟨rfl, dm_137_66, rfl⟩)⟩)
set_option maxRecDepth 100000 in
theorem vm_137 {l : Launch} (hl : l.stackTraces = false) : cj_Vm l 137 := cj_Vm_of (r := kc137_) rfl ⟨vv_137_0 hl, vv_137_1 hl, vv_137_4 hl, vv_137_7 hl, vv_137_8 hl, vv_137_11 hl, vv_137_21 hl, vv_137_22 hl, vv_137_23 hl, vv_137_24 hl, vv_137_25 hl, vv_137_28 hl, vv_137_31 hl, vv_137_32 hl, vv_137_35 hl, vv_137_36 hl, vv_137_37 hl, vv_137_38 hl, vv_137_41 hl, vv_137_44 hl, vv_137_47 hl, vv_137_48 hl, vv_137_49 hl, vv_137_50 hl, vv_137_53 hl, vv_137_54 hl, vv_137_57 hl, vv_137_58 hl, vv_137_59 hl, vv_137_62 hl, vv_137_65 hl, vv_137_66 hl, trivial⟩
set_option maxRecDepth 100000 in
theorem vv_138_0 {l : Launch} (hl : l.stackTraces = false) : cj_V1 l 138 0 (0, 0, 0, []) 1 := Or.inl ⟨by decide +kernel, ok_iconst dm_138_0 (by decide +kernel)⟩
set_option maxRecDepth 100000 in
theorem vv_138_1 {l : Launch} (hl : l.stackTraces = false) : cj_V1 l 138 1 (4, 4, 0, []) 3 := Or.inl ⟨by decide +kernel, ok_istore dm_138_1⟩
set_option maxRecDepth 100000 in
theorem vv_138_3 {l : Launch} (hl : l.stackTraces = false) : cj_V1 l 138 3 (2, 4, 0, []) 5 := Or.inl ⟨by decide +kernel, ok_iload dm_138_3⟩
set_option maxRecDepth 100000 in
theorem vv_138_5 {l : Launch} (hl : l.stackTraces = false) : cj_V1 l 138 5 (2, 2, 0, []) 6 := Or.inl ⟨by decide +kernel, ok_iload_n dm_138_5 rfl⟩
set_option maxRecDepth 100000 in
theorem vv_138_6 {l : Launch} (hl : l.stackTraces = false) : cj_V1 l 138 6 (40, 104, 0, []) 9 := Or.inl ⟨by decide +kernel, ok_icmp_ge dm_138_6 (by decide +kernel)⟩
set_option maxRecDepth 100000 in
theorem vv_138_9 {l : Launch} (hl : l.stackTraces = false) : cj_V1 l 138 9 (2, 4, 0, []) 11 := Or.inl ⟨by decide +kernel, ok_iload dm_138_9⟩
set_option maxRecDepth 100000 in
theorem vv_138_11 {l : Launch} (hl : l.stackTraces = false) : cj_V1 l 138 11 (3, 1, 0, []) 12 := Or.inl ⟨by decide +kernel, ok_aload_n dm_138_11 rfl⟩
set_option maxRecDepth 100000 in
theorem vv_138_12 {l : Launch} (hl : l.stackTraces = false) : cj_V1 l 138 12 (53, 0, 0, []) 13 := Or.inl ⟨by decide +kernel, ok_arraylength dm_138_12⟩
set_option maxRecDepth 100000 in
theorem vv_138_13 {l : Launch} (hl : l.stackTraces = false) : cj_V1 l 138 13 (40, 104, 0, []) 16 := Or.inl ⟨by decide +kernel, ok_icmp_ge dm_138_13 (by decide +kernel)⟩
set_option maxRecDepth 100000 in
theorem vv_138_16 {l : Launch} (hl : l.stackTraces = false) : cj_V1 l 138 16 (3, 3, 0, []) 17 := Or.inl ⟨by decide +kernel, ok_aload_n dm_138_16 rfl⟩
set_option maxRecDepth 100000 in
theorem vv_138_17 {l : Launch} (hl : l.stackTraces = false) : cj_V1 l 138 17 (2, 4, 0, []) 19 := Or.inl ⟨by decide +kernel, ok_iload dm_138_17⟩
set_option maxRecDepth 100000 in
theorem vv_138_19 {l : Launch} (hl : l.stackTraces = false) : cj_V1 l 138 19 (80, 25, 2, [5]) 22 := Or.inr (Or.inr (Or.inl ⟨by decide +kernel, by decide +kernel, rfl, vc_virtual (n := 1) (q := (RK_5, TK_5, 10)) mi_25 dm_138_19 (Or.inl wm_236) wm_237 wm_238 rfl rfl (by decide +kernel) rfl (by decide +kernel) (by decide +kernel), (vx_none rfl)⟩))
set_option maxRecDepth 100000 in
theorem vv_138_22 {l : Launch} (hl : l.stackTraces = false) : cj_V1 l 138 22 (5, 5, 0, []) 24 := Or.inl ⟨by decide +kernel, ok_astore dm_138_22⟩
set_option maxRecDepth 100000 in
theorem vv_138_24 {l : Launch} (hl : l.stackTraces = false) : cj_V1 l 138 24 (3, 1, 0, []) 25 := Or.inl ⟨by decide +kernel, ok_aload_n dm_138_24 rfl⟩
set_option maxRecDepth 100000 in
theorem vv_138_25 {l : Launch} (hl : l.stackTraces = false) : cj_V1 l 138 25 (2, 4, 0, []) 27 := Or.inl ⟨by decide +kernel, ok_iload dm_138_25⟩
set_option maxRecDepth 100000 in
theorem vv_138_27 {l : Launch} (hl : l.stackTraces = false) : cj_V1 l 138 27 (54, 4, 0, []) 28 := Or.inl ⟨by decide +kernel, ok_aaload (C := "CatalogueSet$Entry") dm_138_27 rfl⟩
set_option maxRecDepth 100000 in
theorem vv_138_28 {l : Launch} (hl : l.stackTraces = false) : cj_V1 l 138 28 (3, 0, 0, []) 29 := Or.inl ⟨by decide +kernel, ok_aload_n dm_138_28 rfl⟩
set_option maxRecDepth 100000 in
theorem vv_138_29 {l : Launch} (hl : l.stackTraces = false) : cj_V1 l 138 29 (50, 4, 2, []) 32 := Or.inl ⟨by decide +kernel, ok_getfield (N := 5) (C := RK_4) (T := TK_4) dm_138_29 rfl inK_4 (by decide +kernel) wm_104⟩
set_option maxRecDepth 100000 in
theorem vv_138_32 {l : Launch} (hl : l.stackTraces = false) : cj_V1 l 138 32 (3, 0, 0, []) 33 := Or.inl ⟨by decide +kernel, ok_aload_n dm_138_32 rfl⟩
set_option maxRecDepth 100000 in
theorem vv_138_33 {l : Launch} (hl : l.stackTraces = false) : cj_V1 l 138 33 (50, 4, 4, []) 36 := Or.inl ⟨by decide +kernel, ok_getfield (N := 5) (C := RK_4) (T := TK_4) dm_138_33 rfl inK_4 (by decide +kernel) wm_106⟩
set_option maxRecDepth 100000 in
theorem vv_138_36 {l : Launch} (hl : l.stackTraces = false) : cj_V1 l 138 36 (80, 130, 3, [2]) 39 := Or.inr (Or.inr (Or.inl ⟨by decide +kernel, by decide +kernel, rfl, vc_virtual (n := 2) (q := (RK_2, TK_2, 4)) mi_130 dm_138_36 (Or.inl wm_240) wm_241 wm_242 rfl rfl (by decide +kernel) rfl (by decide +kernel) (by decide +kernel), (vx_none rfl)⟩))
set_option maxRecDepth 100000 in
theorem vv_138_39 {l : Launch} (hl : l.stackTraces = false) : cj_V1 l 138 39 (3, 5, 0, []) 41 := Or.inl ⟨by decide +kernel, ok_aload dm_138_39⟩
set_option maxRecDepth 100000 in
theorem vv_138_41 {l : Launch} (hl : l.stackTraces = false) : cj_V1 l 138 41 (3, 1, 0, []) 42 := Or.inl ⟨by decide +kernel, ok_aload_n dm_138_41 rfl⟩
set_option maxRecDepth 100000 in
theorem vv_138_42 {l : Launch} (hl : l.stackTraces = false) : cj_V1 l 138 42 (2, 4, 0, []) 44 := Or.inl ⟨by decide +kernel, ok_iload dm_138_42⟩
set_option maxRecDepth 100000 in
theorem vv_138_44 {l : Launch} (hl : l.stackTraces = false) : cj_V1 l 138 44 (54, 4, 0, []) 45 := Or.inl ⟨by decide +kernel, ok_aaload (C := "CatalogueSet$Entry") dm_138_44 rfl⟩
set_option maxRecDepth 100000 in
theorem vv_138_45 {l : Launch} (hl : l.stackTraces = false) : cj_V1 l 138 45 (80, 12, 1, [2]) 48 := Or.inr (Or.inr (Or.inl ⟨by decide +kernel, by decide +kernel, rfl, vc_virtual (n := 0) (q := (RK_2, TK_2, 4)) mi_12 dm_138_45 (Or.inl wm_286) wm_287 wm_288 rfl rfl (by decide +kernel) rfl (by decide +kernel) (by decide +kernel), (vx_none rfl)⟩))
set_option maxRecDepth 100000 in
theorem vv_138_48 {l : Launch} (hl : l.stackTraces = false) : cj_V1 l 138 48 (80, 8, 2, [1]) 51 := Or.inr (Or.inr (Or.inl ⟨by decide +kernel, by decide +kernel, rfl, vc_virtual (n := 1) (q := (RK_1, TK_1, 4)) mi_8 dm_138_48 (Or.inl wm_290) wm_291 wm_292 rfl rfl (by decide +kernel) rfl (by decide +kernel) (by decide +kernel), (vx_none rfl)⟩))
set_option maxRecDepth 100000 in
theorem vv_138_51 {l : Launch} (hl : l.stackTraces = false) : cj_V1 l 138 51 (3, 5, 0, []) 53 := Or.inl ⟨by decide +kernel, ok_aload dm_138_51⟩
set_option maxRecDepth 100000 in
theorem vv_138_53 {l : Launch} (hl : l.stackTraces = false) : cj_V1 l 138 53 (3, 0, 0, []) 54 := Or.inl ⟨by decide +kernel, ok_aload_n dm_138_53 rfl⟩
set_option maxRecDepth 100000 in
theorem vv_138_54 {l : Launch} (hl : l.stackTraces = false) : cj_V1 l 138 54 (50, 4, 2, []) 57 := Or.inl ⟨by decide +kernel, ok_getfield (N := 5) (C := RK_4) (T := TK_4) dm_138_54 rfl inK_4 (by decide +kernel) wm_104⟩
set_option maxRecDepth 100000 in
theorem vv_138_57 {l : Launch} (hl : l.stackTraces = false) : cj_V1 l 138 57 (3, 0, 0, []) 58 := Or.inl ⟨by decide +kernel, ok_aload_n dm_138_57 rfl⟩
set_option maxRecDepth 100000 in
theorem vv_138_58 {l : Launch} (hl : l.stackTraces = false) : cj_V1 l 138 58 (50, 4, 0, []) 61 := Or.inl ⟨by decide +kernel, ok_getfield (N := 5) (C := RK_4) (T := TK_4) dm_138_58 rfl inK_4 (by decide +kernel) wm_102⟩
set_option maxRecDepth 100000 in
theorem vv_138_61 {l : Launch} (hl : l.stackTraces = false) : cj_V1 l 138 61 (3, 0, 0, []) 62 := Or.inl ⟨by decide +kernel, ok_aload_n dm_138_61 rfl⟩
set_option maxRecDepth 100000 in
theorem vv_138_62 {l : Launch} (hl : l.stackTraces = false) : cj_V1 l 138 62 (50, 4, 3, []) 65 := Or.inl ⟨by decide +kernel, ok_getfield (N := 5) (C := RK_4) (T := TK_4) dm_138_62 rfl inK_4 (by decide +kernel) wm_105⟩
set_option maxRecDepth 100000 in
theorem vv_138_65 {l : Launch} (hl : l.stackTraces = false) : cj_V1 l 138 65 (80, 129, 4, [1]) 68 := Or.inr (Or.inr (Or.inl ⟨by decide +kernel, by decide +kernel, rfl, vc_virtual (n := 3) (q := (RK_1, TK_1, 4)) mi_129 dm_138_65 (Or.inl wm_294) wm_295 wm_296 rfl rfl (by decide +kernel) rfl (by decide +kernel) (by decide +kernel), (vx_none rfl)⟩))
set_option maxRecDepth 100000 in
theorem vv_138_68 {l : Launch} (hl : l.stackTraces = false) : cj_V1 l 138 68 (31, 84, 0, []) 71 := Or.inl ⟨by decide +kernel, ok_if_eq dm_138_68 (by decide +kernel)⟩
set_option maxRecDepth 100000 in
theorem vv_138_71 {l : Launch} (hl : l.stackTraces = false) : cj_V1 l 138 71 (3, 5, 0, []) 73 := Or.inl ⟨by decide +kernel, ok_aload dm_138_71⟩
set_option maxRecDepth 100000 in
theorem vv_138_73 {l : Launch} (hl : l.stackTraces = false) : cj_V1 l 138 73 (0, 0, 0, []) 74 := Or.inl ⟨by decide +kernel, ok_iconst dm_138_73 (by decide +kernel)⟩
set_option maxRecDepth 100000 in
theorem vv_138_74 {l : Launch} (hl : l.stackTraces = false) : cj_V1 l 138 74 (80, 4, 2, [1]) 77 := Or.inr (Or.inr (Or.inl ⟨by decide +kernel, by decide +kernel, rfl, vc_virtual (n := 1) (q := (RK_1, TK_1, 4)) mi_4 dm_138_74 (Or.inl wm_344) wm_345 wm_346 rfl rfl (by decide +kernel) rfl (by decide +kernel) (by decide +kernel), (vx_none rfl)⟩))
set_option maxRecDepth 100000 in
theorem vv_138_77 {l : Launch} (hl : l.stackTraces = false) : cj_V1 l 138 77 (3, 0, 0, []) 78 := Or.inl ⟨by decide +kernel, ok_aload_n dm_138_77 rfl⟩
set_option maxRecDepth 100000 in
theorem vv_138_78 {l : Launch} (hl : l.stackTraces = false) : cj_V1 l 138 78 (50, 4, 1, []) 81 := Or.inl ⟨by decide +kernel, ok_getfield (N := 5) (C := RK_4) (T := TK_4) dm_138_78 rfl inK_4 (by decide +kernel) wm_103⟩
set_option maxRecDepth 100000 in
theorem vv_138_81 {l : Launch} (hl : l.stackTraces = false) : cj_V1 l 138 81 (42, 87, 0, []) 84 := Or.inl ⟨by decide +kernel, ok_icmp_le dm_138_81 (by decide +kernel)⟩
set_option maxRecDepth 100000 in
theorem vv_138_84 {l : Launch} (hl : l.stackTraces = false) : cj_V1 l 138 84 (2, 4, 0, []) 86 := Or.inl ⟨by decide +kernel, ok_iload dm_138_84⟩
set_option maxRecDepth 100000 in
theorem vv_138_86 {l : Launch} (hl : l.stackTraces = false) : cj_V1 l 138 86 (90, 0, 0, []) 87 := Or.inr (Or.inl ⟨by decide +kernel, Or.inl (Or.inl ⟨rfl, dm_138_86, rfl⟩)⟩)
set_option maxRecDepth 100000 in
theorem vv_138_87 {l : Launch} (hl : l.stackTraces = false) : cj_V1 l 138 87 (3, 3, 0, []) 88 := Or.inl ⟨by decide +kernel, ok_aload_n dm_138_87 rfl⟩
set_option maxRecDepth 100000 in
theorem vv_138_88 {l : Launch} (hl : l.stackTraces = false) : cj_V1 l 138 88 (3, 0, 0, []) 89 := Or.inl ⟨by decide +kernel, ok_aload_n dm_138_88 rfl⟩
set_option maxRecDepth 100000 in
theorem vv_138_89 {l : Launch} (hl : l.stackTraces = false) : cj_V1 l 138 89 (50, 4, 3, []) 92 := Or.inl ⟨by decide +kernel, ok_getfield (N := 5) (C := RK_4) (T := TK_4) dm_138_89 rfl inK_4 (by decide +kernel) wm_105⟩
set_option maxRecDepth 100000 in
theorem vv_138_92 {l : Launch} (hl : l.stackTraces = false) : cj_V1 l 138 92 (80, 21, 1, [3]) 95 := Or.inr (Or.inr (Or.inl ⟨by decide +kernel, by decide +kernel, rfl, vc_virtual (n := 0) (q := (RK_3, TK_3, 6)) mi_21 dm_138_92 (Or.inl wm_349) wm_350 wm_351 rfl rfl (by decide +kernel) rfl (by decide +kernel) (by decide +kernel), (vx_none rfl)⟩))
set_option maxRecDepth 100000 in
theorem vv_138_95 {l : Launch} (hl : l.stackTraces = false) : cj_V1 l 138 95 (80, 24, 2, [5]) 98 := Or.inr (Or.inr (Or.inl ⟨by decide +kernel, by decide +kernel, rfl, vc_virtual (n := 1) (q := (RK_5, TK_5, 10)) mi_24 dm_138_95 (Or.inl wm_353) wm_354 wm_355 rfl rfl (by decide +kernel) rfl (by decide +kernel) (by decide +kernel), (vx_none rfl)⟩))
set_option maxRecDepth 100000 in
theorem vv_138_98 {l : Launch} (hl : l.stackTraces = false) : cj_V1 l 138 98 (6, 4, 1, []) 101 := Or.inl ⟨by decide +kernel, ok_iinc6 dm_138_98 (by decide +kernel)⟩
set_option maxRecDepth 100000 in
theorem vv_138_101 {l : Launch} (hl : l.stackTraces = false) : cj_V1 l 138 101 (30, 3, 0, []) 104 := Or.inl ⟨by decide +kernel, ok_goto dm_138_101 (by decide +kernel)⟩
set_option maxRecDepth 100000 in
theorem vv_138_104 {l : Launch} (hl : l.stackTraces = false) : cj_V1 l 138 104 (1, 1, 0, []) 105 := Or.inl ⟨by decide +kernel, ok_iconst_m dm_138_104 (by decide +kernel)⟩
set_option maxRecDepth 100000 in
theorem vv_138_105 {l : Launch} (hl : l.stackTraces = false) : cj_V1 l 138 105 (90, 0, 0, []) 106 := Or.inr (Or.inl ⟨by decide +kernel, Or.inl (Or.inl ⟨rfl, dm_138_105, rfl⟩)⟩)
set_option maxRecDepth 100000 in
theorem vm_138 {l : Launch} (hl : l.stackTraces = false) : cj_Vm l 138 := cj_Vm_of (r := kc138_) rfl ⟨vv_138_0 hl, vv_138_1 hl, vv_138_3 hl, vv_138_5 hl, vv_138_6 hl, vv_138_9 hl, vv_138_11 hl, vv_138_12 hl, vv_138_13 hl, vv_138_16 hl, vv_138_17 hl, vv_138_19 hl, vv_138_22 hl, vv_138_24 hl, vv_138_25 hl, vv_138_27 hl, vv_138_28 hl, vv_138_29 hl, vv_138_32 hl, vv_138_33 hl, vv_138_36 hl, vv_138_39 hl, vv_138_41 hl, vv_138_42 hl, vv_138_44 hl, vv_138_45 hl, vv_138_48 hl, vv_138_51 hl, vv_138_53 hl, vv_138_54 hl, vv_138_57 hl, vv_138_58 hl, vv_138_61 hl, vv_138_62 hl, vv_138_65 hl, vv_138_68 hl, vv_138_71 hl, vv_138_73 hl, vv_138_74 hl, vv_138_77 hl, vv_138_78 hl, vv_138_81 hl, vv_138_84 hl, vv_138_86 hl, vv_138_87 hl, vv_138_88 hl, vv_138_89 hl, vv_138_92 hl, vv_138_95 hl, vv_138_98 hl, vv_138_101 hl, vv_138_104 hl, vv_138_105 hl, trivial⟩
set_option maxRecDepth 100000 in
theorem vv_139_0 {l : Launch} (hl : l.stackTraces = false) : cj_V1 l 139 0 (3, 3, 0, []) 1 := Or.inl ⟨by decide +kernel, ok_aload_n dm_139_0 rfl⟩
set_option maxRecDepth 100000 in
theorem vv_139_1 {l : Launch} (hl : l.stackTraces = false) : cj_V1 l 139 1 (0, 0, 0, []) 2 := Or.inl ⟨by decide +kernel, ok_iconst dm_139_1 (by decide +kernel)⟩
set_option maxRecDepth 100000 in
theorem vv_139_2 {l : Launch} (hl : l.stackTraces = false) : cj_V1 l 139 2 (3, 0, 0, []) 3 := Or.inl ⟨by decide +kernel, ok_aload_n dm_139_2 rfl⟩
set_option maxRecDepth 100000 in
theorem vv_139_3 {l : Launch} (hl : l.stackTraces = false) : cj_V1 l 139 3 (2, 1, 0, []) 4 := Or.inl ⟨by decide +kernel, ok_iload_n dm_139_3 rfl⟩
set_option maxRecDepth 100000 in
theorem vv_139_4 {l : Launch} (hl : l.stackTraces = false) : cj_V1 l 139 4 (2, 2, 0, []) 5 := Or.inl ⟨by decide +kernel, ok_iload_n dm_139_4 rfl⟩
set_option maxRecDepth 100000 in
theorem vv_139_5 {l : Launch} (hl : l.stackTraces = false) : cj_V1 l 139 5 (80, 126, 3, [0]) 8 := Or.inr (Or.inr (Or.inl ⟨by decide +kernel, by decide +kernel, rfl, vc_virtual (n := 2) (q := (RK_0, TK_0, 11)) mi_126 dm_139_5 (Or.inl wm_561) wm_562 wm_563 rfl rfl (by decide +kernel) rfl (by decide +kernel) (by decide +kernel), (vx_some rfl ⟨⟨rfl, rfl, wm_532, wm_539, (by decide +kernel), (by decide +kernel), (Or.inl ⟨dm_139_13, rfl⟩)⟩, ⟨rfl, rfl, wm_404, wm_489, (by decide +kernel), (by decide +kernel), (Or.inl ⟨dm_139_17, rfl⟩)⟩, trivial⟩ (by decide +kernel) (vc_virtual (n := 2) (q := (RK_0, TK_0, 11)) mi_126 dm_139_5 (Or.inl wm_561) wm_562 wm_563 rfl rfl (by decide +kernel) rfl (by decide +kernel) (by decide +kernel)))⟩))
set_option maxRecDepth 100000 in
theorem vv_139_8 {l : Launch} (hl : l.stackTraces = false) : cj_V1 l 139 8 (23, 0, 0, []) 9 := Or.inl ⟨by decide +kernel, ok_i2l dm_139_8⟩
set_option maxRecDepth 100000 in
theorem vv_139_9 {l : Launch} (hl : l.stackTraces = false) : cj_V1 l 139 9 (59, 2, 0, []) 10 := Or.inl ⟨by decide +kernel, ok_lastore dm_139_9 rfl⟩
set_option maxRecDepth 100000 in
theorem vv_139_10 {l : Launch} (hl : l.stackTraces = false) : cj_V1 l 139 10 (30, 21, 0, []) 13 := Or.inl ⟨by decide +kernel, ok_goto dm_139_10 (by decide +kernel)⟩
set_option maxRecDepth 100000 in
theorem vv_139_13 {l : Launch} (hl : l.stackTraces = false) : cj_V1 l 139 13 (5, 4, 0, []) 15 := Or.inl ⟨by decide +kernel, ok_astore dm_139_13⟩
set_option maxRecDepth 100000 in
theorem vv_139_15 {l : Launch} (hl : l.stackTraces = false) : cj_V1 l 139 15 (0, 1, 0, []) 16 := Or.inl ⟨by decide +kernel, ok_iconst dm_139_15 (by decide +kernel)⟩
set_option maxRecDepth 100000 in
theorem vv_139_16 {l : Launch} (hl : l.stackTraces = false) : cj_V1 l 139 16 (90, 0, 0, []) 17 := Or.inr (Or.inl ⟨by decide +kernel, Or.inl (Or.inl ⟨rfl, dm_139_16, rfl⟩)⟩)
set_option maxRecDepth 100000 in
theorem vv_139_17 {l : Launch} (hl : l.stackTraces = false) : cj_V1 l 139 17 (5, 4, 0, []) 19 := Or.inl ⟨by decide +kernel, ok_astore dm_139_17⟩
set_option maxRecDepth 100000 in
theorem vv_139_19 {l : Launch} (hl : l.stackTraces = false) : cj_V1 l 139 19 (0, 2, 0, []) 20 := Or.inl ⟨by decide +kernel, ok_iconst dm_139_19 (by decide +kernel)⟩
set_option maxRecDepth 100000 in
theorem vv_139_20 {l : Launch} (hl : l.stackTraces = false) : cj_V1 l 139 20 (90, 0, 0, []) 21 := Or.inr (Or.inl ⟨by decide +kernel, Or.inl (Or.inl ⟨rfl, dm_139_20, rfl⟩)⟩)
set_option maxRecDepth 100000 in
theorem vv_139_21 {l : Launch} (hl : l.stackTraces = false) : cj_V1 l 139 21 (0, 0, 0, []) 22 := Or.inl ⟨by decide +kernel, ok_iconst dm_139_21 (by decide +kernel)⟩
set_option maxRecDepth 100000 in
theorem vv_139_22 {l : Launch} (hl : l.stackTraces = false) : cj_V1 l 139 22 (90, 0, 0, []) 23 := Or.inr (Or.inl ⟨by decide +kernel, Or.inl (Or.inl ⟨rfl, dm_139_22, rfl⟩)⟩)
set_option maxRecDepth 100000 in
theorem vm_139 {l : Launch} (hl : l.stackTraces = false) : cj_Vm l 139 := cj_Vm_of (r := kc139_) rfl ⟨vv_139_0 hl, vv_139_1 hl, vv_139_2 hl, vv_139_3 hl, vv_139_4 hl, vv_139_5 hl, vv_139_8 hl, vv_139_9 hl, vv_139_10 hl, vv_139_13 hl, vv_139_15 hl, vv_139_16 hl, vv_139_17 hl, vv_139_19 hl, vv_139_20 hl, vv_139_21 hl, vv_139_22 hl, trivial⟩
set_option maxRecDepth 100000 in
theorem vv_140_0 {l : Launch} (hl : l.stackTraces = false) : cj_V1 l 140 0 (3, 1, 0, []) 1 := Or.inl ⟨by decide +kernel, ok_aload_n dm_140_0 rfl⟩
set_option maxRecDepth 100000 in
theorem vv_140_1 {l : Launch} (hl : l.stackTraces = false) : cj_V1 l 140 1 (0, 0, 0, []) 2 := Or.inl ⟨by decide +kernel, ok_iconst dm_140_1 (by decide +kernel)⟩
set_option maxRecDepth 100000 in
theorem vv_140_2 {l : Launch} (hl : l.stackTraces = false) : cj_V1 l 140 2 (3, 0, 0, []) 3 := Or.inl ⟨by decide +kernel, ok_aload_n dm_140_2 rfl⟩
set_option maxRecDepth 100000 in
theorem vv_140_3 {l : Launch} (hl : l.stackTraces = false) : cj_V1 l 140 3 (80, 127, 1, [0]) 6 := Or.inr (Or.inr (Or.inl ⟨by decide +kernel, by decide +kernel, rfl, vc_virtual (n := 0) (q := (RK_0, TK_0, 11)) mi_127 dm_140_3 (Or.inl wm_607) wm_608 wm_609 rfl rfl (by decide +kernel) rfl (by decide +kernel) (by decide +kernel), (vx_some rfl ⟨⟨rfl, rfl, wm_404, wm_489, (by decide +kernel), (by decide +kernel), (Or.inr ⟨2, dm_140_11, rfl, rfl⟩)⟩, trivial⟩ (by decide +kernel) (vc_virtual (n := 0) (q := (RK_0, TK_0, 11)) mi_127 dm_140_3 (Or.inl wm_607) wm_608 wm_609 rfl rfl (by decide +kernel) rfl (by decide +kernel) (by decide +kernel)))⟩))
set_option maxRecDepth 100000 in
theorem vv_140_6 {l : Launch} (hl : l.stackTraces = false) : cj_V1 l 140 6 (23, 0, 0, []) 7 := Or.inl ⟨by decide +kernel, ok_i2l dm_140_6⟩
set_option maxRecDepth 100000 in
theorem vv_140_7 {l : Launch} (hl : l.stackTraces = false) : cj_V1 l 140 7 (59, 2, 0, []) 8 := Or.inl ⟨by decide +kernel, ok_lastore dm_140_7 rfl⟩
set_option maxRecDepth 100000 in
theorem vv_140_8 {l : Launch} (hl : l.stackTraces = false) : cj_V1 l 140 8 (30, 14, 0, []) 11 := Or.inl ⟨by decide +kernel, ok_goto dm_140_8 (by decide +kernel)⟩
set_option maxRecDepth 100000 in
theorem vv_140_11 {l : Launch} (hl : l.stackTraces = false) : cj_V1 l 140 11 (5, 2, 0, []) 12 := Or.inl ⟨by decide +kernel, ok_astore_n dm_140_11 rfl⟩
set_option maxRecDepth 100000 in
theorem vv_140_12 {l : Launch} (hl : l.stackTraces = false) : cj_V1 l 140 12 (0, 1, 0, []) 13 := Or.inl ⟨by decide +kernel, ok_iconst dm_140_12 (by decide +kernel)⟩
set_option maxRecDepth 100000 in
theorem vv_140_13 {l : Launch} (hl : l.stackTraces = false) : cj_V1 l 140 13 (90, 0, 0, []) 14 := Or.inr (Or.inl ⟨by decide +kernel, Or.inl (Or.inl ⟨rfl, dm_140_13, rfl⟩)⟩)
set_option maxRecDepth 100000 in
theorem vv_140_14 {l : Launch} (hl : l.stackTraces = false) : cj_V1 l 140 14 (0, 0, 0, []) 15 := Or.inl ⟨by decide +kernel, ok_iconst dm_140_14 (by decide +kernel)⟩
set_option maxRecDepth 100000 in
theorem vv_140_15 {l : Launch} (hl : l.stackTraces = false) : cj_V1 l 140 15 (90, 0, 0, []) 16 := Or.inr (Or.inl ⟨by decide +kernel, Or.inl (Or.inl ⟨rfl, dm_140_15, rfl⟩)⟩)
set_option maxRecDepth 100000 in
theorem vm_140 {l : Launch} (hl : l.stackTraces = false) : cj_Vm l 140 := cj_Vm_of (r := kc140_) rfl ⟨vv_140_0 hl, vv_140_1 hl, vv_140_2 hl, vv_140_3 hl, vv_140_6 hl, vv_140_7 hl, vv_140_8 hl, vv_140_11 hl, vv_140_12 hl, vv_140_13 hl, vv_140_14 hl, vv_140_15 hl, trivial⟩
set_option maxRecDepth 100000 in
theorem vv_141_0 {l : Launch} (hl : l.stackTraces = false) : cj_V1 l 141 0 (3, 1, 0, []) 1 := Or.inl ⟨by decide +kernel, ok_aload_n dm_141_0 rfl⟩
set_option maxRecDepth 100000 in
theorem vv_141_1 {l : Launch} (hl : l.stackTraces = false) : cj_V1 l 141 1 (0, 0, 0, []) 2 := Or.inl ⟨by decide +kernel, ok_iconst dm_141_1 (by decide +kernel)⟩
set_option maxRecDepth 100000 in
theorem vv_141_2 {l : Launch} (hl : l.stackTraces = false) : cj_V1 l 141 2 (3, 0, 0, []) 3 := Or.inl ⟨by decide +kernel, ok_aload_n dm_141_2 rfl⟩
set_option maxRecDepth 100000 in
theorem vv_141_3 {l : Launch} (hl : l.stackTraces = false) : cj_V1 l 141 3 (80, 128, 1, [0]) 6 := Or.inr (Or.inr (Or.inl ⟨by decide +kernel, by decide +kernel, rfl, vc_virtual (n := 0) (q := (RK_0, TK_0, 11)) mi_128 dm_141_3 (Or.inl wm_511) wm_512 wm_513 rfl rfl (by decide +kernel) rfl (by decide +kernel) (by decide +kernel), (vx_some rfl ⟨⟨rfl, rfl, wm_403, wm_418, (by decide +kernel), (by decide +kernel), (Or.inr ⟨2, dm_141_11, rfl, rfl⟩)⟩, trivial⟩ (by decide +kernel) (vc_virtual (n := 0) (q := (RK_0, TK_0, 11)) mi_128 dm_141_3 (Or.inl wm_511) wm_512 wm_513 rfl rfl (by decide +kernel) rfl (by decide +kernel) (by decide +kernel)))⟩))
set_option maxRecDepth 100000 in
theorem vv_141_6 {l : Launch} (hl : l.stackTraces = false) : cj_V1 l 141 6 (23, 0, 0, []) 7 := Or.inl ⟨by decide +kernel, ok_i2l dm_141_6⟩
set_option maxRecDepth 100000 in
theorem vv_141_7 {l : Launch} (hl : l.stackTraces = false) : cj_V1 l 141 7 (59, 2, 0, []) 8 := Or.inl ⟨by decide +kernel, ok_lastore dm_141_7 rfl⟩
set_option maxRecDepth 100000 in
theorem vv_141_8 {l : Launch} (hl : l.stackTraces = false) : cj_V1 l 141 8 (30, 14, 0, []) 11 := Or.inl ⟨by decide +kernel, ok_goto dm_141_8 (by decide +kernel)⟩
set_option maxRecDepth 100000 in
theorem vv_141_11 {l : Launch} (hl : l.stackTraces = false) : cj_V1 l 141 11 (5, 2, 0, []) 12 := Or.inl ⟨by decide +kernel, ok_astore_n dm_141_11 rfl⟩
set_option maxRecDepth 100000 in
theorem vv_141_12 {l : Launch} (hl : l.stackTraces = false) : cj_V1 l 141 12 (0, 1, 0, []) 13 := Or.inl ⟨by decide +kernel, ok_iconst dm_141_12 (by decide +kernel)⟩
set_option maxRecDepth 100000 in
theorem vv_141_13 {l : Launch} (hl : l.stackTraces = false) : cj_V1 l 141 13 (90, 0, 0, []) 14 := Or.inr (Or.inl ⟨by decide +kernel, Or.inl (Or.inl ⟨rfl, dm_141_13, rfl⟩)⟩)
set_option maxRecDepth 100000 in
theorem vv_141_14 {l : Launch} (hl : l.stackTraces = false) : cj_V1 l 141 14 (0, 0, 0, []) 15 := Or.inl ⟨by decide +kernel, ok_iconst dm_141_14 (by decide +kernel)⟩
set_option maxRecDepth 100000 in
theorem vv_141_15 {l : Launch} (hl : l.stackTraces = false) : cj_V1 l 141 15 (90, 0, 0, []) 16 := Or.inr (Or.inl ⟨by decide +kernel, Or.inl (Or.inl ⟨rfl, dm_141_15, rfl⟩)⟩)
set_option maxRecDepth 100000 in
theorem vm_141 {l : Launch} (hl : l.stackTraces = false) : cj_Vm l 141 := cj_Vm_of (r := kc141_) rfl ⟨vv_141_0 hl, vv_141_1 hl, vv_141_2 hl, vv_141_3 hl, vv_141_6 hl, vv_141_7 hl, vv_141_8 hl, vv_141_11 hl, vv_141_12 hl, vv_141_13 hl, vv_141_14 hl, vv_141_15 hl, trivial⟩
set_option maxRecDepth 100000 in
theorem vv_142_0 {l : Launch} (hl : l.stackTraces = false) : cj_V1 l 142 0 (3, 0, 0, []) 1 := Or.inl ⟨by decide +kernel, ok_aload_n dm_142_0 rfl⟩
set_option maxRecDepth 100000 in
theorem vv_142_1 {l : Launch} (hl : l.stackTraces = false) : cj_V1 l 142 1 (0, 0, 0, []) 2 := Or.inl ⟨by decide +kernel, ok_iconst dm_142_1 (by decide +kernel)⟩
set_option maxRecDepth 100000 in
theorem vv_142_2 {l : Launch} (hl : l.stackTraces = false) : cj_V1 l 142 2 (51, 7, 2, [0]) 5 := Or.inl ⟨by decide +kernel, ok_putfield (N := 39) (C := RK_7) (T := TK_7) (ty0 := tyK_7) dm_142_2 rfl inK_7 (by decide +kernel) wm_735 tyK_7_ok nmK_7 (Or.inl rfl) (Or.inl ⟨rfl, rfl⟩)⟩
set_option maxRecDepth 100000 in
theorem vv_142_5 {l : Launch} (hl : l.stackTraces = false) : cj_V1 l 142 5 (0, 0, 0, []) 6 := Or.inl ⟨by decide +kernel, ok_iconst dm_142_5 (by decide +kernel)⟩
set_option maxRecDepth 100000 in
theorem vv_142_6 {l : Launch} (hl : l.stackTraces = false) : cj_V1 l 142 6 (4, 1, 0, []) 7 := Or.inl ⟨by decide +kernel, ok_istore_n dm_142_6 rfl⟩
set_option maxRecDepth 100000 in
theorem vv_142_7 {l : Launch} (hl : l.stackTraces = false) : cj_V1 l 142 7 (2, 1, 0, []) 8 := Or.inl ⟨by decide +kernel, ok_iload_n dm_142_7 rfl⟩
set_option maxRecDepth 100000 in
theorem vv_142_8 {l : Launch} (hl : l.stackTraces = false) : cj_V1 l 142 8 (0, 4, 0, []) 9 := Or.inl ⟨by decide +kernel, ok_iconst dm_142_8 (by decide +kernel)⟩
set_option maxRecDepth 100000 in
theorem vv_142_9 {l : Launch} (hl : l.stackTraces = false) : cj_V1 l 142 9 (3, 0, 0, []) 10 := Or.inl ⟨by decide +kernel, ok_aload_n dm_142_9 rfl⟩
set_option maxRecDepth 100000 in
theorem vv_142_10 {l : Launch} (hl : l.stackTraces = false) : cj_V1 l 142 10 (50, 7, 8, []) 13 := Or.inl ⟨by decide +kernel, ok_getfield (N := 39) (C := RK_7) (T := TK_7) dm_142_10 rfl inK_7 (by decide +kernel) wm_741⟩
set_option maxRecDepth 100000 in
theorem vv_142_13 {l : Launch} (hl : l.stackTraces = false) : cj_V1 l 142 13 (12, 0, 0, []) 14 := Or.inl ⟨by decide +kernel, ok_imul dm_142_13⟩
set_option maxRecDepth 100000 in
theorem vv_142_14 {l : Launch} (hl : l.stackTraces = false) : cj_V1 l 142 14 (40, 38, 0, []) 17 := Or.inl ⟨by decide +kernel, ok_icmp_ge dm_142_14 (by decide +kernel)⟩
set_option maxRecDepth 100000 in
theorem vv_142_17 {l : Launch} (hl : l.stackTraces = false) : cj_V1 l 142 17 (3, 0, 0, []) 18 := Or.inl ⟨by decide +kernel, ok_aload_n dm_142_17 rfl⟩
set_option maxRecDepth 100000 in
theorem vv_142_18 {l : Launch} (hl : l.stackTraces = false) : cj_V1 l 142 18 (50, 7, 13, []) 21 := Or.inl ⟨by decide +kernel, ok_getfield (N := 39) (C := RK_7) (T := TK_7) dm_142_18 rfl inK_7 (by decide +kernel) wm_746⟩
set_option maxRecDepth 100000 in
theorem vv_142_21 {l : Launch} (hl : l.stackTraces = false) : cj_V1 l 142 21 (2, 1, 0, []) 22 := Or.inl ⟨by decide +kernel, ok_iload_n dm_142_21 rfl⟩
set_option maxRecDepth 100000 in
theorem vv_142_22 {l : Launch} (hl : l.stackTraces = false) : cj_V1 l 142 22 (54, 0, 0, []) 23 := Or.inl ⟨by decide +kernel, ok_iaload dm_142_22 rfl⟩
set_option maxRecDepth 100000 in
theorem vv_142_23 {l : Launch} (hl : l.stackTraces = false) : cj_V1 l 142 23 (32, 32, 0, []) 26 := Or.inl ⟨by decide +kernel, ok_if_ne dm_142_23 (by decide +kernel)⟩
set_option maxRecDepth 100000 in
theorem vv_142_26 {l : Launch} (hl : l.stackTraces = false) : cj_V1 l 142 26 (1, 1, 0, []) 27 := Or.inl ⟨by decide +kernel, ok_iconst_m dm_142_26 (by decide +kernel)⟩
set_option maxRecDepth 100000 in
theorem vv_142_27 {l : Launch} (hl : l.stackTraces = false) : cj_V1 l 142 27 (2, 1, 0, []) 28 := Or.inl ⟨by decide +kernel, ok_iload_n dm_142_27 rfl⟩
set_option maxRecDepth 100000 in
theorem vv_142_28 {l : Launch} (hl : l.stackTraces = false) : cj_V1 l 142 28 (0, 4, 0, []) 29 := Or.inl ⟨by decide +kernel, ok_iconst dm_142_28 (by decide +kernel)⟩
set_option maxRecDepth 100000 in
theorem vv_142_29 {l : Launch} (hl : l.stackTraces = false) : cj_V1 l 142 29 (13, 0, 0, []) 30 := Or.inl ⟨by decide +kernel, ok_idiv dm_142_29⟩
set_option maxRecDepth 100000 in
theorem vv_142_30 {l : Launch} (hl : l.stackTraces = false) : cj_V1 l 142 30 (11, 0, 0, []) 31 := Or.inl ⟨by decide +kernel, ok_isub dm_142_30⟩
set_option maxRecDepth 100000 in
theorem vv_142_31 {l : Launch} (hl : l.stackTraces = false) : cj_V1 l 142 31 (90, 0, 0, []) 32 := Or.inr (Or.inl ⟨by decide +kernel, Or.inl (Or.inl ⟨rfl, dm_142_31, rfl⟩)⟩)
set_option maxRecDepth 100000 in
theorem vv_142_32 {l : Launch} (hl : l.stackTraces = false) : cj_V1 l 142 32 (6, 1, 1, []) 35 := Or.inl ⟨by decide +kernel, ok_iinc6 dm_142_32 (by decide +kernel)⟩
set_option maxRecDepth 100000 in
theorem vv_142_35 {l : Launch} (hl : l.stackTraces = false) : cj_V1 l 142 35 (30, 7, 0, []) 38 := Or.inl ⟨by decide +kernel, ok_goto dm_142_35 (by decide +kernel)⟩
set_option maxRecDepth 100000 in
theorem vv_142_38 {l : Launch} (hl : l.stackTraces = false) : cj_V1 l 142 38 (3, 0, 0, []) 39 := Or.inl ⟨by decide +kernel, ok_aload_n dm_142_38 rfl⟩
set_option maxRecDepth 100000 in
theorem vv_142_39 {l : Launch} (hl : l.stackTraces = false) : cj_V1 l 142 39 (50, 7, 23, []) 42 := Or.inl ⟨by decide +kernel, ok_getfield (N := 39) (C := RK_7) (T := TK_7) dm_142_39 rfl inK_7 (by decide +kernel) wm_756⟩
set_option maxRecDepth 100000 in
theorem vv_142_42 {l : Launch} (hl : l.stackTraces = false) : cj_V1 l 142 42 (32, 49, 0, []) 45 := Or.inl ⟨by decide +kernel, ok_if_ne dm_142_42 (by decide +kernel)⟩
set_option maxRecDepth 100000 in
theorem vv_142_45 {l : Launch} (hl : l.stackTraces = false) : cj_V1 l 142 45 (0, 1, 0, []) 46 := Or.inl ⟨by decide +kernel, ok_iconst dm_142_45 (by decide +kernel)⟩
set_option maxRecDepth 100000 in
theorem vv_142_46 {l : Launch} (hl : l.stackTraces = false) : cj_V1 l 142 46 (30, 50, 0, []) 49 := Or.inl ⟨by decide +kernel, ok_goto dm_142_46 (by decide +kernel)⟩
set_option maxRecDepth 100000 in
theorem vv_142_49 {l : Launch} (hl : l.stackTraces = false) : cj_V1 l 142 49 (0, 0, 0, []) 50 := Or.inl ⟨by decide +kernel, ok_iconst dm_142_49 (by decide +kernel)⟩
set_option maxRecDepth 100000 in
theorem vv_142_50 {l : Launch} (hl : l.stackTraces = false) : cj_V1 l 142 50 (4, 1, 0, []) 51 := Or.inl ⟨by decide +kernel, ok_istore_n dm_142_50 rfl⟩
set_option maxRecDepth 100000 in
theorem vv_142_51 {l : Launch} (hl : l.stackTraces = false) : cj_V1 l 142 51 (0, 0, 0, []) 52 := Or.inl ⟨by decide +kernel, ok_iconst dm_142_51 (by decide +kernel)⟩
set_option maxRecDepth 100000 in
theorem vv_142_52 {l : Launch} (hl : l.stackTraces = false) : cj_V1 l 142 52 (4, 2, 0, []) 53 := Or.inl ⟨by decide +kernel, ok_istore_n dm_142_52 rfl⟩
set_option maxRecDepth 100000 in
theorem vv_142_53 {l : Launch} (hl : l.stackTraces = false) : cj_V1 l 142 53 (2, 2, 0, []) 54 := Or.inl ⟨by decide +kernel, ok_iload_n dm_142_53 rfl⟩
set_option maxRecDepth 100000 in
theorem vv_142_54 {l : Launch} (hl : l.stackTraces = false) : cj_V1 l 142 54 (0, 8, 0, []) 56 := Or.inl ⟨by decide +kernel, ok_bipush dm_142_54 (by decide +kernel)⟩
set_option maxRecDepth 100000 in
theorem vv_142_56 {l : Launch} (hl : l.stackTraces = false) : cj_V1 l 142 56 (40, 72, 0, []) 59 := Or.inl ⟨by decide +kernel, ok_icmp_ge dm_142_56 (by decide +kernel)⟩
set_option maxRecDepth 100000 in
theorem vv_142_59 {l : Launch} (hl : l.stackTraces = false) : cj_V1 l 142 59 (3, 0, 0, []) 60 := Or.inl ⟨by decide +kernel, ok_aload_n dm_142_59 rfl⟩
set_option maxRecDepth 100000 in
theorem vv_142_60 {l : Launch} (hl : l.stackTraces = false) : cj_V1 l 142 60 (50, 7, 27, []) 63 := Or.inl ⟨by decide +kernel, ok_getfield (N := 39) (C := RK_7) (T := TK_7) dm_142_60 rfl inK_7 (by decide +kernel) wm_760⟩
set_option maxRecDepth 100000 in
theorem vv_142_63 {l : Launch} (hl : l.stackTraces = false) : cj_V1 l 142 63 (2, 2, 0, []) 64 := Or.inl ⟨by decide +kernel, ok_iload_n dm_142_63 rfl⟩
set_option maxRecDepth 100000 in
theorem vv_142_64 {l : Launch} (hl : l.stackTraces = false) : cj_V1 l 142 64 (0, 0, 0, []) 65 := Or.inl ⟨by decide +kernel, ok_iconst dm_142_64 (by decide +kernel)⟩
set_option maxRecDepth 100000 in
theorem vv_142_65 {l : Launch} (hl : l.stackTraces = false) : cj_V1 l 142 65 (56, 0, 0, []) 66 := Or.inl ⟨by decide +kernel, ok_iastore dm_142_65 rfl⟩
set_option maxRecDepth 100000 in
theorem vv_142_66 {l : Launch} (hl : l.stackTraces = false) : cj_V1 l 142 66 (6, 2, 1, []) 69 := Or.inl ⟨by decide +kernel, ok_iinc6 dm_142_66 (by decide +kernel)⟩
set_option maxRecDepth 100000 in
theorem vv_142_69 {l : Launch} (hl : l.stackTraces = false) : cj_V1 l 142 69 (30, 53, 0, []) 72 := Or.inl ⟨by decide +kernel, ok_goto dm_142_69 (by decide +kernel)⟩
set_option maxRecDepth 100000 in
theorem vv_142_72 {l : Launch} (hl : l.stackTraces = false) : cj_V1 l 142 72 (0, 0, 0, []) 73 := Or.inl ⟨by decide +kernel, ok_iconst dm_142_72 (by decide +kernel)⟩
set_option maxRecDepth 100000 in
theorem vv_142_73 {l : Launch} (hl : l.stackTraces = false) : cj_V1 l 142 73 (4, 2, 0, []) 74 := Or.inl ⟨by decide +kernel, ok_istore_n dm_142_73 rfl⟩
set_option maxRecDepth 100000 in
theorem vv_142_74 {l : Launch} (hl : l.stackTraces = false) : cj_V1 l 142 74 (0, 0, 0, []) 75 := Or.inl ⟨by decide +kernel, ok_iconst dm_142_74 (by decide +kernel)⟩
set_option maxRecDepth 100000 in
theorem vv_142_75 {l : Launch} (hl : l.stackTraces = false) : cj_V1 l 142 75 (4, 3, 0, []) 76 := Or.inl ⟨by decide +kernel, ok_istore_n dm_142_75 rfl⟩
set_option maxRecDepth 100000 in
theorem vv_142_76 {l : Launch} (hl : l.stackTraces = false) : cj_V1 l 142 76 (2, 2, 0, []) 77 := Or.inl ⟨by decide +kernel, ok_iload_n dm_142_76 rfl⟩
set_option maxRecDepth 100000 in
theorem vv_142_77 {l : Launch} (hl : l.stackTraces = false) : cj_V1 l 142 77 (0, 5, 0, []) 78 := Or.inl ⟨by decide +kernel, ok_iconst dm_142_77 (by decide +kernel)⟩
set_option maxRecDepth 100000 in
theorem vv_142_78 {l : Launch} (hl : l.stackTraces = false) : cj_V1 l 142 78 (40, 116, 0, []) 81 := Or.inl ⟨by decide +kernel, ok_icmp_ge dm_142_78 (by decide +kernel)⟩
set_option maxRecDepth 100000 in
theorem vv_142_81 {l : Launch} (hl : l.stackTraces = false) : cj_V1 l 142 81 (2, 3, 0, []) 82 := Or.inl ⟨by decide +kernel, ok_iload_n dm_142_81 rfl⟩
set_option maxRecDepth 100000 in
theorem vv_142_82 {l : Launch} (hl : l.stackTraces = false) : cj_V1 l 142 82 (32, 116, 0, []) 85 := Or.inl ⟨by decide +kernel, ok_if_ne dm_142_82 (by decide +kernel)⟩
set_option maxRecDepth 100000 in
theorem vv_142_85 {l : Launch} (hl : l.stackTraces = false) : cj_V1 l 142 85 (3, 0, 0, []) 86 := Or.inl ⟨by decide +kernel, ok_aload_n dm_142_85 rfl⟩
set_option maxRecDepth 100000 in
theorem vv_142_86 {l : Launch} (hl : l.stackTraces = false) : cj_V1 l 142 86 (2, 1, 0, []) 87 := Or.inl ⟨by decide +kernel, ok_iload_n dm_142_86 rfl⟩
set_option maxRecDepth 100000 in
theorem vv_142_87 {l : Launch} (hl : l.stackTraces = false) : cj_V1 l 142 87 (80, 136, 2, [7]) 90 := Or.inr (Or.inr (Or.inl ⟨by decide +kernel, by decide +kernel, rfl, vc_virtual (n := 1) (q := (RK_7, TK_7, 39)) mi_136 dm_142_87 (Or.inl wm_915) wm_917 wm_p23 rfl rfl (by decide +kernel) rfl (by decide +kernel) (by decide +kernel), (vx_none rfl)⟩))
set_option maxRecDepth 100000 in
theorem vv_142_90 {l : Launch} (hl : l.stackTraces = false) : cj_V1 l 142 90 (4, 4, 0, []) 92 := Or.inl ⟨by decide +kernel, ok_istore dm_142_90⟩
set_option maxRecDepth 100000 in
theorem vv_142_92 {l : Launch} (hl : l.stackTraces = false) : cj_V1 l 142 92 (2, 4, 0, []) 94 := Or.inl ⟨by decide +kernel, ok_iload dm_142_92⟩
set_option maxRecDepth 100000 in
theorem vv_142_94 {l : Launch} (hl : l.stackTraces = false) : cj_V1 l 142 94 (1, 1, 0, []) 95 := Or.inl ⟨by decide +kernel, ok_iconst_m dm_142_94 (by decide +kernel)⟩
set_option maxRecDepth 100000 in
theorem vv_142_95 {l : Launch} (hl : l.stackTraces = false) : cj_V1 l 142 95 (37, 104, 0, []) 98 := Or.inl ⟨by decide +kernel, ok_icmp_eq dm_142_95 (by decide +kernel)⟩
set_option maxRecDepth 100000 in
theorem vv_142_98 {l : Launch} (hl : l.stackTraces = false) : cj_V1 l 142 98 (1, 101, 0, []) 100 := Or.inl ⟨by decide +kernel, ok_bipush_m dm_142_98 (by decide +kernel)⟩
set_option maxRecDepth 100000 in
theorem vv_142_100 {l : Launch} (hl : l.stackTraces = false) : cj_V1 l 142 100 (2, 4, 0, []) 102 := Or.inl ⟨by decide +kernel, ok_iload dm_142_100⟩
set_option maxRecDepth 100000 in
theorem vv_142_102 {l : Launch} (hl : l.stackTraces = false) : cj_V1 l 142 102 (11, 0, 0, []) 103 := Or.inl ⟨by decide +kernel, ok_isub dm_142_102⟩
set_option maxRecDepth 100000 in
theorem vv_142_103 {l : Launch} (hl : l.stackTraces = false) : cj_V1 l 142 103 (90, 0, 0, []) 104 := Or.inr (Or.inl ⟨by decide +kernel, Or.inl (Or.inl ⟨rfl, dm_142_103, rfl⟩)⟩)
set_option maxRecDepth 100000 in
theorem vv_142_104 {l : Launch} (hl : l.stackTraces = false) : cj_V1 l 142 104 (3, 0, 0, []) 105 := Or.inl ⟨by decide +kernel, ok_aload_n dm_142_104 rfl⟩
set_option maxRecDepth 100000 in
theorem vv_142_105 {l : Launch} (hl : l.stackTraces = false) : cj_V1 l 142 105 (2, 1, 0, []) 106 := Or.inl ⟨by decide +kernel, ok_iload_n dm_142_105 rfl⟩
set_option maxRecDepth 100000 in
theorem vv_142_106 {l : Launch} (hl : l.stackTraces = false) : cj_V1 l 142 106 (80, 52, 2, [7]) 109 := Or.inr (Or.inr (Or.inl ⟨by decide +kernel, by decide +kernel, rfl, vc_virtual (n := 1) (q := (RK_7, TK_7, 39)) mi_52 dm_142_106 (Or.inl wm_971) wm_973 wm_p37 rfl rfl (by decide +kernel) rfl (by decide +kernel) (by decide +kernel), (vx_none rfl)⟩))
set_option maxRecDepth 100000 in
theorem vv_142_109 {l : Launch} (hl : l.stackTraces = false) : cj_V1 l 142 109 (4, 3, 0, []) 110 := Or.inl ⟨by decide +kernel, ok_istore_n dm_142_109 rfl⟩
set_option maxRecDepth 100000 in
theorem vv_142_110 {l : Launch} (hl : l.stackTraces = false) : cj_V1 l 142 110 (6, 2, 1, []) 113 := Or.inl ⟨by decide +kernel, ok_iinc6 dm_142_110 (by decide +kernel)⟩
set_option maxRecDepth 100000 in
theorem vv_142_113 {l : Launch} (hl : l.stackTraces = false) : cj_V1 l 142 113 (30, 76, 0, []) 116 := Or.inl ⟨by decide +kernel, ok_goto dm_142_113 (by decide +kernel)⟩
set_option maxRecDepth 100000 in
theorem vv_142_116 {l : Launch} (hl : l.stackTraces = false) : cj_V1 l 142 116 (3, 0, 0, []) 117 := Or.inl ⟨by decide +kernel, ok_aload_n dm_142_116 rfl⟩
set_option maxRecDepth 100000 in
theorem vv_142_117 {l : Launch} (hl : l.stackTraces = false) : cj_V1 l 142 117 (50, 7, 25, []) 120 := Or.inl ⟨by decide +kernel, ok_getfield (N := 39) (C := RK_7) (T := TK_7) dm_142_117 rfl inK_7 (by decide +kernel) wm_758⟩
set_option maxRecDepth 100000 in
theorem vv_142_120 {l : Launch} (hl : l.stackTraces = false) : cj_V1 l 142 120 (0, 5, 0, []) 121 := Or.inl ⟨by decide +kernel, ok_iconst dm_142_120 (by decide +kernel)⟩
set_option maxRecDepth 100000 in
theorem vv_142_121 {l : Launch} (hl : l.stackTraces = false) : cj_V1 l 142 121 (2, 1, 0, []) 122 := Or.inl ⟨by decide +kernel, ok_iload_n dm_142_121 rfl⟩
set_option maxRecDepth 100000 in
theorem vv_142_122 {l : Launch} (hl : l.stackTraces = false) : cj_V1 l 142 122 (12, 0, 0, []) 123 := Or.inl ⟨by decide +kernel, ok_imul dm_142_122⟩
set_option maxRecDepth 100000 in
theorem vv_142_123 {l : Launch} (hl : l.stackTraces = false) : cj_V1 l 142 123 (0, 1, 0, []) 124 := Or.inl ⟨by decide +kernel, ok_iconst dm_142_123 (by decide +kernel)⟩
set_option maxRecDepth 100000 in
theorem vv_142_124 {l : Launch} (hl : l.stackTraces = false) : cj_V1 l 142 124 (10, 0, 0, []) 125 := Or.inl ⟨by decide +kernel, ok_iadd dm_142_124⟩
set_option maxRecDepth 100000 in
theorem vv_142_125 {l : Launch} (hl : l.stackTraces = false) : cj_V1 l 142 125 (2, 2, 0, []) 126 := Or.inl ⟨by decide +kernel, ok_iload_n dm_142_125 rfl⟩
set_option maxRecDepth 100000 in
theorem vv_142_126 {l : Launch} (hl : l.stackTraces = false) : cj_V1 l 142 126 (56, 0, 0, []) 127 := Or.inl ⟨by decide +kernel, ok_iastore dm_142_126 rfl⟩
set_option maxRecDepth 100000 in
theorem vv_142_127 {l : Launch} (hl : l.stackTraces = false) : cj_V1 l 142 127 (3, 0, 0, []) 128 := Or.inl ⟨by decide +kernel, ok_aload_n dm_142_127 rfl⟩
set_option maxRecDepth 100000 in
theorem vv_142_128 {l : Launch} (hl : l.stackTraces = false) : cj_V1 l 142 128 (50, 7, 25, []) 131 := Or.inl ⟨by decide +kernel, ok_getfield (N := 39) (C := RK_7) (T := TK_7) dm_142_128 rfl inK_7 (by decide +kernel) wm_758⟩
set_option maxRecDepth 100000 in
theorem vv_142_131 {l : Launch} (hl : l.stackTraces = false) : cj_V1 l 142 131 (0, 5, 0, []) 132 := Or.inl ⟨by decide +kernel, ok_iconst dm_142_131 (by decide +kernel)⟩
set_option maxRecDepth 100000 in
theorem vv_142_132 {l : Launch} (hl : l.stackTraces = false) : cj_V1 l 142 132 (2, 1, 0, []) 133 := Or.inl ⟨by decide +kernel, ok_iload_n dm_142_132 rfl⟩
set_option maxRecDepth 100000 in
theorem vv_142_133 {l : Launch} (hl : l.stackTraces = false) : cj_V1 l 142 133 (12, 0, 0, []) 134 := Or.inl ⟨by decide +kernel, ok_imul dm_142_133⟩
set_option maxRecDepth 100000 in
theorem vv_142_134 {l : Launch} (hl : l.stackTraces = false) : cj_V1 l 142 134 (0, 2, 0, []) 135 := Or.inl ⟨by decide +kernel, ok_iconst dm_142_134 (by decide +kernel)⟩
set_option maxRecDepth 100000 in
theorem vv_142_135 {l : Launch} (hl : l.stackTraces = false) : cj_V1 l 142 135 (10, 0, 0, []) 136 := Or.inl ⟨by decide +kernel, ok_iadd dm_142_135⟩
set_option maxRecDepth 100000 in
theorem vv_142_136 {l : Launch} (hl : l.stackTraces = false) : cj_V1 l 142 136 (2, 3, 0, []) 137 := Or.inl ⟨by decide +kernel, ok_iload_n dm_142_136 rfl⟩
set_option maxRecDepth 100000 in
theorem vv_142_137 {l : Launch} (hl : l.stackTraces = false) : cj_V1 l 142 137 (31, 144, 0, []) 140 := Or.inl ⟨by decide +kernel, ok_if_eq dm_142_137 (by decide +kernel)⟩
set_option maxRecDepth 100000 in
theorem vv_142_140 {l : Launch} (hl : l.stackTraces = false) : cj_V1 l 142 140 (0, 1, 0, []) 141 := Or.inl ⟨by decide +kernel, ok_iconst dm_142_140 (by decide +kernel)⟩
set_option maxRecDepth 100000 in
theorem vv_142_141 {l : Launch} (hl : l.stackTraces = false) : cj_V1 l 142 141 (30, 145, 0, []) 144 := Or.inl ⟨by decide +kernel, ok_goto dm_142_141 (by decide +kernel)⟩
set_option maxRecDepth 100000 in
theorem vv_142_144 {l : Launch} (hl : l.stackTraces = false) : cj_V1 l 142 144 (0, 0, 0, []) 145 := Or.inl ⟨by decide +kernel, ok_iconst dm_142_144 (by decide +kernel)⟩
set_option maxRecDepth 100000 in
theorem vv_142_145 {l : Launch} (hl : l.stackTraces = false) : cj_V1 l 142 145 (56, 0, 0, []) 146 := Or.inl ⟨by decide +kernel, ok_iastore dm_142_145 rfl⟩
set_option maxRecDepth 100000 in
theorem vv_142_146 {l : Launch} (hl : l.stackTraces = false) : cj_V1 l 142 146 (3, 0, 0, []) 147 := Or.inl ⟨by decide +kernel, ok_aload_n dm_142_146 rfl⟩
set_option maxRecDepth 100000 in
theorem vv_142_147 {l : Launch} (hl : l.stackTraces = false) : cj_V1 l 142 147 (50, 7, 24, []) 150 := Or.inl ⟨by decide +kernel, ok_getfield (N := 39) (C := RK_7) (T := TK_7) dm_142_147 rfl inK_7 (by decide +kernel) wm_757⟩
set_option maxRecDepth 100000 in
theorem vv_142_150 {l : Launch} (hl : l.stackTraces = false) : cj_V1 l 142 150 (2, 1, 0, []) 151 := Or.inl ⟨by decide +kernel, ok_iload_n dm_142_150 rfl⟩
set_option maxRecDepth 100000 in
theorem vv_142_151 {l : Launch} (hl : l.stackTraces = false) : cj_V1 l 142 151 (3, 0, 0, []) 152 := Or.inl ⟨by decide +kernel, ok_aload_n dm_142_151 rfl⟩
set_option maxRecDepth 100000 in
theorem vv_142_152 {l : Launch} (hl : l.stackTraces = false) : cj_V1 l 142 152 (50, 7, 8, []) 155 := Or.inl ⟨by decide +kernel, ok_getfield (N := 39) (C := RK_7) (T := TK_7) dm_142_152 rfl inK_7 (by decide +kernel) wm_741⟩
set_option maxRecDepth 100000 in
theorem vv_142_155 {l : Launch} (hl : l.stackTraces = false) : cj_V1 l 142 155 (56, 0, 0, []) 156 := Or.inl ⟨by decide +kernel, ok_iastore dm_142_155 rfl⟩
set_option maxRecDepth 100000 in
theorem vv_142_156 {l : Launch} (hl : l.stackTraces = false) : cj_V1 l 142 156 (3, 0, 0, []) 157 := Or.inl ⟨by decide +kernel, ok_aload_n dm_142_156 rfl⟩
set_option maxRecDepth 100000 in
theorem vv_142_157 {l : Launch} (hl : l.stackTraces = false) : cj_V1 l 142 157 (2, 1, 0, []) 158 := Or.inl ⟨by decide +kernel, ok_iload_n dm_142_157 rfl⟩
set_option maxRecDepth 100000 in
theorem vv_142_158 {l : Launch} (hl : l.stackTraces = false) : cj_V1 l 142 158 (51, 7, 23, [0]) 161 := Or.inl ⟨by decide +kernel, ok_putfield (N := 39) (C := RK_7) (T := TK_7) (ty0 := tyK_7) dm_142_158 rfl inK_7 (by decide +kernel) wm_756 tyK_7_ok nmK_7 (Or.inl rfl) (Or.inl ⟨rfl, rfl⟩)⟩
set_option maxRecDepth 100000 in
theorem vv_142_161 {l : Launch} (hl : l.stackTraces = false) : cj_V1 l 142 161 (3, 0, 0, []) 162 := Or.inl ⟨by decide +kernel, ok_aload_n dm_142_161 rfl⟩
set_option maxRecDepth 100000 in
theorem vv_142_162 {l : Launch} (hl : l.stackTraces = false) : cj_V1 l 142 162 (50, 7, 25, []) 165 := Or.inl ⟨by decide +kernel, ok_getfield (N := 39) (C := RK_7) (T := TK_7) dm_142_162 rfl inK_7 (by decide +kernel) wm_758⟩
set_option maxRecDepth 100000 in
theorem vv_142_165 {l : Launch} (hl : l.stackTraces = false) : cj_V1 l 142 165 (0, 5, 0, []) 166 := Or.inl ⟨by decide +kernel, ok_iconst dm_142_165 (by decide +kernel)⟩
set_option maxRecDepth 100000 in
theorem vv_142_166 {l : Launch} (hl : l.stackTraces = false) : cj_V1 l 142 166 (2, 1, 0, []) 167 := Or.inl ⟨by decide +kernel, ok_iload_n dm_142_166 rfl⟩
set_option maxRecDepth 100000 in
theorem vv_142_167 {l : Launch} (hl : l.stackTraces = false) : cj_V1 l 142 167 (12, 0, 0, []) 168 := Or.inl ⟨by decide +kernel, ok_imul dm_142_167⟩
set_option maxRecDepth 100000 in
theorem vv_142_168 {l : Launch} (hl : l.stackTraces = false) : cj_V1 l 142 168 (54, 0, 0, []) 169 := Or.inl ⟨by decide +kernel, ok_iaload dm_142_168 rfl⟩
set_option maxRecDepth 100000 in
theorem vv_142_169 {l : Launch} (hl : l.stackTraces = false) : cj_V1 l 142 169 (90, 0, 0, []) 170 := Or.inr (Or.inl ⟨by decide +kernel, Or.inl (Or.inl ⟨rfl, dm_142_169, rfl⟩)⟩)
set_option maxRecDepth 100000 in
theorem vm_142 {l : Launch} (hl : l.stackTraces = false) : cj_Vm l 142 := cj_Vm_of (r := kc142_) rfl ⟨vv_142_0 hl, vv_142_1 hl, vv_142_2 hl, vv_142_5 hl, vv_142_6 hl, vv_142_7 hl, vv_142_8 hl, vv_142_9 hl, vv_142_10 hl, vv_142_13 hl, vv_142_14 hl, vv_142_17 hl, vv_142_18 hl, vv_142_21 hl, vv_142_22 hl, vv_142_23 hl, vv_142_26 hl, vv_142_27 hl, vv_142_28 hl, vv_142_29 hl, vv_142_30 hl, vv_142_31 hl, vv_142_32 hl, vv_142_35 hl, vv_142_38 hl, vv_142_39 hl, vv_142_42 hl, vv_142_45 hl, vv_142_46 hl, vv_142_49 hl, vv_142_50 hl, vv_142_51 hl, vv_142_52 hl, vv_142_53 hl, vv_142_54 hl, vv_142_56 hl, vv_142_59 hl, vv_142_60 hl, vv_142_63 hl, vv_142_64 hl, vv_142_65 hl, vv_142_66 hl, vv_142_69 hl, vv_142_72 hl, vv_142_73 hl, vv_142_74 hl, vv_142_75 hl, vv_142_76 hl, vv_142_77 hl, vv_142_78 hl, vv_142_81 hl, vv_142_82 hl, vv_142_85 hl, vv_142_86 hl, vv_142_87 hl, vv_142_90 hl, vv_142_92 hl, vv_142_94 hl, vv_142_95 hl, vv_142_98 hl, vv_142_100 hl, vv_142_102 hl, vv_142_103 hl, vv_142_104 hl, vv_142_105 hl, vv_142_106 hl, vv_142_109 hl, vv_142_110 hl, vv_142_113 hl, vv_142_116 hl, vv_142_117 hl, vv_142_120 hl, vv_142_121 hl, vv_142_122 hl, vv_142_123 hl, vv_142_124 hl, vv_142_125 hl, vv_142_126 hl, vv_142_127 hl, vv_142_128 hl, vv_142_131 hl, vv_142_132 hl, vv_142_133 hl, vv_142_134 hl, vv_142_135 hl, vv_142_136 hl, vv_142_137 hl, vv_142_140 hl, vv_142_141 hl, vv_142_144 hl, vv_142_145 hl, vv_142_146 hl, vv_142_147 hl, vv_142_150 hl, vv_142_151 hl, vv_142_152 hl, vv_142_155 hl, vv_142_156 hl, vv_142_157 hl, vv_142_158 hl, vv_142_161 hl, vv_142_162 hl, vv_142_165 hl, vv_142_166 hl, vv_142_167 hl, vv_142_168 hl, vv_142_169 hl, trivial⟩
