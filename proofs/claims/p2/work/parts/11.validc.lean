set_option maxRecDepth 100000 in
theorem vv_61_0 {l : Launch} (hl : l.stackTraces = false) : cj_V1 l 61 0 (2, 1, 0, []) 1 := Or.inl ⟨by decide +kernel, ok_iload_n dm_61_0 rfl⟩
set_option maxRecDepth 100000 in
theorem vv_61_1 {l : Launch} (hl : l.stackTraces = false) : cj_V1 l 61 1 (33, 12, 0, []) 4 := Or.inl ⟨by decide +kernel, ok_if_lt dm_61_1 (by decide +kernel)⟩
set_option maxRecDepth 100000 in
theorem vv_61_4 {l : Launch} (hl : l.stackTraces = false) : cj_V1 l 61 4 (2, 1, 0, []) 5 := Or.inl ⟨by decide +kernel, ok_iload_n dm_61_4 rfl⟩
set_option maxRecDepth 100000 in
theorem vv_61_5 {l : Launch} (hl : l.stackTraces = false) : cj_V1 l 61 5 (3, 0, 0, []) 6 := Or.inl ⟨by decide +kernel, ok_aload_n dm_61_5 rfl⟩
set_option maxRecDepth 100000 in
theorem vv_61_6 {l : Launch} (hl : l.stackTraces = false) : cj_V1 l 61 6 (50, 0, 6, []) 9 := Or.inl ⟨by decide +kernel, ok_getfield (N := 11) (C := RK_0) (T := TK_0) dm_61_6 rfl inK_0 (by decide +kernel) wm_183⟩
set_option maxRecDepth 100000 in
theorem vv_61_9 {l : Launch} (hl : l.stackTraces = false) : cj_V1 l 61 9 (39, 22, 0, []) 12 := Or.inl ⟨by decide +kernel, ok_icmp_lt dm_61_9 (by decide +kernel)⟩
set_option maxRecDepth 100000 in
theorem vv_61_12 {l : Launch} (hl : l.stackTraces = false) : cj_V1 l 61 12 (95, 2, 0, []) 15 := Or.inr (Or.inl ⟨by decide +kernel, Or.inr (vt_throw (y := ky_ 0) (X := "java/lang/IndexOutOfBoundsException") (tx := "no such template") (names := ["java/lang/RuntimeException", "java/lang/Exception"]) hl rfl dm_61_12 dm_61_15 dm_61_16 dm_61_18 dm_61_21 rfl wm_537 wm_538 wm_15 wm_546 xw_0 (by decide +kernel) (by decide +kernel) (by decide +kernel) (by decide +kernel))⟩)
set_option maxRecDepth 100000 in
theorem vv_61_22 {l : Launch} (hl : l.stackTraces = false) : cj_V1 l 61 22 (3, 0, 0, []) 23 := Or.inl ⟨by decide +kernel, ok_aload_n dm_61_22 rfl⟩
set_option maxRecDepth 100000 in
theorem vv_61_23 {l : Launch} (hl : l.stackTraces = false) : cj_V1 l 61 23 (50, 0, 7, []) 26 := Or.inl ⟨by decide +kernel, ok_getfield (N := 11) (C := RK_0) (T := TK_0) dm_61_23 rfl inK_0 (by decide +kernel) wm_184⟩
set_option maxRecDepth 100000 in
theorem vv_61_26 {l : Launch} (hl : l.stackTraces = false) : cj_V1 l 61 26 (0, 8, 0, []) 28 := Or.inl ⟨by decide +kernel, ok_bipush dm_61_26 (by decide +kernel)⟩
set_option maxRecDepth 100000 in
theorem vv_61_28 {l : Launch} (hl : l.stackTraces = false) : cj_V1 l 61 28 (39, 41, 0, []) 31 := Or.inl ⟨by decide +kernel, ok_icmp_lt dm_61_28 (by decide +kernel)⟩
set_option maxRecDepth 100000 in
theorem vv_61_31 {l : Launch} (hl : l.stackTraces = false) : cj_V1 l 61 31 (95, 0, 0, []) 34 := Or.inr (Or.inl ⟨by decide +kernel, Or.inr (vt_throw (y := ky_ 0) (X := "java/lang/IllegalStateException") (tx := "there are eight entries") (names := ["java/lang/RuntimeException", "java/lang/Exception"]) hl rfl dm_61_31 dm_61_34 dm_61_35 dm_61_37 dm_61_40 rfl wm_416 wm_417 wm_13 wm_553 xw_1 (by decide +kernel) (by decide +kernel) (by decide +kernel) (by decide +kernel))⟩)
set_option maxRecDepth 100000 in
theorem vv_61_41 {l : Launch} (hl : l.stackTraces = false) : cj_V1 l 61 41 (3, 0, 0, []) 42 := Or.inl ⟨by decide +kernel, ok_aload_n dm_61_41 rfl⟩
set_option maxRecDepth 100000 in
theorem vv_61_42 {l : Launch} (hl : l.stackTraces = false) : cj_V1 l 61 42 (50, 0, 4, []) 45 := Or.inl ⟨by decide +kernel, ok_getfield (N := 11) (C := RK_0) (T := TK_0) dm_61_42 rfl inK_0 (by decide +kernel) wm_181⟩
set_option maxRecDepth 100000 in
theorem vv_61_45 {l : Launch} (hl : l.stackTraces = false) : cj_V1 l 61 45 (3, 0, 0, []) 46 := Or.inl ⟨by decide +kernel, ok_aload_n dm_61_45 rfl⟩
set_option maxRecDepth 100000 in
theorem vv_61_46 {l : Launch} (hl : l.stackTraces = false) : cj_V1 l 61 46 (50, 0, 7, []) 49 := Or.inl ⟨by decide +kernel, ok_getfield (N := 11) (C := RK_0) (T := TK_0) dm_61_46 rfl inK_0 (by decide +kernel) wm_184⟩
set_option maxRecDepth 100000 in
theorem vv_61_49 {l : Launch} (hl : l.stackTraces = false) : cj_V1 l 61 49 (54, 4, 0, []) 50 := Or.inl ⟨by decide +kernel, ok_aaload (C := "CatalogueSet$Entry") dm_61_49 rfl⟩
set_option maxRecDepth 100000 in
theorem vv_61_50 {l : Launch} (hl : l.stackTraces = false) : cj_V1 l 61 50 (3, 0, 0, []) 51 := Or.inl ⟨by decide +kernel, ok_aload_n dm_61_50 rfl⟩
set_option maxRecDepth 100000 in
theorem vv_61_51 {l : Launch} (hl : l.stackTraces = false) : cj_V1 l 61 51 (50, 0, 3, []) 54 := Or.inl ⟨by decide +kernel, ok_getfield (N := 11) (C := RK_0) (T := TK_0) dm_61_51 rfl inK_0 (by decide +kernel) wm_180⟩
set_option maxRecDepth 100000 in
theorem vv_61_54 {l : Launch} (hl : l.stackTraces = false) : cj_V1 l 61 54 (2, 1, 0, []) 55 := Or.inl ⟨by decide +kernel, ok_iload_n dm_61_54 rfl⟩
set_option maxRecDepth 100000 in
theorem vv_61_55 {l : Launch} (hl : l.stackTraces = false) : cj_V1 l 61 55 (54, 3, 0, []) 56 := Or.inl ⟨by decide +kernel, ok_aaload (C := "CatalogueSet$Signs") dm_61_55 rfl⟩
set_option maxRecDepth 100000 in
theorem vv_61_56 {l : Launch} (hl : l.stackTraces = false) : cj_V1 l 61 56 (80, 15, 2, [2]) 59 := Or.inr (Or.inr (Or.inl ⟨by decide +kernel, by decide +kernel, rfl, vc_virtual (n := 1) (q := (RK_2, TK_2, 4)) mi_15 dm_61_56 (Or.inl wm_554) wm_555 wm_556 rfl rfl (by decide +kernel) rfl (by decide +kernel) (by decide +kernel), (vx_none rfl)⟩))
set_option maxRecDepth 100000 in
theorem vv_61_59 {l : Launch} (hl : l.stackTraces = false) : cj_V1 l 61 59 (3, 0, 0, []) 60 := Or.inl ⟨by decide +kernel, ok_aload_n dm_61_59 rfl⟩
set_option maxRecDepth 100000 in
theorem vv_61_60 {l : Launch} (hl : l.stackTraces = false) : cj_V1 l 61 60 (25, 0, 0, []) 61 := Or.inl ⟨by decide +kernel, ok_dup dm_61_60⟩
set_option maxRecDepth 100000 in
theorem vv_61_61 {l : Launch} (hl : l.stackTraces = false) : cj_V1 l 61 61 (50, 0, 7, []) 64 := Or.inl ⟨by decide +kernel, ok_getfield (N := 11) (C := RK_0) (T := TK_0) dm_61_61 rfl inK_0 (by decide +kernel) wm_184⟩
set_option maxRecDepth 100000 in
theorem vv_61_64 {l : Launch} (hl : l.stackTraces = false) : cj_V1 l 61 64 (0, 1, 0, []) 65 := Or.inl ⟨by decide +kernel, ok_iconst dm_61_64 (by decide +kernel)⟩
set_option maxRecDepth 100000 in
theorem vv_61_65 {l : Launch} (hl : l.stackTraces = false) : cj_V1 l 61 65 (10, 0, 0, []) 66 := Or.inl ⟨by decide +kernel, ok_iadd dm_61_65⟩
set_option maxRecDepth 100000 in
theorem vv_61_66 {l : Launch} (hl : l.stackTraces = false) : cj_V1 l 61 66 (51, 0, 7, [0]) 69 := Or.inl ⟨by decide +kernel, ok_putfield (N := 11) (C := RK_0) (T := TK_0) (ty0 := tyK_0) dm_61_66 rfl inK_0 (by decide +kernel) wm_184 tyK_0_ok nmK_0 (Or.inl rfl) (Or.inl ⟨rfl, rfl⟩)⟩
set_option maxRecDepth 100000 in
theorem vv_61_69 {l : Launch} (hl : l.stackTraces = false) : cj_V1 l 61 69 (3, 0, 0, []) 70 := Or.inl ⟨by decide +kernel, ok_aload_n dm_61_69 rfl⟩
set_option maxRecDepth 100000 in
theorem vv_61_70 {l : Launch} (hl : l.stackTraces = false) : cj_V1 l 61 70 (50, 0, 7, []) 73 := Or.inl ⟨by decide +kernel, ok_getfield (N := 11) (C := RK_0) (T := TK_0) dm_61_70 rfl inK_0 (by decide +kernel) wm_184⟩
set_option maxRecDepth 100000 in
theorem vv_61_73 {l : Launch} (hl : l.stackTraces = false) : cj_V1 l 61 73 (0, 1, 0, []) 74 := Or.inl ⟨by decide +kernel, ok_iconst dm_61_73 (by decide +kernel)⟩
set_option maxRecDepth 100000 in
theorem vv_61_74 {l : Launch} (hl : l.stackTraces = false) : cj_V1 l 61 74 (11, 0, 0, []) 75 := Or.inl ⟨by decide +kernel, ok_isub dm_61_74⟩
set_option maxRecDepth 100000 in
theorem vv_61_75 {l : Launch} (hl : l.stackTraces = false) : cj_V1 l 61 75 (90, 0, 0, []) 76 := Or.inr (Or.inl ⟨by decide +kernel, Or.inl (Or.inl ⟨rfl, dm_61_75, rfl⟩)⟩)
set_option maxRecDepth 100000 in
theorem vm_61 {l : Launch} (hl : l.stackTraces = false) : cj_Vm l 61 := cj_Vm_of (r := kc61_) rfl ⟨vv_61_0 hl, vv_61_1 hl, vv_61_4 hl, vv_61_5 hl, vv_61_6 hl, vv_61_9 hl, vv_61_12 hl, vv_61_22 hl, vv_61_23 hl, vv_61_26 hl, vv_61_28 hl, vv_61_31 hl, vv_61_41 hl, vv_61_42 hl, vv_61_45 hl, vv_61_46 hl, vv_61_49 hl, vv_61_50 hl, vv_61_51 hl, vv_61_54 hl, vv_61_55 hl, vv_61_56 hl, vv_61_59 hl, vv_61_60 hl, vv_61_61 hl, vv_61_64 hl, vv_61_65 hl, vv_61_66 hl, vv_61_69 hl, vv_61_70 hl, vv_61_73 hl, vv_61_74 hl, vv_61_75 hl, trivial⟩
set_option maxRecDepth 100000 in
theorem vv_62_0 {l : Launch} (hl : l.stackTraces = false) : cj_V1 l 62 0 (0, 0, 0, []) 1 := Or.inl ⟨by decide +kernel, ok_iconst dm_62_0 (by decide +kernel)⟩
set_option maxRecDepth 100000 in
theorem vv_62_1 {l : Launch} (hl : l.stackTraces = false) : cj_V1 l 62 1 (4, 1, 0, []) 2 := Or.inl ⟨by decide +kernel, ok_istore_n dm_62_1 rfl⟩
set_option maxRecDepth 100000 in
theorem vv_62_2 {l : Launch} (hl : l.stackTraces = false) : cj_V1 l 62 2 (2, 1, 0, []) 3 := Or.inl ⟨by decide +kernel, ok_iload_n dm_62_2 rfl⟩
set_option maxRecDepth 100000 in
theorem vv_62_3 {l : Launch} (hl : l.stackTraces = false) : cj_V1 l 62 3 (3, 0, 0, []) 4 := Or.inl ⟨by decide +kernel, ok_aload_n dm_62_3 rfl⟩
set_option maxRecDepth 100000 in
theorem vv_62_4 {l : Launch} (hl : l.stackTraces = false) : cj_V1 l 62 4 (50, 0, 7, []) 7 := Or.inl ⟨by decide +kernel, ok_getfield (N := 11) (C := RK_0) (T := TK_0) dm_62_4 rfl inK_0 (by decide +kernel) wm_184⟩
set_option maxRecDepth 100000 in
theorem vv_62_7 {l : Launch} (hl : l.stackTraces = false) : cj_V1 l 62 7 (40, 30, 0, []) 10 := Or.inl ⟨by decide +kernel, ok_icmp_ge dm_62_7 (by decide +kernel)⟩
set_option maxRecDepth 100000 in
theorem vv_62_10 {l : Launch} (hl : l.stackTraces = false) : cj_V1 l 62 10 (3, 0, 0, []) 11 := Or.inl ⟨by decide +kernel, ok_aload_n dm_62_10 rfl⟩
set_option maxRecDepth 100000 in
theorem vv_62_11 {l : Launch} (hl : l.stackTraces = false) : cj_V1 l 62 11 (50, 0, 4, []) 14 := Or.inl ⟨by decide +kernel, ok_getfield (N := 11) (C := RK_0) (T := TK_0) dm_62_11 rfl inK_0 (by decide +kernel) wm_181⟩
set_option maxRecDepth 100000 in
theorem vv_62_14 {l : Launch} (hl : l.stackTraces = false) : cj_V1 l 62 14 (2, 1, 0, []) 15 := Or.inl ⟨by decide +kernel, ok_iload_n dm_62_14 rfl⟩
set_option maxRecDepth 100000 in
theorem vv_62_15 {l : Launch} (hl : l.stackTraces = false) : cj_V1 l 62 15 (54, 4, 0, []) 16 := Or.inl ⟨by decide +kernel, ok_aaload (C := "CatalogueSet$Entry") dm_62_15 rfl⟩
set_option maxRecDepth 100000 in
theorem vv_62_16 {l : Launch} (hl : l.stackTraces = false) : cj_V1 l 62 16 (80, 11, 1, [2]) 19 := Or.inr (Or.inr (Or.inl ⟨by decide +kernel, by decide +kernel, rfl, vc_virtual (n := 0) (q := (RK_2, TK_2, 4)) mi_11 dm_62_16 (Or.inl wm_219) wm_220 wm_221 rfl rfl (by decide +kernel) rfl (by decide +kernel) (by decide +kernel), (vx_none rfl)⟩))
set_option maxRecDepth 100000 in
theorem vv_62_19 {l : Launch} (hl : l.stackTraces = false) : cj_V1 l 62 19 (31, 24, 0, []) 22 := Or.inl ⟨by decide +kernel, ok_if_eq dm_62_19 (by decide +kernel)⟩
set_option maxRecDepth 100000 in
theorem vv_62_22 {l : Launch} (hl : l.stackTraces = false) : cj_V1 l 62 22 (2, 1, 0, []) 23 := Or.inl ⟨by decide +kernel, ok_iload_n dm_62_22 rfl⟩
set_option maxRecDepth 100000 in
theorem vv_62_23 {l : Launch} (hl : l.stackTraces = false) : cj_V1 l 62 23 (90, 0, 0, []) 24 := Or.inr (Or.inl ⟨by decide +kernel, Or.inl (Or.inl ⟨rfl, dm_62_23, rfl⟩)⟩)
set_option maxRecDepth 100000 in
theorem vv_62_24 {l : Launch} (hl : l.stackTraces = false) : cj_V1 l 62 24 (6, 1, 1, []) 27 := Or.inl ⟨by decide +kernel, ok_iinc6 dm_62_24 (by decide +kernel)⟩
set_option maxRecDepth 100000 in
theorem vv_62_27 {l : Launch} (hl : l.stackTraces = false) : cj_V1 l 62 27 (30, 2, 0, []) 30 := Or.inl ⟨by decide +kernel, ok_goto dm_62_27 (by decide +kernel)⟩
set_option maxRecDepth 100000 in
theorem vv_62_30 {l : Launch} (hl : l.stackTraces = false) : cj_V1 l 62 30 (1, 1, 0, []) 31 := Or.inl ⟨by decide +kernel, ok_iconst_m dm_62_30 (by decide +kernel)⟩
set_option maxRecDepth 100000 in
theorem vv_62_31 {l : Launch} (hl : l.stackTraces = false) : cj_V1 l 62 31 (90, 0, 0, []) 32 := Or.inr (Or.inl ⟨by decide +kernel, Or.inl (Or.inl ⟨rfl, dm_62_31, rfl⟩)⟩)
set_option maxRecDepth 100000 in
theorem vm_62 {l : Launch} (hl : l.stackTraces = false) : cj_Vm l 62 := cj_Vm_of (r := kc62_) rfl ⟨vv_62_0 hl, vv_62_1 hl, vv_62_2 hl, vv_62_3 hl, vv_62_4 hl, vv_62_7 hl, vv_62_10 hl, vv_62_11 hl, vv_62_14 hl, vv_62_15 hl, vv_62_16 hl, vv_62_19 hl, vv_62_22 hl, vv_62_23 hl, vv_62_24 hl, vv_62_27 hl, vv_62_30 hl, vv_62_31 hl, trivial⟩
set_option maxRecDepth 100000 in
theorem vv_63_0 {l : Launch} (hl : l.stackTraces = false) : cj_V1 l 63 0 (0, 0, 0, []) 1 := Or.inl ⟨by decide +kernel, ok_iconst dm_63_0 (by decide +kernel)⟩
set_option maxRecDepth 100000 in
theorem vv_63_1 {l : Launch} (hl : l.stackTraces = false) : cj_V1 l 63 1 (4, 1, 0, []) 2 := Or.inl ⟨by decide +kernel, ok_istore_n dm_63_1 rfl⟩
set_option maxRecDepth 100000 in
theorem vv_63_2 {l : Launch} (hl : l.stackTraces = false) : cj_V1 l 63 2 (0, 0, 0, []) 3 := Or.inl ⟨by decide +kernel, ok_iconst dm_63_2 (by decide +kernel)⟩
set_option maxRecDepth 100000 in
theorem vv_63_3 {l : Launch} (hl : l.stackTraces = false) : cj_V1 l 63 3 (4, 2, 0, []) 4 := Or.inl ⟨by decide +kernel, ok_istore_n dm_63_3 rfl⟩
set_option maxRecDepth 100000 in
theorem vv_63_4 {l : Launch} (hl : l.stackTraces = false) : cj_V1 l 63 4 (0, 0, 0, []) 5 := Or.inl ⟨by decide +kernel, ok_iconst dm_63_4 (by decide +kernel)⟩
set_option maxRecDepth 100000 in
theorem vv_63_5 {l : Launch} (hl : l.stackTraces = false) : cj_V1 l 63 5 (4, 3, 0, []) 6 := Or.inl ⟨by decide +kernel, ok_istore_n dm_63_5 rfl⟩
set_option maxRecDepth 100000 in
theorem vv_63_6 {l : Launch} (hl : l.stackTraces = false) : cj_V1 l 63 6 (0, 0, 0, []) 7 := Or.inl ⟨by decide +kernel, ok_iconst dm_63_6 (by decide +kernel)⟩
set_option maxRecDepth 100000 in
theorem vv_63_7 {l : Launch} (hl : l.stackTraces = false) : cj_V1 l 63 7 (4, 4, 0, []) 9 := Or.inl ⟨by decide +kernel, ok_istore dm_63_7⟩
set_option maxRecDepth 100000 in
theorem vv_63_9 {l : Launch} (hl : l.stackTraces = false) : cj_V1 l 63 9 (2, 4, 0, []) 11 := Or.inl ⟨by decide +kernel, ok_iload dm_63_9⟩
set_option maxRecDepth 100000 in
theorem vv_63_11 {l : Launch} (hl : l.stackTraces = false) : cj_V1 l 63 11 (3, 0, 0, []) 12 := Or.inl ⟨by decide +kernel, ok_aload_n dm_63_11 rfl⟩
set_option maxRecDepth 100000 in
theorem vv_63_12 {l : Launch} (hl : l.stackTraces = false) : cj_V1 l 63 12 (80, 39, 1, [6]) 15 := Or.inr (Or.inr (Or.inl ⟨by decide +kernel, by decide +kernel, rfl, vc_virtual (n := 0) (q := (RK_6, TK_6, 2)) mi_39 dm_63_12 (Or.inl wm_409) wm_249 wm_250 rfl rfl (by decide +kernel) rfl (by decide +kernel) (by decide +kernel), (vx_none rfl)⟩))
set_option maxRecDepth 100000 in
theorem vv_63_15 {l : Launch} (hl : l.stackTraces = false) : cj_V1 l 63 15 (40, 165, 0, []) 18 := Or.inl ⟨by decide +kernel, ok_icmp_ge dm_63_15 (by decide +kernel)⟩
set_option maxRecDepth 100000 in
theorem vv_63_18 {l : Launch} (hl : l.stackTraces = false) : cj_V1 l 63 18 (3, 0, 0, []) 19 := Or.inl ⟨by decide +kernel, ok_aload_n dm_63_18 rfl⟩
set_option maxRecDepth 100000 in
theorem vv_63_19 {l : Launch} (hl : l.stackTraces = false) : cj_V1 l 63 19 (2, 4, 0, []) 21 := Or.inl ⟨by decide +kernel, ok_iload dm_63_19⟩
set_option maxRecDepth 100000 in
theorem vv_63_21 {l : Launch} (hl : l.stackTraces = false) : cj_V1 l 63 21 (80, 36, 2, [6]) 24 := Or.inr (Or.inr (Or.inl ⟨by decide +kernel, by decide +kernel, rfl, vc_virtual (n := 1) (q := (RK_6, TK_6, 2)) mi_36 dm_63_21 (Or.inl wm_519) wm_253 wm_254 rfl rfl (by decide +kernel) rfl (by decide +kernel) (by decide +kernel), (vx_none rfl)⟩))
set_option maxRecDepth 100000 in
theorem vv_63_24 {l : Launch} (hl : l.stackTraces = false) : cj_V1 l 63 24 (4, 5, 0, []) 26 := Or.inl ⟨by decide +kernel, ok_istore dm_63_24⟩
set_option maxRecDepth 100000 in
theorem vv_63_26 {l : Launch} (hl : l.stackTraces = false) : cj_V1 l 63 26 (2, 3, 0, []) 27 := Or.inl ⟨by decide +kernel, ok_iload_n dm_63_26 rfl⟩
set_option maxRecDepth 100000 in
theorem vv_63_27 {l : Launch} (hl : l.stackTraces = false) : cj_V1 l 63 27 (31, 51, 0, []) 30 := Or.inl ⟨by decide +kernel, ok_if_eq dm_63_27 (by decide +kernel)⟩
set_option maxRecDepth 100000 in
theorem vv_63_30 {l : Launch} (hl : l.stackTraces = false) : cj_V1 l 63 30 (2, 5, 0, []) 32 := Or.inl ⟨by decide +kernel, ok_iload dm_63_30⟩
set_option maxRecDepth 100000 in
theorem vv_63_32 {l : Launch} (hl : l.stackTraces = false) : cj_V1 l 63 32 (0, 48, 0, []) 34 := Or.inl ⟨by decide +kernel, ok_bipush dm_63_32 (by decide +kernel)⟩
set_option maxRecDepth 100000 in
theorem vv_63_34 {l : Launch} (hl : l.stackTraces = false) : cj_V1 l 63 34 (39, 43, 0, []) 37 := Or.inl ⟨by decide +kernel, ok_icmp_lt dm_63_34 (by decide +kernel)⟩
set_option maxRecDepth 100000 in
theorem vv_63_37 {l : Launch} (hl : l.stackTraces = false) : cj_V1 l 63 37 (2, 5, 0, []) 39 := Or.inl ⟨by decide +kernel, ok_iload dm_63_37⟩
set_option maxRecDepth 100000 in
theorem vv_63_39 {l : Launch} (hl : l.stackTraces = false) : cj_V1 l 63 39 (2, 3, 0, []) 40 := Or.inl ⟨by decide +kernel, ok_iload_n dm_63_39 rfl⟩
set_option maxRecDepth 100000 in
theorem vv_63_40 {l : Launch} (hl : l.stackTraces = false) : cj_V1 l 63 40 (42, 46, 0, []) 43 := Or.inl ⟨by decide +kernel, ok_icmp_le dm_63_40 (by decide +kernel)⟩
set_option maxRecDepth 100000 in
theorem vv_63_43 {l : Launch} (hl : l.stackTraces = false) : cj_V1 l 63 43 (2, 4, 0, []) 45 := Or.inl ⟨by decide +kernel, ok_iload dm_63_43⟩
set_option maxRecDepth 100000 in
theorem vv_63_45 {l : Launch} (hl : l.stackTraces = false) : cj_V1 l 63 45 (90, 0, 0, []) 46 := Or.inr (Or.inl ⟨by decide +kernel, Or.inl (Or.inl ⟨rfl, dm_63_45, rfl⟩)⟩)
set_option maxRecDepth 100000 in
theorem vv_63_46 {l : Launch} (hl : l.stackTraces = false) : cj_V1 l 63 46 (0, 0, 0, []) 47 := Or.inl ⟨by decide +kernel, ok_iconst dm_63_46 (by decide +kernel)⟩
set_option maxRecDepth 100000 in
theorem vv_63_47 {l : Launch} (hl : l.stackTraces = false) : cj_V1 l 63 47 (4, 3, 0, []) 48 := Or.inl ⟨by decide +kernel, ok_istore_n dm_63_47 rfl⟩
set_option maxRecDepth 100000 in
theorem vv_63_48 {l : Launch} (hl : l.stackTraces = false) : cj_V1 l 63 48 (30, 159, 0, []) 51 := Or.inl ⟨by decide +kernel, ok_goto dm_63_48 (by decide +kernel)⟩
set_option maxRecDepth 100000 in
theorem vv_63_51 {l : Launch} (hl : l.stackTraces = false) : cj_V1 l 63 51 (2, 5, 0, []) 53 := Or.inl ⟨by decide +kernel, ok_iload dm_63_51⟩
set_option maxRecDepth 100000 in
theorem vv_63_53 {l : Launch} (hl : l.stackTraces = false) : cj_V1 l 63 53 (0, 35, 0, []) 55 := Or.inl ⟨by decide +kernel, ok_bipush dm_63_53 (by decide +kernel)⟩
set_option maxRecDepth 100000 in
theorem vv_63_55 {l : Launch} (hl : l.stackTraces = false) : cj_V1 l 63 55 (37, 65, 0, []) 58 := Or.inl ⟨by decide +kernel, ok_icmp_eq dm_63_55 (by decide +kernel)⟩
set_option maxRecDepth 100000 in
theorem vv_63_58 {l : Launch} (hl : l.stackTraces = false) : cj_V1 l 63 58 (2, 5, 0, []) 60 := Or.inl ⟨by decide +kernel, ok_iload dm_63_58⟩
set_option maxRecDepth 100000 in
theorem vv_63_60 {l : Launch} (hl : l.stackTraces = false) : cj_V1 l 63 60 (0, 64, 0, []) 62 := Or.inl ⟨by decide +kernel, ok_bipush dm_63_60 (by decide +kernel)⟩
set_option maxRecDepth 100000 in
theorem vv_63_62 {l : Launch} (hl : l.stackTraces = false) : cj_V1 l 63 62 (38, 95, 0, []) 65 := Or.inl ⟨by decide +kernel, ok_icmp_ne dm_63_62 (by decide +kernel)⟩
set_option maxRecDepth 100000 in
theorem vv_63_65 {l : Launch} (hl : l.stackTraces = false) : cj_V1 l 63 65 (2, 2, 0, []) 66 := Or.inl ⟨by decide +kernel, ok_iload_n dm_63_65 rfl⟩
set_option maxRecDepth 100000 in
theorem vv_63_66 {l : Launch} (hl : l.stackTraces = false) : cj_V1 l 63 66 (0, 6, 0, []) 68 := Or.inl ⟨by decide +kernel, ok_bipush dm_63_66 (by decide +kernel)⟩
set_option maxRecDepth 100000 in
theorem vv_63_68 {l : Launch} (hl : l.stackTraces = false) : cj_V1 l 63 68 (38, 74, 0, []) 71 := Or.inl ⟨by decide +kernel, ok_icmp_ne dm_63_68 (by decide +kernel)⟩
set_option maxRecDepth 100000 in
theorem vv_63_71 {l : Launch} (hl : l.stackTraces = false) : cj_V1 l 63 71 (2, 4, 0, []) 73 := Or.inl ⟨by decide +kernel, ok_iload dm_63_71⟩
set_option maxRecDepth 100000 in
theorem vv_63_73 {l : Launch} (hl : l.stackTraces = false) : cj_V1 l 63 73 (90, 0, 0, []) 74 := Or.inr (Or.inl ⟨by decide +kernel, Or.inl (Or.inl ⟨rfl, dm_63_73, rfl⟩)⟩)
set_option maxRecDepth 100000 in
theorem vv_63_74 {l : Launch} (hl : l.stackTraces = false) : cj_V1 l 63 74 (6, 2, 1, []) 77 := Or.inl ⟨by decide +kernel, ok_iinc6 dm_63_74 (by decide +kernel)⟩
set_option maxRecDepth 100000 in
theorem vv_63_77 {l : Launch} (hl : l.stackTraces = false) : cj_V1 l 63 77 (2, 5, 0, []) 79 := Or.inl ⟨by decide +kernel, ok_iload dm_63_77⟩
set_option maxRecDepth 100000 in
theorem vv_63_79 {l : Launch} (hl : l.stackTraces = false) : cj_V1 l 63 79 (0, 35, 0, []) 81 := Or.inl ⟨by decide +kernel, ok_bipush dm_63_79 (by decide +kernel)⟩
set_option maxRecDepth 100000 in
theorem vv_63_81 {l : Launch} (hl : l.stackTraces = false) : cj_V1 l 63 81 (38, 89, 0, []) 84 := Or.inl ⟨by decide +kernel, ok_icmp_ne dm_63_81 (by decide +kernel)⟩
set_option maxRecDepth 100000 in
theorem vv_63_84 {l : Launch} (hl : l.stackTraces = false) : cj_V1 l 63 84 (0, 51, 0, []) 86 := Or.inl ⟨by decide +kernel, ok_bipush dm_63_84 (by decide +kernel)⟩
set_option maxRecDepth 100000 in
theorem vv_63_86 {l : Launch} (hl : l.stackTraces = false) : cj_V1 l 63 86 (30, 91, 0, []) 89 := Or.inl ⟨by decide +kernel, ok_goto dm_63_86 (by decide +kernel)⟩
set_option maxRecDepth 100000 in
theorem vv_63_89 {l : Launch} (hl : l.stackTraces = false) : cj_V1 l 63 89 (0, 55, 0, []) 91 := Or.inl ⟨by decide +kernel, ok_bipush dm_63_89 (by decide +kernel)⟩
set_option maxRecDepth 100000 in
theorem vv_63_91 {l : Launch} (hl : l.stackTraces = false) : cj_V1 l 63 91 (4, 3, 0, []) 92 := Or.inl ⟨by decide +kernel, ok_istore_n dm_63_91 rfl⟩
set_option maxRecDepth 100000 in
theorem vv_63_92 {l : Launch} (hl : l.stackTraces = false) : cj_V1 l 63 92 (30, 159, 0, []) 95 := Or.inl ⟨by decide +kernel, ok_goto dm_63_92 (by decide +kernel)⟩
set_option maxRecDepth 100000 in
theorem vv_63_95 {l : Launch} (hl : l.stackTraces = false) : cj_V1 l 63 95 (2, 5, 0, []) 97 := Or.inl ⟨by decide +kernel, ok_iload dm_63_95⟩
set_option maxRecDepth 100000 in
theorem vv_63_97 {l : Launch} (hl : l.stackTraces = false) : cj_V1 l 63 97 (0, 91, 0, []) 99 := Or.inl ⟨by decide +kernel, ok_bipush dm_63_97 (by decide +kernel)⟩
set_option maxRecDepth 100000 in
theorem vv_63_99 {l : Launch} (hl : l.stackTraces = false) : cj_V1 l 63 99 (37, 109, 0, []) 102 := Or.inl ⟨by decide +kernel, ok_icmp_eq dm_63_99 (by decide +kernel)⟩
set_option maxRecDepth 100000 in
theorem vv_63_102 {l : Launch} (hl : l.stackTraces = false) : cj_V1 l 63 102 (2, 5, 0, []) 104 := Or.inl ⟨by decide +kernel, ok_iload dm_63_102⟩
set_option maxRecDepth 100000 in
theorem vv_63_104 {l : Launch} (hl : l.stackTraces = false) : cj_V1 l 63 104 (0, 93, 0, []) 106 := Or.inl ⟨by decide +kernel, ok_bipush dm_63_104 (by decide +kernel)⟩
set_option maxRecDepth 100000 in
theorem vv_63_106 {l : Launch} (hl : l.stackTraces = false) : cj_V1 l 63 106 (38, 141, 0, []) 109 := Or.inl ⟨by decide +kernel, ok_icmp_ne dm_63_106 (by decide +kernel)⟩
set_option maxRecDepth 100000 in
theorem vv_63_109 {l : Launch} (hl : l.stackTraces = false) : cj_V1 l 63 109 (2, 1, 0, []) 110 := Or.inl ⟨by decide +kernel, ok_iload_n dm_63_109 rfl⟩
set_option maxRecDepth 100000 in
theorem vv_63_110 {l : Launch} (hl : l.stackTraces = false) : cj_V1 l 63 110 (2, 5, 0, []) 112 := Or.inl ⟨by decide +kernel, ok_iload dm_63_110⟩
set_option maxRecDepth 100000 in
theorem vv_63_112 {l : Launch} (hl : l.stackTraces = false) : cj_V1 l 63 112 (0, 91, 0, []) 114 := Or.inl ⟨by decide +kernel, ok_bipush dm_63_112 (by decide +kernel)⟩
set_option maxRecDepth 100000 in
theorem vv_63_114 {l : Launch} (hl : l.stackTraces = false) : cj_V1 l 63 114 (38, 121, 0, []) 117 := Or.inl ⟨by decide +kernel, ok_icmp_ne dm_63_114 (by decide +kernel)⟩
set_option maxRecDepth 100000 in
theorem vv_63_117 {l : Launch} (hl : l.stackTraces = false) : cj_V1 l 63 117 (0, 1, 0, []) 118 := Or.inl ⟨by decide +kernel, ok_iconst dm_63_117 (by decide +kernel)⟩
set_option maxRecDepth 100000 in
theorem vv_63_118 {l : Launch} (hl : l.stackTraces = false) : cj_V1 l 63 118 (30, 122, 0, []) 121 := Or.inl ⟨by decide +kernel, ok_goto dm_63_118 (by decide +kernel)⟩
set_option maxRecDepth 100000 in
theorem vv_63_121 {l : Launch} (hl : l.stackTraces = false) : cj_V1 l 63 121 (0, 0, 0, []) 122 := Or.inl ⟨by decide +kernel, ok_iconst dm_63_121 (by decide +kernel)⟩
set_option maxRecDepth 100000 in
theorem vv_63_122 {l : Launch} (hl : l.stackTraces = false) : cj_V1 l 63 122 (38, 128, 0, []) 125 := Or.inl ⟨by decide +kernel, ok_icmp_ne dm_63_122 (by decide +kernel)⟩
set_option maxRecDepth 100000 in
theorem vv_63_125 {l : Launch} (hl : l.stackTraces = false) : cj_V1 l 63 125 (2, 4, 0, []) 127 := Or.inl ⟨by decide +kernel, ok_iload dm_63_125⟩
set_option maxRecDepth 100000 in
theorem vv_63_127 {l : Launch} (hl : l.stackTraces = false) : cj_V1 l 63 127 (90, 0, 0, []) 128 := Or.inr (Or.inl ⟨by decide +kernel, Or.inl (Or.inl ⟨rfl, dm_63_127, rfl⟩)⟩)
set_option maxRecDepth 100000 in
theorem vv_63_128 {l : Launch} (hl : l.stackTraces = false) : cj_V1 l 63 128 (2, 1, 0, []) 129 := Or.inl ⟨by decide +kernel, ok_iload_n dm_63_128 rfl⟩
set_option maxRecDepth 100000 in
theorem vv_63_129 {l : Launch} (hl : l.stackTraces = false) : cj_V1 l 63 129 (32, 136, 0, []) 132 := Or.inl ⟨by decide +kernel, ok_if_ne dm_63_129 (by decide +kernel)⟩
set_option maxRecDepth 100000 in
theorem vv_63_132 {l : Launch} (hl : l.stackTraces = false) : cj_V1 l 63 132 (0, 1, 0, []) 133 := Or.inl ⟨by decide +kernel, ok_iconst dm_63_132 (by decide +kernel)⟩
set_option maxRecDepth 100000 in
theorem vv_63_133 {l : Launch} (hl : l.stackTraces = false) : cj_V1 l 63 133 (30, 137, 0, []) 136 := Or.inl ⟨by decide +kernel, ok_goto dm_63_133 (by decide +kernel)⟩
set_option maxRecDepth 100000 in
theorem vv_63_136 {l : Launch} (hl : l.stackTraces = false) : cj_V1 l 63 136 (0, 0, 0, []) 137 := Or.inl ⟨by decide +kernel, ok_iconst dm_63_136 (by decide +kernel)⟩
set_option maxRecDepth 100000 in
theorem vv_63_137 {l : Launch} (hl : l.stackTraces = false) : cj_V1 l 63 137 (4, 1, 0, []) 138 := Or.inl ⟨by decide +kernel, ok_istore_n dm_63_137 rfl⟩
set_option maxRecDepth 100000 in
theorem vv_63_138 {l : Launch} (hl : l.stackTraces = false) : cj_V1 l 63 138 (30, 159, 0, []) 141 := Or.inl ⟨by decide +kernel, ok_goto dm_63_138 (by decide +kernel)⟩
set_option maxRecDepth 100000 in
theorem vv_63_141 {l : Launch} (hl : l.stackTraces = false) : cj_V1 l 63 141 (2, 5, 0, []) 143 := Or.inl ⟨by decide +kernel, ok_iload dm_63_141⟩
set_option maxRecDepth 100000 in
theorem vv_63_143 {l : Launch} (hl : l.stackTraces = false) : cj_V1 l 63 143 (0, 32, 0, []) 145 := Or.inl ⟨by decide +kernel, ok_bipush dm_63_143 (by decide +kernel)⟩
set_option maxRecDepth 100000 in
theorem vv_63_145 {l : Launch} (hl : l.stackTraces = false) : cj_V1 l 63 145 (37, 159, 0, []) 148 := Or.inl ⟨by decide +kernel, ok_icmp_eq dm_63_145 (by decide +kernel)⟩
set_option maxRecDepth 100000 in
theorem vv_63_148 {l : Launch} (hl : l.stackTraces = false) : cj_V1 l 63 148 (2, 5, 0, []) 150 := Or.inl ⟨by decide +kernel, ok_iload dm_63_148⟩
set_option maxRecDepth 100000 in
theorem vv_63_150 {l : Launch} (hl : l.stackTraces = false) : cj_V1 l 63 150 (81, 3, 1, []) 153 := Or.inr (Or.inr (Or.inl ⟨by decide +kernel, by decide +kernel, rfl, vc_static mi_3 dm_63_150 (Or.inl wm_520) wm_521 (by decide +kernel) (by decide +kernel) (by decide +kernel), (vx_none rfl)⟩))
set_option maxRecDepth 100000 in
theorem vv_63_153 {l : Launch} (hl : l.stackTraces = false) : cj_V1 l 63 153 (32, 159, 0, []) 156 := Or.inl ⟨by decide +kernel, ok_if_ne dm_63_153 (by decide +kernel)⟩
set_option maxRecDepth 100000 in
theorem vv_63_156 {l : Launch} (hl : l.stackTraces = false) : cj_V1 l 63 156 (2, 4, 0, []) 158 := Or.inl ⟨by decide +kernel, ok_iload dm_63_156⟩
set_option maxRecDepth 100000 in
theorem vv_63_158 {l : Launch} (hl : l.stackTraces = false) : cj_V1 l 63 158 (90, 0, 0, []) 159 := Or.inr (Or.inl ⟨by decide +kernel, Or.inl (Or.inl ⟨rfl, dm_63_158, rfl⟩)⟩)
set_option maxRecDepth 100000 in
theorem vv_63_159 {l : Launch} (hl : l.stackTraces = false) : cj_V1 l 63 159 (6, 4, 1, []) 162 := Or.inl ⟨by decide +kernel, ok_iinc6 dm_63_159 (by decide +kernel)⟩
set_option maxRecDepth 100000 in
theorem vv_63_162 {l : Launch} (hl : l.stackTraces = false) : cj_V1 l 63 162 (30, 9, 0, []) 165 := Or.inl ⟨by decide +kernel, ok_goto dm_63_162 (by decide +kernel)⟩
set_option maxRecDepth 100000 in
theorem vv_63_165 {l : Launch} (hl : l.stackTraces = false) : cj_V1 l 63 165 (2, 1, 0, []) 166 := Or.inl ⟨by decide +kernel, ok_iload_n dm_63_165 rfl⟩
set_option maxRecDepth 100000 in
theorem vv_63_166 {l : Launch} (hl : l.stackTraces = false) : cj_V1 l 63 166 (32, 173, 0, []) 169 := Or.inl ⟨by decide +kernel, ok_if_ne dm_63_166 (by decide +kernel)⟩
set_option maxRecDepth 100000 in
theorem vv_63_169 {l : Launch} (hl : l.stackTraces = false) : cj_V1 l 63 169 (2, 3, 0, []) 170 := Or.inl ⟨by decide +kernel, ok_iload_n dm_63_169 rfl⟩
set_option maxRecDepth 100000 in
theorem vv_63_170 {l : Launch} (hl : l.stackTraces = false) : cj_V1 l 63 170 (31, 180, 0, []) 173 := Or.inl ⟨by decide +kernel, ok_if_eq dm_63_170 (by decide +kernel)⟩
set_option maxRecDepth 100000 in
theorem vv_63_173 {l : Launch} (hl : l.stackTraces = false) : cj_V1 l 63 173 (3, 0, 0, []) 174 := Or.inl ⟨by decide +kernel, ok_aload_n dm_63_173 rfl⟩
set_option maxRecDepth 100000 in
theorem vv_63_174 {l : Launch} (hl : l.stackTraces = false) : cj_V1 l 63 174 (80, 39, 1, [6]) 177 := Or.inr (Or.inr (Or.inl ⟨by decide +kernel, by decide +kernel, rfl, vc_virtual (n := 0) (q := (RK_6, TK_6, 2)) mi_39 dm_63_174 (Or.inl wm_409) wm_249 wm_250 rfl rfl (by decide +kernel) rfl (by decide +kernel) (by decide +kernel), (vx_none rfl)⟩))
set_option maxRecDepth 100000 in
theorem vv_63_177 {l : Launch} (hl : l.stackTraces = false) : cj_V1 l 63 177 (30, 181, 0, []) 180 := Or.inl ⟨by decide +kernel, ok_goto dm_63_177 (by decide +kernel)⟩
set_option maxRecDepth 100000 in
theorem vv_63_180 {l : Launch} (hl : l.stackTraces = false) : cj_V1 l 63 180 (1, 1, 0, []) 181 := Or.inl ⟨by decide +kernel, ok_iconst_m dm_63_180 (by decide +kernel)⟩
set_option maxRecDepth 100000 in
theorem vv_63_181 {l : Launch} (hl : l.stackTraces = false) : cj_V1 l 63 181 (90, 0, 0, []) 182 := Or.inr (Or.inl ⟨by decide +kernel, Or.inl (Or.inl ⟨rfl, dm_63_181, rfl⟩)⟩)
set_option maxRecDepth 100000 in
theorem vm_63 {l : Launch} (hl : l.stackTraces = false) : cj_Vm l 63 := cj_Vm_of (r := kc63_) rfl ⟨vv_63_0 hl, vv_63_1 hl, vv_63_2 hl, vv_63_3 hl, vv_63_4 hl, vv_63_5 hl, vv_63_6 hl, vv_63_7 hl, vv_63_9 hl, vv_63_11 hl, vv_63_12 hl, vv_63_15 hl, vv_63_18 hl, vv_63_19 hl, vv_63_21 hl, vv_63_24 hl, vv_63_26 hl, vv_63_27 hl, vv_63_30 hl, vv_63_32 hl, vv_63_34 hl, vv_63_37 hl, vv_63_39 hl, vv_63_40 hl, vv_63_43 hl, vv_63_45 hl, vv_63_46 hl, vv_63_47 hl, vv_63_48 hl, vv_63_51 hl, vv_63_53 hl, vv_63_55 hl, vv_63_58 hl, vv_63_60 hl, vv_63_62 hl, vv_63_65 hl, vv_63_66 hl, vv_63_68 hl, vv_63_71 hl, vv_63_73 hl, vv_63_74 hl, vv_63_77 hl, vv_63_79 hl, vv_63_81 hl, vv_63_84 hl, vv_63_86 hl, vv_63_89 hl, vv_63_91 hl, vv_63_92 hl, vv_63_95 hl, vv_63_97 hl, vv_63_99 hl, vv_63_102 hl, vv_63_104 hl, vv_63_106 hl, vv_63_109 hl, vv_63_110 hl, vv_63_112 hl, vv_63_114 hl, vv_63_117 hl, vv_63_118 hl, vv_63_121 hl, vv_63_122 hl, vv_63_125 hl, vv_63_127 hl, vv_63_128 hl, vv_63_129 hl, vv_63_132 hl, vv_63_133 hl, vv_63_136 hl, vv_63_137 hl, vv_63_138 hl, vv_63_141 hl, vv_63_143 hl, vv_63_145 hl, vv_63_148 hl, vv_63_150 hl, vv_63_153 hl, vv_63_156 hl, vv_63_158 hl, vv_63_159 hl, vv_63_162 hl, vv_63_165 hl, vv_63_166 hl, vv_63_169 hl, vv_63_170 hl, vv_63_173 hl, vv_63_174 hl, vv_63_177 hl, vv_63_180 hl, vv_63_181 hl, trivial⟩
set_option maxRecDepth 100000 in
theorem vv_64_0 {l : Launch} (hl : l.stackTraces = false) : cj_V1 l 64 0 (0, 0, 0, []) 1 := Or.inl ⟨by decide +kernel, ok_iconst dm_64_0 (by decide +kernel)⟩
set_option maxRecDepth 100000 in
theorem vv_64_1 {l : Launch} (hl : l.stackTraces = false) : cj_V1 l 64 1 (4, 1, 0, []) 2 := Or.inl ⟨by decide +kernel, ok_istore_n dm_64_1 rfl⟩
set_option maxRecDepth 100000 in
theorem vv_64_2 {l : Launch} (hl : l.stackTraces = false) : cj_V1 l 64 2 (2, 1, 0, []) 3 := Or.inl ⟨by decide +kernel, ok_iload_n dm_64_2 rfl⟩
set_option maxRecDepth 100000 in
theorem vv_64_3 {l : Launch} (hl : l.stackTraces = false) : cj_V1 l 64 3 (0, 4, 0, []) 4 := Or.inl ⟨by decide +kernel, ok_iconst dm_64_3 (by decide +kernel)⟩
set_option maxRecDepth 100000 in
theorem vv_64_4 {l : Launch} (hl : l.stackTraces = false) : cj_V1 l 64 4 (40, 37, 0, []) 7 := Or.inl ⟨by decide +kernel, ok_icmp_ge dm_64_4 (by decide +kernel)⟩
set_option maxRecDepth 100000 in
theorem vv_64_7 {l : Launch} (hl : l.stackTraces = false) : cj_V1 l 64 7 (2, 0, 0, []) 8 := Or.inl ⟨by decide +kernel, ok_iload_n dm_64_7 rfl⟩
set_option maxRecDepth 100000 in
theorem vv_64_8 {l : Launch} (hl : l.stackTraces = false) : cj_V1 l 64 8 (2, 1, 0, []) 9 := Or.inl ⟨by decide +kernel, ok_iload_n dm_64_8 rfl⟩
set_option maxRecDepth 100000 in
theorem vv_64_9 {l : Launch} (hl : l.stackTraces = false) : cj_V1 l 64 9 (81, 0, 2, []) 12 := Or.inr (Or.inr (Or.inl ⟨by decide +kernel, by decide +kernel, rfl, vc_static mi_0 dm_64_9 (Or.inl wm_413) wm_414 (by decide +kernel) (by decide +kernel) (by decide +kernel), (vx_none rfl)⟩))
set_option maxRecDepth 100000 in
theorem vv_64_12 {l : Launch} (hl : l.stackTraces = false) : cj_V1 l 64 12 (4, 2, 0, []) 13 := Or.inl ⟨by decide +kernel, ok_istore_n dm_64_12 rfl⟩
set_option maxRecDepth 100000 in
theorem vv_64_13 {l : Launch} (hl : l.stackTraces = false) : cj_V1 l 64 13 (2, 2, 0, []) 14 := Or.inl ⟨by decide +kernel, ok_iload_n dm_64_13 rfl⟩
set_option maxRecDepth 100000 in
theorem vv_64_14 {l : Launch} (hl : l.stackTraces = false) : cj_V1 l 64 14 (31, 31, 0, []) 17 := Or.inl ⟨by decide +kernel, ok_if_eq dm_64_14 (by decide +kernel)⟩
set_option maxRecDepth 100000 in
theorem vv_64_17 {l : Launch} (hl : l.stackTraces = false) : cj_V1 l 64 17 (2, 2, 0, []) 18 := Or.inl ⟨by decide +kernel, ok_iload_n dm_64_17 rfl⟩
set_option maxRecDepth 100000 in
theorem vv_64_18 {l : Launch} (hl : l.stackTraces = false) : cj_V1 l 64 18 (0, 32, 0, []) 20 := Or.inl ⟨by decide +kernel, ok_bipush dm_64_18 (by decide +kernel)⟩
set_option maxRecDepth 100000 in
theorem vv_64_20 {l : Launch} (hl : l.stackTraces = false) : cj_V1 l 64 20 (39, 29, 0, []) 23 := Or.inl ⟨by decide +kernel, ok_icmp_lt dm_64_20 (by decide +kernel)⟩
set_option maxRecDepth 100000 in
theorem vv_64_23 {l : Launch} (hl : l.stackTraces = false) : cj_V1 l 64 23 (2, 2, 0, []) 24 := Or.inl ⟨by decide +kernel, ok_iload_n dm_64_23 rfl⟩
set_option maxRecDepth 100000 in
theorem vv_64_24 {l : Launch} (hl : l.stackTraces = false) : cj_V1 l 64 24 (0, 126, 0, []) 26 := Or.inl ⟨by decide +kernel, ok_bipush dm_64_24 (by decide +kernel)⟩
set_option maxRecDepth 100000 in
theorem vv_64_26 {l : Launch} (hl : l.stackTraces = false) : cj_V1 l 64 26 (42, 31, 0, []) 29 := Or.inl ⟨by decide +kernel, ok_icmp_le dm_64_26 (by decide +kernel)⟩
set_option maxRecDepth 100000 in
theorem vv_64_29 {l : Launch} (hl : l.stackTraces = false) : cj_V1 l 64 29 (0, 0, 0, []) 30 := Or.inl ⟨by decide +kernel, ok_iconst dm_64_29 (by decide +kernel)⟩
set_option maxRecDepth 100000 in
theorem vv_64_30 {l : Launch} (hl : l.stackTraces = false) : cj_V1 l 64 30 (93, 0, 0, []) 31 := Or.inr (Or.inl ⟨by decide +kernel, Or.inl (Or.inr (Or.inr (Or.inr ⟨rfl, dm_64_30, rfl⟩)))⟩)
set_option maxRecDepth 100000 in
theorem vv_64_31 {l : Launch} (hl : l.stackTraces = false) : cj_V1 l 64 31 (6, 1, 1, []) 34 := Or.inl ⟨by decide +kernel, ok_iinc6 dm_64_31 (by decide +kernel)⟩
set_option maxRecDepth 100000 in
theorem vv_64_34 {l : Launch} (hl : l.stackTraces = false) : cj_V1 l 64 34 (30, 2, 0, []) 37 := Or.inl ⟨by decide +kernel, ok_goto dm_64_34 (by decide +kernel)⟩
set_option maxRecDepth 100000 in
theorem vv_64_37 {l : Launch} (hl : l.stackTraces = false) : cj_V1 l 64 37 (0, 1, 0, []) 38 := Or.inl ⟨by decide +kernel, ok_iconst dm_64_37 (by decide +kernel)⟩
set_option maxRecDepth 100000 in
theorem vv_64_38 {l : Launch} (hl : l.stackTraces = false) : cj_V1 l 64 38 (93, 0, 0, []) 39 := Or.inr (Or.inl ⟨by decide +kernel, Or.inl (Or.inr (Or.inr (Or.inr ⟨rfl, dm_64_38, rfl⟩)))⟩)
set_option maxRecDepth 100000 in
theorem vm_64 {l : Launch} (hl : l.stackTraces = false) : cj_Vm l 64 := cj_Vm_of (r := kc64_) rfl ⟨vv_64_0 hl, vv_64_1 hl, vv_64_2 hl, vv_64_3 hl, vv_64_4 hl, vv_64_7 hl, vv_64_8 hl, vv_64_9 hl, vv_64_12 hl, vv_64_13 hl, vv_64_14 hl, vv_64_17 hl, vv_64_18 hl, vv_64_20 hl, vv_64_23 hl, vv_64_24 hl, vv_64_26 hl, vv_64_29 hl, vv_64_30 hl, vv_64_31 hl, vv_64_34 hl, vv_64_37 hl, vv_64_38 hl, trivial⟩
set_option maxRecDepth 100000 in
theorem vv_65_0 {l : Launch} (hl : l.stackTraces = false) : cj_V1 l 65 0 (0, 0, 0, []) 1 := Or.inl ⟨by decide +kernel, ok_iconst dm_65_0 (by decide +kernel)⟩
set_option maxRecDepth 100000 in
theorem vv_65_1 {l : Launch} (hl : l.stackTraces = false) : cj_V1 l 65 1 (4, 1, 0, []) 2 := Or.inl ⟨by decide +kernel, ok_istore_n dm_65_1 rfl⟩
set_option maxRecDepth 100000 in
theorem vv_65_2 {l : Launch} (hl : l.stackTraces = false) : cj_V1 l 65 2 (2, 1, 0, []) 3 := Or.inl ⟨by decide +kernel, ok_iload_n dm_65_2 rfl⟩
set_option maxRecDepth 100000 in
theorem vv_65_3 {l : Launch} (hl : l.stackTraces = false) : cj_V1 l 65 3 (3, 0, 0, []) 4 := Or.inl ⟨by decide +kernel, ok_aload_n dm_65_3 rfl⟩
set_option maxRecDepth 100000 in
theorem vv_65_4 {l : Launch} (hl : l.stackTraces = false) : cj_V1 l 65 4 (80, 39, 1, [6]) 7 := Or.inr (Or.inr (Or.inl ⟨by decide +kernel, by decide +kernel, rfl, vc_virtual (n := 0) (q := (RK_6, TK_6, 2)) mi_39 dm_65_4 (Or.inl wm_409) wm_249 wm_250 rfl rfl (by decide +kernel) rfl (by decide +kernel) (by decide +kernel), (vx_none rfl)⟩))
set_option maxRecDepth 100000 in
theorem vv_65_7 {l : Launch} (hl : l.stackTraces = false) : cj_V1 l 65 7 (40, 37, 0, []) 10 := Or.inl ⟨by decide +kernel, ok_icmp_ge dm_65_7 (by decide +kernel)⟩
set_option maxRecDepth 100000 in
theorem vv_65_10 {l : Launch} (hl : l.stackTraces = false) : cj_V1 l 65 10 (3, 0, 0, []) 11 := Or.inl ⟨by decide +kernel, ok_aload_n dm_65_10 rfl⟩
set_option maxRecDepth 100000 in
theorem vv_65_11 {l : Launch} (hl : l.stackTraces = false) : cj_V1 l 65 11 (2, 1, 0, []) 12 := Or.inl ⟨by decide +kernel, ok_iload_n dm_65_11 rfl⟩
set_option maxRecDepth 100000 in
theorem vv_65_12 {l : Launch} (hl : l.stackTraces = false) : cj_V1 l 65 12 (80, 36, 2, [6]) 15 := Or.inr (Or.inr (Or.inl ⟨by decide +kernel, by decide +kernel, rfl, vc_virtual (n := 1) (q := (RK_6, TK_6, 2)) mi_36 dm_65_12 (Or.inl wm_519) wm_253 wm_254 rfl rfl (by decide +kernel) rfl (by decide +kernel) (by decide +kernel), (vx_none rfl)⟩))
set_option maxRecDepth 100000 in
theorem vv_65_15 {l : Launch} (hl : l.stackTraces = false) : cj_V1 l 65 15 (4, 2, 0, []) 16 := Or.inl ⟨by decide +kernel, ok_istore_n dm_65_15 rfl⟩
set_option maxRecDepth 100000 in
theorem vv_65_16 {l : Launch} (hl : l.stackTraces = false) : cj_V1 l 65 16 (2, 2, 0, []) 17 := Or.inl ⟨by decide +kernel, ok_iload_n dm_65_16 rfl⟩
set_option maxRecDepth 100000 in
theorem vv_65_17 {l : Launch} (hl : l.stackTraces = false) : cj_V1 l 65 17 (0, 32, 0, []) 19 := Or.inl ⟨by decide +kernel, ok_bipush dm_65_17 (by decide +kernel)⟩
set_option maxRecDepth 100000 in
theorem vv_65_19 {l : Launch} (hl : l.stackTraces = false) : cj_V1 l 65 19 (37, 31, 0, []) 22 := Or.inl ⟨by decide +kernel, ok_icmp_eq dm_65_19 (by decide +kernel)⟩
set_option maxRecDepth 100000 in
theorem vv_65_22 {l : Launch} (hl : l.stackTraces = false) : cj_V1 l 65 22 (2, 2, 0, []) 23 := Or.inl ⟨by decide +kernel, ok_iload_n dm_65_22 rfl⟩
set_option maxRecDepth 100000 in
theorem vv_65_23 {l : Launch} (hl : l.stackTraces = false) : cj_V1 l 65 23 (81, 3, 1, []) 26 := Or.inr (Or.inr (Or.inl ⟨by decide +kernel, by decide +kernel, rfl, vc_static mi_3 dm_65_23 (Or.inl wm_520) wm_521 (by decide +kernel) (by decide +kernel) (by decide +kernel), (vx_none rfl)⟩))
set_option maxRecDepth 100000 in
theorem vv_65_26 {l : Launch} (hl : l.stackTraces = false) : cj_V1 l 65 26 (32, 31, 0, []) 29 := Or.inl ⟨by decide +kernel, ok_if_ne dm_65_26 (by decide +kernel)⟩
set_option maxRecDepth 100000 in
theorem vv_65_29 {l : Launch} (hl : l.stackTraces = false) : cj_V1 l 65 29 (0, 0, 0, []) 30 := Or.inl ⟨by decide +kernel, ok_iconst dm_65_29 (by decide +kernel)⟩
set_option maxRecDepth 100000 in
theorem vv_65_30 {l : Launch} (hl : l.stackTraces = false) : cj_V1 l 65 30 (93, 0, 0, []) 31 := Or.inr (Or.inl ⟨by decide +kernel, Or.inl (Or.inr (Or.inr (Or.inr ⟨rfl, dm_65_30, rfl⟩)))⟩)
set_option maxRecDepth 100000 in
theorem vv_65_31 {l : Launch} (hl : l.stackTraces = false) : cj_V1 l 65 31 (6, 1, 1, []) 34 := Or.inl ⟨by decide +kernel, ok_iinc6 dm_65_31 (by decide +kernel)⟩
set_option maxRecDepth 100000 in
theorem vv_65_34 {l : Launch} (hl : l.stackTraces = false) : cj_V1 l 65 34 (30, 2, 0, []) 37 := Or.inl ⟨by decide +kernel, ok_goto dm_65_34 (by decide +kernel)⟩
set_option maxRecDepth 100000 in
theorem vv_65_37 {l : Launch} (hl : l.stackTraces = false) : cj_V1 l 65 37 (0, 1, 0, []) 38 := Or.inl ⟨by decide +kernel, ok_iconst dm_65_37 (by decide +kernel)⟩
set_option maxRecDepth 100000 in
theorem vv_65_38 {l : Launch} (hl : l.stackTraces = false) : cj_V1 l 65 38 (93, 0, 0, []) 39 := Or.inr (Or.inl ⟨by decide +kernel, Or.inl (Or.inr (Or.inr (Or.inr ⟨rfl, dm_65_38, rfl⟩)))⟩)
set_option maxRecDepth 100000 in
theorem vm_65 {l : Launch} (hl : l.stackTraces = false) : cj_Vm l 65 := cj_Vm_of (r := kc65_) rfl ⟨vv_65_0 hl, vv_65_1 hl, vv_65_2 hl, vv_65_3 hl, vv_65_4 hl, vv_65_7 hl, vv_65_10 hl, vv_65_11 hl, vv_65_12 hl, vv_65_15 hl, vv_65_16 hl, vv_65_17 hl, vv_65_19 hl, vv_65_22 hl, vv_65_23 hl, vv_65_26 hl, vv_65_29 hl, vv_65_30 hl, vv_65_31 hl, vv_65_34 hl, vv_65_37 hl, vv_65_38 hl, trivial⟩
set_option maxRecDepth 100000 in
theorem vv_66_0 {l : Launch} (hl : l.stackTraces = false) : cj_V1 l 66 0 (0, 0, 0, []) 1 := Or.inl ⟨by decide +kernel, ok_iconst dm_66_0 (by decide +kernel)⟩
set_option maxRecDepth 100000 in
theorem vv_66_1 {l : Launch} (hl : l.stackTraces = false) : cj_V1 l 66 1 (4, 1, 0, []) 2 := Or.inl ⟨by decide +kernel, ok_istore_n dm_66_1 rfl⟩
set_option maxRecDepth 100000 in
theorem vv_66_2 {l : Launch} (hl : l.stackTraces = false) : cj_V1 l 66 2 (2, 1, 0, []) 3 := Or.inl ⟨by decide +kernel, ok_iload_n dm_66_2 rfl⟩
set_option maxRecDepth 100000 in
theorem vv_66_3 {l : Launch} (hl : l.stackTraces = false) : cj_V1 l 66 3 (3, 0, 0, []) 4 := Or.inl ⟨by decide +kernel, ok_aload_n dm_66_3 rfl⟩
set_option maxRecDepth 100000 in
theorem vv_66_4 {l : Launch} (hl : l.stackTraces = false) : cj_V1 l 66 4 (80, 39, 1, [6]) 7 := Or.inr (Or.inr (Or.inl ⟨by decide +kernel, by decide +kernel, rfl, vc_virtual (n := 0) (q := (RK_6, TK_6, 2)) mi_39 dm_66_4 (Or.inl wm_409) wm_249 wm_250 rfl rfl (by decide +kernel) rfl (by decide +kernel) (by decide +kernel), (vx_none rfl)⟩))
set_option maxRecDepth 100000 in
theorem vv_66_7 {l : Launch} (hl : l.stackTraces = false) : cj_V1 l 66 7 (40, 42, 0, []) 10 := Or.inl ⟨by decide +kernel, ok_icmp_ge dm_66_7 (by decide +kernel)⟩
set_option maxRecDepth 100000 in
theorem vv_66_10 {l : Launch} (hl : l.stackTraces = false) : cj_V1 l 66 10 (3, 0, 0, []) 11 := Or.inl ⟨by decide +kernel, ok_aload_n dm_66_10 rfl⟩
set_option maxRecDepth 100000 in
theorem vv_66_11 {l : Launch} (hl : l.stackTraces = false) : cj_V1 l 66 11 (2, 1, 0, []) 12 := Or.inl ⟨by decide +kernel, ok_iload_n dm_66_11 rfl⟩
set_option maxRecDepth 100000 in
theorem vv_66_12 {l : Launch} (hl : l.stackTraces = false) : cj_V1 l 66 12 (80, 36, 2, [6]) 15 := Or.inr (Or.inr (Or.inl ⟨by decide +kernel, by decide +kernel, rfl, vc_virtual (n := 1) (q := (RK_6, TK_6, 2)) mi_36 dm_66_12 (Or.inl wm_519) wm_253 wm_254 rfl rfl (by decide +kernel) rfl (by decide +kernel) (by decide +kernel), (vx_none rfl)⟩))
set_option maxRecDepth 100000 in
theorem vv_66_15 {l : Launch} (hl : l.stackTraces = false) : cj_V1 l 66 15 (81, 3, 1, []) 18 := Or.inr (Or.inr (Or.inl ⟨by decide +kernel, by decide +kernel, rfl, vc_static mi_3 dm_66_15 (Or.inl wm_520) wm_521 (by decide +kernel) (by decide +kernel) (by decide +kernel), (vx_none rfl)⟩))
set_option maxRecDepth 100000 in
theorem vv_66_18 {l : Launch} (hl : l.stackTraces = false) : cj_V1 l 66 18 (31, 34, 0, []) 21 := Or.inl ⟨by decide +kernel, ok_if_eq dm_66_18 (by decide +kernel)⟩
set_option maxRecDepth 100000 in
theorem vv_66_21 {l : Launch} (hl : l.stackTraces = false) : cj_V1 l 66 21 (3, 0, 0, []) 22 := Or.inl ⟨by decide +kernel, ok_aload_n dm_66_21 rfl⟩
set_option maxRecDepth 100000 in
theorem vv_66_22 {l : Launch} (hl : l.stackTraces = false) : cj_V1 l 66 22 (3, 0, 0, []) 23 := Or.inl ⟨by decide +kernel, ok_aload_n dm_66_22 rfl⟩
set_option maxRecDepth 100000 in
theorem vv_66_23 {l : Launch} (hl : l.stackTraces = false) : cj_V1 l 66 23 (2, 1, 0, []) 24 := Or.inl ⟨by decide +kernel, ok_iload_n dm_66_23 rfl⟩
set_option maxRecDepth 100000 in
theorem vv_66_24 {l : Launch} (hl : l.stackTraces = false) : cj_V1 l 66 24 (80, 36, 2, [6]) 27 := Or.inr (Or.inr (Or.inl ⟨by decide +kernel, by decide +kernel, rfl, vc_virtual (n := 1) (q := (RK_6, TK_6, 2)) mi_36 dm_66_24 (Or.inl wm_519) wm_253 wm_254 rfl rfl (by decide +kernel) rfl (by decide +kernel) (by decide +kernel), (vx_none rfl)⟩))
set_option maxRecDepth 100000 in
theorem vv_66_27 {l : Launch} (hl : l.stackTraces = false) : cj_V1 l 66 27 (80, 38, 2, [6]) 30 := Or.inr (Or.inr (Or.inl ⟨by decide +kernel, by decide +kernel, rfl, vc_virtual (n := 1) (q := (RK_6, TK_6, 2)) mi_38 dm_66_27 (Or.inl wm_614) wm_615 wm_616 rfl rfl (by decide +kernel) rfl (by decide +kernel) (by decide +kernel), (vx_none rfl)⟩))
set_option maxRecDepth 100000 in
theorem vv_66_30 {l : Launch} (hl : l.stackTraces = false) : cj_V1 l 66 30 (2, 1, 0, []) 31 := Or.inl ⟨by decide +kernel, ok_iload_n dm_66_30 rfl⟩
set_option maxRecDepth 100000 in
theorem vv_66_31 {l : Launch} (hl : l.stackTraces = false) : cj_V1 l 66 31 (37, 36, 0, []) 34 := Or.inl ⟨by decide +kernel, ok_icmp_eq dm_66_31 (by decide +kernel)⟩
set_option maxRecDepth 100000 in
theorem vv_66_34 {l : Launch} (hl : l.stackTraces = false) : cj_V1 l 66 34 (0, 0, 0, []) 35 := Or.inl ⟨by decide +kernel, ok_iconst dm_66_34 (by decide +kernel)⟩
set_option maxRecDepth 100000 in
theorem vv_66_35 {l : Launch} (hl : l.stackTraces = false) : cj_V1 l 66 35 (93, 0, 0, []) 36 := Or.inr (Or.inl ⟨by decide +kernel, Or.inl (Or.inr (Or.inr (Or.inr ⟨rfl, dm_66_35, rfl⟩)))⟩)
set_option maxRecDepth 100000 in
theorem vv_66_36 {l : Launch} (hl : l.stackTraces = false) : cj_V1 l 66 36 (6, 1, 1, []) 39 := Or.inl ⟨by decide +kernel, ok_iinc6 dm_66_36 (by decide +kernel)⟩
set_option maxRecDepth 100000 in
theorem vv_66_39 {l : Launch} (hl : l.stackTraces = false) : cj_V1 l 66 39 (30, 2, 0, []) 42 := Or.inl ⟨by decide +kernel, ok_goto dm_66_39 (by decide +kernel)⟩
set_option maxRecDepth 100000 in
theorem vv_66_42 {l : Launch} (hl : l.stackTraces = false) : cj_V1 l 66 42 (0, 1, 0, []) 43 := Or.inl ⟨by decide +kernel, ok_iconst dm_66_42 (by decide +kernel)⟩
set_option maxRecDepth 100000 in
theorem vv_66_43 {l : Launch} (hl : l.stackTraces = false) : cj_V1 l 66 43 (93, 0, 0, []) 44 := Or.inr (Or.inl ⟨by decide +kernel, Or.inl (Or.inr (Or.inr (Or.inr ⟨rfl, dm_66_43, rfl⟩)))⟩)
set_option maxRecDepth 100000 in
theorem vm_66 {l : Launch} (hl : l.stackTraces = false) : cj_Vm l 66 := cj_Vm_of (r := kc66_) rfl ⟨vv_66_0 hl, vv_66_1 hl, vv_66_2 hl, vv_66_3 hl, vv_66_4 hl, vv_66_7 hl, vv_66_10 hl, vv_66_11 hl, vv_66_12 hl, vv_66_15 hl, vv_66_18 hl, vv_66_21 hl, vv_66_22 hl, vv_66_23 hl, vv_66_24 hl, vv_66_27 hl, vv_66_30 hl, vv_66_31 hl, vv_66_34 hl, vv_66_35 hl, vv_66_36 hl, vv_66_39 hl, vv_66_42 hl, vv_66_43 hl, trivial⟩
set_option maxRecDepth 100000 in
theorem vv_67_0 {l : Launch} (hl : l.stackTraces = false) : cj_V1 l 67 0 (3, 0, 0, []) 1 := Or.inl ⟨by decide +kernel, ok_aload_n dm_67_0 rfl⟩
set_option maxRecDepth 100000 in
theorem vv_67_1 {l : Launch} (hl : l.stackTraces = false) : cj_V1 l 67 1 (2, 1, 0, []) 2 := Or.inl ⟨by decide +kernel, ok_iload_n dm_67_1 rfl⟩
set_option maxRecDepth 100000 in
theorem vv_67_2 {l : Launch} (hl : l.stackTraces = false) : cj_V1 l 67 2 (80, 1, 2, [0]) 5 := Or.inr (Or.inr (Or.inl ⟨by decide +kernel, by decide +kernel, rfl, vc_virtual (n := 1) (q := (RK_0, TK_0, 11)) mi_1 dm_67_2 (Or.inl wm_565) wm_567 wm_p14 rfl rfl (by decide +kernel) rfl (by decide +kernel) (by decide +kernel), (vx_none rfl)⟩))
set_option maxRecDepth 100000 in
theorem vv_67_5 {l : Launch} (hl : l.stackTraces = false) : cj_V1 l 67 5 (32, 18, 0, []) 8 := Or.inl ⟨by decide +kernel, ok_if_ne dm_67_5 (by decide +kernel)⟩
set_option maxRecDepth 100000 in
theorem vv_67_8 {l : Launch} (hl : l.stackTraces = false) : cj_V1 l 67 8 (95, 2, 0, []) 11 := Or.inr (Or.inl ⟨by decide +kernel, Or.inr (vt_throw (y := ky_ 0) (X := "java/lang/IndexOutOfBoundsException") (tx := "no such entry") (names := ["java/lang/RuntimeException", "java/lang/Exception"]) hl rfl dm_67_8 dm_67_11 dm_67_12 dm_67_14 dm_67_17 rfl wm_537 wm_538 wm_15 wm_598 xw_0 (by decide +kernel) (by decide +kernel) (by decide +kernel) (by decide +kernel))⟩)
set_option maxRecDepth 100000 in
theorem vv_67_18 {l : Launch} (hl : l.stackTraces = false) : cj_V1 l 67 18 (2, 2, 0, []) 19 := Or.inl ⟨by decide +kernel, ok_iload_n dm_67_18 rfl⟩
set_option maxRecDepth 100000 in
theorem vv_67_19 {l : Launch} (hl : l.stackTraces = false) : cj_V1 l 67 19 (33, 28, 0, []) 22 := Or.inl ⟨by decide +kernel, ok_if_lt dm_67_19 (by decide +kernel)⟩
set_option maxRecDepth 100000 in
theorem vv_67_22 {l : Launch} (hl : l.stackTraces = false) : cj_V1 l 67 22 (2, 2, 0, []) 23 := Or.inl ⟨by decide +kernel, ok_iload_n dm_67_22 rfl⟩
set_option maxRecDepth 100000 in
theorem vv_67_23 {l : Launch} (hl : l.stackTraces = false) : cj_V1 l 67 23 (0, 30, 0, []) 25 := Or.inl ⟨by decide +kernel, ok_bipush dm_67_23 (by decide +kernel)⟩
set_option maxRecDepth 100000 in
theorem vv_67_25 {l : Launch} (hl : l.stackTraces = false) : cj_V1 l 67 25 (42, 38, 0, []) 28 := Or.inl ⟨by decide +kernel, ok_icmp_le dm_67_25 (by decide +kernel)⟩
set_option maxRecDepth 100000 in
theorem vv_67_28 {l : Launch} (hl : l.stackTraces = false) : cj_V1 l 67 28 (95, 1, 0, []) 31 := Or.inr (Or.inl ⟨by decide +kernel, Or.inr (vt_throw (y := ky_ 0) (X := "java/lang/IllegalArgumentException") (tx := "a picture is 0 .. 30 lines high") (names := ["java/lang/RuntimeException", "java/lang/Exception"]) hl rfl dm_67_28 dm_67_31 dm_67_32 dm_67_34 dm_67_37 rfl wm_487 wm_488 wm_14 wm_599 xw_2 (by decide +kernel) (by decide +kernel) (by decide +kernel) (by decide +kernel))⟩)
set_option maxRecDepth 100000 in
theorem vv_67_38 {l : Launch} (hl : l.stackTraces = false) : cj_V1 l 67 38 (3, 0, 0, []) 39 := Or.inl ⟨by decide +kernel, ok_aload_n dm_67_38 rfl⟩
set_option maxRecDepth 100000 in
theorem vv_67_39 {l : Launch} (hl : l.stackTraces = false) : cj_V1 l 67 39 (50, 0, 4, []) 42 := Or.inl ⟨by decide +kernel, ok_getfield (N := 11) (C := RK_0) (T := TK_0) dm_67_39 rfl inK_0 (by decide +kernel) wm_181⟩
set_option maxRecDepth 100000 in
theorem vv_67_42 {l : Launch} (hl : l.stackTraces = false) : cj_V1 l 67 42 (2, 1, 0, []) 43 := Or.inl ⟨by decide +kernel, ok_iload_n dm_67_42 rfl⟩
set_option maxRecDepth 100000 in
theorem vv_67_43 {l : Launch} (hl : l.stackTraces = false) : cj_V1 l 67 43 (54, 4, 0, []) 44 := Or.inl ⟨by decide +kernel, ok_aaload (C := "CatalogueSet$Entry") dm_67_43 rfl⟩
set_option maxRecDepth 100000 in
theorem vv_67_44 {l : Launch} (hl : l.stackTraces = false) : cj_V1 l 67 44 (2, 2, 0, []) 45 := Or.inl ⟨by decide +kernel, ok_iload_n dm_67_44 rfl⟩
set_option maxRecDepth 100000 in
theorem vv_67_45 {l : Launch} (hl : l.stackTraces = false) : cj_V1 l 67 45 (80, 10, 2, [2]) 48 := Or.inr (Or.inr (Or.inl ⟨by decide +kernel, by decide +kernel, rfl, vc_virtual (n := 1) (q := (RK_2, TK_2, 4)) mi_10 dm_67_45 (Or.inl wm_600) wm_601 wm_602 rfl rfl (by decide +kernel) rfl (by decide +kernel) (by decide +kernel), (vx_none rfl)⟩))
set_option maxRecDepth 100000 in
theorem vv_67_48 {l : Launch} (hl : l.stackTraces = false) : cj_V1 l 67 48 (90, 0, 0, []) 49 := Or.inr (Or.inl ⟨by decide +kernel, Or.inl (Or.inl ⟨rfl, dm_67_48, rfl⟩)⟩)
set_option maxRecDepth 100000 in
theorem vm_67 {l : Launch} (hl : l.stackTraces = false) : cj_Vm l 67 := cj_Vm_of (r := kc67_) rfl ⟨vv_67_0 hl, vv_67_1 hl, vv_67_2 hl, vv_67_5 hl, vv_67_8 hl, vv_67_18 hl, vv_67_19 hl, vv_67_22 hl, vv_67_23 hl, vv_67_25 hl, vv_67_28 hl, vv_67_38 hl, vv_67_39 hl, vv_67_42 hl, vv_67_43 hl, vv_67_44 hl, vv_67_45 hl, vv_67_48 hl, trivial⟩
set_option maxRecDepth 100000 in
theorem vv_68_0 {l : Launch} (hl : l.stackTraces = false) : cj_V1 l 68 0 (2, 1, 0, []) 1 := Or.inl ⟨by decide +kernel, ok_iload_n dm_68_0 rfl⟩
set_option maxRecDepth 100000 in
theorem vv_68_1 {l : Launch} (hl : l.stackTraces = false) : cj_V1 l 68 1 (0, 32, 0, []) 3 := Or.inl ⟨by decide +kernel, ok_bipush dm_68_1 (by decide +kernel)⟩
set_option maxRecDepth 100000 in
theorem vv_68_3 {l : Launch} (hl : l.stackTraces = false) : cj_V1 l 68 3 (38, 8, 0, []) 6 := Or.inl ⟨by decide +kernel, ok_icmp_ne dm_68_3 (by decide +kernel)⟩
set_option maxRecDepth 100000 in
theorem vv_68_6 {l : Launch} (hl : l.stackTraces = false) : cj_V1 l 68 6 (0, 0, 0, []) 7 := Or.inl ⟨by decide +kernel, ok_iconst dm_68_6 (by decide +kernel)⟩
set_option maxRecDepth 100000 in
theorem vv_68_7 {l : Launch} (hl : l.stackTraces = false) : cj_V1 l 68 7 (90, 0, 0, []) 8 := Or.inr (Or.inl ⟨by decide +kernel, Or.inl (Or.inl ⟨rfl, dm_68_7, rfl⟩)⟩)
set_option maxRecDepth 100000 in
theorem vv_68_8 {l : Launch} (hl : l.stackTraces = false) : cj_V1 l 68 8 (3, 0, 0, []) 9 := Or.inl ⟨by decide +kernel, ok_aload_n dm_68_8 rfl⟩
set_option maxRecDepth 100000 in
theorem vv_68_9 {l : Launch} (hl : l.stackTraces = false) : cj_V1 l 68 9 (50, 0, 2, []) 12 := Or.inl ⟨by decide +kernel, ok_getfield (N := 11) (C := RK_0) (T := TK_0) dm_68_9 rfl inK_0 (by decide +kernel) wm_179⟩
set_option maxRecDepth 100000 in
theorem vv_68_12 {l : Launch} (hl : l.stackTraces = false) : cj_V1 l 68 12 (2, 1, 0, []) 13 := Or.inl ⟨by decide +kernel, ok_iload_n dm_68_12 rfl⟩
set_option maxRecDepth 100000 in
theorem vv_68_13 {l : Launch} (hl : l.stackTraces = false) : cj_V1 l 68 13 (80, 38, 2, [6]) 16 := Or.inr (Or.inr (Or.inl ⟨by decide +kernel, by decide +kernel, rfl, vc_virtual (n := 1) (q := (RK_6, TK_6, 2)) mi_38 dm_68_13 (Or.inl wm_614) wm_615 wm_616 rfl rfl (by decide +kernel) rfl (by decide +kernel) (by decide +kernel), (vx_none rfl)⟩))
set_option maxRecDepth 100000 in
theorem vv_68_16 {l : Launch} (hl : l.stackTraces = false) : cj_V1 l 68 16 (4, 2, 0, []) 17 := Or.inl ⟨by decide +kernel, ok_istore_n dm_68_16 rfl⟩
set_option maxRecDepth 100000 in
theorem vv_68_17 {l : Launch} (hl : l.stackTraces = false) : cj_V1 l 68 17 (2, 2, 0, []) 18 := Or.inl ⟨by decide +kernel, ok_iload_n dm_68_17 rfl⟩
set_option maxRecDepth 100000 in
theorem vv_68_18 {l : Launch} (hl : l.stackTraces = false) : cj_V1 l 68 18 (1, 1, 0, []) 19 := Or.inl ⟨by decide +kernel, ok_iconst_m dm_68_18 (by decide +kernel)⟩
set_option maxRecDepth 100000 in
theorem vv_68_19 {l : Launch} (hl : l.stackTraces = false) : cj_V1 l 68 19 (38, 29, 0, []) 22 := Or.inl ⟨by decide +kernel, ok_icmp_ne dm_68_19 (by decide +kernel)⟩
set_option maxRecDepth 100000 in
theorem vv_68_22 {l : Launch} (hl : l.stackTraces = false) : cj_V1 l 68 22 (0, 27, 0, []) 24 := Or.inl ⟨by decide +kernel, ok_bipush dm_68_22 (by decide +kernel)⟩
set_option maxRecDepth 100000 in
theorem vv_68_24 {l : Launch} (hl : l.stackTraces = false) : cj_V1 l 68 24 (2, 1, 0, []) 25 := Or.inl ⟨by decide +kernel, ok_iload_n dm_68_24 rfl⟩
set_option maxRecDepth 100000 in
theorem vv_68_25 {l : Launch} (hl : l.stackTraces = false) : cj_V1 l 68 25 (10, 0, 0, []) 26 := Or.inl ⟨by decide +kernel, ok_iadd dm_68_25⟩
set_option maxRecDepth 100000 in
theorem vv_68_26 {l : Launch} (hl : l.stackTraces = false) : cj_V1 l 68 26 (30, 32, 0, []) 29 := Or.inl ⟨by decide +kernel, ok_goto dm_68_26 (by decide +kernel)⟩
set_option maxRecDepth 100000 in
theorem vv_68_29 {l : Launch} (hl : l.stackTraces = false) : cj_V1 l 68 29 (0, 1, 0, []) 30 := Or.inl ⟨by decide +kernel, ok_iconst dm_68_29 (by decide +kernel)⟩
set_option maxRecDepth 100000 in
theorem vv_68_30 {l : Launch} (hl : l.stackTraces = false) : cj_V1 l 68 30 (2, 2, 0, []) 31 := Or.inl ⟨by decide +kernel, ok_iload_n dm_68_30 rfl⟩
set_option maxRecDepth 100000 in
theorem vv_68_31 {l : Launch} (hl : l.stackTraces = false) : cj_V1 l 68 31 (10, 0, 0, []) 32 := Or.inl ⟨by decide +kernel, ok_iadd dm_68_31⟩
set_option maxRecDepth 100000 in
theorem vv_68_32 {l : Launch} (hl : l.stackTraces = false) : cj_V1 l 68 32 (90, 0, 0, []) 33 := Or.inr (Or.inl ⟨by decide +kernel, Or.inl (Or.inl ⟨rfl, dm_68_32, rfl⟩)⟩)
set_option maxRecDepth 100000 in
theorem vm_68 {l : Launch} (hl : l.stackTraces = false) : cj_Vm l 68 := cj_Vm_of (r := kc68_) rfl ⟨vv_68_0 hl, vv_68_1 hl, vv_68_3 hl, vv_68_6 hl, vv_68_7 hl, vv_68_8 hl, vv_68_9 hl, vv_68_12 hl, vv_68_13 hl, vv_68_16 hl, vv_68_17 hl, vv_68_18 hl, vv_68_19 hl, vv_68_22 hl, vv_68_24 hl, vv_68_25 hl, vv_68_26 hl, vv_68_29 hl, vv_68_30 hl, vv_68_31 hl, vv_68_32 hl, trivial⟩
set_option maxRecDepth 100000 in
theorem vv_69_0 {l : Launch} (hl : l.stackTraces = false) : cj_V1 l 69 0 (0, 0, 0, []) 1 := Or.inl ⟨by decide +kernel, ok_iconst dm_69_0 (by decide +kernel)⟩
set_option maxRecDepth 100000 in
theorem vv_69_1 {l : Launch} (hl : l.stackTraces = false) : cj_V1 l 69 1 (4, 1, 0, []) 2 := Or.inl ⟨by decide +kernel, ok_istore_n dm_69_1 rfl⟩
set_option maxRecDepth 100000 in
theorem vv_69_2 {l : Launch} (hl : l.stackTraces = false) : cj_V1 l 69 2 (0, 0, 0, []) 3 := Or.inl ⟨by decide +kernel, ok_iconst dm_69_2 (by decide +kernel)⟩
set_option maxRecDepth 100000 in
theorem vv_69_3 {l : Launch} (hl : l.stackTraces = false) : cj_V1 l 69 3 (4, 2, 0, []) 4 := Or.inl ⟨by decide +kernel, ok_istore_n dm_69_3 rfl⟩
set_option maxRecDepth 100000 in
theorem vv_69_4 {l : Launch} (hl : l.stackTraces = false) : cj_V1 l 69 4 (2, 2, 0, []) 5 := Or.inl ⟨by decide +kernel, ok_iload_n dm_69_4 rfl⟩
set_option maxRecDepth 100000 in
theorem vv_69_5 {l : Launch} (hl : l.stackTraces = false) : cj_V1 l 69 5 (0, 4, 0, []) 6 := Or.inl ⟨by decide +kernel, ok_iconst dm_69_5 (by decide +kernel)⟩
set_option maxRecDepth 100000 in
theorem vv_69_6 {l : Launch} (hl : l.stackTraces = false) : cj_V1 l 69 6 (40, 26, 0, []) 9 := Or.inl ⟨by decide +kernel, ok_icmp_ge dm_69_6 (by decide +kernel)⟩
set_option maxRecDepth 100000 in
theorem vv_69_9 {l : Launch} (hl : l.stackTraces = false) : cj_V1 l 69 9 (2, 0, 0, []) 10 := Or.inl ⟨by decide +kernel, ok_iload_n dm_69_9 rfl⟩
set_option maxRecDepth 100000 in
theorem vv_69_10 {l : Launch} (hl : l.stackTraces = false) : cj_V1 l 69 10 (2, 2, 0, []) 11 := Or.inl ⟨by decide +kernel, ok_iload_n dm_69_10 rfl⟩
set_option maxRecDepth 100000 in
theorem vv_69_11 {l : Launch} (hl : l.stackTraces = false) : cj_V1 l 69 11 (81, 0, 2, []) 14 := Or.inr (Or.inr (Or.inl ⟨by decide +kernel, by decide +kernel, rfl, vc_static mi_0 dm_69_11 (Or.inl wm_413) wm_414 (by decide +kernel) (by decide +kernel) (by decide +kernel), (vx_none rfl)⟩))
set_option maxRecDepth 100000 in
theorem vv_69_14 {l : Launch} (hl : l.stackTraces = false) : cj_V1 l 69 14 (31, 20, 0, []) 17 := Or.inl ⟨by decide +kernel, ok_if_eq dm_69_14 (by decide +kernel)⟩
set_option maxRecDepth 100000 in
theorem vv_69_17 {l : Launch} (hl : l.stackTraces = false) : cj_V1 l 69 17 (6, 1, 1, []) 20 := Or.inl ⟨by decide +kernel, ok_iinc6 dm_69_17 (by decide +kernel)⟩
set_option maxRecDepth 100000 in
theorem vv_69_20 {l : Launch} (hl : l.stackTraces = false) : cj_V1 l 69 20 (6, 2, 1, []) 23 := Or.inl ⟨by decide +kernel, ok_iinc6 dm_69_20 (by decide +kernel)⟩
set_option maxRecDepth 100000 in
theorem vv_69_23 {l : Launch} (hl : l.stackTraces = false) : cj_V1 l 69 23 (30, 4, 0, []) 26 := Or.inl ⟨by decide +kernel, ok_goto dm_69_23 (by decide +kernel)⟩
set_option maxRecDepth 100000 in
theorem vv_69_26 {l : Launch} (hl : l.stackTraces = false) : cj_V1 l 69 26 (2, 1, 0, []) 27 := Or.inl ⟨by decide +kernel, ok_iload_n dm_69_26 rfl⟩
set_option maxRecDepth 100000 in
theorem vv_69_27 {l : Launch} (hl : l.stackTraces = false) : cj_V1 l 69 27 (90, 0, 0, []) 28 := Or.inr (Or.inl ⟨by decide +kernel, Or.inl (Or.inl ⟨rfl, dm_69_27, rfl⟩)⟩)
set_option maxRecDepth 100000 in
theorem vm_69 {l : Launch} (hl : l.stackTraces = false) : cj_Vm l 69 := cj_Vm_of (r := kc69_) rfl ⟨vv_69_0 hl, vv_69_1 hl, vv_69_2 hl, vv_69_3 hl, vv_69_4 hl, vv_69_5 hl, vv_69_6 hl, vv_69_9 hl, vv_69_10 hl, vv_69_11 hl, vv_69_14 hl, vv_69_17 hl, vv_69_20 hl, vv_69_23 hl, vv_69_26 hl, vv_69_27 hl, trivial⟩
set_option maxRecDepth 100000 in
theorem vv_70_0 {l : Launch} (hl : l.stackTraces = false) : cj_V1 l 70 0 (3, 0, 0, []) 1 := Or.inl ⟨by decide +kernel, ok_aload_n dm_70_0 rfl⟩
set_option maxRecDepth 100000 in
theorem vv_70_1 {l : Launch} (hl : l.stackTraces = false) : cj_V1 l 70 1 (83, 0, 0, []) 4 := Or.inl ⟨by decide +kernel, ok_objInit dm_70_1 wm_130 wm_22 wm_23 (by decide +kernel) (by decide +kernel)⟩
set_option maxRecDepth 100000 in
theorem vv_70_4 {l : Launch} (hl : l.stackTraces = false) : cj_V1 l 70 4 (3, 0, 0, []) 5 := Or.inl ⟨by decide +kernel, ok_aload_n dm_70_4 rfl⟩
set_option maxRecDepth 100000 in
theorem vv_70_5 {l : Launch} (hl : l.stackTraces = false) : cj_V1 l 70 5 (70, 6, 2, [2, 0]) 8 := Or.inl ⟨by decide +kernel, ok_new (N := 2) (C := RK_6) (T := TK_6) (ty0 := tyK_6) dm_70_5 rfl inK_6 wm_131 wm_31 wm_3 rfl rfl tyK_6_ok (by decide +kernel)⟩
set_option maxRecDepth 100000 in
theorem vv_70_8 {l : Launch} (hl : l.stackTraces = false) : cj_V1 l 70 8 (25, 0, 0, []) 9 := Or.inl ⟨by decide +kernel, ok_dup dm_70_8⟩
set_option maxRecDepth 100000 in
theorem vv_70_9 {l : Launch} (hl : l.stackTraces = false) : cj_V1 l 70 9 (0, 212, 0, []) 12 := Or.inl ⟨by decide +kernel, ok_sipush dm_70_9 (by decide +kernel)⟩
set_option maxRecDepth 100000 in
theorem vv_70_12 {l : Launch} (hl : l.stackTraces = false) : cj_V1 l 70 12 (82, 34, 2, []) 15 := Or.inr (Or.inr (Or.inl ⟨by decide +kernel, by decide +kernel, rfl, vc_special (n := 1) mi_34 rfl rfl dm_70_12 (Or.inl wm_132) wm_33 (by decide +kernel) rfl (by decide +kernel) (by decide +kernel), (vx_none rfl)⟩))
set_option maxRecDepth 100000 in
theorem vv_70_15 {l : Launch} (hl : l.stackTraces = false) : cj_V1 l 70 15 (51, 1, 0, [2]) 18 := Or.inl ⟨by decide +kernel, ok_putfield (N := 4) (C := RK_1) (T := TK_1) (ty0 := tyK_1) dm_70_15 rfl inK_1 (by decide +kernel) wm_133 tyK_1_ok nmK_1 (Or.inr ⟨rfl, rfl, rfl⟩) (Or.inr (Or.inr (Or.inl ⟨rfl, Or.inl ⟨_, rfl⟩⟩)))⟩
set_option maxRecDepth 100000 in
theorem vv_70_18 {l : Launch} (hl : l.stackTraces = false) : cj_V1 l 70 18 (3, 0, 0, []) 19 := Or.inl ⟨by decide +kernel, ok_aload_n dm_70_18 rfl⟩
set_option maxRecDepth 100000 in
theorem vv_70_19 {l : Launch} (hl : l.stackTraces = false) : cj_V1 l 70 19 (0, 107, 0, []) 21 := Or.inl ⟨by decide +kernel, ok_bipush dm_70_19 (by decide +kernel)⟩
set_option maxRecDepth 100000 in
theorem vv_70_21 {l : Launch} (hl : l.stackTraces = false) : cj_V1 l 70 21 (71, 0, 0, []) 23 := Or.inl ⟨by decide +kernel, ok_newarray (ty := .int) (x := (.inl (fun _ => 0))) dm_70_21 rfl rfl wm_68 (fun _ _ => rfl) (fun _ _ => trivial) (by decide +kernel) rfl (fun _ _ _ _ => rfl)⟩
set_option maxRecDepth 100000 in
theorem vv_70_23 {l : Launch} (hl : l.stackTraces = false) : cj_V1 l 70 23 (51, 1, 1, [2]) 26 := Or.inl ⟨by decide +kernel, ok_putfield (N := 4) (C := RK_1) (T := TK_1) (ty0 := tyK_1) dm_70_23 rfl inK_1 (by decide +kernel) wm_134 tyK_1_ok nmK_1 (Or.inr ⟨rfl, rfl, rfl⟩) (Or.inr (Or.inr (Or.inl ⟨rfl, Or.inr ⟨_, rfl⟩⟩)))⟩
set_option maxRecDepth 100000 in
theorem vv_70_26 {l : Launch} (hl : l.stackTraces = false) : cj_V1 l 70 26 (91, 0, 0, []) 27 := Or.inr (Or.inl ⟨by decide +kernel, Or.inl (Or.inr (Or.inl ⟨rfl, dm_70_26, rfl⟩))⟩)
set_option maxRecDepth 100000 in
theorem vm_70 {l : Launch} (hl : l.stackTraces = false) : cj_Vm l 70 := cj_Vm_of (r := kc70_) rfl ⟨vv_70_0 hl, vv_70_1 hl, vv_70_4 hl, vv_70_5 hl, vv_70_8 hl, vv_70_9 hl, vv_70_12 hl, vv_70_15 hl, vv_70_18 hl, vv_70_19 hl, vv_70_21 hl, vv_70_23 hl, vv_70_26 hl, trivial⟩
set_option maxRecDepth 100000 in
theorem vv_71_0 {l : Launch} (hl : l.stackTraces = false) : cj_V1 l 71 0 (0, 0, 0, []) 1 := Or.inl ⟨by decide +kernel, ok_iconst dm_71_0 (by decide +kernel)⟩
set_option maxRecDepth 100000 in
theorem vv_71_1 {l : Launch} (hl : l.stackTraces = false) : cj_V1 l 71 1 (4, 2, 0, []) 2 := Or.inl ⟨by decide +kernel, ok_istore_n dm_71_1 rfl⟩
set_option maxRecDepth 100000 in
theorem vv_71_2 {l : Launch} (hl : l.stackTraces = false) : cj_V1 l 71 2 (0, 0, 0, []) 3 := Or.inl ⟨by decide +kernel, ok_iconst dm_71_2 (by decide +kernel)⟩
set_option maxRecDepth 100000 in
theorem vv_71_3 {l : Launch} (hl : l.stackTraces = false) : cj_V1 l 71 3 (4, 3, 0, []) 4 := Or.inl ⟨by decide +kernel, ok_istore_n dm_71_3 rfl⟩
set_option maxRecDepth 100000 in
theorem vv_71_4 {l : Launch} (hl : l.stackTraces = false) : cj_V1 l 71 4 (2, 3, 0, []) 5 := Or.inl ⟨by decide +kernel, ok_iload_n dm_71_4 rfl⟩
set_option maxRecDepth 100000 in
theorem vv_71_5 {l : Launch} (hl : l.stackTraces = false) : cj_V1 l 71 5 (3, 1, 0, []) 6 := Or.inl ⟨by decide +kernel, ok_aload_n dm_71_5 rfl⟩
set_option maxRecDepth 100000 in
theorem vv_71_6 {l : Launch} (hl : l.stackTraces = false) : cj_V1 l 71 6 (80, 20, 1, [3]) 9 := Or.inr (Or.inr (Or.inl ⟨by decide +kernel, by decide +kernel, rfl, vc_virtual (n := 0) (q := (RK_3, TK_3, 6)) mi_20 dm_71_6 (Or.inl wm_335) wm_336 wm_337 rfl rfl (by decide +kernel) rfl (by decide +kernel) (by decide +kernel), (vx_none rfl)⟩))
set_option maxRecDepth 100000 in
theorem vv_71_9 {l : Launch} (hl : l.stackTraces = false) : cj_V1 l 71 9 (40, 81, 0, []) 12 := Or.inl ⟨by decide +kernel, ok_icmp_ge dm_71_9 (by decide +kernel)⟩
set_option maxRecDepth 100000 in
theorem vv_71_12 {l : Launch} (hl : l.stackTraces = false) : cj_V1 l 71 12 (3, 0, 0, []) 13 := Or.inl ⟨by decide +kernel, ok_aload_n dm_71_12 rfl⟩
set_option maxRecDepth 100000 in
theorem vv_71_13 {l : Launch} (hl : l.stackTraces = false) : cj_V1 l 71 13 (50, 1, 2, []) 16 := Or.inl ⟨by decide +kernel, ok_getfield (N := 4) (C := RK_1) (T := TK_1) dm_71_13 rfl inK_1 (by decide +kernel) wm_135⟩
set_option maxRecDepth 100000 in
theorem vv_71_16 {l : Launch} (hl : l.stackTraces = false) : cj_V1 l 71 16 (0, 106, 0, []) 18 := Or.inl ⟨by decide +kernel, ok_bipush dm_71_16 (by decide +kernel)⟩
set_option maxRecDepth 100000 in
theorem vv_71_18 {l : Launch} (hl : l.stackTraces = false) : cj_V1 l 71 18 (40, 81, 0, []) 21 := Or.inl ⟨by decide +kernel, ok_icmp_ge dm_71_18 (by decide +kernel)⟩
set_option maxRecDepth 100000 in
theorem vv_71_21 {l : Launch} (hl : l.stackTraces = false) : cj_V1 l 71 21 (3, 0, 0, []) 22 := Or.inl ⟨by decide +kernel, ok_aload_n dm_71_21 rfl⟩
set_option maxRecDepth 100000 in
theorem vv_71_22 {l : Launch} (hl : l.stackTraces = false) : cj_V1 l 71 22 (50, 1, 1, []) 25 := Or.inl ⟨by decide +kernel, ok_getfield (N := 4) (C := RK_1) (T := TK_1) dm_71_22 rfl inK_1 (by decide +kernel) wm_134⟩
set_option maxRecDepth 100000 in
theorem vv_71_25 {l : Launch} (hl : l.stackTraces = false) : cj_V1 l 71 25 (3, 0, 0, []) 26 := Or.inl ⟨by decide +kernel, ok_aload_n dm_71_25 rfl⟩
set_option maxRecDepth 100000 in
theorem vv_71_26 {l : Launch} (hl : l.stackTraces = false) : cj_V1 l 71 26 (50, 1, 2, []) 29 := Or.inl ⟨by decide +kernel, ok_getfield (N := 4) (C := RK_1) (T := TK_1) dm_71_26 rfl inK_1 (by decide +kernel) wm_135⟩
set_option maxRecDepth 100000 in
theorem vv_71_29 {l : Launch} (hl : l.stackTraces = false) : cj_V1 l 71 29 (2, 2, 0, []) 30 := Or.inl ⟨by decide +kernel, ok_iload_n dm_71_29 rfl⟩
set_option maxRecDepth 100000 in
theorem vv_71_30 {l : Launch} (hl : l.stackTraces = false) : cj_V1 l 71 30 (56, 0, 0, []) 31 := Or.inl ⟨by decide +kernel, ok_iastore dm_71_30 rfl⟩
set_option maxRecDepth 100000 in
theorem vv_71_31 {l : Launch} (hl : l.stackTraces = false) : cj_V1 l 71 31 (3, 0, 0, []) 32 := Or.inl ⟨by decide +kernel, ok_aload_n dm_71_31 rfl⟩
set_option maxRecDepth 100000 in
theorem vv_71_32 {l : Launch} (hl : l.stackTraces = false) : cj_V1 l 71 32 (25, 0, 0, []) 33 := Or.inl ⟨by decide +kernel, ok_dup dm_71_32⟩
set_option maxRecDepth 100000 in
theorem vv_71_33 {l : Launch} (hl : l.stackTraces = false) : cj_V1 l 71 33 (50, 1, 2, []) 36 := Or.inl ⟨by decide +kernel, ok_getfield (N := 4) (C := RK_1) (T := TK_1) dm_71_33 rfl inK_1 (by decide +kernel) wm_135⟩
set_option maxRecDepth 100000 in
theorem vv_71_36 {l : Launch} (hl : l.stackTraces = false) : cj_V1 l 71 36 (0, 1, 0, []) 37 := Or.inl ⟨by decide +kernel, ok_iconst dm_71_36 (by decide +kernel)⟩
set_option maxRecDepth 100000 in
theorem vv_71_37 {l : Launch} (hl : l.stackTraces = false) : cj_V1 l 71 37 (10, 0, 0, []) 38 := Or.inl ⟨by decide +kernel, ok_iadd dm_71_37⟩
set_option maxRecDepth 100000 in
theorem vv_71_38 {l : Launch} (hl : l.stackTraces = false) : cj_V1 l 71 38 (51, 1, 2, [0]) 41 := Or.inl ⟨by decide +kernel, ok_putfield (N := 4) (C := RK_1) (T := TK_1) (ty0 := tyK_1) dm_71_38 rfl inK_1 (by decide +kernel) wm_135 tyK_1_ok nmK_1 (Or.inl rfl) (Or.inl ⟨rfl, rfl⟩)⟩
set_option maxRecDepth 100000 in
theorem vv_71_41 {l : Launch} (hl : l.stackTraces = false) : cj_V1 l 71 41 (3, 1, 0, []) 42 := Or.inl ⟨by decide +kernel, ok_aload_n dm_71_41 rfl⟩
set_option maxRecDepth 100000 in
theorem vv_71_42 {l : Launch} (hl : l.stackTraces = false) : cj_V1 l 71 42 (2, 3, 0, []) 43 := Or.inl ⟨by decide +kernel, ok_iload_n dm_71_42 rfl⟩
set_option maxRecDepth 100000 in
theorem vv_71_43 {l : Launch} (hl : l.stackTraces = false) : cj_V1 l 71 43 (80, 18, 2, [3]) 46 := Or.inr (Or.inr (Or.inl ⟨by decide +kernel, by decide +kernel, rfl, vc_virtual (n := 1) (q := (RK_3, TK_3, 6)) mi_18 dm_71_43 (Or.inl wm_339) wm_340 wm_341 rfl rfl (by decide +kernel) rfl (by decide +kernel) (by decide +kernel), (vx_none rfl)⟩))
set_option maxRecDepth 100000 in
theorem vv_71_46 {l : Launch} (hl : l.stackTraces = false) : cj_V1 l 71 46 (4, 4, 0, []) 48 := Or.inl ⟨by decide +kernel, ok_istore dm_71_46⟩
set_option maxRecDepth 100000 in
theorem vv_71_48 {l : Launch} (hl : l.stackTraces = false) : cj_V1 l 71 48 (2, 3, 0, []) 49 := Or.inl ⟨by decide +kernel, ok_iload_n dm_71_48 rfl⟩
set_option maxRecDepth 100000 in
theorem vv_71_49 {l : Launch} (hl : l.stackTraces = false) : cj_V1 l 71 49 (4, 5, 0, []) 51 := Or.inl ⟨by decide +kernel, ok_istore dm_71_49⟩
set_option maxRecDepth 100000 in
theorem vv_71_51 {l : Launch} (hl : l.stackTraces = false) : cj_V1 l 71 51 (2, 5, 0, []) 53 := Or.inl ⟨by decide +kernel, ok_iload dm_71_51⟩
set_option maxRecDepth 100000 in
theorem vv_71_53 {l : Launch} (hl : l.stackTraces = false) : cj_V1 l 71 53 (2, 4, 0, []) 55 := Or.inl ⟨by decide +kernel, ok_iload dm_71_53⟩
set_option maxRecDepth 100000 in
theorem vv_71_55 {l : Launch} (hl : l.stackTraces = false) : cj_V1 l 71 55 (40, 75, 0, []) 58 := Or.inl ⟨by decide +kernel, ok_icmp_ge dm_71_55 (by decide +kernel)⟩
set_option maxRecDepth 100000 in
theorem vv_71_58 {l : Launch} (hl : l.stackTraces = false) : cj_V1 l 71 58 (2, 2, 0, []) 59 := Or.inl ⟨by decide +kernel, ok_iload_n dm_71_58 rfl⟩
set_option maxRecDepth 100000 in
theorem vv_71_59 {l : Launch} (hl : l.stackTraces = false) : cj_V1 l 71 59 (3, 1, 0, []) 60 := Or.inl ⟨by decide +kernel, ok_aload_n dm_71_59 rfl⟩
set_option maxRecDepth 100000 in
theorem vv_71_60 {l : Launch} (hl : l.stackTraces = false) : cj_V1 l 71 60 (2, 5, 0, []) 62 := Or.inl ⟨by decide +kernel, ok_iload dm_71_60⟩
set_option maxRecDepth 100000 in
theorem vv_71_62 {l : Launch} (hl : l.stackTraces = false) : cj_V1 l 71 62 (80, 22, 2, [3]) 65 := Or.inr (Or.inr (Or.inl ⟨by decide +kernel, by decide +kernel, rfl, vc_virtual (n := 1) (q := (RK_3, TK_3, 6)) mi_22 dm_71_62 (Or.inl wm_343) wm_328 wm_329 rfl rfl (by decide +kernel) rfl (by decide +kernel) (by decide +kernel), (vx_none rfl)⟩))
set_option maxRecDepth 100000 in
theorem vv_71_65 {l : Launch} (hl : l.stackTraces = false) : cj_V1 l 71 65 (0, 1, 0, []) 66 := Or.inl ⟨by decide +kernel, ok_iconst dm_71_65 (by decide +kernel)⟩
set_option maxRecDepth 100000 in
theorem vv_71_66 {l : Launch} (hl : l.stackTraces = false) : cj_V1 l 71 66 (10, 0, 0, []) 67 := Or.inl ⟨by decide +kernel, ok_iadd dm_71_66⟩
set_option maxRecDepth 100000 in
theorem vv_71_67 {l : Launch} (hl : l.stackTraces = false) : cj_V1 l 71 67 (10, 0, 0, []) 68 := Or.inl ⟨by decide +kernel, ok_iadd dm_71_67⟩
set_option maxRecDepth 100000 in
theorem vv_71_68 {l : Launch} (hl : l.stackTraces = false) : cj_V1 l 71 68 (4, 2, 0, []) 69 := Or.inl ⟨by decide +kernel, ok_istore_n dm_71_68 rfl⟩
set_option maxRecDepth 100000 in
theorem vv_71_69 {l : Launch} (hl : l.stackTraces = false) : cj_V1 l 71 69 (6, 5, 1, []) 72 := Or.inl ⟨by decide +kernel, ok_iinc6 dm_71_69 (by decide +kernel)⟩
set_option maxRecDepth 100000 in
theorem vv_71_72 {l : Launch} (hl : l.stackTraces = false) : cj_V1 l 71 72 (30, 51, 0, []) 75 := Or.inl ⟨by decide +kernel, ok_goto dm_71_72 (by decide +kernel)⟩
set_option maxRecDepth 100000 in
theorem vv_71_75 {l : Launch} (hl : l.stackTraces = false) : cj_V1 l 71 75 (2, 4, 0, []) 77 := Or.inl ⟨by decide +kernel, ok_iload dm_71_75⟩
set_option maxRecDepth 100000 in
theorem vv_71_77 {l : Launch} (hl : l.stackTraces = false) : cj_V1 l 71 77 (4, 3, 0, []) 78 := Or.inl ⟨by decide +kernel, ok_istore_n dm_71_77 rfl⟩
set_option maxRecDepth 100000 in
theorem vv_71_78 {l : Launch} (hl : l.stackTraces = false) : cj_V1 l 71 78 (30, 4, 0, []) 81 := Or.inl ⟨by decide +kernel, ok_goto dm_71_78 (by decide +kernel)⟩
set_option maxRecDepth 100000 in
theorem vv_71_81 {l : Launch} (hl : l.stackTraces = false) : cj_V1 l 71 81 (3, 0, 0, []) 82 := Or.inl ⟨by decide +kernel, ok_aload_n dm_71_81 rfl⟩
set_option maxRecDepth 100000 in
theorem vv_71_82 {l : Launch} (hl : l.stackTraces = false) : cj_V1 l 71 82 (50, 1, 1, []) 85 := Or.inl ⟨by decide +kernel, ok_getfield (N := 4) (C := RK_1) (T := TK_1) dm_71_82 rfl inK_1 (by decide +kernel) wm_134⟩
set_option maxRecDepth 100000 in
theorem vv_71_85 {l : Launch} (hl : l.stackTraces = false) : cj_V1 l 71 85 (3, 0, 0, []) 86 := Or.inl ⟨by decide +kernel, ok_aload_n dm_71_85 rfl⟩
set_option maxRecDepth 100000 in
theorem vv_71_86 {l : Launch} (hl : l.stackTraces = false) : cj_V1 l 71 86 (50, 1, 2, []) 89 := Or.inl ⟨by decide +kernel, ok_getfield (N := 4) (C := RK_1) (T := TK_1) dm_71_86 rfl inK_1 (by decide +kernel) wm_135⟩
set_option maxRecDepth 100000 in
theorem vv_71_89 {l : Launch} (hl : l.stackTraces = false) : cj_V1 l 71 89 (2, 2, 0, []) 90 := Or.inl ⟨by decide +kernel, ok_iload_n dm_71_89 rfl⟩
set_option maxRecDepth 100000 in
theorem vv_71_90 {l : Launch} (hl : l.stackTraces = false) : cj_V1 l 71 90 (56, 0, 0, []) 91 := Or.inl ⟨by decide +kernel, ok_iastore dm_71_90 rfl⟩
set_option maxRecDepth 100000 in
theorem vv_71_91 {l : Launch} (hl : l.stackTraces = false) : cj_V1 l 71 91 (91, 0, 0, []) 92 := Or.inr (Or.inl ⟨by decide +kernel, Or.inl (Or.inr (Or.inl ⟨rfl, dm_71_91, rfl⟩))⟩)
set_option maxRecDepth 100000 in
theorem vm_71 {l : Launch} (hl : l.stackTraces = false) : cj_Vm l 71 := cj_Vm_of (r := kc71_) rfl ⟨vv_71_0 hl, vv_71_1 hl, vv_71_2 hl, vv_71_3 hl, vv_71_4 hl, vv_71_5 hl, vv_71_6 hl, vv_71_9 hl, vv_71_12 hl, vv_71_13 hl, vv_71_16 hl, vv_71_18 hl, vv_71_21 hl, vv_71_22 hl, vv_71_25 hl, vv_71_26 hl, vv_71_29 hl, vv_71_30 hl, vv_71_31 hl, vv_71_32 hl, vv_71_33 hl, vv_71_36 hl, vv_71_37 hl, vv_71_38 hl, vv_71_41 hl, vv_71_42 hl, vv_71_43 hl, vv_71_46 hl, vv_71_48 hl, vv_71_49 hl, vv_71_51 hl, vv_71_53 hl, vv_71_55 hl, vv_71_58 hl, vv_71_59 hl, vv_71_60 hl, vv_71_62 hl, vv_71_65 hl, vv_71_66 hl, vv_71_67 hl, vv_71_68 hl, vv_71_69 hl, vv_71_72 hl, vv_71_75 hl, vv_71_77 hl, vv_71_78 hl, vv_71_81 hl, vv_71_82 hl, vv_71_85 hl, vv_71_86 hl, vv_71_89 hl, vv_71_90 hl, vv_71_91 hl, trivial⟩
set_option maxRecDepth 100000 in
theorem vv_72_0 {l : Launch} (hl : l.stackTraces = false) : cj_V1 l 72 0 (2, 2, 0, []) 1 := Or.inl ⟨by decide +kernel, ok_iload_n dm_72_0 rfl⟩
set_option maxRecDepth 100000 in
theorem vv_72_1 {l : Launch} (hl : l.stackTraces = false) : cj_V1 l 72 1 (33, 31, 0, []) 4 := Or.inl ⟨by decide +kernel, ok_if_lt dm_72_1 (by decide +kernel)⟩
set_option maxRecDepth 100000 in
theorem vv_72_4 {l : Launch} (hl : l.stackTraces = false) : cj_V1 l 72 4 (2, 2, 0, []) 5 := Or.inl ⟨by decide +kernel, ok_iload_n dm_72_4 rfl⟩
set_option maxRecDepth 100000 in
theorem vv_72_5 {l : Launch} (hl : l.stackTraces = false) : cj_V1 l 72 5 (3, 0, 0, []) 6 := Or.inl ⟨by decide +kernel, ok_aload_n dm_72_5 rfl⟩
set_option maxRecDepth 100000 in
theorem vv_72_6 {l : Launch} (hl : l.stackTraces = false) : cj_V1 l 72 6 (2, 1, 0, []) 7 := Or.inl ⟨by decide +kernel, ok_iload_n dm_72_6 rfl⟩
set_option maxRecDepth 100000 in
theorem vv_72_7 {l : Launch} (hl : l.stackTraces = false) : cj_V1 l 72 7 (80, 5, 2, [1]) 10 := Or.inr (Or.inr (Or.inl ⟨by decide +kernel, by decide +kernel, rfl, vc_virtual (n := 1) (q := (RK_1, TK_1, 4)) mi_5 dm_72_7 (Or.inl wm_698) wm_687 wm_688 rfl rfl (by decide +kernel) rfl (by decide +kernel) (by decide +kernel), (vx_none rfl)⟩))
set_option maxRecDepth 100000 in
theorem vv_72_10 {l : Launch} (hl : l.stackTraces = false) : cj_V1 l 72 10 (40, 31, 0, []) 13 := Or.inl ⟨by decide +kernel, ok_icmp_ge dm_72_10 (by decide +kernel)⟩
set_option maxRecDepth 100000 in
theorem vv_72_13 {l : Launch} (hl : l.stackTraces = false) : cj_V1 l 72 13 (3, 0, 0, []) 14 := Or.inl ⟨by decide +kernel, ok_aload_n dm_72_13 rfl⟩
set_option maxRecDepth 100000 in
theorem vv_72_14 {l : Launch} (hl : l.stackTraces = false) : cj_V1 l 72 14 (50, 1, 0, []) 17 := Or.inl ⟨by decide +kernel, ok_getfield (N := 4) (C := RK_1) (T := TK_1) dm_72_14 rfl inK_1 (by decide +kernel) wm_133⟩
set_option maxRecDepth 100000 in
theorem vv_72_17 {l : Launch} (hl : l.stackTraces = false) : cj_V1 l 72 17 (3, 0, 0, []) 18 := Or.inl ⟨by decide +kernel, ok_aload_n dm_72_17 rfl⟩
set_option maxRecDepth 100000 in
theorem vv_72_18 {l : Launch} (hl : l.stackTraces = false) : cj_V1 l 72 18 (50, 1, 1, []) 21 := Or.inl ⟨by decide +kernel, ok_getfield (N := 4) (C := RK_1) (T := TK_1) dm_72_18 rfl inK_1 (by decide +kernel) wm_134⟩
set_option maxRecDepth 100000 in
theorem vv_72_21 {l : Launch} (hl : l.stackTraces = false) : cj_V1 l 72 21 (2, 1, 0, []) 22 := Or.inl ⟨by decide +kernel, ok_iload_n dm_72_21 rfl⟩
set_option maxRecDepth 100000 in
theorem vv_72_22 {l : Launch} (hl : l.stackTraces = false) : cj_V1 l 72 22 (54, 0, 0, []) 23 := Or.inl ⟨by decide +kernel, ok_iaload dm_72_22 rfl⟩
set_option maxRecDepth 100000 in
theorem vv_72_23 {l : Launch} (hl : l.stackTraces = false) : cj_V1 l 72 23 (2, 2, 0, []) 24 := Or.inl ⟨by decide +kernel, ok_iload_n dm_72_23 rfl⟩
set_option maxRecDepth 100000 in
theorem vv_72_24 {l : Launch} (hl : l.stackTraces = false) : cj_V1 l 72 24 (10, 0, 0, []) 25 := Or.inl ⟨by decide +kernel, ok_iadd dm_72_24⟩
set_option maxRecDepth 100000 in
theorem vv_72_25 {l : Launch} (hl : l.stackTraces = false) : cj_V1 l 72 25 (80, 36, 2, [6]) 28 := Or.inr (Or.inr (Or.inl ⟨by decide +kernel, by decide +kernel, rfl, vc_virtual (n := 1) (q := (RK_6, TK_6, 2)) mi_36 dm_72_25 (Or.inl wm_308) wm_253 wm_254 rfl rfl (by decide +kernel) rfl (by decide +kernel) (by decide +kernel), (vx_none rfl)⟩))
set_option maxRecDepth 100000 in
theorem vv_72_28 {l : Launch} (hl : l.stackTraces = false) : cj_V1 l 72 28 (30, 32, 0, []) 31 := Or.inl ⟨by decide +kernel, ok_goto dm_72_28 (by decide +kernel)⟩
set_option maxRecDepth 100000 in
theorem vv_72_31 {l : Launch} (hl : l.stackTraces = false) : cj_V1 l 72 31 (0, 0, 0, []) 32 := Or.inl ⟨by decide +kernel, ok_iconst dm_72_31 (by decide +kernel)⟩
set_option maxRecDepth 100000 in
theorem vv_72_32 {l : Launch} (hl : l.stackTraces = false) : cj_V1 l 72 32 (90, 0, 0, []) 33 := Or.inr (Or.inl ⟨by decide +kernel, Or.inl (Or.inl ⟨rfl, dm_72_32, rfl⟩)⟩)
set_option maxRecDepth 100000 in
theorem vm_72 {l : Launch} (hl : l.stackTraces = false) : cj_Vm l 72 := cj_Vm_of (r := kc72_) rfl ⟨vv_72_0 hl, vv_72_1 hl, vv_72_4 hl, vv_72_5 hl, vv_72_6 hl, vv_72_7 hl, vv_72_10 hl, vv_72_13 hl, vv_72_14 hl, vv_72_17 hl, vv_72_18 hl, vv_72_21 hl, vv_72_22 hl, vv_72_23 hl, vv_72_24 hl, vv_72_25 hl, vv_72_28 hl, vv_72_31 hl, vv_72_32 hl, trivial⟩
set_option maxRecDepth 100000 in
theorem vv_73_0 {l : Launch} (hl : l.stackTraces = false) : cj_V1 l 73 0 (3, 0, 0, []) 1 := Or.inl ⟨by decide +kernel, ok_aload_n dm_73_0 rfl⟩
set_option maxRecDepth 100000 in
theorem vv_73_1 {l : Launch} (hl : l.stackTraces = false) : cj_V1 l 73 1 (50, 1, 0, []) 4 := Or.inl ⟨by decide +kernel, ok_getfield (N := 4) (C := RK_1) (T := TK_1) dm_73_1 rfl inK_1 (by decide +kernel) wm_133⟩
set_option maxRecDepth 100000 in
theorem vv_73_4 {l : Launch} (hl : l.stackTraces = false) : cj_V1 l 73 4 (80, 37, 1, [6]) 7 := Or.inr (Or.inr (Or.inl ⟨by decide +kernel, by decide +kernel, rfl, vc_virtual (n := 0) (q := (RK_6, TK_6, 2)) mi_37 dm_73_4 (Or.inl wm_306) wm_245 wm_246 rfl rfl (by decide +kernel) rfl (by decide +kernel) (by decide +kernel), (vx_none rfl)⟩))
set_option maxRecDepth 100000 in
theorem vv_73_7 {l : Launch} (hl : l.stackTraces = false) : cj_V1 l 73 7 (0, 0, 0, []) 8 := Or.inl ⟨by decide +kernel, ok_iconst dm_73_7 (by decide +kernel)⟩
set_option maxRecDepth 100000 in
theorem vv_73_8 {l : Launch} (hl : l.stackTraces = false) : cj_V1 l 73 8 (4, 3, 0, []) 9 := Or.inl ⟨by decide +kernel, ok_istore_n dm_73_8 rfl⟩
set_option maxRecDepth 100000 in
theorem vv_73_9 {l : Launch} (hl : l.stackTraces = false) : cj_V1 l 73 9 (0, 0, 0, []) 10 := Or.inl ⟨by decide +kernel, ok_iconst dm_73_9 (by decide +kernel)⟩
set_option maxRecDepth 100000 in
theorem vv_73_10 {l : Launch} (hl : l.stackTraces = false) : cj_V1 l 73 10 (4, 4, 0, []) 12 := Or.inl ⟨by decide +kernel, ok_istore dm_73_10⟩
set_option maxRecDepth 100000 in
theorem vv_73_12 {l : Launch} (hl : l.stackTraces = false) : cj_V1 l 73 12 (2, 4, 0, []) 14 := Or.inl ⟨by decide +kernel, ok_iload dm_73_12⟩
set_option maxRecDepth 100000 in
theorem vv_73_14 {l : Launch} (hl : l.stackTraces = false) : cj_V1 l 73 14 (3, 1, 0, []) 15 := Or.inl ⟨by decide +kernel, ok_aload_n dm_73_14 rfl⟩
set_option maxRecDepth 100000 in
theorem vv_73_15 {l : Launch} (hl : l.stackTraces = false) : cj_V1 l 73 15 (80, 39, 1, [6]) 18 := Or.inr (Or.inr (Or.inl ⟨by decide +kernel, by decide +kernel, rfl, vc_virtual (n := 0) (q := (RK_6, TK_6, 2)) mi_39 dm_73_15 (Or.inl wm_307) wm_249 wm_250 rfl rfl (by decide +kernel) rfl (by decide +kernel) (by decide +kernel), (vx_none rfl)⟩))
set_option maxRecDepth 100000 in
theorem vv_73_18 {l : Launch} (hl : l.stackTraces = false) : cj_V1 l 73 18 (40, 91, 0, []) 21 := Or.inl ⟨by decide +kernel, ok_icmp_ge dm_73_18 (by decide +kernel)⟩
set_option maxRecDepth 100000 in
theorem vv_73_21 {l : Launch} (hl : l.stackTraces = false) : cj_V1 l 73 21 (3, 1, 0, []) 22 := Or.inl ⟨by decide +kernel, ok_aload_n dm_73_21 rfl⟩
set_option maxRecDepth 100000 in
theorem vv_73_22 {l : Launch} (hl : l.stackTraces = false) : cj_V1 l 73 22 (2, 4, 0, []) 24 := Or.inl ⟨by decide +kernel, ok_iload dm_73_22⟩
set_option maxRecDepth 100000 in
theorem vv_73_24 {l : Launch} (hl : l.stackTraces = false) : cj_V1 l 73 24 (80, 36, 2, [6]) 27 := Or.inr (Or.inr (Or.inl ⟨by decide +kernel, by decide +kernel, rfl, vc_virtual (n := 1) (q := (RK_6, TK_6, 2)) mi_36 dm_73_24 (Or.inl wm_308) wm_253 wm_254 rfl rfl (by decide +kernel) rfl (by decide +kernel) (by decide +kernel), (vx_none rfl)⟩))
set_option maxRecDepth 100000 in
theorem vv_73_27 {l : Launch} (hl : l.stackTraces = false) : cj_V1 l 73 27 (4, 5, 0, []) 29 := Or.inl ⟨by decide +kernel, ok_istore dm_73_27⟩
set_option maxRecDepth 100000 in
theorem vv_73_29 {l : Launch} (hl : l.stackTraces = false) : cj_V1 l 73 29 (2, 5, 0, []) 31 := Or.inl ⟨by decide +kernel, ok_iload dm_73_29⟩
set_option maxRecDepth 100000 in
theorem vv_73_31 {l : Launch} (hl : l.stackTraces = false) : cj_V1 l 73 31 (0, 32, 0, []) 33 := Or.inl ⟨by decide +kernel, ok_bipush dm_73_31 (by decide +kernel)⟩
set_option maxRecDepth 100000 in
theorem vv_73_33 {l : Launch} (hl : l.stackTraces = false) : cj_V1 l 73 33 (37, 74, 0, []) 36 := Or.inl ⟨by decide +kernel, ok_icmp_eq dm_73_33 (by decide +kernel)⟩
set_option maxRecDepth 100000 in
theorem vv_73_36 {l : Launch} (hl : l.stackTraces = false) : cj_V1 l 73 36 (2, 3, 0, []) 37 := Or.inl ⟨by decide +kernel, ok_iload_n dm_73_36 rfl⟩
set_option maxRecDepth 100000 in
theorem vv_73_37 {l : Launch} (hl : l.stackTraces = false) : cj_V1 l 73 37 (32, 59, 0, []) 40 := Or.inl ⟨by decide +kernel, ok_if_ne dm_73_37 (by decide +kernel)⟩
set_option maxRecDepth 100000 in
theorem vv_73_40 {l : Launch} (hl : l.stackTraces = false) : cj_V1 l 73 40 (3, 0, 0, []) 41 := Or.inl ⟨by decide +kernel, ok_aload_n dm_73_40 rfl⟩
set_option maxRecDepth 100000 in
theorem vv_73_41 {l : Launch} (hl : l.stackTraces = false) : cj_V1 l 73 41 (50, 1, 0, []) 44 := Or.inl ⟨by decide +kernel, ok_getfield (N := 4) (C := RK_1) (T := TK_1) dm_73_41 rfl inK_1 (by decide +kernel) wm_133⟩
set_option maxRecDepth 100000 in
theorem vv_73_44 {l : Launch} (hl : l.stackTraces = false) : cj_V1 l 73 44 (80, 39, 1, [6]) 47 := Or.inr (Or.inr (Or.inl ⟨by decide +kernel, by decide +kernel, rfl, vc_virtual (n := 0) (q := (RK_6, TK_6, 2)) mi_39 dm_73_44 (Or.inl wm_307) wm_249 wm_250 rfl rfl (by decide +kernel) rfl (by decide +kernel) (by decide +kernel), (vx_none rfl)⟩))
set_option maxRecDepth 100000 in
theorem vv_73_47 {l : Launch} (hl : l.stackTraces = false) : cj_V1 l 73 47 (36, 59, 0, []) 50 := Or.inl ⟨by decide +kernel, ok_if_le dm_73_47 (by decide +kernel)⟩
set_option maxRecDepth 100000 in
theorem vv_73_50 {l : Launch} (hl : l.stackTraces = false) : cj_V1 l 73 50 (3, 0, 0, []) 51 := Or.inl ⟨by decide +kernel, ok_aload_n dm_73_50 rfl⟩
set_option maxRecDepth 100000 in
theorem vv_73_51 {l : Launch} (hl : l.stackTraces = false) : cj_V1 l 73 51 (50, 1, 0, []) 54 := Or.inl ⟨by decide +kernel, ok_getfield (N := 4) (C := RK_1) (T := TK_1) dm_73_51 rfl inK_1 (by decide +kernel) wm_133⟩
set_option maxRecDepth 100000 in
theorem vv_73_54 {l : Launch} (hl : l.stackTraces = false) : cj_V1 l 73 54 (0, 32, 0, []) 56 := Or.inl ⟨by decide +kernel, ok_bipush dm_73_54 (by decide +kernel)⟩
set_option maxRecDepth 100000 in
theorem vv_73_56 {l : Launch} (hl : l.stackTraces = false) : cj_V1 l 73 56 (80, 35, 2, [6]) 59 := Or.inr (Or.inr (Or.inl ⟨by decide +kernel, by decide +kernel, rfl, vc_virtual (n := 1) (q := (RK_6, TK_6, 2)) mi_35 dm_73_56 (Or.inl wm_309) wm_279 wm_280 rfl rfl (by decide +kernel) rfl (by decide +kernel) (by decide +kernel), (vx_none rfl)⟩))
set_option maxRecDepth 100000 in
theorem vv_73_59 {l : Launch} (hl : l.stackTraces = false) : cj_V1 l 73 59 (3, 0, 0, []) 60 := Or.inl ⟨by decide +kernel, ok_aload_n dm_73_59 rfl⟩
set_option maxRecDepth 100000 in
theorem vv_73_60 {l : Launch} (hl : l.stackTraces = false) : cj_V1 l 73 60 (50, 1, 0, []) 63 := Or.inl ⟨by decide +kernel, ok_getfield (N := 4) (C := RK_1) (T := TK_1) dm_73_60 rfl inK_1 (by decide +kernel) wm_133⟩
set_option maxRecDepth 100000 in
theorem vv_73_63 {l : Launch} (hl : l.stackTraces = false) : cj_V1 l 73 63 (2, 5, 0, []) 65 := Or.inl ⟨by decide +kernel, ok_iload dm_73_63⟩
set_option maxRecDepth 100000 in
theorem vv_73_65 {l : Launch} (hl : l.stackTraces = false) : cj_V1 l 73 65 (80, 35, 2, [6]) 68 := Or.inr (Or.inr (Or.inl ⟨by decide +kernel, by decide +kernel, rfl, vc_virtual (n := 1) (q := (RK_6, TK_6, 2)) mi_35 dm_73_65 (Or.inl wm_309) wm_279 wm_280 rfl rfl (by decide +kernel) rfl (by decide +kernel) (by decide +kernel), (vx_none rfl)⟩))
set_option maxRecDepth 100000 in
theorem vv_73_68 {l : Launch} (hl : l.stackTraces = false) : cj_V1 l 73 68 (6, 3, 1, []) 71 := Or.inl ⟨by decide +kernel, ok_iinc6 dm_73_68 (by decide +kernel)⟩
set_option maxRecDepth 100000 in
theorem vv_73_71 {l : Launch} (hl : l.stackTraces = false) : cj_V1 l 73 71 (30, 85, 0, []) 74 := Or.inl ⟨by decide +kernel, ok_goto dm_73_71 (by decide +kernel)⟩
set_option maxRecDepth 100000 in
theorem vv_73_74 {l : Launch} (hl : l.stackTraces = false) : cj_V1 l 73 74 (2, 3, 0, []) 75 := Or.inl ⟨by decide +kernel, ok_iload_n dm_73_74 rfl⟩
set_option maxRecDepth 100000 in
theorem vv_73_75 {l : Launch} (hl : l.stackTraces = false) : cj_V1 l 73 75 (36, 85, 0, []) 78 := Or.inl ⟨by decide +kernel, ok_if_le dm_73_75 (by decide +kernel)⟩
set_option maxRecDepth 100000 in
theorem vv_73_78 {l : Launch} (hl : l.stackTraces = false) : cj_V1 l 73 78 (3, 2, 0, []) 79 := Or.inl ⟨by decide +kernel, ok_aload_n dm_73_78 rfl⟩
set_option maxRecDepth 100000 in
theorem vv_73_79 {l : Launch} (hl : l.stackTraces = false) : cj_V1 l 73 79 (2, 3, 0, []) 80 := Or.inl ⟨by decide +kernel, ok_iload_n dm_73_79 rfl⟩
set_option maxRecDepth 100000 in
theorem vv_73_80 {l : Launch} (hl : l.stackTraces = false) : cj_V1 l 73 80 (80, 17, 2, [3]) 83 := Or.inr (Or.inr (Or.inl ⟨by decide +kernel, by decide +kernel, rfl, vc_virtual (n := 1) (q := (RK_3, TK_3, 6)) mi_17 dm_73_80 (Or.inl wm_310) wm_311 wm_312 rfl rfl (by decide +kernel) rfl (by decide +kernel) (by decide +kernel), (vx_none rfl)⟩))
set_option maxRecDepth 100000 in
theorem vv_73_83 {l : Launch} (hl : l.stackTraces = false) : cj_V1 l 73 83 (0, 0, 0, []) 84 := Or.inl ⟨by decide +kernel, ok_iconst dm_73_83 (by decide +kernel)⟩
set_option maxRecDepth 100000 in
theorem vv_73_84 {l : Launch} (hl : l.stackTraces = false) : cj_V1 l 73 84 (4, 3, 0, []) 85 := Or.inl ⟨by decide +kernel, ok_istore_n dm_73_84 rfl⟩
set_option maxRecDepth 100000 in
theorem vv_73_85 {l : Launch} (hl : l.stackTraces = false) : cj_V1 l 73 85 (6, 4, 1, []) 88 := Or.inl ⟨by decide +kernel, ok_iinc6 dm_73_85 (by decide +kernel)⟩
set_option maxRecDepth 100000 in
theorem vv_73_88 {l : Launch} (hl : l.stackTraces = false) : cj_V1 l 73 88 (30, 12, 0, []) 91 := Or.inl ⟨by decide +kernel, ok_goto dm_73_88 (by decide +kernel)⟩
set_option maxRecDepth 100000 in
theorem vv_73_91 {l : Launch} (hl : l.stackTraces = false) : cj_V1 l 73 91 (2, 3, 0, []) 92 := Or.inl ⟨by decide +kernel, ok_iload_n dm_73_91 rfl⟩
set_option maxRecDepth 100000 in
theorem vv_73_92 {l : Launch} (hl : l.stackTraces = false) : cj_V1 l 73 92 (36, 100, 0, []) 95 := Or.inl ⟨by decide +kernel, ok_if_le dm_73_92 (by decide +kernel)⟩
set_option maxRecDepth 100000 in
theorem vv_73_95 {l : Launch} (hl : l.stackTraces = false) : cj_V1 l 73 95 (3, 2, 0, []) 96 := Or.inl ⟨by decide +kernel, ok_aload_n dm_73_95 rfl⟩
set_option maxRecDepth 100000 in
theorem vv_73_96 {l : Launch} (hl : l.stackTraces = false) : cj_V1 l 73 96 (2, 3, 0, []) 97 := Or.inl ⟨by decide +kernel, ok_iload_n dm_73_96 rfl⟩
set_option maxRecDepth 100000 in
theorem vv_73_97 {l : Launch} (hl : l.stackTraces = false) : cj_V1 l 73 97 (80, 17, 2, [3]) 100 := Or.inr (Or.inr (Or.inl ⟨by decide +kernel, by decide +kernel, rfl, vc_virtual (n := 1) (q := (RK_3, TK_3, 6)) mi_17 dm_73_97 (Or.inl wm_310) wm_311 wm_312 rfl rfl (by decide +kernel) rfl (by decide +kernel) (by decide +kernel), (vx_none rfl)⟩))
set_option maxRecDepth 100000 in
theorem vv_73_100 {l : Launch} (hl : l.stackTraces = false) : cj_V1 l 73 100 (91, 0, 0, []) 101 := Or.inr (Or.inl ⟨by decide +kernel, Or.inl (Or.inr (Or.inl ⟨rfl, dm_73_100, rfl⟩))⟩)
set_option maxRecDepth 100000 in
theorem vm_73 {l : Launch} (hl : l.stackTraces = false) : cj_Vm l 73 := cj_Vm_of (r := kc73_) rfl ⟨vv_73_0 hl, vv_73_1 hl, vv_73_4 hl, vv_73_7 hl, vv_73_8 hl, vv_73_9 hl, vv_73_10 hl, vv_73_12 hl, vv_73_14 hl, vv_73_15 hl, vv_73_18 hl, vv_73_21 hl, vv_73_22 hl, vv_73_24 hl, vv_73_27 hl, vv_73_29 hl, vv_73_31 hl, vv_73_33 hl, vv_73_36 hl, vv_73_37 hl, vv_73_40 hl, vv_73_41 hl, vv_73_44 hl, vv_73_47 hl, vv_73_50 hl, vv_73_51 hl, vv_73_54 hl, vv_73_56 hl, vv_73_59 hl, vv_73_60 hl, vv_73_63 hl, vv_73_65 hl, vv_73_68 hl, vv_73_71 hl, vv_73_74 hl, vv_73_75 hl, vv_73_78 hl, vv_73_79 hl, vv_73_80 hl, vv_73_83 hl, vv_73_84 hl, vv_73_85 hl, vv_73_88 hl, vv_73_91 hl, vv_73_92 hl, vv_73_95 hl, vv_73_96 hl, vv_73_97 hl, vv_73_100 hl, trivial⟩
set_option maxRecDepth 100000 in
theorem vv_74_0 {l : Launch} (hl : l.stackTraces = false) : cj_V1 l 74 0 (3, 0, 0, []) 1 := Or.inl ⟨by decide +kernel, ok_aload_n dm_74_0 rfl⟩
set_option maxRecDepth 100000 in
theorem vv_74_1 {l : Launch} (hl : l.stackTraces = false) : cj_V1 l 74 1 (83, 0, 0, []) 4 := Or.inl ⟨by decide +kernel, ok_objInit dm_74_1 wm_52 wm_22 wm_23 (by decide +kernel) (by decide +kernel)⟩
set_option maxRecDepth 100000 in
theorem vv_74_4 {l : Launch} (hl : l.stackTraces = false) : cj_V1 l 74 4 (3, 0, 0, []) 5 := Or.inl ⟨by decide +kernel, ok_aload_n dm_74_4 rfl⟩
set_option maxRecDepth 100000 in
theorem vv_74_5 {l : Launch} (hl : l.stackTraces = false) : cj_V1 l 74 5 (0, 4, 0, []) 6 := Or.inl ⟨by decide +kernel, ok_iconst dm_74_5 (by decide +kernel)⟩
set_option maxRecDepth 100000 in
theorem vv_74_6 {l : Launch} (hl : l.stackTraces = false) : cj_V1 l 74 6 (73, 3, 0, []) 9 := Or.inl ⟨by decide +kernel, ok_anewarray (C := "CatalogueSet$Signs") dm_74_6 wm_53 wm_45 rfl⟩
set_option maxRecDepth 100000 in
theorem vv_74_9 {l : Launch} (hl : l.stackTraces = false) : cj_V1 l 74 9 (51, 2, 0, [2]) 12 := Or.inl ⟨by decide +kernel, ok_putfield (N := 4) (C := RK_2) (T := TK_2) (ty0 := tyK_2) dm_74_9 rfl inK_2 (by decide +kernel) wm_55 tyK_2_ok nmK_2 (Or.inr ⟨rfl, rfl, rfl⟩) (Or.inr (Or.inr (Or.inl ⟨rfl, Or.inr ⟨_, rfl⟩⟩)))⟩
set_option maxRecDepth 100000 in
theorem vv_74_12 {l : Launch} (hl : l.stackTraces = false) : cj_V1 l 74 12 (3, 0, 0, []) 13 := Or.inl ⟨by decide +kernel, ok_aload_n dm_74_12 rfl⟩
set_option maxRecDepth 100000 in
theorem vv_74_13 {l : Launch} (hl : l.stackTraces = false) : cj_V1 l 74 13 (0, 4, 0, []) 14 := Or.inl ⟨by decide +kernel, ok_iconst dm_74_13 (by decide +kernel)⟩
set_option maxRecDepth 100000 in
theorem vv_74_14 {l : Launch} (hl : l.stackTraces = false) : cj_V1 l 74 14 (71, 0, 0, []) 16 := Or.inl ⟨by decide +kernel, ok_newarray (ty := .int) (x := (.inl (fun _ => 0))) dm_74_14 rfl rfl wm_68 (fun _ _ => rfl) (fun _ _ => trivial) (by decide +kernel) rfl (fun _ _ _ _ => rfl)⟩
set_option maxRecDepth 100000 in
theorem vv_74_16 {l : Launch} (hl : l.stackTraces = false) : cj_V1 l 74 16 (51, 2, 1, [2]) 19 := Or.inl ⟨by decide +kernel, ok_putfield (N := 4) (C := RK_2) (T := TK_2) (ty0 := tyK_2) dm_74_16 rfl inK_2 (by decide +kernel) wm_56 tyK_2_ok nmK_2 (Or.inr ⟨rfl, rfl, rfl⟩) (Or.inr (Or.inr (Or.inl ⟨rfl, Or.inr ⟨_, rfl⟩⟩)))⟩
set_option maxRecDepth 100000 in
theorem vv_74_19 {l : Launch} (hl : l.stackTraces = false) : cj_V1 l 74 19 (3, 0, 0, []) 20 := Or.inl ⟨by decide +kernel, ok_aload_n dm_74_19 rfl⟩
set_option maxRecDepth 100000 in
theorem vv_74_20 {l : Launch} (hl : l.stackTraces = false) : cj_V1 l 74 20 (70, 6, 2, [2, 0]) 23 := Or.inl ⟨by decide +kernel, ok_new (N := 2) (C := RK_6) (T := TK_6) (ty0 := tyK_6) dm_74_20 rfl inK_6 wm_53 wm_31 wm_3 rfl rfl tyK_6_ok (by decide +kernel)⟩
set_option maxRecDepth 100000 in
theorem vv_74_23 {l : Launch} (hl : l.stackTraces = false) : cj_V1 l 74 23 (25, 0, 0, []) 24 := Or.inl ⟨by decide +kernel, ok_dup dm_74_23⟩
set_option maxRecDepth 100000 in
theorem vv_74_24 {l : Launch} (hl : l.stackTraces = false) : cj_V1 l 74 24 (0, 0, 0, []) 25 := Or.inl ⟨by decide +kernel, ok_iconst dm_74_24 (by decide +kernel)⟩
set_option maxRecDepth 100000 in
theorem vv_74_25 {l : Launch} (hl : l.stackTraces = false) : cj_V1 l 74 25 (82, 34, 2, []) 28 := Or.inr (Or.inr (Or.inl ⟨by decide +kernel, by decide +kernel, rfl, vc_special (n := 1) mi_34 rfl rfl dm_74_25 (Or.inl wm_54) wm_33 (by decide +kernel) rfl (by decide +kernel) (by decide +kernel), (vx_none rfl)⟩))
set_option maxRecDepth 100000 in
theorem vv_74_28 {l : Launch} (hl : l.stackTraces = false) : cj_V1 l 74 28 (51, 2, 2, [2]) 31 := Or.inl ⟨by decide +kernel, ok_putfield (N := 4) (C := RK_2) (T := TK_2) (ty0 := tyK_2) dm_74_28 rfl inK_2 (by decide +kernel) wm_57 tyK_2_ok nmK_2 (Or.inl rfl) (Or.inr (Or.inr (Or.inl ⟨rfl, Or.inl ⟨_, rfl⟩⟩)))⟩
set_option maxRecDepth 100000 in
theorem vv_74_31 {l : Launch} (hl : l.stackTraces = false) : cj_V1 l 74 31 (0, 0, 0, []) 32 := Or.inl ⟨by decide +kernel, ok_iconst dm_74_31 (by decide +kernel)⟩
set_option maxRecDepth 100000 in
theorem vv_74_32 {l : Launch} (hl : l.stackTraces = false) : cj_V1 l 74 32 (4, 1, 0, []) 33 := Or.inl ⟨by decide +kernel, ok_istore_n dm_74_32 rfl⟩
set_option maxRecDepth 100000 in
theorem vv_74_33 {l : Launch} (hl : l.stackTraces = false) : cj_V1 l 74 33 (2, 1, 0, []) 34 := Or.inl ⟨by decide +kernel, ok_iload_n dm_74_33 rfl⟩
set_option maxRecDepth 100000 in
theorem vv_74_34 {l : Launch} (hl : l.stackTraces = false) : cj_V1 l 74 34 (0, 4, 0, []) 35 := Or.inl ⟨by decide +kernel, ok_iconst dm_74_34 (by decide +kernel)⟩
set_option maxRecDepth 100000 in
theorem vv_74_35 {l : Launch} (hl : l.stackTraces = false) : cj_V1 l 74 35 (40, 59, 0, []) 38 := Or.inl ⟨by decide +kernel, ok_icmp_ge dm_74_35 (by decide +kernel)⟩
set_option maxRecDepth 100000 in
theorem vv_74_38 {l : Launch} (hl : l.stackTraces = false) : cj_V1 l 74 38 (3, 0, 0, []) 39 := Or.inl ⟨by decide +kernel, ok_aload_n dm_74_38 rfl⟩
set_option maxRecDepth 100000 in
theorem vv_74_39 {l : Launch} (hl : l.stackTraces = false) : cj_V1 l 74 39 (50, 2, 0, []) 42 := Or.inl ⟨by decide +kernel, ok_getfield (N := 4) (C := RK_2) (T := TK_2) dm_74_39 rfl inK_2 (by decide +kernel) wm_55⟩
set_option maxRecDepth 100000 in
theorem vv_74_42 {l : Launch} (hl : l.stackTraces = false) : cj_V1 l 74 42 (2, 1, 0, []) 43 := Or.inl ⟨by decide +kernel, ok_iload_n dm_74_42 rfl⟩
set_option maxRecDepth 100000 in
theorem vv_74_43 {l : Launch} (hl : l.stackTraces = false) : cj_V1 l 74 43 (70, 6, 2, [2, 0]) 46 := Or.inl ⟨by decide +kernel, ok_new (N := 2) (C := RK_6) (T := TK_6) (ty0 := tyK_6) dm_74_43 rfl inK_6 wm_53 wm_31 wm_3 rfl rfl tyK_6_ok (by decide +kernel)⟩
set_option maxRecDepth 100000 in
theorem vv_74_46 {l : Launch} (hl : l.stackTraces = false) : cj_V1 l 74 46 (25, 0, 0, []) 47 := Or.inl ⟨by decide +kernel, ok_dup dm_74_46⟩
set_option maxRecDepth 100000 in
theorem vv_74_47 {l : Launch} (hl : l.stackTraces = false) : cj_V1 l 74 47 (0, 32, 0, []) 49 := Or.inl ⟨by decide +kernel, ok_bipush dm_74_47 (by decide +kernel)⟩
set_option maxRecDepth 100000 in
theorem vv_74_49 {l : Launch} (hl : l.stackTraces = false) : cj_V1 l 74 49 (82, 34, 2, []) 52 := Or.inr (Or.inr (Or.inl ⟨by decide +kernel, by decide +kernel, rfl, vc_special (n := 1) mi_34 rfl rfl dm_74_49 (Or.inl wm_54) wm_33 (by decide +kernel) rfl (by decide +kernel) (by decide +kernel), (vx_none rfl)⟩))
set_option maxRecDepth 100000 in
theorem vv_74_52 {l : Launch} (hl : l.stackTraces = false) : cj_V1 l 74 52 (60, 6, 3, []) 53 := Or.inl ⟨by decide +kernel, ok_aastore (q1 := (RK_6, TK_6, 2)) dm_74_52 rfl rfl⟩
set_option maxRecDepth 100000 in
theorem vv_74_53 {l : Launch} (hl : l.stackTraces = false) : cj_V1 l 74 53 (6, 1, 1, []) 56 := Or.inl ⟨by decide +kernel, ok_iinc6 dm_74_53 (by decide +kernel)⟩
set_option maxRecDepth 100000 in
theorem vv_74_56 {l : Launch} (hl : l.stackTraces = false) : cj_V1 l 74 56 (30, 33, 0, []) 59 := Or.inl ⟨by decide +kernel, ok_goto dm_74_56 (by decide +kernel)⟩
set_option maxRecDepth 100000 in
theorem vv_74_59 {l : Launch} (hl : l.stackTraces = false) : cj_V1 l 74 59 (0, 0, 0, []) 60 := Or.inl ⟨by decide +kernel, ok_iconst dm_74_59 (by decide +kernel)⟩
set_option maxRecDepth 100000 in
theorem vv_74_60 {l : Launch} (hl : l.stackTraces = false) : cj_V1 l 74 60 (4, 1, 0, []) 61 := Or.inl ⟨by decide +kernel, ok_istore_n dm_74_60 rfl⟩
set_option maxRecDepth 100000 in
theorem vv_74_61 {l : Launch} (hl : l.stackTraces = false) : cj_V1 l 74 61 (2, 1, 0, []) 62 := Or.inl ⟨by decide +kernel, ok_iload_n dm_74_61 rfl⟩
set_option maxRecDepth 100000 in
theorem vv_74_62 {l : Launch} (hl : l.stackTraces = false) : cj_V1 l 74 62 (0, 4, 0, []) 63 := Or.inl ⟨by decide +kernel, ok_iconst dm_74_62 (by decide +kernel)⟩
set_option maxRecDepth 100000 in
theorem vv_74_63 {l : Launch} (hl : l.stackTraces = false) : cj_V1 l 74 63 (40, 79, 0, []) 66 := Or.inl ⟨by decide +kernel, ok_icmp_ge dm_74_63 (by decide +kernel)⟩
set_option maxRecDepth 100000 in
theorem vv_74_66 {l : Launch} (hl : l.stackTraces = false) : cj_V1 l 74 66 (3, 0, 0, []) 67 := Or.inl ⟨by decide +kernel, ok_aload_n dm_74_66 rfl⟩
set_option maxRecDepth 100000 in
theorem vv_74_67 {l : Launch} (hl : l.stackTraces = false) : cj_V1 l 74 67 (50, 2, 1, []) 70 := Or.inl ⟨by decide +kernel, ok_getfield (N := 4) (C := RK_2) (T := TK_2) dm_74_67 rfl inK_2 (by decide +kernel) wm_56⟩
set_option maxRecDepth 100000 in
theorem vv_74_70 {l : Launch} (hl : l.stackTraces = false) : cj_V1 l 74 70 (2, 1, 0, []) 71 := Or.inl ⟨by decide +kernel, ok_iload_n dm_74_70 rfl⟩
set_option maxRecDepth 100000 in
theorem vv_74_71 {l : Launch} (hl : l.stackTraces = false) : cj_V1 l 74 71 (1, 1, 0, []) 72 := Or.inl ⟨by decide +kernel, ok_iconst_m dm_74_71 (by decide +kernel)⟩
set_option maxRecDepth 100000 in
theorem vv_74_72 {l : Launch} (hl : l.stackTraces = false) : cj_V1 l 74 72 (56, 0, 0, []) 73 := Or.inl ⟨by decide +kernel, ok_iastore dm_74_72 rfl⟩
set_option maxRecDepth 100000 in
theorem vv_74_73 {l : Launch} (hl : l.stackTraces = false) : cj_V1 l 74 73 (6, 1, 1, []) 76 := Or.inl ⟨by decide +kernel, ok_iinc6 dm_74_73 (by decide +kernel)⟩
set_option maxRecDepth 100000 in
theorem vv_74_76 {l : Launch} (hl : l.stackTraces = false) : cj_V1 l 74 76 (30, 61, 0, []) 79 := Or.inl ⟨by decide +kernel, ok_goto dm_74_76 (by decide +kernel)⟩
set_option maxRecDepth 100000 in
theorem vv_74_79 {l : Launch} (hl : l.stackTraces = false) : cj_V1 l 74 79 (91, 0, 0, []) 80 := Or.inr (Or.inl ⟨by decide +kernel, Or.inl (Or.inr (Or.inl ⟨rfl, dm_74_79, rfl⟩))⟩)
set_option maxRecDepth 100000 in
theorem vm_74 {l : Launch} (hl : l.stackTraces = false) : cj_Vm l 74 := cj_Vm_of (r := kc74_) rfl ⟨vv_74_0 hl, vv_74_1 hl, vv_74_4 hl, vv_74_5 hl, vv_74_6 hl, vv_74_9 hl, vv_74_12 hl, vv_74_13 hl, vv_74_14 hl, vv_74_16 hl, vv_74_19 hl, vv_74_20 hl, vv_74_23 hl, vv_74_24 hl, vv_74_25 hl, vv_74_28 hl, vv_74_31 hl, vv_74_32 hl, vv_74_33 hl, vv_74_34 hl, vv_74_35 hl, vv_74_38 hl, vv_74_39 hl, vv_74_42 hl, vv_74_43 hl, vv_74_46 hl, vv_74_47 hl, vv_74_49 hl, vv_74_52 hl, vv_74_53 hl, vv_74_56 hl, vv_74_59 hl, vv_74_60 hl, vv_74_61 hl, vv_74_62 hl, vv_74_63 hl, vv_74_66 hl, vv_74_67 hl, vv_74_70 hl, vv_74_71 hl, vv_74_72 hl, vv_74_73 hl, vv_74_76 hl, vv_74_79 hl, trivial⟩
set_option maxRecDepth 100000 in
theorem vv_75_0 {l : Launch} (hl : l.stackTraces = false) : cj_V1 l 75 0 (2, 1, 0, []) 1 := Or.inl ⟨by decide +kernel, ok_iload_n dm_75_0 rfl⟩
set_option maxRecDepth 100000 in
theorem vv_75_1 {l : Launch} (hl : l.stackTraces = false) : cj_V1 l 75 1 (4, 2, 0, []) 2 := Or.inl ⟨by decide +kernel, ok_istore_n dm_75_1 rfl⟩
set_option maxRecDepth 100000 in
theorem vv_75_2 {l : Launch} (hl : l.stackTraces = false) : cj_V1 l 75 2 (2, 2, 0, []) 3 := Or.inl ⟨by decide +kernel, ok_iload_n dm_75_2 rfl⟩
set_option maxRecDepth 100000 in
theorem vv_75_3 {l : Launch} (hl : l.stackTraces = false) : cj_V1 l 75 3 (3, 0, 0, []) 4 := Or.inl ⟨by decide +kernel, ok_aload_n dm_75_3 rfl⟩
set_option maxRecDepth 100000 in
theorem vv_75_4 {l : Launch} (hl : l.stackTraces = false) : cj_V1 l 75 4 (50, 2, 2, []) 7 := Or.inl ⟨by decide +kernel, ok_getfield (N := 4) (C := RK_2) (T := TK_2) dm_75_4 rfl inK_2 (by decide +kernel) wm_57⟩
set_option maxRecDepth 100000 in
theorem vv_75_7 {l : Launch} (hl : l.stackTraces = false) : cj_V1 l 75 7 (80, 39, 1, [6]) 10 := Or.inr (Or.inr (Or.inl ⟨by decide +kernel, by decide +kernel, rfl, vc_virtual (n := 0) (q := (RK_6, TK_6, 2)) mi_39 dm_75_7 (Or.inl wm_248) wm_249 wm_250 rfl rfl (by decide +kernel) rfl (by decide +kernel) (by decide +kernel), (vx_none rfl)⟩))
set_option maxRecDepth 100000 in
theorem vv_75_10 {l : Launch} (hl : l.stackTraces = false) : cj_V1 l 75 10 (40, 34, 0, []) 13 := Or.inl ⟨by decide +kernel, ok_icmp_ge dm_75_10 (by decide +kernel)⟩
set_option maxRecDepth 100000 in
theorem vv_75_13 {l : Launch} (hl : l.stackTraces = false) : cj_V1 l 75 13 (3, 0, 0, []) 14 := Or.inl ⟨by decide +kernel, ok_aload_n dm_75_13 rfl⟩
set_option maxRecDepth 100000 in
theorem vv_75_14 {l : Launch} (hl : l.stackTraces = false) : cj_V1 l 75 14 (50, 2, 2, []) 17 := Or.inl ⟨by decide +kernel, ok_getfield (N := 4) (C := RK_2) (T := TK_2) dm_75_14 rfl inK_2 (by decide +kernel) wm_57⟩
set_option maxRecDepth 100000 in
theorem vv_75_17 {l : Launch} (hl : l.stackTraces = false) : cj_V1 l 75 17 (2, 2, 0, []) 18 := Or.inl ⟨by decide +kernel, ok_iload_n dm_75_17 rfl⟩
set_option maxRecDepth 100000 in
theorem vv_75_18 {l : Launch} (hl : l.stackTraces = false) : cj_V1 l 75 18 (80, 36, 2, [6]) 21 := Or.inr (Or.inr (Or.inl ⟨by decide +kernel, by decide +kernel, rfl, vc_virtual (n := 1) (q := (RK_6, TK_6, 2)) mi_36 dm_75_18 (Or.inl wm_252) wm_253 wm_254 rfl rfl (by decide +kernel) rfl (by decide +kernel) (by decide +kernel), (vx_none rfl)⟩))
set_option maxRecDepth 100000 in
theorem vv_75_21 {l : Launch} (hl : l.stackTraces = false) : cj_V1 l 75 21 (0, 93, 0, []) 23 := Or.inl ⟨by decide +kernel, ok_bipush dm_75_21 (by decide +kernel)⟩
set_option maxRecDepth 100000 in
theorem vv_75_23 {l : Launch} (hl : l.stackTraces = false) : cj_V1 l 75 23 (38, 28, 0, []) 26 := Or.inl ⟨by decide +kernel, ok_icmp_ne dm_75_23 (by decide +kernel)⟩
set_option maxRecDepth 100000 in
theorem vv_75_26 {l : Launch} (hl : l.stackTraces = false) : cj_V1 l 75 26 (2, 2, 0, []) 27 := Or.inl ⟨by decide +kernel, ok_iload_n dm_75_26 rfl⟩
set_option maxRecDepth 100000 in
theorem vv_75_27 {l : Launch} (hl : l.stackTraces = false) : cj_V1 l 75 27 (90, 0, 0, []) 28 := Or.inr (Or.inl ⟨by decide +kernel, Or.inl (Or.inl ⟨rfl, dm_75_27, rfl⟩)⟩)
set_option maxRecDepth 100000 in
theorem vv_75_28 {l : Launch} (hl : l.stackTraces = false) : cj_V1 l 75 28 (6, 2, 1, []) 31 := Or.inl ⟨by decide +kernel, ok_iinc6 dm_75_28 (by decide +kernel)⟩
set_option maxRecDepth 100000 in
theorem vv_75_31 {l : Launch} (hl : l.stackTraces = false) : cj_V1 l 75 31 (30, 2, 0, []) 34 := Or.inl ⟨by decide +kernel, ok_goto dm_75_31 (by decide +kernel)⟩
set_option maxRecDepth 100000 in
theorem vv_75_34 {l : Launch} (hl : l.stackTraces = false) : cj_V1 l 75 34 (3, 0, 0, []) 35 := Or.inl ⟨by decide +kernel, ok_aload_n dm_75_34 rfl⟩
set_option maxRecDepth 100000 in
theorem vv_75_35 {l : Launch} (hl : l.stackTraces = false) : cj_V1 l 75 35 (50, 2, 2, []) 38 := Or.inl ⟨by decide +kernel, ok_getfield (N := 4) (C := RK_2) (T := TK_2) dm_75_35 rfl inK_2 (by decide +kernel) wm_57⟩
set_option maxRecDepth 100000 in
theorem vv_75_38 {l : Launch} (hl : l.stackTraces = false) : cj_V1 l 75 38 (80, 39, 1, [6]) 41 := Or.inr (Or.inr (Or.inl ⟨by decide +kernel, by decide +kernel, rfl, vc_virtual (n := 0) (q := (RK_6, TK_6, 2)) mi_39 dm_75_38 (Or.inl wm_248) wm_249 wm_250 rfl rfl (by decide +kernel) rfl (by decide +kernel) (by decide +kernel), (vx_none rfl)⟩))
set_option maxRecDepth 100000 in
theorem vv_75_41 {l : Launch} (hl : l.stackTraces = false) : cj_V1 l 75 41 (90, 0, 0, []) 42 := Or.inr (Or.inl ⟨by decide +kernel, Or.inl (Or.inl ⟨rfl, dm_75_41, rfl⟩)⟩)
set_option maxRecDepth 100000 in
theorem vm_75 {l : Launch} (hl : l.stackTraces = false) : cj_Vm l 75 := cj_Vm_of (r := kc75_) rfl ⟨vv_75_0 hl, vv_75_1 hl, vv_75_2 hl, vv_75_3 hl, vv_75_4 hl, vv_75_7 hl, vv_75_10 hl, vv_75_13 hl, vv_75_14 hl, vv_75_17 hl, vv_75_18 hl, vv_75_21 hl, vv_75_23 hl, vv_75_26 hl, vv_75_27 hl, vv_75_28 hl, vv_75_31 hl, vv_75_34 hl, vv_75_35 hl, vv_75_38 hl, vv_75_41 hl, trivial⟩
set_option maxRecDepth 100000 in
theorem vv_76_0 {l : Launch} (hl : l.stackTraces = false) : cj_V1 l 76 0 (2, 1, 0, []) 1 := Or.inl ⟨by decide +kernel, ok_iload_n dm_76_0 rfl⟩
set_option maxRecDepth 100000 in
theorem vv_76_1 {l : Launch} (hl : l.stackTraces = false) : cj_V1 l 76 1 (0, 100, 0, []) 3 := Or.inl ⟨by decide +kernel, ok_bipush dm_76_1 (by decide +kernel)⟩
set_option maxRecDepth 100000 in
theorem vv_76_3 {l : Launch} (hl : l.stackTraces = false) : cj_V1 l 76 3 (39, 20, 0, []) 6 := Or.inl ⟨by decide +kernel, ok_icmp_lt dm_76_3 (by decide +kernel)⟩
set_option maxRecDepth 100000 in
theorem vv_76_6 {l : Launch} (hl : l.stackTraces = false) : cj_V1 l 76 6 (3, 0, 0, []) 7 := Or.inl ⟨by decide +kernel, ok_aload_n dm_76_6 rfl⟩
set_option maxRecDepth 100000 in
theorem vv_76_7 {l : Launch} (hl : l.stackTraces = false) : cj_V1 l 76 7 (0, 48, 0, []) 9 := Or.inl ⟨by decide +kernel, ok_bipush dm_76_7 (by decide +kernel)⟩
set_option maxRecDepth 100000 in
theorem vv_76_9 {l : Launch} (hl : l.stackTraces = false) : cj_V1 l 76 9 (2, 1, 0, []) 10 := Or.inl ⟨by decide +kernel, ok_iload_n dm_76_9 rfl⟩
set_option maxRecDepth 100000 in
theorem vv_76_10 {l : Launch} (hl : l.stackTraces = false) : cj_V1 l 76 10 (0, 100, 0, []) 12 := Or.inl ⟨by decide +kernel, ok_bipush dm_76_10 (by decide +kernel)⟩
set_option maxRecDepth 100000 in
theorem vv_76_12 {l : Launch} (hl : l.stackTraces = false) : cj_V1 l 76 12 (13, 0, 0, []) 13 := Or.inl ⟨by decide +kernel, ok_idiv dm_76_12⟩
set_option maxRecDepth 100000 in
theorem vv_76_13 {l : Launch} (hl : l.stackTraces = false) : cj_V1 l 76 13 (0, 10, 0, []) 15 := Or.inl ⟨by decide +kernel, ok_bipush dm_76_13 (by decide +kernel)⟩
set_option maxRecDepth 100000 in
theorem vv_76_15 {l : Launch} (hl : l.stackTraces = false) : cj_V1 l 76 15 (14, 0, 0, []) 16 := Or.inl ⟨by decide +kernel, ok_irem dm_76_15⟩
set_option maxRecDepth 100000 in
theorem vv_76_16 {l : Launch} (hl : l.stackTraces = false) : cj_V1 l 76 16 (10, 0, 0, []) 17 := Or.inl ⟨by decide +kernel, ok_iadd dm_76_16⟩
set_option maxRecDepth 100000 in
theorem vv_76_17 {l : Launch} (hl : l.stackTraces = false) : cj_V1 l 76 17 (80, 35, 2, [6]) 20 := Or.inr (Or.inr (Or.inl ⟨by decide +kernel, by decide +kernel, rfl, vc_virtual (n := 1) (q := (RK_6, TK_6, 2)) mi_35 dm_76_17 (Or.inl wm_285) wm_279 wm_280 rfl rfl (by decide +kernel) rfl (by decide +kernel) (by decide +kernel), (vx_none rfl)⟩))
set_option maxRecDepth 100000 in
theorem vv_76_20 {l : Launch} (hl : l.stackTraces = false) : cj_V1 l 76 20 (2, 1, 0, []) 21 := Or.inl ⟨by decide +kernel, ok_iload_n dm_76_20 rfl⟩
set_option maxRecDepth 100000 in
theorem vv_76_21 {l : Launch} (hl : l.stackTraces = false) : cj_V1 l 76 21 (0, 10, 0, []) 23 := Or.inl ⟨by decide +kernel, ok_bipush dm_76_21 (by decide +kernel)⟩
set_option maxRecDepth 100000 in
theorem vv_76_23 {l : Launch} (hl : l.stackTraces = false) : cj_V1 l 76 23 (39, 40, 0, []) 26 := Or.inl ⟨by decide +kernel, ok_icmp_lt dm_76_23 (by decide +kernel)⟩
set_option maxRecDepth 100000 in
theorem vv_76_26 {l : Launch} (hl : l.stackTraces = false) : cj_V1 l 76 26 (3, 0, 0, []) 27 := Or.inl ⟨by decide +kernel, ok_aload_n dm_76_26 rfl⟩
set_option maxRecDepth 100000 in
theorem vv_76_27 {l : Launch} (hl : l.stackTraces = false) : cj_V1 l 76 27 (0, 48, 0, []) 29 := Or.inl ⟨by decide +kernel, ok_bipush dm_76_27 (by decide +kernel)⟩
set_option maxRecDepth 100000 in
theorem vv_76_29 {l : Launch} (hl : l.stackTraces = false) : cj_V1 l 76 29 (2, 1, 0, []) 30 := Or.inl ⟨by decide +kernel, ok_iload_n dm_76_29 rfl⟩
set_option maxRecDepth 100000 in
theorem vv_76_30 {l : Launch} (hl : l.stackTraces = false) : cj_V1 l 76 30 (0, 10, 0, []) 32 := Or.inl ⟨by decide +kernel, ok_bipush dm_76_30 (by decide +kernel)⟩
set_option maxRecDepth 100000 in
theorem vv_76_32 {l : Launch} (hl : l.stackTraces = false) : cj_V1 l 76 32 (13, 0, 0, []) 33 := Or.inl ⟨by decide +kernel, ok_idiv dm_76_32⟩
set_option maxRecDepth 100000 in
theorem vv_76_33 {l : Launch} (hl : l.stackTraces = false) : cj_V1 l 76 33 (0, 10, 0, []) 35 := Or.inl ⟨by decide +kernel, ok_bipush dm_76_33 (by decide +kernel)⟩
set_option maxRecDepth 100000 in
theorem vv_76_35 {l : Launch} (hl : l.stackTraces = false) : cj_V1 l 76 35 (14, 0, 0, []) 36 := Or.inl ⟨by decide +kernel, ok_irem dm_76_35⟩
set_option maxRecDepth 100000 in
theorem vv_76_36 {l : Launch} (hl : l.stackTraces = false) : cj_V1 l 76 36 (10, 0, 0, []) 37 := Or.inl ⟨by decide +kernel, ok_iadd dm_76_36⟩
set_option maxRecDepth 100000 in
theorem vv_76_37 {l : Launch} (hl : l.stackTraces = false) : cj_V1 l 76 37 (80, 35, 2, [6]) 40 := Or.inr (Or.inr (Or.inl ⟨by decide +kernel, by decide +kernel, rfl, vc_virtual (n := 1) (q := (RK_6, TK_6, 2)) mi_35 dm_76_37 (Or.inl wm_285) wm_279 wm_280 rfl rfl (by decide +kernel) rfl (by decide +kernel) (by decide +kernel), (vx_none rfl)⟩))
set_option maxRecDepth 100000 in
theorem vv_76_40 {l : Launch} (hl : l.stackTraces = false) : cj_V1 l 76 40 (3, 0, 0, []) 41 := Or.inl ⟨by decide +kernel, ok_aload_n dm_76_40 rfl⟩
set_option maxRecDepth 100000 in
theorem vv_76_41 {l : Launch} (hl : l.stackTraces = false) : cj_V1 l 76 41 (0, 48, 0, []) 43 := Or.inl ⟨by decide +kernel, ok_bipush dm_76_41 (by decide +kernel)⟩
set_option maxRecDepth 100000 in
theorem vv_76_43 {l : Launch} (hl : l.stackTraces = false) : cj_V1 l 76 43 (2, 1, 0, []) 44 := Or.inl ⟨by decide +kernel, ok_iload_n dm_76_43 rfl⟩
set_option maxRecDepth 100000 in
theorem vv_76_44 {l : Launch} (hl : l.stackTraces = false) : cj_V1 l 76 44 (0, 10, 0, []) 46 := Or.inl ⟨by decide +kernel, ok_bipush dm_76_44 (by decide +kernel)⟩
set_option maxRecDepth 100000 in
theorem vv_76_46 {l : Launch} (hl : l.stackTraces = false) : cj_V1 l 76 46 (14, 0, 0, []) 47 := Or.inl ⟨by decide +kernel, ok_irem dm_76_46⟩
set_option maxRecDepth 100000 in
theorem vv_76_47 {l : Launch} (hl : l.stackTraces = false) : cj_V1 l 76 47 (10, 0, 0, []) 48 := Or.inl ⟨by decide +kernel, ok_iadd dm_76_47⟩
set_option maxRecDepth 100000 in
theorem vv_76_48 {l : Launch} (hl : l.stackTraces = false) : cj_V1 l 76 48 (80, 35, 2, [6]) 51 := Or.inr (Or.inr (Or.inl ⟨by decide +kernel, by decide +kernel, rfl, vc_virtual (n := 1) (q := (RK_6, TK_6, 2)) mi_35 dm_76_48 (Or.inl wm_285) wm_279 wm_280 rfl rfl (by decide +kernel) rfl (by decide +kernel) (by decide +kernel), (vx_none rfl)⟩))
set_option maxRecDepth 100000 in
theorem vv_76_51 {l : Launch} (hl : l.stackTraces = false) : cj_V1 l 76 51 (91, 0, 0, []) 52 := Or.inr (Or.inl ⟨by decide +kernel, Or.inl (Or.inr (Or.inl ⟨rfl, dm_76_51, rfl⟩))⟩)
set_option maxRecDepth 100000 in
theorem vm_76 {l : Launch} (hl : l.stackTraces = false) : cj_Vm l 76 := cj_Vm_of (r := kc76_) rfl ⟨vv_76_0 hl, vv_76_1 hl, vv_76_3 hl, vv_76_6 hl, vv_76_7 hl, vv_76_9 hl, vv_76_10 hl, vv_76_12 hl, vv_76_13 hl, vv_76_15 hl, vv_76_16 hl, vv_76_17 hl, vv_76_20 hl, vv_76_21 hl, vv_76_23 hl, vv_76_26 hl, vv_76_27 hl, vv_76_29 hl, vv_76_30 hl, vv_76_32 hl, vv_76_33 hl, vv_76_35 hl, vv_76_36 hl, vv_76_37 hl, vv_76_40 hl, vv_76_41 hl, vv_76_43 hl, vv_76_44 hl, vv_76_46 hl, vv_76_47 hl, vv_76_48 hl, vv_76_51 hl, trivial⟩
set_option maxRecDepth 100000 in
theorem vv_77_0 {l : Launch} (hl : l.stackTraces = false) : cj_V1 l 77 0 (3, 0, 0, []) 1 := Or.inl ⟨by decide +kernel, ok_aload_n dm_77_0 rfl⟩
set_option maxRecDepth 100000 in
theorem vv_77_1 {l : Launch} (hl : l.stackTraces = false) : cj_V1 l 77 1 (50, 3, 1, []) 4 := Or.inl ⟨by decide +kernel, ok_getfield (N := 6) (C := RK_3) (T := TK_3) dm_77_1 rfl inK_3 (by decide +kernel) wm_84⟩
set_option maxRecDepth 100000 in
theorem vv_77_4 {l : Launch} (hl : l.stackTraces = false) : cj_V1 l 77 4 (2, 1, 0, []) 5 := Or.inl ⟨by decide +kernel, ok_iload_n dm_77_4 rfl⟩
set_option maxRecDepth 100000 in
theorem vv_77_5 {l : Launch} (hl : l.stackTraces = false) : cj_V1 l 77 5 (0, 1356800, 0, []) 7 := Or.inl ⟨by decide +kernel, ok_ldc dm_77_5 wm_326 (by decide +kernel)⟩
set_option maxRecDepth 100000 in
theorem vv_77_7 {l : Launch} (hl : l.stackTraces = false) : cj_V1 l 77 7 (56, 0, 0, []) 8 := Or.inl ⟨by decide +kernel, ok_iastore dm_77_7 rfl⟩
set_option maxRecDepth 100000 in
theorem vv_77_8 {l : Launch} (hl : l.stackTraces = false) : cj_V1 l 77 8 (3, 0, 0, []) 9 := Or.inl ⟨by decide +kernel, ok_aload_n dm_77_8 rfl⟩
set_option maxRecDepth 100000 in
theorem vv_77_9 {l : Launch} (hl : l.stackTraces = false) : cj_V1 l 77 9 (50, 3, 2, []) 12 := Or.inl ⟨by decide +kernel, ok_getfield (N := 6) (C := RK_3) (T := TK_3) dm_77_9 rfl inK_3 (by decide +kernel) wm_85⟩
set_option maxRecDepth 100000 in
theorem vv_77_12 {l : Launch} (hl : l.stackTraces = false) : cj_V1 l 77 12 (2, 1, 0, []) 13 := Or.inl ⟨by decide +kernel, ok_iload_n dm_77_12 rfl⟩
set_option maxRecDepth 100000 in
theorem vv_77_13 {l : Launch} (hl : l.stackTraces = false) : cj_V1 l 77 13 (2, 1, 0, []) 14 := Or.inl ⟨by decide +kernel, ok_iload_n dm_77_13 rfl⟩
set_option maxRecDepth 100000 in
theorem vv_77_14 {l : Launch} (hl : l.stackTraces = false) : cj_V1 l 77 14 (0, 1, 0, []) 15 := Or.inl ⟨by decide +kernel, ok_iconst dm_77_14 (by decide +kernel)⟩
set_option maxRecDepth 100000 in
theorem vv_77_15 {l : Launch} (hl : l.stackTraces = false) : cj_V1 l 77 15 (10, 0, 0, []) 16 := Or.inl ⟨by decide +kernel, ok_iadd dm_77_15⟩
set_option maxRecDepth 100000 in
theorem vv_77_16 {l : Launch} (hl : l.stackTraces = false) : cj_V1 l 77 16 (56, 0, 0, []) 17 := Or.inl ⟨by decide +kernel, ok_iastore dm_77_16 rfl⟩
set_option maxRecDepth 100000 in
theorem vv_77_17 {l : Launch} (hl : l.stackTraces = false) : cj_V1 l 77 17 (3, 0, 0, []) 18 := Or.inl ⟨by decide +kernel, ok_aload_n dm_77_17 rfl⟩
set_option maxRecDepth 100000 in
theorem vv_77_18 {l : Launch} (hl : l.stackTraces = false) : cj_V1 l 77 18 (50, 3, 0, []) 21 := Or.inl ⟨by decide +kernel, ok_getfield (N := 6) (C := RK_3) (T := TK_3) dm_77_18 rfl inK_3 (by decide +kernel) wm_83⟩
set_option maxRecDepth 100000 in
theorem vv_77_21 {l : Launch} (hl : l.stackTraces = false) : cj_V1 l 77 21 (2, 1, 0, []) 22 := Or.inl ⟨by decide +kernel, ok_iload_n dm_77_21 rfl⟩
set_option maxRecDepth 100000 in
theorem vv_77_22 {l : Launch} (hl : l.stackTraces = false) : cj_V1 l 77 22 (54, 0, 0, []) 23 := Or.inl ⟨by decide +kernel, ok_iaload dm_77_22 rfl⟩
set_option maxRecDepth 100000 in
theorem vv_77_23 {l : Launch} (hl : l.stackTraces = false) : cj_V1 l 77 23 (4, 2, 0, []) 24 := Or.inl ⟨by decide +kernel, ok_istore_n dm_77_23 rfl⟩
set_option maxRecDepth 100000 in
theorem vv_77_24 {l : Launch} (hl : l.stackTraces = false) : cj_V1 l 77 24 (2, 1, 0, []) 25 := Or.inl ⟨by decide +kernel, ok_iload_n dm_77_24 rfl⟩
set_option maxRecDepth 100000 in
theorem vv_77_25 {l : Launch} (hl : l.stackTraces = false) : cj_V1 l 77 25 (0, 1, 0, []) 26 := Or.inl ⟨by decide +kernel, ok_iconst dm_77_25 (by decide +kernel)⟩
set_option maxRecDepth 100000 in
theorem vv_77_26 {l : Launch} (hl : l.stackTraces = false) : cj_V1 l 77 26 (10, 0, 0, []) 27 := Or.inl ⟨by decide +kernel, ok_iadd dm_77_26⟩
set_option maxRecDepth 100000 in
theorem vv_77_27 {l : Launch} (hl : l.stackTraces = false) : cj_V1 l 77 27 (4, 3, 0, []) 28 := Or.inl ⟨by decide +kernel, ok_istore_n dm_77_27 rfl⟩
set_option maxRecDepth 100000 in
theorem vv_77_28 {l : Launch} (hl : l.stackTraces = false) : cj_V1 l 77 28 (2, 3, 0, []) 29 := Or.inl ⟨by decide +kernel, ok_iload_n dm_77_28 rfl⟩
set_option maxRecDepth 100000 in
theorem vv_77_29 {l : Launch} (hl : l.stackTraces = false) : cj_V1 l 77 29 (3, 0, 0, []) 30 := Or.inl ⟨by decide +kernel, ok_aload_n dm_77_29 rfl⟩
set_option maxRecDepth 100000 in
theorem vv_77_30 {l : Launch} (hl : l.stackTraces = false) : cj_V1 l 77 30 (50, 3, 3, []) 33 := Or.inl ⟨by decide +kernel, ok_getfield (N := 6) (C := RK_3) (T := TK_3) dm_77_30 rfl inK_3 (by decide +kernel) wm_86⟩
set_option maxRecDepth 100000 in
theorem vv_77_33 {l : Launch} (hl : l.stackTraces = false) : cj_V1 l 77 33 (41, 123, 0, []) 36 := Or.inl ⟨by decide +kernel, ok_icmp_gt dm_77_33 (by decide +kernel)⟩
set_option maxRecDepth 100000 in
theorem vv_77_36 {l : Launch} (hl : l.stackTraces = false) : cj_V1 l 77 36 (2, 2, 0, []) 37 := Or.inl ⟨by decide +kernel, ok_iload_n dm_77_36 rfl⟩
set_option maxRecDepth 100000 in
theorem vv_77_37 {l : Launch} (hl : l.stackTraces = false) : cj_V1 l 77 37 (3, 0, 0, []) 38 := Or.inl ⟨by decide +kernel, ok_aload_n dm_77_37 rfl⟩
set_option maxRecDepth 100000 in
theorem vv_77_38 {l : Launch} (hl : l.stackTraces = false) : cj_V1 l 77 38 (50, 3, 4, []) 41 := Or.inl ⟨by decide +kernel, ok_getfield (N := 6) (C := RK_3) (T := TK_3) dm_77_38 rfl inK_3 (by decide +kernel) wm_87⟩
set_option maxRecDepth 100000 in
theorem vv_77_41 {l : Launch} (hl : l.stackTraces = false) : cj_V1 l 77 41 (41, 123, 0, []) 44 := Or.inl ⟨by decide +kernel, ok_icmp_gt dm_77_41 (by decide +kernel)⟩
set_option maxRecDepth 100000 in
theorem vv_77_44 {l : Launch} (hl : l.stackTraces = false) : cj_V1 l 77 44 (3, 0, 0, []) 45 := Or.inl ⟨by decide +kernel, ok_aload_n dm_77_44 rfl⟩
set_option maxRecDepth 100000 in
theorem vv_77_45 {l : Launch} (hl : l.stackTraces = false) : cj_V1 l 77 45 (50, 3, 4, []) 48 := Or.inl ⟨by decide +kernel, ok_getfield (N := 6) (C := RK_3) (T := TK_3) dm_77_45 rfl inK_3 (by decide +kernel) wm_87⟩
set_option maxRecDepth 100000 in
theorem vv_77_48 {l : Launch} (hl : l.stackTraces = false) : cj_V1 l 77 48 (2, 2, 0, []) 49 := Or.inl ⟨by decide +kernel, ok_iload_n dm_77_48 rfl⟩
set_option maxRecDepth 100000 in
theorem vv_77_49 {l : Launch} (hl : l.stackTraces = false) : cj_V1 l 77 49 (11, 0, 0, []) 50 := Or.inl ⟨by decide +kernel, ok_isub dm_77_49⟩
set_option maxRecDepth 100000 in
theorem vv_77_50 {l : Launch} (hl : l.stackTraces = false) : cj_V1 l 77 50 (4, 4, 0, []) 52 := Or.inl ⟨by decide +kernel, ok_istore dm_77_50⟩
set_option maxRecDepth 100000 in
theorem vv_77_52 {l : Launch} (hl : l.stackTraces = false) : cj_V1 l 77 52 (2, 3, 0, []) 53 := Or.inl ⟨by decide +kernel, ok_iload_n dm_77_52 rfl⟩
set_option maxRecDepth 100000 in
theorem vv_77_53 {l : Launch} (hl : l.stackTraces = false) : cj_V1 l 77 53 (3, 0, 0, []) 54 := Or.inl ⟨by decide +kernel, ok_aload_n dm_77_53 rfl⟩
set_option maxRecDepth 100000 in
theorem vv_77_54 {l : Launch} (hl : l.stackTraces = false) : cj_V1 l 77 54 (50, 3, 3, []) 57 := Or.inl ⟨by decide +kernel, ok_getfield (N := 6) (C := RK_3) (T := TK_3) dm_77_54 rfl inK_3 (by decide +kernel) wm_86⟩
set_option maxRecDepth 100000 in
theorem vv_77_57 {l : Launch} (hl : l.stackTraces = false) : cj_V1 l 77 57 (38, 64, 0, []) 60 := Or.inl ⟨by decide +kernel, ok_icmp_ne dm_77_57 (by decide +kernel)⟩
set_option maxRecDepth 100000 in
theorem vv_77_60 {l : Launch} (hl : l.stackTraces = false) : cj_V1 l 77 60 (0, 0, 0, []) 61 := Or.inl ⟨by decide +kernel, ok_iconst dm_77_60 (by decide +kernel)⟩
set_option maxRecDepth 100000 in
theorem vv_77_61 {l : Launch} (hl : l.stackTraces = false) : cj_V1 l 77 61 (30, 76, 0, []) 64 := Or.inl ⟨by decide +kernel, ok_goto dm_77_61 (by decide +kernel)⟩
set_option maxRecDepth 100000 in
theorem vv_77_64 {l : Launch} (hl : l.stackTraces = false) : cj_V1 l 77 64 (2, 4, 0, []) 66 := Or.inl ⟨by decide +kernel, ok_iload dm_77_64⟩
set_option maxRecDepth 100000 in
theorem vv_77_66 {l : Launch} (hl : l.stackTraces = false) : cj_V1 l 77 66 (2, 4, 0, []) 68 := Or.inl ⟨by decide +kernel, ok_iload dm_77_66⟩
set_option maxRecDepth 100000 in
theorem vv_77_68 {l : Launch} (hl : l.stackTraces = false) : cj_V1 l 77 68 (12, 0, 0, []) 69 := Or.inl ⟨by decide +kernel, ok_imul dm_77_68⟩
set_option maxRecDepth 100000 in
theorem vv_77_69 {l : Launch} (hl : l.stackTraces = false) : cj_V1 l 77 69 (3, 0, 0, []) 70 := Or.inl ⟨by decide +kernel, ok_aload_n dm_77_69 rfl⟩
set_option maxRecDepth 100000 in
theorem vv_77_70 {l : Launch} (hl : l.stackTraces = false) : cj_V1 l 77 70 (50, 3, 1, []) 73 := Or.inl ⟨by decide +kernel, ok_getfield (N := 6) (C := RK_3) (T := TK_3) dm_77_70 rfl inK_3 (by decide +kernel) wm_84⟩
set_option maxRecDepth 100000 in
theorem vv_77_73 {l : Launch} (hl : l.stackTraces = false) : cj_V1 l 77 73 (2, 3, 0, []) 74 := Or.inl ⟨by decide +kernel, ok_iload_n dm_77_73 rfl⟩
set_option maxRecDepth 100000 in
theorem vv_77_74 {l : Launch} (hl : l.stackTraces = false) : cj_V1 l 77 74 (54, 0, 0, []) 75 := Or.inl ⟨by decide +kernel, ok_iaload dm_77_74 rfl⟩
set_option maxRecDepth 100000 in
theorem vv_77_75 {l : Launch} (hl : l.stackTraces = false) : cj_V1 l 77 75 (10, 0, 0, []) 76 := Or.inl ⟨by decide +kernel, ok_iadd dm_77_75⟩
set_option maxRecDepth 100000 in
theorem vv_77_76 {l : Launch} (hl : l.stackTraces = false) : cj_V1 l 77 76 (4, 5, 0, []) 78 := Or.inl ⟨by decide +kernel, ok_istore dm_77_76⟩
set_option maxRecDepth 100000 in
theorem vv_77_78 {l : Launch} (hl : l.stackTraces = false) : cj_V1 l 77 78 (2, 5, 0, []) 80 := Or.inl ⟨by decide +kernel, ok_iload dm_77_78⟩
set_option maxRecDepth 100000 in
theorem vv_77_80 {l : Launch} (hl : l.stackTraces = false) : cj_V1 l 77 80 (3, 0, 0, []) 81 := Or.inl ⟨by decide +kernel, ok_aload_n dm_77_80 rfl⟩
set_option maxRecDepth 100000 in
theorem vv_77_81 {l : Launch} (hl : l.stackTraces = false) : cj_V1 l 77 81 (50, 3, 1, []) 84 := Or.inl ⟨by decide +kernel, ok_getfield (N := 6) (C := RK_3) (T := TK_3) dm_77_81 rfl inK_3 (by decide +kernel) wm_84⟩
set_option maxRecDepth 100000 in
theorem vv_77_84 {l : Launch} (hl : l.stackTraces = false) : cj_V1 l 77 84 (2, 1, 0, []) 85 := Or.inl ⟨by decide +kernel, ok_iload_n dm_77_84 rfl⟩
set_option maxRecDepth 100000 in
theorem vv_77_85 {l : Launch} (hl : l.stackTraces = false) : cj_V1 l 77 85 (54, 0, 0, []) 86 := Or.inl ⟨by decide +kernel, ok_iaload dm_77_85 rfl⟩
set_option maxRecDepth 100000 in
theorem vv_77_86 {l : Launch} (hl : l.stackTraces = false) : cj_V1 l 77 86 (40, 104, 0, []) 89 := Or.inl ⟨by decide +kernel, ok_icmp_ge dm_77_86 (by decide +kernel)⟩
set_option maxRecDepth 100000 in
theorem vv_77_89 {l : Launch} (hl : l.stackTraces = false) : cj_V1 l 77 89 (3, 0, 0, []) 90 := Or.inl ⟨by decide +kernel, ok_aload_n dm_77_89 rfl⟩
set_option maxRecDepth 100000 in
theorem vv_77_90 {l : Launch} (hl : l.stackTraces = false) : cj_V1 l 77 90 (50, 3, 1, []) 93 := Or.inl ⟨by decide +kernel, ok_getfield (N := 6) (C := RK_3) (T := TK_3) dm_77_90 rfl inK_3 (by decide +kernel) wm_84⟩
set_option maxRecDepth 100000 in
theorem vv_77_93 {l : Launch} (hl : l.stackTraces = false) : cj_V1 l 77 93 (2, 1, 0, []) 94 := Or.inl ⟨by decide +kernel, ok_iload_n dm_77_93 rfl⟩
set_option maxRecDepth 100000 in
theorem vv_77_94 {l : Launch} (hl : l.stackTraces = false) : cj_V1 l 77 94 (2, 5, 0, []) 96 := Or.inl ⟨by decide +kernel, ok_iload dm_77_94⟩
set_option maxRecDepth 100000 in
theorem vv_77_96 {l : Launch} (hl : l.stackTraces = false) : cj_V1 l 77 96 (56, 0, 0, []) 97 := Or.inl ⟨by decide +kernel, ok_iastore dm_77_96 rfl⟩
set_option maxRecDepth 100000 in
theorem vv_77_97 {l : Launch} (hl : l.stackTraces = false) : cj_V1 l 77 97 (3, 0, 0, []) 98 := Or.inl ⟨by decide +kernel, ok_aload_n dm_77_97 rfl⟩
set_option maxRecDepth 100000 in
theorem vv_77_98 {l : Launch} (hl : l.stackTraces = false) : cj_V1 l 77 98 (50, 3, 2, []) 101 := Or.inl ⟨by decide +kernel, ok_getfield (N := 6) (C := RK_3) (T := TK_3) dm_77_98 rfl inK_3 (by decide +kernel) wm_85⟩
set_option maxRecDepth 100000 in
theorem vv_77_101 {l : Launch} (hl : l.stackTraces = false) : cj_V1 l 77 101 (2, 1, 0, []) 102 := Or.inl ⟨by decide +kernel, ok_iload_n dm_77_101 rfl⟩
set_option maxRecDepth 100000 in
theorem vv_77_102 {l : Launch} (hl : l.stackTraces = false) : cj_V1 l 77 102 (2, 3, 0, []) 103 := Or.inl ⟨by decide +kernel, ok_iload_n dm_77_102 rfl⟩
set_option maxRecDepth 100000 in
theorem vv_77_103 {l : Launch} (hl : l.stackTraces = false) : cj_V1 l 77 103 (56, 0, 0, []) 104 := Or.inl ⟨by decide +kernel, ok_iastore dm_77_103 rfl⟩
set_option maxRecDepth 100000 in
theorem vv_77_104 {l : Launch} (hl : l.stackTraces = false) : cj_V1 l 77 104 (2, 2, 0, []) 105 := Or.inl ⟨by decide +kernel, ok_iload_n dm_77_104 rfl⟩
set_option maxRecDepth 100000 in
theorem vv_77_105 {l : Launch} (hl : l.stackTraces = false) : cj_V1 l 77 105 (3, 0, 0, []) 106 := Or.inl ⟨by decide +kernel, ok_aload_n dm_77_105 rfl⟩
set_option maxRecDepth 100000 in
theorem vv_77_106 {l : Launch} (hl : l.stackTraces = false) : cj_V1 l 77 106 (50, 3, 5, []) 109 := Or.inl ⟨by decide +kernel, ok_getfield (N := 6) (C := RK_3) (T := TK_3) dm_77_106 rfl inK_3 (by decide +kernel) wm_88⟩
set_option maxRecDepth 100000 in
theorem vv_77_109 {l : Launch} (hl : l.stackTraces = false) : cj_V1 l 77 109 (3, 0, 0, []) 110 := Or.inl ⟨by decide +kernel, ok_aload_n dm_77_109 rfl⟩
set_option maxRecDepth 100000 in
theorem vv_77_110 {l : Launch} (hl : l.stackTraces = false) : cj_V1 l 77 110 (2, 3, 0, []) 111 := Or.inl ⟨by decide +kernel, ok_iload_n dm_77_110 rfl⟩
set_option maxRecDepth 100000 in
theorem vv_77_111 {l : Launch} (hl : l.stackTraces = false) : cj_V1 l 77 111 (80, 22, 2, [3]) 114 := Or.inr (Or.inr (Or.inl ⟨by decide +kernel, by decide +kernel, rfl, vc_virtual (n := 1) (q := (RK_3, TK_3, 6)) mi_22 dm_77_111 (Or.inl wm_327) wm_328 wm_329 rfl rfl (by decide +kernel) rfl (by decide +kernel) (by decide +kernel), (vx_none rfl)⟩))
set_option maxRecDepth 100000 in
theorem vv_77_114 {l : Launch} (hl : l.stackTraces = false) : cj_V1 l 77 114 (10, 0, 0, []) 115 := Or.inl ⟨by decide +kernel, ok_iadd dm_77_114⟩
set_option maxRecDepth 100000 in
theorem vv_77_115 {l : Launch} (hl : l.stackTraces = false) : cj_V1 l 77 115 (10, 0, 0, []) 116 := Or.inl ⟨by decide +kernel, ok_iadd dm_77_115⟩
set_option maxRecDepth 100000 in
theorem vv_77_116 {l : Launch} (hl : l.stackTraces = false) : cj_V1 l 77 116 (4, 2, 0, []) 117 := Or.inl ⟨by decide +kernel, ok_istore_n dm_77_116 rfl⟩
set_option maxRecDepth 100000 in
theorem vv_77_117 {l : Launch} (hl : l.stackTraces = false) : cj_V1 l 77 117 (6, 3, 1, []) 120 := Or.inl ⟨by decide +kernel, ok_iinc6 dm_77_117 (by decide +kernel)⟩
set_option maxRecDepth 100000 in
theorem vv_77_120 {l : Launch} (hl : l.stackTraces = false) : cj_V1 l 77 120 (30, 28, 0, []) 123 := Or.inl ⟨by decide +kernel, ok_goto dm_77_120 (by decide +kernel)⟩
set_option maxRecDepth 100000 in
theorem vv_77_123 {l : Launch} (hl : l.stackTraces = false) : cj_V1 l 77 123 (91, 0, 0, []) 124 := Or.inr (Or.inl ⟨by decide +kernel, Or.inl (Or.inr (Or.inl ⟨rfl, dm_77_123, rfl⟩))⟩)
set_option maxRecDepth 100000 in
theorem vm_77 {l : Launch} (hl : l.stackTraces = false) : cj_Vm l 77 := cj_Vm_of (r := kc77_) rfl ⟨vv_77_0 hl, vv_77_1 hl, vv_77_4 hl, vv_77_5 hl, vv_77_7 hl, vv_77_8 hl, vv_77_9 hl, vv_77_12 hl, vv_77_13 hl, vv_77_14 hl, vv_77_15 hl, vv_77_16 hl, vv_77_17 hl, vv_77_18 hl, vv_77_21 hl, vv_77_22 hl, vv_77_23 hl, vv_77_24 hl, vv_77_25 hl, vv_77_26 hl, vv_77_27 hl, vv_77_28 hl, vv_77_29 hl, vv_77_30 hl, vv_77_33 hl, vv_77_36 hl, vv_77_37 hl, vv_77_38 hl, vv_77_41 hl, vv_77_44 hl, vv_77_45 hl, vv_77_48 hl, vv_77_49 hl, vv_77_50 hl, vv_77_52 hl, vv_77_53 hl, vv_77_54 hl, vv_77_57 hl, vv_77_60 hl, vv_77_61 hl, vv_77_64 hl, vv_77_66 hl, vv_77_68 hl, vv_77_69 hl, vv_77_70 hl, vv_77_73 hl, vv_77_74 hl, vv_77_75 hl, vv_77_76 hl, vv_77_78 hl, vv_77_80 hl, vv_77_81 hl, vv_77_84 hl, vv_77_85 hl, vv_77_86 hl, vv_77_89 hl, vv_77_90 hl, vv_77_93 hl, vv_77_94 hl, vv_77_96 hl, vv_77_97 hl, vv_77_98 hl, vv_77_101 hl, vv_77_102 hl, vv_77_103 hl, vv_77_104 hl, vv_77_105 hl, vv_77_106 hl, vv_77_109 hl, vv_77_110 hl, vv_77_111 hl, vv_77_114 hl, vv_77_115 hl, vv_77_116 hl, vv_77_117 hl, vv_77_120 hl, vv_77_123 hl, trivial⟩
