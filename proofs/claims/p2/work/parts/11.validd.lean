set_option maxRecDepth 100000 in
theorem vv_78_0 {l : Launch} (hl : l.stackTraces = false) : cj_V1 l 78 0 (3, 0, 0, []) 1 := Or.inl ⟨by decide +kernel, ok_aload_n dm_78_0 rfl⟩
set_option maxRecDepth 100000 in
theorem vv_78_1 {l : Launch} (hl : l.stackTraces = false) : cj_V1 l 78 1 (83, 0, 0, []) 4 := Or.inl ⟨by decide +kernel, ok_objInit dm_78_1 wm_74 wm_22 wm_23 (by decide +kernel) (by decide +kernel)⟩
set_option maxRecDepth 100000 in
theorem vv_78_4 {l : Launch} (hl : l.stackTraces = false) : cj_V1 l 78 4 (3, 0, 0, []) 5 := Or.inl ⟨by decide +kernel, ok_aload_n dm_78_4 rfl⟩
set_option maxRecDepth 100000 in
theorem vv_78_5 {l : Launch} (hl : l.stackTraces = false) : cj_V1 l 78 5 (70, 6, 2, [2, 0]) 8 := Or.inl ⟨by decide +kernel, ok_new (N := 2) (C := RK_6) (T := TK_6) (ty0 := tyK_6) dm_78_5 rfl inK_6 wm_75 wm_31 wm_3 rfl rfl tyK_6_ok (by decide +kernel)⟩
set_option maxRecDepth 100000 in
theorem vv_78_8 {l : Launch} (hl : l.stackTraces = false) : cj_V1 l 78 8 (25, 0, 0, []) 9 := Or.inl ⟨by decide +kernel, ok_dup dm_78_8⟩
set_option maxRecDepth 100000 in
theorem vv_78_9 {l : Launch} (hl : l.stackTraces = false) : cj_V1 l 78 9 (0, 212, 0, []) 12 := Or.inl ⟨by decide +kernel, ok_sipush dm_78_9 (by decide +kernel)⟩
set_option maxRecDepth 100000 in
theorem vv_78_12 {l : Launch} (hl : l.stackTraces = false) : cj_V1 l 78 12 (82, 34, 2, []) 15 := Or.inr (Or.inr (Or.inl ⟨by decide +kernel, by decide +kernel, rfl, vc_special (n := 1) mi_34 rfl rfl dm_78_12 (Or.inl wm_76) wm_33 (by decide +kernel) rfl (by decide +kernel) (by decide +kernel), (vx_none rfl)⟩))
set_option maxRecDepth 100000 in
theorem vv_78_15 {l : Launch} (hl : l.stackTraces = false) : cj_V1 l 78 15 (51, 4, 2, [2]) 18 := Or.inl ⟨by decide +kernel, ok_putfield (N := 5) (C := RK_4) (T := TK_4) (ty0 := tyK_4) dm_78_15 rfl inK_4 (by decide +kernel) wm_104 tyK_4_ok nmK_4 (Or.inr ⟨rfl, rfl, rfl⟩) (Or.inr (Or.inr (Or.inl ⟨rfl, Or.inl ⟨_, rfl⟩⟩)))⟩
set_option maxRecDepth 100000 in
theorem vv_78_18 {l : Launch} (hl : l.stackTraces = false) : cj_V1 l 78 18 (3, 0, 0, []) 19 := Or.inl ⟨by decide +kernel, ok_aload_n dm_78_18 rfl⟩
set_option maxRecDepth 100000 in
theorem vv_78_19 {l : Launch} (hl : l.stackTraces = false) : cj_V1 l 78 19 (70, 3, 6, [2, 2, 2, 0, 0, 0]) 22 := Or.inl ⟨by decide +kernel, ok_new (N := 6) (C := RK_3) (T := TK_3) (ty0 := tyK_3) dm_78_19 rfl inK_3 wm_77 wm_78 wm_6 rfl rfl tyK_3_ok (by decide +kernel)⟩
set_option maxRecDepth 100000 in
theorem vv_78_22 {l : Launch} (hl : l.stackTraces = false) : cj_V1 l 78 22 (25, 0, 0, []) 23 := Or.inl ⟨by decide +kernel, ok_dup dm_78_22⟩
set_option maxRecDepth 100000 in
theorem vv_78_23 {l : Launch} (hl : l.stackTraces = false) : cj_V1 l 78 23 (82, 16, 1, []) 26 := Or.inr (Or.inr (Or.inl ⟨by decide +kernel, by decide +kernel, rfl, vc_special (n := 0) mi_16 rfl rfl dm_78_23 (Or.inr ⟨"CatalogueSet", wm_79⟩) wm_80 (by decide +kernel) rfl (by decide +kernel) (by decide +kernel), (vx_none rfl)⟩))
set_option maxRecDepth 100000 in
theorem vv_78_26 {l : Launch} (hl : l.stackTraces = false) : cj_V1 l 78 26 (51, 4, 3, [2]) 29 := Or.inl ⟨by decide +kernel, ok_putfield (N := 5) (C := RK_4) (T := TK_4) (ty0 := tyK_4) dm_78_26 rfl inK_4 (by decide +kernel) wm_105 tyK_4_ok nmK_4 (Or.inr ⟨rfl, rfl, rfl⟩) (Or.inr (Or.inr (Or.inl ⟨rfl, Or.inl ⟨_, rfl⟩⟩)))⟩
set_option maxRecDepth 100000 in
theorem vv_78_29 {l : Launch} (hl : l.stackTraces = false) : cj_V1 l 78 29 (3, 0, 0, []) 30 := Or.inl ⟨by decide +kernel, ok_aload_n dm_78_29 rfl⟩
set_option maxRecDepth 100000 in
theorem vv_78_30 {l : Launch} (hl : l.stackTraces = false) : cj_V1 l 78 30 (0, 8, 0, []) 32 := Or.inl ⟨by decide +kernel, ok_bipush dm_78_30 (by decide +kernel)⟩
set_option maxRecDepth 100000 in
theorem vv_78_32 {l : Launch} (hl : l.stackTraces = false) : cj_V1 l 78 32 (71, 0, 0, []) 34 := Or.inl ⟨by decide +kernel, ok_newarray (ty := .int) (x := (.inl (fun _ => 0))) dm_78_32 rfl rfl wm_68 (fun _ _ => rfl) (fun _ _ => trivial) (by decide +kernel) rfl (fun _ _ _ _ => rfl)⟩
set_option maxRecDepth 100000 in
theorem vv_78_34 {l : Launch} (hl : l.stackTraces = false) : cj_V1 l 78 34 (51, 4, 4, [2]) 37 := Or.inl ⟨by decide +kernel, ok_putfield (N := 5) (C := RK_4) (T := TK_4) (ty0 := tyK_4) dm_78_34 rfl inK_4 (by decide +kernel) wm_106 tyK_4_ok nmK_4 (Or.inr ⟨rfl, rfl, rfl⟩) (Or.inr (Or.inr (Or.inl ⟨rfl, Or.inr ⟨_, rfl⟩⟩)))⟩
set_option maxRecDepth 100000 in
theorem vv_78_37 {l : Launch} (hl : l.stackTraces = false) : cj_V1 l 78 37 (3, 0, 0, []) 38 := Or.inl ⟨by decide +kernel, ok_aload_n dm_78_37 rfl⟩
set_option maxRecDepth 100000 in
theorem vv_78_38 {l : Launch} (hl : l.stackTraces = false) : cj_V1 l 78 38 (2, 1, 0, []) 39 := Or.inl ⟨by decide +kernel, ok_iload_n dm_78_38 rfl⟩
set_option maxRecDepth 100000 in
theorem vv_78_39 {l : Launch} (hl : l.stackTraces = false) : cj_V1 l 78 39 (51, 4, 0, [0]) 42 := Or.inl ⟨by decide +kernel, ok_putfield (N := 5) (C := RK_4) (T := TK_4) (ty0 := tyK_4) dm_78_39 rfl inK_4 (by decide +kernel) wm_102 tyK_4_ok nmK_4 (Or.inr ⟨rfl, rfl, rfl⟩) (Or.inl ⟨rfl, rfl⟩)⟩
set_option maxRecDepth 100000 in
theorem vv_78_42 {l : Launch} (hl : l.stackTraces = false) : cj_V1 l 78 42 (3, 0, 0, []) 43 := Or.inl ⟨by decide +kernel, ok_aload_n dm_78_42 rfl⟩
set_option maxRecDepth 100000 in
theorem vv_78_43 {l : Launch} (hl : l.stackTraces = false) : cj_V1 l 78 43 (2, 2, 0, []) 44 := Or.inl ⟨by decide +kernel, ok_iload_n dm_78_43 rfl⟩
set_option maxRecDepth 100000 in
theorem vv_78_44 {l : Launch} (hl : l.stackTraces = false) : cj_V1 l 78 44 (51, 4, 1, [0]) 47 := Or.inl ⟨by decide +kernel, ok_putfield (N := 5) (C := RK_4) (T := TK_4) (ty0 := tyK_4) dm_78_44 rfl inK_4 (by decide +kernel) wm_103 tyK_4_ok nmK_4 (Or.inr ⟨rfl, rfl, rfl⟩) (Or.inl ⟨rfl, rfl⟩)⟩
set_option maxRecDepth 100000 in
theorem vv_78_47 {l : Launch} (hl : l.stackTraces = false) : cj_V1 l 78 47 (91, 0, 0, []) 48 := Or.inr (Or.inl ⟨by decide +kernel, Or.inl (Or.inr (Or.inl ⟨rfl, dm_78_47, rfl⟩))⟩)
set_option maxRecDepth 100000 in
theorem vm_78 {l : Launch} (hl : l.stackTraces = false) : cj_Vm l 78 := cj_Vm_of (r := kc78_) rfl ⟨vv_78_0 hl, vv_78_1 hl, vv_78_4 hl, vv_78_5 hl, vv_78_8 hl, vv_78_9 hl, vv_78_12 hl, vv_78_15 hl, vv_78_18 hl, vv_78_19 hl, vv_78_22 hl, vv_78_23 hl, vv_78_26 hl, vv_78_29 hl, vv_78_30 hl, vv_78_32 hl, vv_78_34 hl, vv_78_37 hl, vv_78_38 hl, vv_78_39 hl, vv_78_42 hl, vv_78_43 hl, vv_78_44 hl, vv_78_47 hl, trivial⟩
set_option maxRecDepth 100000 in
theorem vv_79_0 {l : Launch} (hl : l.stackTraces = false) : cj_V1 l 79 0 (0, 0, 0, []) 1 := Or.inl ⟨by decide +kernel, ok_iconst dm_79_0 (by decide +kernel)⟩
set_option maxRecDepth 100000 in
theorem vv_79_1 {l : Launch} (hl : l.stackTraces = false) : cj_V1 l 79 1 (4, 1, 0, []) 2 := Or.inl ⟨by decide +kernel, ok_istore_n dm_79_1 rfl⟩
set_option maxRecDepth 100000 in
theorem vv_79_2 {l : Launch} (hl : l.stackTraces = false) : cj_V1 l 79 2 (2, 1, 0, []) 3 := Or.inl ⟨by decide +kernel, ok_iload_n dm_79_2 rfl⟩
set_option maxRecDepth 100000 in
theorem vv_79_3 {l : Launch} (hl : l.stackTraces = false) : cj_V1 l 79 3 (3, 0, 0, []) 4 := Or.inl ⟨by decide +kernel, ok_aload_n dm_79_3 rfl⟩
set_option maxRecDepth 100000 in
theorem vv_79_4 {l : Launch} (hl : l.stackTraces = false) : cj_V1 l 79 4 (50, 5, 4, []) 7 := Or.inl ⟨by decide +kernel, ok_getfield (N := 10) (C := RK_5) (T := TK_5) dm_79_4 rfl inK_5 (by decide +kernel) wm_150⟩
set_option maxRecDepth 100000 in
theorem vv_79_7 {l : Launch} (hl : l.stackTraces = false) : cj_V1 l 79 7 (40, 48, 0, []) 10 := Or.inl ⟨by decide +kernel, ok_icmp_ge dm_79_7 (by decide +kernel)⟩
set_option maxRecDepth 100000 in
theorem vv_79_10 {l : Launch} (hl : l.stackTraces = false) : cj_V1 l 79 10 (3, 0, 0, []) 11 := Or.inl ⟨by decide +kernel, ok_aload_n dm_79_10 rfl⟩
set_option maxRecDepth 100000 in
theorem vv_79_11 {l : Launch} (hl : l.stackTraces = false) : cj_V1 l 79 11 (50, 5, 3, []) 14 := Or.inl ⟨by decide +kernel, ok_getfield (N := 10) (C := RK_5) (T := TK_5) dm_79_11 rfl inK_5 (by decide +kernel) wm_149⟩
set_option maxRecDepth 100000 in
theorem vv_79_14 {l : Launch} (hl : l.stackTraces = false) : cj_V1 l 79 14 (2, 1, 0, []) 15 := Or.inl ⟨by decide +kernel, ok_iload_n dm_79_14 rfl⟩
set_option maxRecDepth 100000 in
theorem vv_79_15 {l : Launch} (hl : l.stackTraces = false) : cj_V1 l 79 15 (3, 0, 0, []) 16 := Or.inl ⟨by decide +kernel, ok_aload_n dm_79_15 rfl⟩
set_option maxRecDepth 100000 in
theorem vv_79_16 {l : Launch} (hl : l.stackTraces = false) : cj_V1 l 79 16 (50, 5, 0, []) 19 := Or.inl ⟨by decide +kernel, ok_getfield (N := 10) (C := RK_5) (T := TK_5) dm_79_16 rfl inK_5 (by decide +kernel) wm_146⟩
set_option maxRecDepth 100000 in
theorem vv_79_19 {l : Launch} (hl : l.stackTraces = false) : cj_V1 l 79 19 (2, 1, 0, []) 20 := Or.inl ⟨by decide +kernel, ok_iload_n dm_79_19 rfl⟩
set_option maxRecDepth 100000 in
theorem vv_79_20 {l : Launch} (hl : l.stackTraces = false) : cj_V1 l 79 20 (54, 5, 0, []) 21 := Or.inl ⟨by decide +kernel, ok_aaload (C := "CatalogueSet$Block") dm_79_20 rfl⟩
set_option maxRecDepth 100000 in
theorem vv_79_21 {l : Launch} (hl : l.stackTraces = false) : cj_V1 l 79 21 (80, 9, 1, [1]) 24 := Or.inr (Or.inr (Or.inl ⟨by decide +kernel, by decide +kernel, rfl, vc_virtual (n := 0) (q := (RK_1, TK_1, 4)) mi_9 dm_79_21 (Or.inl wm_363) wm_364 wm_365 rfl rfl (by decide +kernel) rfl (by decide +kernel) (by decide +kernel), (vx_none rfl)⟩))
set_option maxRecDepth 100000 in
theorem vv_79_24 {l : Launch} (hl : l.stackTraces = false) : cj_V1 l 79 24 (32, 31, 0, []) 27 := Or.inl ⟨by decide +kernel, ok_if_ne dm_79_24 (by decide +kernel)⟩
set_option maxRecDepth 100000 in
theorem vv_79_27 {l : Launch} (hl : l.stackTraces = false) : cj_V1 l 79 27 (0, 0, 0, []) 28 := Or.inl ⟨by decide +kernel, ok_iconst dm_79_27 (by decide +kernel)⟩
set_option maxRecDepth 100000 in
theorem vv_79_28 {l : Launch} (hl : l.stackTraces = false) : cj_V1 l 79 28 (30, 41, 0, []) 31 := Or.inl ⟨by decide +kernel, ok_goto dm_79_28 (by decide +kernel)⟩
set_option maxRecDepth 100000 in
theorem vv_79_31 {l : Launch} (hl : l.stackTraces = false) : cj_V1 l 79 31 (3, 0, 0, []) 32 := Or.inl ⟨by decide +kernel, ok_aload_n dm_79_31 rfl⟩
set_option maxRecDepth 100000 in
theorem vv_79_32 {l : Launch} (hl : l.stackTraces = false) : cj_V1 l 79 32 (3, 0, 0, []) 33 := Or.inl ⟨by decide +kernel, ok_aload_n dm_79_32 rfl⟩
set_option maxRecDepth 100000 in
theorem vv_79_33 {l : Launch} (hl : l.stackTraces = false) : cj_V1 l 79 33 (50, 5, 1, []) 36 := Or.inl ⟨by decide +kernel, ok_getfield (N := 10) (C := RK_5) (T := TK_5) dm_79_33 rfl inK_5 (by decide +kernel) wm_147⟩
set_option maxRecDepth 100000 in
theorem vv_79_36 {l : Launch} (hl : l.stackTraces = false) : cj_V1 l 79 36 (2, 1, 0, []) 37 := Or.inl ⟨by decide +kernel, ok_iload_n dm_79_36 rfl⟩
set_option maxRecDepth 100000 in
theorem vv_79_37 {l : Launch} (hl : l.stackTraces = false) : cj_V1 l 79 37 (54, 0, 0, []) 38 := Or.inl ⟨by decide +kernel, ok_iaload dm_79_37 rfl⟩
set_option maxRecDepth 100000 in
theorem vv_79_38 {l : Launch} (hl : l.stackTraces = false) : cj_V1 l 79 38 (80, 29, 2, [5]) 41 := Or.inr (Or.inr (Or.inl ⟨by decide +kernel, by decide +kernel, rfl, vc_virtual (n := 1) (q := (RK_5, TK_5, 10)) mi_29 dm_79_38 (Or.inl wm_381) wm_383 wm_p10 rfl rfl (by decide +kernel) rfl (by decide +kernel) (by decide +kernel), (vx_none rfl)⟩))
set_option maxRecDepth 100000 in
theorem vv_79_41 {l : Launch} (hl : l.stackTraces = false) : cj_V1 l 79 41 (56, 0, 0, []) 42 := Or.inl ⟨by decide +kernel, ok_iastore dm_79_41 rfl⟩
set_option maxRecDepth 100000 in
theorem vv_79_42 {l : Launch} (hl : l.stackTraces = false) : cj_V1 l 79 42 (6, 1, 1, []) 45 := Or.inl ⟨by decide +kernel, ok_iinc6 dm_79_42 (by decide +kernel)⟩
set_option maxRecDepth 100000 in
theorem vv_79_45 {l : Launch} (hl : l.stackTraces = false) : cj_V1 l 79 45 (30, 2, 0, []) 48 := Or.inl ⟨by decide +kernel, ok_goto dm_79_45 (by decide +kernel)⟩
set_option maxRecDepth 100000 in
theorem vv_79_48 {l : Launch} (hl : l.stackTraces = false) : cj_V1 l 79 48 (91, 0, 0, []) 49 := Or.inr (Or.inl ⟨by decide +kernel, Or.inl (Or.inr (Or.inl ⟨rfl, dm_79_48, rfl⟩))⟩)
set_option maxRecDepth 100000 in
theorem vm_79 {l : Launch} (hl : l.stackTraces = false) : cj_Vm l 79 := cj_Vm_of (r := kc79_) rfl ⟨vv_79_0 hl, vv_79_1 hl, vv_79_2 hl, vv_79_3 hl, vv_79_4 hl, vv_79_7 hl, vv_79_10 hl, vv_79_11 hl, vv_79_14 hl, vv_79_15 hl, vv_79_16 hl, vv_79_19 hl, vv_79_20 hl, vv_79_21 hl, vv_79_24 hl, vv_79_27 hl, vv_79_28 hl, vv_79_31 hl, vv_79_32 hl, vv_79_33 hl, vv_79_36 hl, vv_79_37 hl, vv_79_38 hl, vv_79_41 hl, vv_79_42 hl, vv_79_45 hl, vv_79_48 hl, trivial⟩
set_option maxRecDepth 100000 in
theorem vv_80_0 {l : Launch} (hl : l.stackTraces = false) : cj_V1 l 80 0 (3, 0, 0, []) 1 := Or.inl ⟨by decide +kernel, ok_aload_n dm_80_0 rfl⟩
set_option maxRecDepth 100000 in
theorem vv_80_1 {l : Launch} (hl : l.stackTraces = false) : cj_V1 l 80 1 (2, 1, 0, []) 2 := Or.inl ⟨by decide +kernel, ok_iload_n dm_80_1 rfl⟩
set_option maxRecDepth 100000 in
theorem vv_80_2 {l : Launch} (hl : l.stackTraces = false) : cj_V1 l 80 2 (80, 28, 2, [5]) 5 := Or.inr (Or.inr (Or.inl ⟨by decide +kernel, by decide +kernel, rfl, vc_virtual (n := 1) (q := (RK_5, TK_5, 10)) mi_28 dm_80_2 (Or.inl wm_648) wm_640 wm_641 rfl rfl (by decide +kernel) rfl (by decide +kernel) (by decide +kernel), (vx_none rfl)⟩))
set_option maxRecDepth 100000 in
theorem vv_80_5 {l : Launch} (hl : l.stackTraces = false) : cj_V1 l 80 5 (32, 10, 0, []) 8 := Or.inl ⟨by decide +kernel, ok_if_ne dm_80_5 (by decide +kernel)⟩
set_option maxRecDepth 100000 in
theorem vv_80_8 {l : Launch} (hl : l.stackTraces = false) : cj_V1 l 80 8 (0, 0, 0, []) 9 := Or.inl ⟨by decide +kernel, ok_iconst dm_80_8 (by decide +kernel)⟩
set_option maxRecDepth 100000 in
theorem vv_80_9 {l : Launch} (hl : l.stackTraces = false) : cj_V1 l 80 9 (93, 0, 0, []) 10 := Or.inr (Or.inl ⟨by decide +kernel, Or.inl (Or.inr (Or.inr (Or.inr ⟨rfl, dm_80_9, rfl⟩)))⟩)
set_option maxRecDepth 100000 in
theorem vv_80_10 {l : Launch} (hl : l.stackTraces = false) : cj_V1 l 80 10 (2, 2, 0, []) 11 := Or.inl ⟨by decide +kernel, ok_iload_n dm_80_10 rfl⟩
set_option maxRecDepth 100000 in
theorem vv_80_11 {l : Launch} (hl : l.stackTraces = false) : cj_V1 l 80 11 (1, 1, 0, []) 12 := Or.inl ⟨by decide +kernel, ok_iconst_m dm_80_11 (by decide +kernel)⟩
set_option maxRecDepth 100000 in
theorem vv_80_12 {l : Launch} (hl : l.stackTraces = false) : cj_V1 l 80 12 (37, 42, 0, []) 15 := Or.inl ⟨by decide +kernel, ok_icmp_eq dm_80_12 (by decide +kernel)⟩
set_option maxRecDepth 100000 in
theorem vv_80_15 {l : Launch} (hl : l.stackTraces = false) : cj_V1 l 80 15 (2, 2, 0, []) 16 := Or.inl ⟨by decide +kernel, ok_iload_n dm_80_15 rfl⟩
set_option maxRecDepth 100000 in
theorem vv_80_16 {l : Launch} (hl : l.stackTraces = false) : cj_V1 l 80 16 (3, 0, 0, []) 17 := Or.inl ⟨by decide +kernel, ok_aload_n dm_80_16 rfl⟩
set_option maxRecDepth 100000 in
theorem vv_80_17 {l : Launch} (hl : l.stackTraces = false) : cj_V1 l 80 17 (50, 5, 0, []) 20 := Or.inl ⟨by decide +kernel, ok_getfield (N := 10) (C := RK_5) (T := TK_5) dm_80_17 rfl inK_5 (by decide +kernel) wm_146⟩
set_option maxRecDepth 100000 in
theorem vv_80_20 {l : Launch} (hl : l.stackTraces = false) : cj_V1 l 80 20 (2, 1, 0, []) 21 := Or.inl ⟨by decide +kernel, ok_iload_n dm_80_20 rfl⟩
set_option maxRecDepth 100000 in
theorem vv_80_21 {l : Launch} (hl : l.stackTraces = false) : cj_V1 l 80 21 (54, 5, 0, []) 22 := Or.inl ⟨by decide +kernel, ok_aaload (C := "CatalogueSet$Block") dm_80_21 rfl⟩
set_option maxRecDepth 100000 in
theorem vv_80_22 {l : Launch} (hl : l.stackTraces = false) : cj_V1 l 80 22 (80, 7, 1, [1]) 25 := Or.inr (Or.inr (Or.inl ⟨by decide +kernel, by decide +kernel, rfl, vc_virtual (n := 0) (q := (RK_1, TK_1, 4)) mi_7 dm_80_22 (Or.inl wm_682) wm_683 wm_684 rfl rfl (by decide +kernel) rfl (by decide +kernel) (by decide +kernel), (vx_none rfl)⟩))
set_option maxRecDepth 100000 in
theorem vv_80_25 {l : Launch} (hl : l.stackTraces = false) : cj_V1 l 80 25 (40, 46, 0, []) 28 := Or.inl ⟨by decide +kernel, ok_icmp_ge dm_80_25 (by decide +kernel)⟩
set_option maxRecDepth 100000 in
theorem vv_80_28 {l : Launch} (hl : l.stackTraces = false) : cj_V1 l 80 28 (2, 3, 0, []) 29 := Or.inl ⟨by decide +kernel, ok_iload_n dm_80_28 rfl⟩
set_option maxRecDepth 100000 in
theorem vv_80_29 {l : Launch} (hl : l.stackTraces = false) : cj_V1 l 80 29 (3, 0, 0, []) 30 := Or.inl ⟨by decide +kernel, ok_aload_n dm_80_29 rfl⟩
set_option maxRecDepth 100000 in
theorem vv_80_30 {l : Launch} (hl : l.stackTraces = false) : cj_V1 l 80 30 (50, 5, 0, []) 33 := Or.inl ⟨by decide +kernel, ok_getfield (N := 10) (C := RK_5) (T := TK_5) dm_80_30 rfl inK_5 (by decide +kernel) wm_146⟩
set_option maxRecDepth 100000 in
theorem vv_80_33 {l : Launch} (hl : l.stackTraces = false) : cj_V1 l 80 33 (2, 1, 0, []) 34 := Or.inl ⟨by decide +kernel, ok_iload_n dm_80_33 rfl⟩
set_option maxRecDepth 100000 in
theorem vv_80_34 {l : Launch} (hl : l.stackTraces = false) : cj_V1 l 80 34 (54, 5, 0, []) 35 := Or.inl ⟨by decide +kernel, ok_aaload (C := "CatalogueSet$Block") dm_80_34 rfl⟩
set_option maxRecDepth 100000 in
theorem vv_80_35 {l : Launch} (hl : l.stackTraces = false) : cj_V1 l 80 35 (2, 2, 0, []) 36 := Or.inl ⟨by decide +kernel, ok_iload_n dm_80_35 rfl⟩
set_option maxRecDepth 100000 in
theorem vv_80_36 {l : Launch} (hl : l.stackTraces = false) : cj_V1 l 80 36 (80, 5, 2, [1]) 39 := Or.inr (Or.inr (Or.inl ⟨by decide +kernel, by decide +kernel, rfl, vc_virtual (n := 1) (q := (RK_1, TK_1, 4)) mi_5 dm_80_36 (Or.inl wm_686) wm_687 wm_688 rfl rfl (by decide +kernel) rfl (by decide +kernel) (by decide +kernel), (vx_none rfl)⟩))
set_option maxRecDepth 100000 in
theorem vv_80_39 {l : Launch} (hl : l.stackTraces = false) : cj_V1 l 80 39 (40, 46, 0, []) 42 := Or.inl ⟨by decide +kernel, ok_icmp_ge dm_80_39 (by decide +kernel)⟩
set_option maxRecDepth 100000 in
theorem vv_80_42 {l : Launch} (hl : l.stackTraces = false) : cj_V1 l 80 42 (0, 1, 0, []) 43 := Or.inl ⟨by decide +kernel, ok_iconst dm_80_42 (by decide +kernel)⟩
set_option maxRecDepth 100000 in
theorem vv_80_43 {l : Launch} (hl : l.stackTraces = false) : cj_V1 l 80 43 (30, 47, 0, []) 46 := Or.inl ⟨by decide +kernel, ok_goto dm_80_43 (by decide +kernel)⟩
set_option maxRecDepth 100000 in
theorem vv_80_46 {l : Launch} (hl : l.stackTraces = false) : cj_V1 l 80 46 (0, 0, 0, []) 47 := Or.inl ⟨by decide +kernel, ok_iconst dm_80_46 (by decide +kernel)⟩
set_option maxRecDepth 100000 in
theorem vv_80_47 {l : Launch} (hl : l.stackTraces = false) : cj_V1 l 80 47 (93, 0, 0, []) 48 := Or.inr (Or.inl ⟨by decide +kernel, Or.inl (Or.inr (Or.inr (Or.inr ⟨rfl, dm_80_47, rfl⟩)))⟩)
set_option maxRecDepth 100000 in
theorem vm_80 {l : Launch} (hl : l.stackTraces = false) : cj_Vm l 80 := cj_Vm_of (r := kc80_) rfl ⟨vv_80_0 hl, vv_80_1 hl, vv_80_2 hl, vv_80_5 hl, vv_80_8 hl, vv_80_9 hl, vv_80_10 hl, vv_80_11 hl, vv_80_12 hl, vv_80_15 hl, vv_80_16 hl, vv_80_17 hl, vv_80_20 hl, vv_80_21 hl, vv_80_22 hl, vv_80_25 hl, vv_80_28 hl, vv_80_29 hl, vv_80_30 hl, vv_80_33 hl, vv_80_34 hl, vv_80_35 hl, vv_80_36 hl, vv_80_39 hl, vv_80_42 hl, vv_80_43 hl, vv_80_46 hl, vv_80_47 hl, trivial⟩
set_option maxRecDepth 100000 in
theorem vv_81_0 {l : Launch} (hl : l.stackTraces = false) : cj_V1 l 81 0 (3, 0, 0, []) 1 := Or.inl ⟨by decide +kernel, ok_aload_n dm_81_0 rfl⟩
set_option maxRecDepth 100000 in
theorem vv_81_1 {l : Launch} (hl : l.stackTraces = false) : cj_V1 l 81 1 (0, 0, 0, []) 2 := Or.inl ⟨by decide +kernel, ok_iconst dm_81_1 (by decide +kernel)⟩
set_option maxRecDepth 100000 in
theorem vv_81_2 {l : Launch} (hl : l.stackTraces = false) : cj_V1 l 81 2 (51, 5, 5, [0]) 5 := Or.inl ⟨by decide +kernel, ok_putfield (N := 10) (C := RK_5) (T := TK_5) (ty0 := tyK_5) dm_81_2 rfl inK_5 (by decide +kernel) wm_151 tyK_5_ok nmK_5 (Or.inl rfl) (Or.inl ⟨rfl, rfl⟩)⟩
set_option maxRecDepth 100000 in
theorem vv_81_5 {l : Launch} (hl : l.stackTraces = false) : cj_V1 l 81 5 (0, 0, 0, []) 6 := Or.inl ⟨by decide +kernel, ok_iconst dm_81_5 (by decide +kernel)⟩
set_option maxRecDepth 100000 in
theorem vv_81_6 {l : Launch} (hl : l.stackTraces = false) : cj_V1 l 81 6 (4, 2, 0, []) 7 := Or.inl ⟨by decide +kernel, ok_istore_n dm_81_6 rfl⟩
set_option maxRecDepth 100000 in
theorem vv_81_7 {l : Launch} (hl : l.stackTraces = false) : cj_V1 l 81 7 (2, 2, 0, []) 8 := Or.inl ⟨by decide +kernel, ok_iload_n dm_81_7 rfl⟩
set_option maxRecDepth 100000 in
theorem vv_81_8 {l : Launch} (hl : l.stackTraces = false) : cj_V1 l 81 8 (3, 1, 0, []) 9 := Or.inl ⟨by decide +kernel, ok_aload_n dm_81_8 rfl⟩
set_option maxRecDepth 100000 in
theorem vv_81_9 {l : Launch} (hl : l.stackTraces = false) : cj_V1 l 81 9 (80, 20, 1, [3]) 12 := Or.inr (Or.inr (Or.inl ⟨by decide +kernel, by decide +kernel, rfl, vc_virtual (n := 0) (q := (RK_3, TK_3, 6)) mi_20 dm_81_9 (Or.inl wm_362) wm_336 wm_337 rfl rfl (by decide +kernel) rfl (by decide +kernel) (by decide +kernel), (vx_none rfl)⟩))
set_option maxRecDepth 100000 in
theorem vv_81_12 {l : Launch} (hl : l.stackTraces = false) : cj_V1 l 81 12 (40, 54, 0, []) 15 := Or.inl ⟨by decide +kernel, ok_icmp_ge dm_81_12 (by decide +kernel)⟩
set_option maxRecDepth 100000 in
theorem vv_81_15 {l : Launch} (hl : l.stackTraces = false) : cj_V1 l 81 15 (3, 0, 0, []) 16 := Or.inl ⟨by decide +kernel, ok_aload_n dm_81_15 rfl⟩
set_option maxRecDepth 100000 in
theorem vv_81_16 {l : Launch} (hl : l.stackTraces = false) : cj_V1 l 81 16 (50, 5, 5, []) 19 := Or.inl ⟨by decide +kernel, ok_getfield (N := 10) (C := RK_5) (T := TK_5) dm_81_16 rfl inK_5 (by decide +kernel) wm_151⟩
set_option maxRecDepth 100000 in
theorem vv_81_19 {l : Launch} (hl : l.stackTraces = false) : cj_V1 l 81 19 (0, 848, 0, []) 22 := Or.inl ⟨by decide +kernel, ok_sipush dm_81_19 (by decide +kernel)⟩
set_option maxRecDepth 100000 in
theorem vv_81_22 {l : Launch} (hl : l.stackTraces = false) : cj_V1 l 81 22 (40, 54, 0, []) 25 := Or.inl ⟨by decide +kernel, ok_icmp_ge dm_81_22 (by decide +kernel)⟩
set_option maxRecDepth 100000 in
theorem vv_81_25 {l : Launch} (hl : l.stackTraces = false) : cj_V1 l 81 25 (3, 1, 0, []) 26 := Or.inl ⟨by decide +kernel, ok_aload_n dm_81_25 rfl⟩
set_option maxRecDepth 100000 in
theorem vv_81_26 {l : Launch} (hl : l.stackTraces = false) : cj_V1 l 81 26 (2, 2, 0, []) 27 := Or.inl ⟨by decide +kernel, ok_iload_n dm_81_26 rfl⟩
set_option maxRecDepth 100000 in
theorem vv_81_27 {l : Launch} (hl : l.stackTraces = false) : cj_V1 l 81 27 (80, 18, 2, [3]) 30 := Or.inr (Or.inr (Or.inl ⟨by decide +kernel, by decide +kernel, rfl, vc_virtual (n := 1) (q := (RK_3, TK_3, 6)) mi_18 dm_81_27 (Or.inl wm_376) wm_340 wm_341 rfl rfl (by decide +kernel) rfl (by decide +kernel) (by decide +kernel), (vx_none rfl)⟩))
set_option maxRecDepth 100000 in
theorem vv_81_30 {l : Launch} (hl : l.stackTraces = false) : cj_V1 l 81 30 (4, 2, 0, []) 31 := Or.inl ⟨by decide +kernel, ok_istore_n dm_81_30 rfl⟩
set_option maxRecDepth 100000 in
theorem vv_81_31 {l : Launch} (hl : l.stackTraces = false) : cj_V1 l 81 31 (3, 0, 0, []) 32 := Or.inl ⟨by decide +kernel, ok_aload_n dm_81_31 rfl⟩
set_option maxRecDepth 100000 in
theorem vv_81_32 {l : Launch} (hl : l.stackTraces = false) : cj_V1 l 81 32 (25, 0, 0, []) 33 := Or.inl ⟨by decide +kernel, ok_dup dm_81_32⟩
set_option maxRecDepth 100000 in
theorem vv_81_33 {l : Launch} (hl : l.stackTraces = false) : cj_V1 l 81 33 (50, 5, 5, []) 36 := Or.inl ⟨by decide +kernel, ok_getfield (N := 10) (C := RK_5) (T := TK_5) dm_81_33 rfl inK_5 (by decide +kernel) wm_151⟩
set_option maxRecDepth 100000 in
theorem vv_81_36 {l : Launch} (hl : l.stackTraces = false) : cj_V1 l 81 36 (0, 1, 0, []) 37 := Or.inl ⟨by decide +kernel, ok_iconst dm_81_36 (by decide +kernel)⟩
set_option maxRecDepth 100000 in
theorem vv_81_37 {l : Launch} (hl : l.stackTraces = false) : cj_V1 l 81 37 (10, 0, 0, []) 38 := Or.inl ⟨by decide +kernel, ok_iadd dm_81_37⟩
set_option maxRecDepth 100000 in
theorem vv_81_38 {l : Launch} (hl : l.stackTraces = false) : cj_V1 l 81 38 (51, 5, 5, [0]) 41 := Or.inl ⟨by decide +kernel, ok_putfield (N := 10) (C := RK_5) (T := TK_5) (ty0 := tyK_5) dm_81_38 rfl inK_5 (by decide +kernel) wm_151 tyK_5_ok nmK_5 (Or.inl rfl) (Or.inl ⟨rfl, rfl⟩)⟩
set_option maxRecDepth 100000 in
theorem vv_81_41 {l : Launch} (hl : l.stackTraces = false) : cj_V1 l 81 41 (3, 0, 0, []) 42 := Or.inl ⟨by decide +kernel, ok_aload_n dm_81_41 rfl⟩
set_option maxRecDepth 100000 in
theorem vv_81_42 {l : Launch} (hl : l.stackTraces = false) : cj_V1 l 81 42 (50, 5, 2, []) 45 := Or.inl ⟨by decide +kernel, ok_getfield (N := 10) (C := RK_5) (T := TK_5) dm_81_42 rfl inK_5 (by decide +kernel) wm_148⟩
set_option maxRecDepth 100000 in
theorem vv_81_45 {l : Launch} (hl : l.stackTraces = false) : cj_V1 l 81 45 (3, 0, 0, []) 46 := Or.inl ⟨by decide +kernel, ok_aload_n dm_81_45 rfl⟩
set_option maxRecDepth 100000 in
theorem vv_81_46 {l : Launch} (hl : l.stackTraces = false) : cj_V1 l 81 46 (50, 5, 5, []) 49 := Or.inl ⟨by decide +kernel, ok_getfield (N := 10) (C := RK_5) (T := TK_5) dm_81_46 rfl inK_5 (by decide +kernel) wm_151⟩
set_option maxRecDepth 100000 in
theorem vv_81_49 {l : Launch} (hl : l.stackTraces = false) : cj_V1 l 81 49 (2, 2, 0, []) 50 := Or.inl ⟨by decide +kernel, ok_iload_n dm_81_49 rfl⟩
set_option maxRecDepth 100000 in
theorem vv_81_50 {l : Launch} (hl : l.stackTraces = false) : cj_V1 l 81 50 (56, 0, 0, []) 51 := Or.inl ⟨by decide +kernel, ok_iastore dm_81_50 rfl⟩
set_option maxRecDepth 100000 in
theorem vv_81_51 {l : Launch} (hl : l.stackTraces = false) : cj_V1 l 81 51 (30, 7, 0, []) 54 := Or.inl ⟨by decide +kernel, ok_goto dm_81_51 (by decide +kernel)⟩
set_option maxRecDepth 100000 in
theorem vv_81_54 {l : Launch} (hl : l.stackTraces = false) : cj_V1 l 81 54 (91, 0, 0, []) 55 := Or.inr (Or.inl ⟨by decide +kernel, Or.inl (Or.inr (Or.inl ⟨rfl, dm_81_54, rfl⟩))⟩)
set_option maxRecDepth 100000 in
theorem vm_81 {l : Launch} (hl : l.stackTraces = false) : cj_Vm l 81 := cj_Vm_of (r := kc81_) rfl ⟨vv_81_0 hl, vv_81_1 hl, vv_81_2 hl, vv_81_5 hl, vv_81_6 hl, vv_81_7 hl, vv_81_8 hl, vv_81_9 hl, vv_81_12 hl, vv_81_15 hl, vv_81_16 hl, vv_81_19 hl, vv_81_22 hl, vv_81_25 hl, vv_81_26 hl, vv_81_27 hl, vv_81_30 hl, vv_81_31 hl, vv_81_32 hl, vv_81_33 hl, vv_81_36 hl, vv_81_37 hl, vv_81_38 hl, vv_81_41 hl, vv_81_42 hl, vv_81_45 hl, vv_81_46 hl, vv_81_49 hl, vv_81_50 hl, vv_81_51 hl, vv_81_54 hl, trivial⟩
set_option maxRecDepth 100000 in
theorem vv_82_0 {l : Launch} (hl : l.stackTraces = false) : cj_V1 l 82 0 (2, 1, 0, []) 1 := Or.inl ⟨by decide +kernel, ok_iload_n dm_82_0 rfl⟩
set_option maxRecDepth 100000 in
theorem vv_82_1 {l : Launch} (hl : l.stackTraces = false) : cj_V1 l 82 1 (0, 1, 0, []) 2 := Or.inl ⟨by decide +kernel, ok_iconst dm_82_1 (by decide +kernel)⟩
set_option maxRecDepth 100000 in
theorem vv_82_2 {l : Launch} (hl : l.stackTraces = false) : cj_V1 l 82 2 (39, 13, 0, []) 5 := Or.inl ⟨by decide +kernel, ok_icmp_lt dm_82_2 (by decide +kernel)⟩
set_option maxRecDepth 100000 in
theorem vv_82_5 {l : Launch} (hl : l.stackTraces = false) : cj_V1 l 82 5 (2, 1, 0, []) 6 := Or.inl ⟨by decide +kernel, ok_iload_n dm_82_5 rfl⟩
set_option maxRecDepth 100000 in
theorem vv_82_6 {l : Launch} (hl : l.stackTraces = false) : cj_V1 l 82 6 (3, 0, 0, []) 7 := Or.inl ⟨by decide +kernel, ok_aload_n dm_82_6 rfl⟩
set_option maxRecDepth 100000 in
theorem vv_82_7 {l : Launch} (hl : l.stackTraces = false) : cj_V1 l 82 7 (50, 5, 5, []) 10 := Or.inl ⟨by decide +kernel, ok_getfield (N := 10) (C := RK_5) (T := TK_5) dm_82_7 rfl inK_5 (by decide +kernel) wm_151⟩
set_option maxRecDepth 100000 in
theorem vv_82_10 {l : Launch} (hl : l.stackTraces = false) : cj_V1 l 82 10 (42, 15, 0, []) 13 := Or.inl ⟨by decide +kernel, ok_icmp_le dm_82_10 (by decide +kernel)⟩
set_option maxRecDepth 100000 in
theorem vv_82_13 {l : Launch} (hl : l.stackTraces = false) : cj_V1 l 82 13 (1, 1, 0, []) 14 := Or.inl ⟨by decide +kernel, ok_iconst_m dm_82_13 (by decide +kernel)⟩
set_option maxRecDepth 100000 in
theorem vv_82_14 {l : Launch} (hl : l.stackTraces = false) : cj_V1 l 82 14 (90, 0, 0, []) 15 := Or.inr (Or.inl ⟨by decide +kernel, Or.inl (Or.inl ⟨rfl, dm_82_14, rfl⟩)⟩)
set_option maxRecDepth 100000 in
theorem vv_82_15 {l : Launch} (hl : l.stackTraces = false) : cj_V1 l 82 15 (2, 2, 0, []) 16 := Or.inl ⟨by decide +kernel, ok_iload_n dm_82_15 rfl⟩
set_option maxRecDepth 100000 in
theorem vv_82_16 {l : Launch} (hl : l.stackTraces = false) : cj_V1 l 82 16 (4, 4, 0, []) 18 := Or.inl ⟨by decide +kernel, ok_istore dm_82_16⟩
set_option maxRecDepth 100000 in
theorem vv_82_18 {l : Launch} (hl : l.stackTraces = false) : cj_V1 l 82 18 (3, 0, 0, []) 19 := Or.inl ⟨by decide +kernel, ok_aload_n dm_82_18 rfl⟩
set_option maxRecDepth 100000 in
theorem vv_82_19 {l : Launch} (hl : l.stackTraces = false) : cj_V1 l 82 19 (50, 5, 2, []) 22 := Or.inl ⟨by decide +kernel, ok_getfield (N := 10) (C := RK_5) (T := TK_5) dm_82_19 rfl inK_5 (by decide +kernel) wm_148⟩
set_option maxRecDepth 100000 in
theorem vv_82_22 {l : Launch} (hl : l.stackTraces = false) : cj_V1 l 82 22 (2, 1, 0, []) 23 := Or.inl ⟨by decide +kernel, ok_iload_n dm_82_22 rfl⟩
set_option maxRecDepth 100000 in
theorem vv_82_23 {l : Launch} (hl : l.stackTraces = false) : cj_V1 l 82 23 (0, 1, 0, []) 24 := Or.inl ⟨by decide +kernel, ok_iconst dm_82_23 (by decide +kernel)⟩
set_option maxRecDepth 100000 in
theorem vv_82_24 {l : Launch} (hl : l.stackTraces = false) : cj_V1 l 82 24 (11, 0, 0, []) 25 := Or.inl ⟨by decide +kernel, ok_isub dm_82_24⟩
set_option maxRecDepth 100000 in
theorem vv_82_25 {l : Launch} (hl : l.stackTraces = false) : cj_V1 l 82 25 (54, 0, 0, []) 26 := Or.inl ⟨by decide +kernel, ok_iaload dm_82_25 rfl⟩
set_option maxRecDepth 100000 in
theorem vv_82_26 {l : Launch} (hl : l.stackTraces = false) : cj_V1 l 82 26 (4, 5, 0, []) 28 := Or.inl ⟨by decide +kernel, ok_istore dm_82_26⟩
set_option maxRecDepth 100000 in
theorem vv_82_28 {l : Launch} (hl : l.stackTraces = false) : cj_V1 l 82 28 (2, 5, 0, []) 30 := Or.inl ⟨by decide +kernel, ok_iload dm_82_28⟩
set_option maxRecDepth 100000 in
theorem vv_82_30 {l : Launch} (hl : l.stackTraces = false) : cj_V1 l 82 30 (3, 0, 0, []) 31 := Or.inl ⟨by decide +kernel, ok_aload_n dm_82_30 rfl⟩
set_option maxRecDepth 100000 in
theorem vv_82_31 {l : Launch} (hl : l.stackTraces = false) : cj_V1 l 82 31 (50, 5, 2, []) 34 := Or.inl ⟨by decide +kernel, ok_getfield (N := 10) (C := RK_5) (T := TK_5) dm_82_31 rfl inK_5 (by decide +kernel) wm_148⟩
set_option maxRecDepth 100000 in
theorem vv_82_34 {l : Launch} (hl : l.stackTraces = false) : cj_V1 l 82 34 (2, 1, 0, []) 35 := Or.inl ⟨by decide +kernel, ok_iload_n dm_82_34 rfl⟩
set_option maxRecDepth 100000 in
theorem vv_82_35 {l : Launch} (hl : l.stackTraces = false) : cj_V1 l 82 35 (54, 0, 0, []) 36 := Or.inl ⟨by decide +kernel, ok_iaload dm_82_35 rfl⟩
set_option maxRecDepth 100000 in
theorem vv_82_36 {l : Launch} (hl : l.stackTraces = false) : cj_V1 l 82 36 (40, 117, 0, []) 39 := Or.inl ⟨by decide +kernel, ok_icmp_ge dm_82_36 (by decide +kernel)⟩
set_option maxRecDepth 100000 in
theorem vv_82_39 {l : Launch} (hl : l.stackTraces = false) : cj_V1 l 82 39 (3, 0, 0, []) 40 := Or.inl ⟨by decide +kernel, ok_aload_n dm_82_39 rfl⟩
set_option maxRecDepth 100000 in
theorem vv_82_40 {l : Launch} (hl : l.stackTraces = false) : cj_V1 l 82 40 (2, 5, 0, []) 42 := Or.inl ⟨by decide +kernel, ok_iload dm_82_40⟩
set_option maxRecDepth 100000 in
theorem vv_82_42 {l : Launch} (hl : l.stackTraces = false) : cj_V1 l 82 42 (80, 26, 2, [5]) 45 := Or.inr (Or.inr (Or.inl ⟨by decide +kernel, by decide +kernel, rfl, vc_virtual (n := 1) (q := (RK_5, TK_5, 10)) mi_26 dm_82_42 (Or.inl wm_662) wm_664 wm_p15 rfl rfl (by decide +kernel) rfl (by decide +kernel) (by decide +kernel), (vx_none rfl)⟩))
set_option maxRecDepth 100000 in
theorem vv_82_45 {l : Launch} (hl : l.stackTraces = false) : cj_V1 l 82 45 (4, 6, 0, []) 47 := Or.inl ⟨by decide +kernel, ok_istore dm_82_45⟩
set_option maxRecDepth 100000 in
theorem vv_82_47 {l : Launch} (hl : l.stackTraces = false) : cj_V1 l 82 47 (2, 5, 0, []) 49 := Or.inl ⟨by decide +kernel, ok_iload dm_82_47⟩
set_option maxRecDepth 100000 in
theorem vv_82_49 {l : Launch} (hl : l.stackTraces = false) : cj_V1 l 82 49 (3, 0, 0, []) 50 := Or.inl ⟨by decide +kernel, ok_aload_n dm_82_49 rfl⟩
set_option maxRecDepth 100000 in
theorem vv_82_50 {l : Launch} (hl : l.stackTraces = false) : cj_V1 l 82 50 (50, 5, 1, []) 53 := Or.inl ⟨by decide +kernel, ok_getfield (N := 10) (C := RK_5) (T := TK_5) dm_82_50 rfl inK_5 (by decide +kernel) wm_147⟩
set_option maxRecDepth 100000 in
theorem vv_82_53 {l : Launch} (hl : l.stackTraces = false) : cj_V1 l 82 53 (2, 6, 0, []) 55 := Or.inl ⟨by decide +kernel, ok_iload dm_82_53⟩
set_option maxRecDepth 100000 in
theorem vv_82_55 {l : Launch} (hl : l.stackTraces = false) : cj_V1 l 82 55 (54, 0, 0, []) 56 := Or.inl ⟨by decide +kernel, ok_iaload dm_82_55 rfl⟩
set_option maxRecDepth 100000 in
theorem vv_82_56 {l : Launch} (hl : l.stackTraces = false) : cj_V1 l 82 56 (11, 0, 0, []) 57 := Or.inl ⟨by decide +kernel, ok_isub dm_82_56⟩
set_option maxRecDepth 100000 in
theorem vv_82_57 {l : Launch} (hl : l.stackTraces = false) : cj_V1 l 82 57 (4, 7, 0, []) 59 := Or.inl ⟨by decide +kernel, ok_istore dm_82_57⟩
set_option maxRecDepth 100000 in
theorem vv_82_59 {l : Launch} (hl : l.stackTraces = false) : cj_V1 l 82 59 (3, 0, 0, []) 60 := Or.inl ⟨by decide +kernel, ok_aload_n dm_82_59 rfl⟩
set_option maxRecDepth 100000 in
theorem vv_82_60 {l : Launch} (hl : l.stackTraces = false) : cj_V1 l 82 60 (50, 5, 0, []) 63 := Or.inl ⟨by decide +kernel, ok_getfield (N := 10) (C := RK_5) (T := TK_5) dm_82_60 rfl inK_5 (by decide +kernel) wm_146⟩
set_option maxRecDepth 100000 in
theorem vv_82_63 {l : Launch} (hl : l.stackTraces = false) : cj_V1 l 82 63 (2, 6, 0, []) 65 := Or.inl ⟨by decide +kernel, ok_iload dm_82_63⟩
set_option maxRecDepth 100000 in
theorem vv_82_65 {l : Launch} (hl : l.stackTraces = false) : cj_V1 l 82 65 (54, 5, 0, []) 66 := Or.inl ⟨by decide +kernel, ok_aaload (C := "CatalogueSet$Block") dm_82_65 rfl⟩
set_option maxRecDepth 100000 in
theorem vv_82_66 {l : Launch} (hl : l.stackTraces = false) : cj_V1 l 82 66 (2, 7, 0, []) 68 := Or.inl ⟨by decide +kernel, ok_iload dm_82_66⟩
set_option maxRecDepth 100000 in
theorem vv_82_68 {l : Launch} (hl : l.stackTraces = false) : cj_V1 l 82 68 (80, 4, 2, [1]) 71 := Or.inr (Or.inr (Or.inl ⟨by decide +kernel, by decide +kernel, rfl, vc_virtual (n := 1) (q := (RK_1, TK_1, 4)) mi_4 dm_82_68 (Or.inl wm_368) wm_345 wm_346 rfl rfl (by decide +kernel) rfl (by decide +kernel) (by decide +kernel), (vx_none rfl)⟩))
set_option maxRecDepth 100000 in
theorem vv_82_71 {l : Launch} (hl : l.stackTraces = false) : cj_V1 l 82 71 (4, 8, 0, []) 73 := Or.inl ⟨by decide +kernel, ok_istore dm_82_71⟩
set_option maxRecDepth 100000 in
theorem vv_82_73 {l : Launch} (hl : l.stackTraces = false) : cj_V1 l 82 73 (2, 4, 0, []) 75 := Or.inl ⟨by decide +kernel, ok_iload dm_82_73⟩
set_option maxRecDepth 100000 in
theorem vv_82_75 {l : Launch} (hl : l.stackTraces = false) : cj_V1 l 82 75 (2, 8, 0, []) 77 := Or.inl ⟨by decide +kernel, ok_iload dm_82_75⟩
set_option maxRecDepth 100000 in
theorem vv_82_77 {l : Launch} (hl : l.stackTraces = false) : cj_V1 l 82 77 (40, 104, 0, []) 80 := Or.inl ⟨by decide +kernel, ok_icmp_ge dm_82_77 (by decide +kernel)⟩
set_option maxRecDepth 100000 in
theorem vv_82_80 {l : Launch} (hl : l.stackTraces = false) : cj_V1 l 82 80 (2, 3, 0, []) 81 := Or.inl ⟨by decide +kernel, ok_iload_n dm_82_80 rfl⟩
set_option maxRecDepth 100000 in
theorem vv_82_81 {l : Launch} (hl : l.stackTraces = false) : cj_V1 l 82 81 (31, 89, 0, []) 84 := Or.inl ⟨by decide +kernel, ok_if_eq dm_82_81 (by decide +kernel)⟩
set_option maxRecDepth 100000 in
theorem vv_82_84 {l : Launch} (hl : l.stackTraces = false) : cj_V1 l 82 84 (2, 6, 0, []) 86 := Or.inl ⟨by decide +kernel, ok_iload dm_82_84⟩
set_option maxRecDepth 100000 in
theorem vv_82_86 {l : Launch} (hl : l.stackTraces = false) : cj_V1 l 82 86 (30, 103, 0, []) 89 := Or.inl ⟨by decide +kernel, ok_goto dm_82_86 (by decide +kernel)⟩
set_option maxRecDepth 100000 in
theorem vv_82_89 {l : Launch} (hl : l.stackTraces = false) : cj_V1 l 82 89 (3, 0, 0, []) 90 := Or.inl ⟨by decide +kernel, ok_aload_n dm_82_89 rfl⟩
set_option maxRecDepth 100000 in
theorem vv_82_90 {l : Launch} (hl : l.stackTraces = false) : cj_V1 l 82 90 (50, 5, 0, []) 93 := Or.inl ⟨by decide +kernel, ok_getfield (N := 10) (C := RK_5) (T := TK_5) dm_82_90 rfl inK_5 (by decide +kernel) wm_146⟩
set_option maxRecDepth 100000 in
theorem vv_82_93 {l : Launch} (hl : l.stackTraces = false) : cj_V1 l 82 93 (2, 6, 0, []) 95 := Or.inl ⟨by decide +kernel, ok_iload dm_82_93⟩
set_option maxRecDepth 100000 in
theorem vv_82_95 {l : Launch} (hl : l.stackTraces = false) : cj_V1 l 82 95 (54, 5, 0, []) 96 := Or.inl ⟨by decide +kernel, ok_aaload (C := "CatalogueSet$Block") dm_82_95 rfl⟩
set_option maxRecDepth 100000 in
theorem vv_82_96 {l : Launch} (hl : l.stackTraces = false) : cj_V1 l 82 96 (2, 7, 0, []) 98 := Or.inl ⟨by decide +kernel, ok_iload dm_82_96⟩
set_option maxRecDepth 100000 in
theorem vv_82_98 {l : Launch} (hl : l.stackTraces = false) : cj_V1 l 82 98 (2, 4, 0, []) 100 := Or.inl ⟨by decide +kernel, ok_iload dm_82_98⟩
set_option maxRecDepth 100000 in
theorem vv_82_100 {l : Launch} (hl : l.stackTraces = false) : cj_V1 l 82 100 (80, 6, 3, [1]) 103 := Or.inr (Or.inr (Or.inl ⟨by decide +kernel, by decide +kernel, rfl, vc_virtual (n := 2) (q := (RK_1, TK_1, 4)) mi_6 dm_82_100 (Or.inl wm_666) wm_667 wm_668 rfl rfl (by decide +kernel) rfl (by decide +kernel) (by decide +kernel), (vx_none rfl)⟩))
set_option maxRecDepth 100000 in
theorem vv_82_103 {l : Launch} (hl : l.stackTraces = false) : cj_V1 l 82 103 (90, 0, 0, []) 104 := Or.inr (Or.inl ⟨by decide +kernel, Or.inl (Or.inl ⟨rfl, dm_82_103, rfl⟩)⟩)
set_option maxRecDepth 100000 in
theorem vv_82_104 {l : Launch} (hl : l.stackTraces = false) : cj_V1 l 82 104 (2, 4, 0, []) 106 := Or.inl ⟨by decide +kernel, ok_iload dm_82_104⟩
set_option maxRecDepth 100000 in
theorem vv_82_106 {l : Launch} (hl : l.stackTraces = false) : cj_V1 l 82 106 (2, 8, 0, []) 108 := Or.inl ⟨by decide +kernel, ok_iload dm_82_106⟩
set_option maxRecDepth 100000 in
theorem vv_82_108 {l : Launch} (hl : l.stackTraces = false) : cj_V1 l 82 108 (11, 0, 0, []) 109 := Or.inl ⟨by decide +kernel, ok_isub dm_82_108⟩
set_option maxRecDepth 100000 in
theorem vv_82_109 {l : Launch} (hl : l.stackTraces = false) : cj_V1 l 82 109 (4, 4, 0, []) 111 := Or.inl ⟨by decide +kernel, ok_istore dm_82_109⟩
set_option maxRecDepth 100000 in
theorem vv_82_111 {l : Launch} (hl : l.stackTraces = false) : cj_V1 l 82 111 (6, 5, 1, []) 114 := Or.inl ⟨by decide +kernel, ok_iinc6 dm_82_111 (by decide +kernel)⟩
set_option maxRecDepth 100000 in
theorem vv_82_114 {l : Launch} (hl : l.stackTraces = false) : cj_V1 l 82 114 (30, 28, 0, []) 117 := Or.inl ⟨by decide +kernel, ok_goto dm_82_114 (by decide +kernel)⟩
set_option maxRecDepth 100000 in
theorem vv_82_117 {l : Launch} (hl : l.stackTraces = false) : cj_V1 l 82 117 (1, 1, 0, []) 118 := Or.inl ⟨by decide +kernel, ok_iconst_m dm_82_117 (by decide +kernel)⟩
set_option maxRecDepth 100000 in
theorem vv_82_118 {l : Launch} (hl : l.stackTraces = false) : cj_V1 l 82 118 (90, 0, 0, []) 119 := Or.inr (Or.inl ⟨by decide +kernel, Or.inl (Or.inl ⟨rfl, dm_82_118, rfl⟩)⟩)
set_option maxRecDepth 100000 in
theorem vm_82 {l : Launch} (hl : l.stackTraces = false) : cj_Vm l 82 := cj_Vm_of (r := kc82_) rfl ⟨vv_82_0 hl, vv_82_1 hl, vv_82_2 hl, vv_82_5 hl, vv_82_6 hl, vv_82_7 hl, vv_82_10 hl, vv_82_13 hl, vv_82_14 hl, vv_82_15 hl, vv_82_16 hl, vv_82_18 hl, vv_82_19 hl, vv_82_22 hl, vv_82_23 hl, vv_82_24 hl, vv_82_25 hl, vv_82_26 hl, vv_82_28 hl, vv_82_30 hl, vv_82_31 hl, vv_82_34 hl, vv_82_35 hl, vv_82_36 hl, vv_82_39 hl, vv_82_40 hl, vv_82_42 hl, vv_82_45 hl, vv_82_47 hl, vv_82_49 hl, vv_82_50 hl, vv_82_53 hl, vv_82_55 hl, vv_82_56 hl, vv_82_57 hl, vv_82_59 hl, vv_82_60 hl, vv_82_63 hl, vv_82_65 hl, vv_82_66 hl, vv_82_68 hl, vv_82_71 hl, vv_82_73 hl, vv_82_75 hl, vv_82_77 hl, vv_82_80 hl, vv_82_81 hl, vv_82_84 hl, vv_82_86 hl, vv_82_89 hl, vv_82_90 hl, vv_82_93 hl, vv_82_95 hl, vv_82_96 hl, vv_82_98 hl, vv_82_100 hl, vv_82_103 hl, vv_82_104 hl, vv_82_106 hl, vv_82_108 hl, vv_82_109 hl, vv_82_111 hl, vv_82_114 hl, vv_82_117 hl, vv_82_118 hl, trivial⟩
set_option maxRecDepth 100000 in
theorem vv_83_0 {l : Launch} (hl : l.stackTraces = false) : cj_V1 l 83 0 (3, 0, 0, []) 1 := Or.inl ⟨by decide +kernel, ok_aload_n dm_83_0 rfl⟩
set_option maxRecDepth 100000 in
theorem vv_83_1 {l : Launch} (hl : l.stackTraces = false) : cj_V1 l 83 1 (2, 1, 0, []) 2 := Or.inl ⟨by decide +kernel, ok_iload_n dm_83_1 rfl⟩
set_option maxRecDepth 100000 in
theorem vv_83_2 {l : Launch} (hl : l.stackTraces = false) : cj_V1 l 83 2 (80, 28, 2, [5]) 5 := Or.inr (Or.inr (Or.inl ⟨by decide +kernel, by decide +kernel, rfl, vc_virtual (n := 1) (q := (RK_5, TK_5, 10)) mi_28 dm_83_2 (Or.inl wm_648) wm_640 wm_641 rfl rfl (by decide +kernel) rfl (by decide +kernel) (by decide +kernel), (vx_none rfl)⟩))
set_option maxRecDepth 100000 in
theorem vv_83_5 {l : Launch} (hl : l.stackTraces = false) : cj_V1 l 83 5 (31, 17, 0, []) 8 := Or.inl ⟨by decide +kernel, ok_if_eq dm_83_5 (by decide +kernel)⟩
set_option maxRecDepth 100000 in
theorem vv_83_8 {l : Launch} (hl : l.stackTraces = false) : cj_V1 l 83 8 (3, 0, 0, []) 9 := Or.inl ⟨by decide +kernel, ok_aload_n dm_83_8 rfl⟩
set_option maxRecDepth 100000 in
theorem vv_83_9 {l : Launch} (hl : l.stackTraces = false) : cj_V1 l 83 9 (50, 5, 3, []) 12 := Or.inl ⟨by decide +kernel, ok_getfield (N := 10) (C := RK_5) (T := TK_5) dm_83_9 rfl inK_5 (by decide +kernel) wm_149⟩
set_option maxRecDepth 100000 in
theorem vv_83_12 {l : Launch} (hl : l.stackTraces = false) : cj_V1 l 83 12 (2, 1, 0, []) 13 := Or.inl ⟨by decide +kernel, ok_iload_n dm_83_12 rfl⟩
set_option maxRecDepth 100000 in
theorem vv_83_13 {l : Launch} (hl : l.stackTraces = false) : cj_V1 l 83 13 (54, 0, 0, []) 14 := Or.inl ⟨by decide +kernel, ok_iaload dm_83_13 rfl⟩
set_option maxRecDepth 100000 in
theorem vv_83_14 {l : Launch} (hl : l.stackTraces = false) : cj_V1 l 83 14 (30, 18, 0, []) 17 := Or.inl ⟨by decide +kernel, ok_goto dm_83_14 (by decide +kernel)⟩
set_option maxRecDepth 100000 in
theorem vv_83_17 {l : Launch} (hl : l.stackTraces = false) : cj_V1 l 83 17 (0, 0, 0, []) 18 := Or.inl ⟨by decide +kernel, ok_iconst dm_83_17 (by decide +kernel)⟩
set_option maxRecDepth 100000 in
theorem vv_83_18 {l : Launch} (hl : l.stackTraces = false) : cj_V1 l 83 18 (90, 0, 0, []) 19 := Or.inr (Or.inl ⟨by decide +kernel, Or.inl (Or.inl ⟨rfl, dm_83_18, rfl⟩)⟩)
set_option maxRecDepth 100000 in
theorem vm_83 {l : Launch} (hl : l.stackTraces = false) : cj_Vm l 83 := cj_Vm_of (r := kc83_) rfl ⟨vv_83_0 hl, vv_83_1 hl, vv_83_2 hl, vv_83_5 hl, vv_83_8 hl, vv_83_9 hl, vv_83_12 hl, vv_83_13 hl, vv_83_14 hl, vv_83_17 hl, vv_83_18 hl, trivial⟩
set_option maxRecDepth 100000 in
theorem vv_84_0 {l : Launch} (hl : l.stackTraces = false) : cj_V1 l 84 0 (3, 1, 0, []) 1 := Or.inl ⟨by decide +kernel, ok_aload_n dm_84_0 rfl⟩
set_option maxRecDepth 100000 in
theorem vv_84_1 {l : Launch} (hl : l.stackTraces = false) : cj_V1 l 84 1 (80, 39, 1, [6]) 4 := Or.inr (Or.inr (Or.inl ⟨by decide +kernel, by decide +kernel, rfl, vc_virtual (n := 0) (q := (RK_6, TK_6, 2)) mi_39 dm_84_1 (Or.inl wm_276) wm_249 wm_250 rfl rfl (by decide +kernel) rfl (by decide +kernel) (by decide +kernel), (vx_none rfl)⟩))
set_option maxRecDepth 100000 in
theorem vv_84_4 {l : Launch} (hl : l.stackTraces = false) : cj_V1 l 84 4 (4, 2, 0, []) 5 := Or.inl ⟨by decide +kernel, ok_istore_n dm_84_4 rfl⟩
set_option maxRecDepth 100000 in
theorem vv_84_5 {l : Launch} (hl : l.stackTraces = false) : cj_V1 l 84 5 (0, 0, 0, []) 6 := Or.inl ⟨by decide +kernel, ok_iconst dm_84_5 (by decide +kernel)⟩
set_option maxRecDepth 100000 in
theorem vv_84_6 {l : Launch} (hl : l.stackTraces = false) : cj_V1 l 84 6 (4, 3, 0, []) 7 := Or.inl ⟨by decide +kernel, ok_istore_n dm_84_6 rfl⟩
set_option maxRecDepth 100000 in
theorem vv_84_7 {l : Launch} (hl : l.stackTraces = false) : cj_V1 l 84 7 (2, 3, 0, []) 8 := Or.inl ⟨by decide +kernel, ok_iload_n dm_84_7 rfl⟩
set_option maxRecDepth 100000 in
theorem vv_84_8 {l : Launch} (hl : l.stackTraces = false) : cj_V1 l 84 8 (2, 2, 0, []) 9 := Or.inl ⟨by decide +kernel, ok_iload_n dm_84_8 rfl⟩
set_option maxRecDepth 100000 in
theorem vv_84_9 {l : Launch} (hl : l.stackTraces = false) : cj_V1 l 84 9 (40, 27, 0, []) 12 := Or.inl ⟨by decide +kernel, ok_icmp_ge dm_84_9 (by decide +kernel)⟩
set_option maxRecDepth 100000 in
theorem vv_84_12 {l : Launch} (hl : l.stackTraces = false) : cj_V1 l 84 12 (3, 0, 0, []) 13 := Or.inl ⟨by decide +kernel, ok_aload_n dm_84_12 rfl⟩
set_option maxRecDepth 100000 in
theorem vv_84_13 {l : Launch} (hl : l.stackTraces = false) : cj_V1 l 84 13 (3, 1, 0, []) 14 := Or.inl ⟨by decide +kernel, ok_aload_n dm_84_13 rfl⟩
set_option maxRecDepth 100000 in
theorem vv_84_14 {l : Launch} (hl : l.stackTraces = false) : cj_V1 l 84 14 (2, 3, 0, []) 15 := Or.inl ⟨by decide +kernel, ok_iload_n dm_84_14 rfl⟩
set_option maxRecDepth 100000 in
theorem vv_84_15 {l : Launch} (hl : l.stackTraces = false) : cj_V1 l 84 15 (80, 36, 2, [6]) 18 := Or.inr (Or.inr (Or.inl ⟨by decide +kernel, by decide +kernel, rfl, vc_virtual (n := 1) (q := (RK_6, TK_6, 2)) mi_36 dm_84_15 (Or.inl wm_277) wm_253 wm_254 rfl rfl (by decide +kernel) rfl (by decide +kernel) (by decide +kernel), (vx_none rfl)⟩))
set_option maxRecDepth 100000 in
theorem vv_84_18 {l : Launch} (hl : l.stackTraces = false) : cj_V1 l 84 18 (80, 35, 2, [6]) 21 := Or.inr (Or.inr (Or.inl ⟨by decide +kernel, by decide +kernel, rfl, vc_virtual (n := 1) (q := (RK_6, TK_6, 2)) mi_35 dm_84_18 (Or.inl wm_278) wm_279 wm_280 rfl rfl (by decide +kernel) rfl (by decide +kernel) (by decide +kernel), (vx_none rfl)⟩))
set_option maxRecDepth 100000 in
theorem vv_84_21 {l : Launch} (hl : l.stackTraces = false) : cj_V1 l 84 21 (6, 3, 1, []) 24 := Or.inl ⟨by decide +kernel, ok_iinc6 dm_84_21 (by decide +kernel)⟩
set_option maxRecDepth 100000 in
theorem vv_84_24 {l : Launch} (hl : l.stackTraces = false) : cj_V1 l 84 24 (30, 7, 0, []) 27 := Or.inl ⟨by decide +kernel, ok_goto dm_84_24 (by decide +kernel)⟩
set_option maxRecDepth 100000 in
theorem vv_84_27 {l : Launch} (hl : l.stackTraces = false) : cj_V1 l 84 27 (91, 0, 0, []) 28 := Or.inr (Or.inl ⟨by decide +kernel, Or.inl (Or.inr (Or.inl ⟨rfl, dm_84_27, rfl⟩))⟩)
set_option maxRecDepth 100000 in
theorem vm_84 {l : Launch} (hl : l.stackTraces = false) : cj_Vm l 84 := cj_Vm_of (r := kc84_) rfl ⟨vv_84_0 hl, vv_84_1 hl, vv_84_4 hl, vv_84_5 hl, vv_84_6 hl, vv_84_7 hl, vv_84_8 hl, vv_84_9 hl, vv_84_12 hl, vv_84_13 hl, vv_84_14 hl, vv_84_15 hl, vv_84_18 hl, vv_84_21 hl, vv_84_24 hl, vv_84_27 hl, trivial⟩
set_option maxRecDepth 100000 in
theorem vv_85_0 {l : Launch} (hl : l.stackTraces = false) : cj_V1 l 85 0 (3, 0, 0, []) 1 := Or.inl ⟨by decide +kernel, ok_aload_n dm_85_0 rfl⟩
set_option maxRecDepth 100000 in
theorem vv_85_1 {l : Launch} (hl : l.stackTraces = false) : cj_V1 l 85 1 (2, 1, 0, []) 2 := Or.inl ⟨by decide +kernel, ok_iload_n dm_85_1 rfl⟩
set_option maxRecDepth 100000 in
theorem vv_85_2 {l : Launch} (hl : l.stackTraces = false) : cj_V1 l 85 2 (0, 5, 0, []) 3 := Or.inl ⟨by decide +kernel, ok_iconst dm_85_2 (by decide +kernel)⟩
set_option maxRecDepth 100000 in
theorem vv_85_3 {l : Launch} (hl : l.stackTraces = false) : cj_V1 l 85 3 (81, 44, 2, []) 6 := Or.inr (Or.inr (Or.inl ⟨by decide +kernel, by decide +kernel, rfl, vc_static mi_44 dm_85_3 (Or.inl wm_888) wm_889 (by decide +kernel) (by decide +kernel) (by decide +kernel), (vx_none rfl)⟩))
set_option maxRecDepth 100000 in
theorem vv_85_6 {l : Launch} (hl : l.stackTraces = false) : cj_V1 l 85 6 (3, 0, 0, []) 7 := Or.inl ⟨by decide +kernel, ok_aload_n dm_85_6 rfl⟩
set_option maxRecDepth 100000 in
theorem vv_85_7 {l : Launch} (hl : l.stackTraces = false) : cj_V1 l 85 7 (50, 7, 23, []) 10 := Or.inl ⟨by decide +kernel, ok_getfield (N := 39) (C := RK_7) (T := TK_7) dm_85_7 rfl inK_7 (by decide +kernel) wm_756⟩
set_option maxRecDepth 100000 in
theorem vv_85_10 {l : Launch} (hl : l.stackTraces = false) : cj_V1 l 85 10 (1, 1, 0, []) 11 := Or.inl ⟨by decide +kernel, ok_iconst_m dm_85_10 (by decide +kernel)⟩
set_option maxRecDepth 100000 in
theorem vv_85_11 {l : Launch} (hl : l.stackTraces = false) : cj_V1 l 85 11 (37, 18, 0, []) 14 := Or.inl ⟨by decide +kernel, ok_icmp_eq dm_85_11 (by decide +kernel)⟩
set_option maxRecDepth 100000 in
theorem vv_85_14 {l : Launch} (hl : l.stackTraces = false) : cj_V1 l 85 14 (0, 1, 0, []) 15 := Or.inl ⟨by decide +kernel, ok_iconst dm_85_14 (by decide +kernel)⟩
set_option maxRecDepth 100000 in
theorem vv_85_15 {l : Launch} (hl : l.stackTraces = false) : cj_V1 l 85 15 (30, 19, 0, []) 18 := Or.inl ⟨by decide +kernel, ok_goto dm_85_15 (by decide +kernel)⟩
set_option maxRecDepth 100000 in
theorem vv_85_18 {l : Launch} (hl : l.stackTraces = false) : cj_V1 l 85 18 (0, 0, 0, []) 19 := Or.inl ⟨by decide +kernel, ok_iconst dm_85_18 (by decide +kernel)⟩
set_option maxRecDepth 100000 in
theorem vv_85_19 {l : Launch} (hl : l.stackTraces = false) : cj_V1 l 85 19 (80, 46, 3, [7]) 22 := Or.inr (Or.inr (Or.inl ⟨by decide +kernel, by decide +kernel, rfl, vc_virtual (n := 2) (q := (RK_7, TK_7, 39)) mi_46 dm_85_19 (Or.inl wm_865) wm_867 wm_p19 rfl rfl (by decide +kernel) rfl (by decide +kernel) (by decide +kernel), (vx_none rfl)⟩))
set_option maxRecDepth 100000 in
theorem vv_85_22 {l : Launch} (hl : l.stackTraces = false) : cj_V1 l 85 22 (31, 41, 0, []) 25 := Or.inl ⟨by decide +kernel, ok_if_eq dm_85_22 (by decide +kernel)⟩
set_option maxRecDepth 100000 in
theorem vv_85_25 {l : Launch} (hl : l.stackTraces = false) : cj_V1 l 85 25 (3, 0, 0, []) 26 := Or.inl ⟨by decide +kernel, ok_aload_n dm_85_25 rfl⟩
set_option maxRecDepth 100000 in
theorem vv_85_26 {l : Launch} (hl : l.stackTraces = false) : cj_V1 l 85 26 (50, 7, 25, []) 29 := Or.inl ⟨by decide +kernel, ok_getfield (N := 39) (C := RK_7) (T := TK_7) dm_85_26 rfl inK_7 (by decide +kernel) wm_758⟩
set_option maxRecDepth 100000 in
theorem vv_85_29 {l : Launch} (hl : l.stackTraces = false) : cj_V1 l 85 29 (0, 5, 0, []) 30 := Or.inl ⟨by decide +kernel, ok_iconst dm_85_29 (by decide +kernel)⟩
set_option maxRecDepth 100000 in
theorem vv_85_30 {l : Launch} (hl : l.stackTraces = false) : cj_V1 l 85 30 (3, 0, 0, []) 31 := Or.inl ⟨by decide +kernel, ok_aload_n dm_85_30 rfl⟩
set_option maxRecDepth 100000 in
theorem vv_85_31 {l : Launch} (hl : l.stackTraces = false) : cj_V1 l 85 31 (50, 7, 23, []) 34 := Or.inl ⟨by decide +kernel, ok_getfield (N := 39) (C := RK_7) (T := TK_7) dm_85_31 rfl inK_7 (by decide +kernel) wm_756⟩
set_option maxRecDepth 100000 in
theorem vv_85_34 {l : Launch} (hl : l.stackTraces = false) : cj_V1 l 85 34 (12, 0, 0, []) 35 := Or.inl ⟨by decide +kernel, ok_imul dm_85_34⟩
set_option maxRecDepth 100000 in
theorem vv_85_35 {l : Launch} (hl : l.stackTraces = false) : cj_V1 l 85 35 (2, 1, 0, []) 36 := Or.inl ⟨by decide +kernel, ok_iload_n dm_85_35 rfl⟩
set_option maxRecDepth 100000 in
theorem vv_85_36 {l : Launch} (hl : l.stackTraces = false) : cj_V1 l 85 36 (10, 0, 0, []) 37 := Or.inl ⟨by decide +kernel, ok_iadd dm_85_36⟩
set_option maxRecDepth 100000 in
theorem vv_85_37 {l : Launch} (hl : l.stackTraces = false) : cj_V1 l 85 37 (54, 0, 0, []) 38 := Or.inl ⟨by decide +kernel, ok_iaload dm_85_37 rfl⟩
set_option maxRecDepth 100000 in
theorem vv_85_38 {l : Launch} (hl : l.stackTraces = false) : cj_V1 l 85 38 (30, 42, 0, []) 41 := Or.inl ⟨by decide +kernel, ok_goto dm_85_38 (by decide +kernel)⟩
set_option maxRecDepth 100000 in
theorem vv_85_41 {l : Launch} (hl : l.stackTraces = false) : cj_V1 l 85 41 (0, 0, 0, []) 42 := Or.inl ⟨by decide +kernel, ok_iconst dm_85_41 (by decide +kernel)⟩
set_option maxRecDepth 100000 in
theorem vv_85_42 {l : Launch} (hl : l.stackTraces = false) : cj_V1 l 85 42 (90, 0, 0, []) 43 := Or.inr (Or.inl ⟨by decide +kernel, Or.inl (Or.inl ⟨rfl, dm_85_42, rfl⟩)⟩)
set_option maxRecDepth 100000 in
theorem vm_85 {l : Launch} (hl : l.stackTraces = false) : cj_Vm l 85 := cj_Vm_of (r := kc85_) rfl ⟨vv_85_0 hl, vv_85_1 hl, vv_85_2 hl, vv_85_3 hl, vv_85_6 hl, vv_85_7 hl, vv_85_10 hl, vv_85_11 hl, vv_85_14 hl, vv_85_15 hl, vv_85_18 hl, vv_85_19 hl, vv_85_22 hl, vv_85_25 hl, vv_85_26 hl, vv_85_29 hl, vv_85_30 hl, vv_85_31 hl, vv_85_34 hl, vv_85_35 hl, vv_85_36 hl, vv_85_37 hl, vv_85_38 hl, vv_85_41 hl, vv_85_42 hl, trivial⟩
set_option maxRecDepth 100000 in
theorem vv_86_0 {l : Launch} (hl : l.stackTraces = false) : cj_V1 l 86 0 (3, 0, 0, []) 1 := Or.inl ⟨by decide +kernel, ok_aload_n dm_86_0 rfl⟩
set_option maxRecDepth 100000 in
theorem vv_86_1 {l : Launch} (hl : l.stackTraces = false) : cj_V1 l 86 1 (2, 1, 0, []) 2 := Or.inl ⟨by decide +kernel, ok_iload_n dm_86_1 rfl⟩
set_option maxRecDepth 100000 in
theorem vv_86_2 {l : Launch} (hl : l.stackTraces = false) : cj_V1 l 86 2 (0, 3, 0, []) 3 := Or.inl ⟨by decide +kernel, ok_iconst dm_86_2 (by decide +kernel)⟩
set_option maxRecDepth 100000 in
theorem vv_86_3 {l : Launch} (hl : l.stackTraces = false) : cj_V1 l 86 3 (81, 44, 2, []) 6 := Or.inr (Or.inr (Or.inl ⟨by decide +kernel, by decide +kernel, rfl, vc_static mi_44 dm_86_3 (Or.inl wm_888) wm_889 (by decide +kernel) (by decide +kernel) (by decide +kernel), (vx_none rfl)⟩))
set_option maxRecDepth 100000 in
theorem vv_86_6 {l : Launch} (hl : l.stackTraces = false) : cj_V1 l 86 6 (0, 1, 0, []) 7 := Or.inl ⟨by decide +kernel, ok_iconst dm_86_6 (by decide +kernel)⟩
set_option maxRecDepth 100000 in
theorem vv_86_7 {l : Launch} (hl : l.stackTraces = false) : cj_V1 l 86 7 (80, 46, 3, [7]) 10 := Or.inr (Or.inr (Or.inl ⟨by decide +kernel, by decide +kernel, rfl, vc_virtual (n := 2) (q := (RK_7, TK_7, 39)) mi_46 dm_86_7 (Or.inl wm_865) wm_867 wm_p19 rfl rfl (by decide +kernel) rfl (by decide +kernel) (by decide +kernel), (vx_none rfl)⟩))
set_option maxRecDepth 100000 in
theorem vv_86_10 {l : Launch} (hl : l.stackTraces = false) : cj_V1 l 86 10 (32, 15, 0, []) 13 := Or.inl ⟨by decide +kernel, ok_if_ne dm_86_10 (by decide +kernel)⟩
set_option maxRecDepth 100000 in
theorem vv_86_13 {l : Launch} (hl : l.stackTraces = false) : cj_V1 l 86 13 (0, 0, 0, []) 14 := Or.inl ⟨by decide +kernel, ok_iconst dm_86_13 (by decide +kernel)⟩
set_option maxRecDepth 100000 in
theorem vv_86_14 {l : Launch} (hl : l.stackTraces = false) : cj_V1 l 86 14 (90, 0, 0, []) 15 := Or.inr (Or.inl ⟨by decide +kernel, Or.inl (Or.inl ⟨rfl, dm_86_14, rfl⟩)⟩)
set_option maxRecDepth 100000 in
theorem vv_86_15 {l : Launch} (hl : l.stackTraces = false) : cj_V1 l 86 15 (2, 1, 0, []) 16 := Or.inl ⟨by decide +kernel, ok_iload_n dm_86_15 rfl⟩
set_option maxRecDepth 100000 in
theorem vv_86_16 {l : Launch} (hl : l.stackTraces = false) : cj_V1 l 86 16 (32, 26, 0, []) 19 := Or.inl ⟨by decide +kernel, ok_if_ne dm_86_16 (by decide +kernel)⟩
set_option maxRecDepth 100000 in
theorem vv_86_19 {l : Launch} (hl : l.stackTraces = false) : cj_V1 l 86 19 (3, 0, 0, []) 20 := Or.inl ⟨by decide +kernel, ok_aload_n dm_86_19 rfl⟩
set_option maxRecDepth 100000 in
theorem vv_86_20 {l : Launch} (hl : l.stackTraces = false) : cj_V1 l 86 20 (50, 7, 3, []) 23 := Or.inl ⟨by decide +kernel, ok_getfield (N := 39) (C := RK_7) (T := TK_7) dm_86_20 rfl inK_7 (by decide +kernel) wm_736⟩
set_option maxRecDepth 100000 in
theorem vv_86_23 {l : Launch} (hl : l.stackTraces = false) : cj_V1 l 86 23 (30, 42, 0, []) 26 := Or.inl ⟨by decide +kernel, ok_goto dm_86_23 (by decide +kernel)⟩
set_option maxRecDepth 100000 in
theorem vv_86_26 {l : Launch} (hl : l.stackTraces = false) : cj_V1 l 86 26 (2, 1, 0, []) 27 := Or.inl ⟨by decide +kernel, ok_iload_n dm_86_26 rfl⟩
set_option maxRecDepth 100000 in
theorem vv_86_27 {l : Launch} (hl : l.stackTraces = false) : cj_V1 l 86 27 (0, 1, 0, []) 28 := Or.inl ⟨by decide +kernel, ok_iconst dm_86_27 (by decide +kernel)⟩
set_option maxRecDepth 100000 in
theorem vv_86_28 {l : Launch} (hl : l.stackTraces = false) : cj_V1 l 86 28 (38, 38, 0, []) 31 := Or.inl ⟨by decide +kernel, ok_icmp_ne dm_86_28 (by decide +kernel)⟩
set_option maxRecDepth 100000 in
theorem vv_86_31 {l : Launch} (hl : l.stackTraces = false) : cj_V1 l 86 31 (3, 0, 0, []) 32 := Or.inl ⟨by decide +kernel, ok_aload_n dm_86_31 rfl⟩
set_option maxRecDepth 100000 in
theorem vv_86_32 {l : Launch} (hl : l.stackTraces = false) : cj_V1 l 86 32 (50, 7, 5, []) 35 := Or.inl ⟨by decide +kernel, ok_getfield (N := 39) (C := RK_7) (T := TK_7) dm_86_32 rfl inK_7 (by decide +kernel) wm_738⟩
set_option maxRecDepth 100000 in
theorem vv_86_35 {l : Launch} (hl : l.stackTraces = false) : cj_V1 l 86 35 (30, 42, 0, []) 38 := Or.inl ⟨by decide +kernel, ok_goto dm_86_35 (by decide +kernel)⟩
set_option maxRecDepth 100000 in
theorem vv_86_38 {l : Launch} (hl : l.stackTraces = false) : cj_V1 l 86 38 (3, 0, 0, []) 39 := Or.inl ⟨by decide +kernel, ok_aload_n dm_86_38 rfl⟩
set_option maxRecDepth 100000 in
theorem vv_86_39 {l : Launch} (hl : l.stackTraces = false) : cj_V1 l 86 39 (50, 7, 8, []) 42 := Or.inl ⟨by decide +kernel, ok_getfield (N := 39) (C := RK_7) (T := TK_7) dm_86_39 rfl inK_7 (by decide +kernel) wm_741⟩
set_option maxRecDepth 100000 in
theorem vv_86_42 {l : Launch} (hl : l.stackTraces = false) : cj_V1 l 86 42 (90, 0, 0, []) 43 := Or.inr (Or.inl ⟨by decide +kernel, Or.inl (Or.inl ⟨rfl, dm_86_42, rfl⟩)⟩)
set_option maxRecDepth 100000 in
theorem vm_86 {l : Launch} (hl : l.stackTraces = false) : cj_Vm l 86 := cj_Vm_of (r := kc86_) rfl ⟨vv_86_0 hl, vv_86_1 hl, vv_86_2 hl, vv_86_3 hl, vv_86_6 hl, vv_86_7 hl, vv_86_10 hl, vv_86_13 hl, vv_86_14 hl, vv_86_15 hl, vv_86_16 hl, vv_86_19 hl, vv_86_20 hl, vv_86_23 hl, vv_86_26 hl, vv_86_27 hl, vv_86_28 hl, vv_86_31 hl, vv_86_32 hl, vv_86_35 hl, vv_86_38 hl, vv_86_39 hl, vv_86_42 hl, trivial⟩
set_option maxRecDepth 100000 in
theorem vv_87_0 {l : Launch} (hl : l.stackTraces = false) : cj_V1 l 87 0 (3, 0, 0, []) 1 := Or.inl ⟨by decide +kernel, ok_aload_n dm_87_0 rfl⟩
set_option maxRecDepth 100000 in
theorem vv_87_1 {l : Launch} (hl : l.stackTraces = false) : cj_V1 l 87 1 (2, 1, 0, []) 2 := Or.inl ⟨by decide +kernel, ok_iload_n dm_87_1 rfl⟩
set_option maxRecDepth 100000 in
theorem vv_87_2 {l : Launch} (hl : l.stackTraces = false) : cj_V1 l 87 2 (3, 0, 0, []) 3 := Or.inl ⟨by decide +kernel, ok_aload_n dm_87_2 rfl⟩
set_option maxRecDepth 100000 in
theorem vv_87_3 {l : Launch} (hl : l.stackTraces = false) : cj_V1 l 87 3 (50, 7, 5, []) 6 := Or.inl ⟨by decide +kernel, ok_getfield (N := 39) (C := RK_7) (T := TK_7) dm_87_3 rfl inK_7 (by decide +kernel) wm_738⟩
set_option maxRecDepth 100000 in
theorem vv_87_6 {l : Launch} (hl : l.stackTraces = false) : cj_V1 l 87 6 (81, 44, 2, []) 9 := Or.inr (Or.inr (Or.inl ⟨by decide +kernel, by decide +kernel, rfl, vc_static mi_44 dm_87_6 (Or.inl wm_888) wm_889 (by decide +kernel) (by decide +kernel) (by decide +kernel), (vx_none rfl)⟩))
set_option maxRecDepth 100000 in
theorem vv_87_9 {l : Launch} (hl : l.stackTraces = false) : cj_V1 l 87 9 (3, 0, 0, []) 10 := Or.inl ⟨by decide +kernel, ok_aload_n dm_87_9 rfl⟩
set_option maxRecDepth 100000 in
theorem vv_87_10 {l : Launch} (hl : l.stackTraces = false) : cj_V1 l 87 10 (50, 7, 8, []) 13 := Or.inl ⟨by decide +kernel, ok_getfield (N := 39) (C := RK_7) (T := TK_7) dm_87_10 rfl inK_7 (by decide +kernel) wm_741⟩
set_option maxRecDepth 100000 in
theorem vv_87_13 {l : Launch} (hl : l.stackTraces = false) : cj_V1 l 87 13 (0, 8, 0, []) 15 := Or.inl ⟨by decide +kernel, ok_bipush dm_87_13 (by decide +kernel)⟩
set_option maxRecDepth 100000 in
theorem vv_87_15 {l : Launch} (hl : l.stackTraces = false) : cj_V1 l 87 15 (40, 22, 0, []) 18 := Or.inl ⟨by decide +kernel, ok_icmp_ge dm_87_15 (by decide +kernel)⟩
set_option maxRecDepth 100000 in
theorem vv_87_18 {l : Launch} (hl : l.stackTraces = false) : cj_V1 l 87 18 (0, 1, 0, []) 19 := Or.inl ⟨by decide +kernel, ok_iconst dm_87_18 (by decide +kernel)⟩
set_option maxRecDepth 100000 in
theorem vv_87_19 {l : Launch} (hl : l.stackTraces = false) : cj_V1 l 87 19 (30, 23, 0, []) 22 := Or.inl ⟨by decide +kernel, ok_goto dm_87_19 (by decide +kernel)⟩
set_option maxRecDepth 100000 in
theorem vv_87_22 {l : Launch} (hl : l.stackTraces = false) : cj_V1 l 87 22 (0, 0, 0, []) 23 := Or.inl ⟨by decide +kernel, ok_iconst dm_87_22 (by decide +kernel)⟩
set_option maxRecDepth 100000 in
theorem vv_87_23 {l : Launch} (hl : l.stackTraces = false) : cj_V1 l 87 23 (80, 46, 3, [7]) 26 := Or.inr (Or.inr (Or.inl ⟨by decide +kernel, by decide +kernel, rfl, vc_virtual (n := 2) (q := (RK_7, TK_7, 39)) mi_46 dm_87_23 (Or.inl wm_865) wm_867 wm_p19 rfl rfl (by decide +kernel) rfl (by decide +kernel) (by decide +kernel), (vx_none rfl)⟩))
set_option maxRecDepth 100000 in
theorem vv_87_26 {l : Launch} (hl : l.stackTraces = false) : cj_V1 l 87 26 (32, 31, 0, []) 29 := Or.inl ⟨by decide +kernel, ok_if_ne dm_87_26 (by decide +kernel)⟩
set_option maxRecDepth 100000 in
theorem vv_87_29 {l : Launch} (hl : l.stackTraces = false) : cj_V1 l 87 29 (0, 0, 0, []) 30 := Or.inl ⟨by decide +kernel, ok_iconst dm_87_29 (by decide +kernel)⟩
set_option maxRecDepth 100000 in
theorem vv_87_30 {l : Launch} (hl : l.stackTraces = false) : cj_V1 l 87 30 (90, 0, 0, []) 31 := Or.inr (Or.inl ⟨by decide +kernel, Or.inl (Or.inl ⟨rfl, dm_87_30, rfl⟩)⟩)
set_option maxRecDepth 100000 in
theorem vv_87_31 {l : Launch} (hl : l.stackTraces = false) : cj_V1 l 87 31 (3, 0, 0, []) 32 := Or.inl ⟨by decide +kernel, ok_aload_n dm_87_31 rfl⟩
set_option maxRecDepth 100000 in
theorem vv_87_32 {l : Launch} (hl : l.stackTraces = false) : cj_V1 l 87 32 (50, 7, 9, []) 35 := Or.inl ⟨by decide +kernel, ok_getfield (N := 39) (C := RK_7) (T := TK_7) dm_87_32 rfl inK_7 (by decide +kernel) wm_742⟩
set_option maxRecDepth 100000 in
theorem vv_87_35 {l : Launch} (hl : l.stackTraces = false) : cj_V1 l 87 35 (3, 0, 0, []) 36 := Or.inl ⟨by decide +kernel, ok_aload_n dm_87_35 rfl⟩
set_option maxRecDepth 100000 in
theorem vv_87_36 {l : Launch} (hl : l.stackTraces = false) : cj_V1 l 87 36 (50, 7, 8, []) 39 := Or.inl ⟨by decide +kernel, ok_getfield (N := 39) (C := RK_7) (T := TK_7) dm_87_36 rfl inK_7 (by decide +kernel) wm_741⟩
set_option maxRecDepth 100000 in
theorem vv_87_39 {l : Launch} (hl : l.stackTraces = false) : cj_V1 l 87 39 (2, 1, 0, []) 40 := Or.inl ⟨by decide +kernel, ok_iload_n dm_87_39 rfl⟩
set_option maxRecDepth 100000 in
theorem vv_87_40 {l : Launch} (hl : l.stackTraces = false) : cj_V1 l 87 40 (56, 0, 0, []) 41 := Or.inl ⟨by decide +kernel, ok_iastore dm_87_40 rfl⟩
set_option maxRecDepth 100000 in
theorem vv_87_41 {l : Launch} (hl : l.stackTraces = false) : cj_V1 l 87 41 (3, 0, 0, []) 42 := Or.inl ⟨by decide +kernel, ok_aload_n dm_87_41 rfl⟩
set_option maxRecDepth 100000 in
theorem vv_87_42 {l : Launch} (hl : l.stackTraces = false) : cj_V1 l 87 42 (25, 0, 0, []) 43 := Or.inl ⟨by decide +kernel, ok_dup dm_87_42⟩
set_option maxRecDepth 100000 in
theorem vv_87_43 {l : Launch} (hl : l.stackTraces = false) : cj_V1 l 87 43 (50, 7, 8, []) 46 := Or.inl ⟨by decide +kernel, ok_getfield (N := 39) (C := RK_7) (T := TK_7) dm_87_43 rfl inK_7 (by decide +kernel) wm_741⟩
set_option maxRecDepth 100000 in
theorem vv_87_46 {l : Launch} (hl : l.stackTraces = false) : cj_V1 l 87 46 (0, 1, 0, []) 47 := Or.inl ⟨by decide +kernel, ok_iconst dm_87_46 (by decide +kernel)⟩
set_option maxRecDepth 100000 in
theorem vv_87_47 {l : Launch} (hl : l.stackTraces = false) : cj_V1 l 87 47 (10, 0, 0, []) 48 := Or.inl ⟨by decide +kernel, ok_iadd dm_87_47⟩
set_option maxRecDepth 100000 in
theorem vv_87_48 {l : Launch} (hl : l.stackTraces = false) : cj_V1 l 87 48 (51, 7, 8, [0]) 51 := Or.inl ⟨by decide +kernel, ok_putfield (N := 39) (C := RK_7) (T := TK_7) (ty0 := tyK_7) dm_87_48 rfl inK_7 (by decide +kernel) wm_741 tyK_7_ok nmK_7 (Or.inl rfl) (Or.inl ⟨rfl, rfl⟩)⟩
set_option maxRecDepth 100000 in
theorem vv_87_51 {l : Launch} (hl : l.stackTraces = false) : cj_V1 l 87 51 (3, 0, 0, []) 52 := Or.inl ⟨by decide +kernel, ok_aload_n dm_87_51 rfl⟩
set_option maxRecDepth 100000 in
theorem vv_87_52 {l : Launch} (hl : l.stackTraces = false) : cj_V1 l 87 52 (50, 7, 8, []) 55 := Or.inl ⟨by decide +kernel, ok_getfield (N := 39) (C := RK_7) (T := TK_7) dm_87_52 rfl inK_7 (by decide +kernel) wm_741⟩
set_option maxRecDepth 100000 in
theorem vv_87_55 {l : Launch} (hl : l.stackTraces = false) : cj_V1 l 87 55 (0, 1, 0, []) 56 := Or.inl ⟨by decide +kernel, ok_iconst dm_87_55 (by decide +kernel)⟩
set_option maxRecDepth 100000 in
theorem vv_87_56 {l : Launch} (hl : l.stackTraces = false) : cj_V1 l 87 56 (11, 0, 0, []) 57 := Or.inl ⟨by decide +kernel, ok_isub dm_87_56⟩
set_option maxRecDepth 100000 in
theorem vv_87_57 {l : Launch} (hl : l.stackTraces = false) : cj_V1 l 87 57 (90, 0, 0, []) 58 := Or.inr (Or.inl ⟨by decide +kernel, Or.inl (Or.inl ⟨rfl, dm_87_57, rfl⟩)⟩)
set_option maxRecDepth 100000 in
theorem vm_87 {l : Launch} (hl : l.stackTraces = false) : cj_Vm l 87 := cj_Vm_of (r := kc87_) rfl ⟨vv_87_0 hl, vv_87_1 hl, vv_87_2 hl, vv_87_3 hl, vv_87_6 hl, vv_87_9 hl, vv_87_10 hl, vv_87_13 hl, vv_87_15 hl, vv_87_18 hl, vv_87_19 hl, vv_87_22 hl, vv_87_23 hl, vv_87_26 hl, vv_87_29 hl, vv_87_30 hl, vv_87_31 hl, vv_87_32 hl, vv_87_35 hl, vv_87_36 hl, vv_87_39 hl, vv_87_40 hl, vv_87_41 hl, vv_87_42 hl, vv_87_43 hl, vv_87_46 hl, vv_87_47 hl, vv_87_48 hl, vv_87_51 hl, vv_87_52 hl, vv_87_55 hl, vv_87_56 hl, vv_87_57 hl, trivial⟩
set_option maxRecDepth 100000 in
theorem vv_88_0 {l : Launch} (hl : l.stackTraces = false) : cj_V1 l 88 0 (0, 0, 0, []) 1 := Or.inl ⟨by decide +kernel, ok_iconst dm_88_0 (by decide +kernel)⟩
set_option maxRecDepth 100000 in
theorem vv_88_1 {l : Launch} (hl : l.stackTraces = false) : cj_V1 l 88 1 (4, 1, 0, []) 2 := Or.inl ⟨by decide +kernel, ok_istore_n dm_88_1 rfl⟩
set_option maxRecDepth 100000 in
theorem vv_88_2 {l : Launch} (hl : l.stackTraces = false) : cj_V1 l 88 2 (0, 0, 0, []) 3 := Or.inl ⟨by decide +kernel, ok_iconst dm_88_2 (by decide +kernel)⟩
set_option maxRecDepth 100000 in
theorem vv_88_3 {l : Launch} (hl : l.stackTraces = false) : cj_V1 l 88 3 (4, 2, 0, []) 4 := Or.inl ⟨by decide +kernel, ok_istore_n dm_88_3 rfl⟩
set_option maxRecDepth 100000 in
theorem vv_88_4 {l : Launch} (hl : l.stackTraces = false) : cj_V1 l 88 4 (0, 0, 0, []) 5 := Or.inl ⟨by decide +kernel, ok_iconst dm_88_4 (by decide +kernel)⟩
set_option maxRecDepth 100000 in
theorem vv_88_5 {l : Launch} (hl : l.stackTraces = false) : cj_V1 l 88 5 (4, 3, 0, []) 6 := Or.inl ⟨by decide +kernel, ok_istore_n dm_88_5 rfl⟩
set_option maxRecDepth 100000 in
theorem vv_88_6 {l : Launch} (hl : l.stackTraces = false) : cj_V1 l 88 6 (0, 0, 0, []) 7 := Or.inl ⟨by decide +kernel, ok_iconst dm_88_6 (by decide +kernel)⟩
set_option maxRecDepth 100000 in
theorem vv_88_7 {l : Launch} (hl : l.stackTraces = false) : cj_V1 l 88 7 (4, 4, 0, []) 9 := Or.inl ⟨by decide +kernel, ok_istore dm_88_7⟩
set_option maxRecDepth 100000 in
theorem vv_88_9 {l : Launch} (hl : l.stackTraces = false) : cj_V1 l 88 9 (2, 4, 0, []) 11 := Or.inl ⟨by decide +kernel, ok_iload dm_88_9⟩
set_option maxRecDepth 100000 in
theorem vv_88_11 {l : Launch} (hl : l.stackTraces = false) : cj_V1 l 88 11 (3, 0, 0, []) 12 := Or.inl ⟨by decide +kernel, ok_aload_n dm_88_11 rfl⟩
set_option maxRecDepth 100000 in
theorem vv_88_12 {l : Launch} (hl : l.stackTraces = false) : cj_V1 l 88 12 (50, 7, 3, []) 15 := Or.inl ⟨by decide +kernel, ok_getfield (N := 39) (C := RK_7) (T := TK_7) dm_88_12 rfl inK_7 (by decide +kernel) wm_736⟩
set_option maxRecDepth 100000 in
theorem vv_88_15 {l : Launch} (hl : l.stackTraces = false) : cj_V1 l 88 15 (40, 180, 0, []) 18 := Or.inl ⟨by decide +kernel, ok_icmp_ge dm_88_15 (by decide +kernel)⟩
set_option maxRecDepth 100000 in
theorem vv_88_18 {l : Launch} (hl : l.stackTraces = false) : cj_V1 l 88 18 (3, 0, 0, []) 19 := Or.inl ⟨by decide +kernel, ok_aload_n dm_88_18 rfl⟩
set_option maxRecDepth 100000 in
theorem vv_88_19 {l : Launch} (hl : l.stackTraces = false) : cj_V1 l 88 19 (50, 7, 4, []) 22 := Or.inl ⟨by decide +kernel, ok_getfield (N := 39) (C := RK_7) (T := TK_7) dm_88_19 rfl inK_7 (by decide +kernel) wm_737⟩
set_option maxRecDepth 100000 in
theorem vv_88_22 {l : Launch} (hl : l.stackTraces = false) : cj_V1 l 88 22 (2, 4, 0, []) 24 := Or.inl ⟨by decide +kernel, ok_iload dm_88_22⟩
set_option maxRecDepth 100000 in
theorem vv_88_24 {l : Launch} (hl : l.stackTraces = false) : cj_V1 l 88 24 (54, 0, 0, []) 25 := Or.inl ⟨by decide +kernel, ok_iaload dm_88_24 rfl⟩
set_option maxRecDepth 100000 in
theorem vv_88_25 {l : Launch} (hl : l.stackTraces = false) : cj_V1 l 88 25 (4, 5, 0, []) 27 := Or.inl ⟨by decide +kernel, ok_istore dm_88_25⟩
set_option maxRecDepth 100000 in
theorem vv_88_27 {l : Launch} (hl : l.stackTraces = false) : cj_V1 l 88 27 (2, 1, 0, []) 28 := Or.inl ⟨by decide +kernel, ok_iload_n dm_88_27 rfl⟩
set_option maxRecDepth 100000 in
theorem vv_88_28 {l : Launch} (hl : l.stackTraces = false) : cj_V1 l 88 28 (36, 59, 0, []) 31 := Or.inl ⟨by decide +kernel, ok_if_le dm_88_28 (by decide +kernel)⟩
set_option maxRecDepth 100000 in
theorem vv_88_31 {l : Launch} (hl : l.stackTraces = false) : cj_V1 l 88 31 (2, 5, 0, []) 33 := Or.inl ⟨by decide +kernel, ok_iload dm_88_31⟩
set_option maxRecDepth 100000 in
theorem vv_88_33 {l : Launch} (hl : l.stackTraces = false) : cj_V1 l 88 33 (0, 48, 0, []) 35 := Or.inl ⟨by decide +kernel, ok_bipush dm_88_33 (by decide +kernel)⟩
set_option maxRecDepth 100000 in
theorem vv_88_35 {l : Launch} (hl : l.stackTraces = false) : cj_V1 l 88 35 (39, 51, 0, []) 38 := Or.inl ⟨by decide +kernel, ok_icmp_lt dm_88_35 (by decide +kernel)⟩
set_option maxRecDepth 100000 in
theorem vv_88_38 {l : Launch} (hl : l.stackTraces = false) : cj_V1 l 88 38 (2, 5, 0, []) 40 := Or.inl ⟨by decide +kernel, ok_iload dm_88_38⟩
set_option maxRecDepth 100000 in
theorem vv_88_40 {l : Launch} (hl : l.stackTraces = false) : cj_V1 l 88 40 (0, 48, 0, []) 42 := Or.inl ⟨by decide +kernel, ok_bipush dm_88_40 (by decide +kernel)⟩
set_option maxRecDepth 100000 in
theorem vv_88_42 {l : Launch} (hl : l.stackTraces = false) : cj_V1 l 88 42 (2, 1, 0, []) 43 := Or.inl ⟨by decide +kernel, ok_iload_n dm_88_42 rfl⟩
set_option maxRecDepth 100000 in
theorem vv_88_43 {l : Launch} (hl : l.stackTraces = false) : cj_V1 l 88 43 (10, 0, 0, []) 44 := Or.inl ⟨by decide +kernel, ok_iadd dm_88_43⟩
set_option maxRecDepth 100000 in
theorem vv_88_44 {l : Launch} (hl : l.stackTraces = false) : cj_V1 l 88 44 (41, 51, 0, []) 47 := Or.inl ⟨by decide +kernel, ok_icmp_gt dm_88_44 (by decide +kernel)⟩
set_option maxRecDepth 100000 in
theorem vv_88_47 {l : Launch} (hl : l.stackTraces = false) : cj_V1 l 88 47 (0, 1, 0, []) 48 := Or.inl ⟨by decide +kernel, ok_iconst dm_88_47 (by decide +kernel)⟩
set_option maxRecDepth 100000 in
theorem vv_88_48 {l : Launch} (hl : l.stackTraces = false) : cj_V1 l 88 48 (30, 52, 0, []) 51 := Or.inl ⟨by decide +kernel, ok_goto dm_88_48 (by decide +kernel)⟩
set_option maxRecDepth 100000 in
theorem vv_88_51 {l : Launch} (hl : l.stackTraces = false) : cj_V1 l 88 51 (0, 0, 0, []) 52 := Or.inl ⟨by decide +kernel, ok_iconst dm_88_51 (by decide +kernel)⟩
set_option maxRecDepth 100000 in
theorem vv_88_52 {l : Launch} (hl : l.stackTraces = false) : cj_V1 l 88 52 (4, 6, 0, []) 54 := Or.inl ⟨by decide +kernel, ok_istore dm_88_52⟩
set_option maxRecDepth 100000 in
theorem vv_88_54 {l : Launch} (hl : l.stackTraces = false) : cj_V1 l 88 54 (0, 0, 0, []) 55 := Or.inl ⟨by decide +kernel, ok_iconst dm_88_54 (by decide +kernel)⟩
set_option maxRecDepth 100000 in
theorem vv_88_55 {l : Launch} (hl : l.stackTraces = false) : cj_V1 l 88 55 (4, 1, 0, []) 56 := Or.inl ⟨by decide +kernel, ok_istore_n dm_88_55 rfl⟩
set_option maxRecDepth 100000 in
theorem vv_88_56 {l : Launch} (hl : l.stackTraces = false) : cj_V1 l 88 56 (30, 166, 0, []) 59 := Or.inl ⟨by decide +kernel, ok_goto dm_88_56 (by decide +kernel)⟩
set_option maxRecDepth 100000 in
theorem vv_88_59 {l : Launch} (hl : l.stackTraces = false) : cj_V1 l 88 59 (2, 5, 0, []) 61 := Or.inl ⟨by decide +kernel, ok_iload dm_88_59⟩
set_option maxRecDepth 100000 in
theorem vv_88_61 {l : Launch} (hl : l.stackTraces = false) : cj_V1 l 88 61 (0, 35, 0, []) 63 := Or.inl ⟨by decide +kernel, ok_bipush dm_88_61 (by decide +kernel)⟩
set_option maxRecDepth 100000 in
theorem vv_88_63 {l : Launch} (hl : l.stackTraces = false) : cj_V1 l 88 63 (37, 73, 0, []) 66 := Or.inl ⟨by decide +kernel, ok_icmp_eq dm_88_63 (by decide +kernel)⟩
set_option maxRecDepth 100000 in
theorem vv_88_66 {l : Launch} (hl : l.stackTraces = false) : cj_V1 l 88 66 (2, 5, 0, []) 68 := Or.inl ⟨by decide +kernel, ok_iload dm_88_66⟩
set_option maxRecDepth 100000 in
theorem vv_88_68 {l : Launch} (hl : l.stackTraces = false) : cj_V1 l 88 68 (0, 64, 0, []) 70 := Or.inl ⟨by decide +kernel, ok_bipush dm_88_68 (by decide +kernel)⟩
set_option maxRecDepth 100000 in
theorem vv_88_70 {l : Launch} (hl : l.stackTraces = false) : cj_V1 l 88 70 (38, 106, 0, []) 73 := Or.inl ⟨by decide +kernel, ok_icmp_ne dm_88_70 (by decide +kernel)⟩
set_option maxRecDepth 100000 in
theorem vv_88_73 {l : Launch} (hl : l.stackTraces = false) : cj_V1 l 88 73 (2, 2, 0, []) 74 := Or.inl ⟨by decide +kernel, ok_iload_n dm_88_73 rfl⟩
set_option maxRecDepth 100000 in
theorem vv_88_74 {l : Launch} (hl : l.stackTraces = false) : cj_V1 l 88 74 (0, 6, 0, []) 76 := Or.inl ⟨by decide +kernel, ok_bipush dm_88_74 (by decide +kernel)⟩
set_option maxRecDepth 100000 in
theorem vv_88_76 {l : Launch} (hl : l.stackTraces = false) : cj_V1 l 88 76 (40, 83, 0, []) 79 := Or.inl ⟨by decide +kernel, ok_icmp_ge dm_88_76 (by decide +kernel)⟩
set_option maxRecDepth 100000 in
theorem vv_88_79 {l : Launch} (hl : l.stackTraces = false) : cj_V1 l 88 79 (0, 1, 0, []) 80 := Or.inl ⟨by decide +kernel, ok_iconst dm_88_79 (by decide +kernel)⟩
set_option maxRecDepth 100000 in
theorem vv_88_80 {l : Launch} (hl : l.stackTraces = false) : cj_V1 l 88 80 (30, 84, 0, []) 83 := Or.inl ⟨by decide +kernel, ok_goto dm_88_80 (by decide +kernel)⟩
set_option maxRecDepth 100000 in
theorem vv_88_83 {l : Launch} (hl : l.stackTraces = false) : cj_V1 l 88 83 (0, 0, 0, []) 84 := Or.inl ⟨by decide +kernel, ok_iconst dm_88_83 (by decide +kernel)⟩
set_option maxRecDepth 100000 in
theorem vv_88_84 {l : Launch} (hl : l.stackTraces = false) : cj_V1 l 88 84 (4, 6, 0, []) 86 := Or.inl ⟨by decide +kernel, ok_istore dm_88_84⟩
set_option maxRecDepth 100000 in
theorem vv_88_86 {l : Launch} (hl : l.stackTraces = false) : cj_V1 l 88 86 (6, 2, 1, []) 89 := Or.inl ⟨by decide +kernel, ok_iinc6 dm_88_86 (by decide +kernel)⟩
set_option maxRecDepth 100000 in
theorem vv_88_89 {l : Launch} (hl : l.stackTraces = false) : cj_V1 l 88 89 (2, 5, 0, []) 91 := Or.inl ⟨by decide +kernel, ok_iload dm_88_89⟩
set_option maxRecDepth 100000 in
theorem vv_88_91 {l : Launch} (hl : l.stackTraces = false) : cj_V1 l 88 91 (0, 35, 0, []) 93 := Or.inl ⟨by decide +kernel, ok_bipush dm_88_91 (by decide +kernel)⟩
set_option maxRecDepth 100000 in
theorem vv_88_93 {l : Launch} (hl : l.stackTraces = false) : cj_V1 l 88 93 (38, 100, 0, []) 96 := Or.inl ⟨by decide +kernel, ok_icmp_ne dm_88_93 (by decide +kernel)⟩
set_option maxRecDepth 100000 in
theorem vv_88_96 {l : Launch} (hl : l.stackTraces = false) : cj_V1 l 88 96 (0, 3, 0, []) 97 := Or.inl ⟨by decide +kernel, ok_iconst dm_88_96 (by decide +kernel)⟩
set_option maxRecDepth 100000 in
theorem vv_88_97 {l : Launch} (hl : l.stackTraces = false) : cj_V1 l 88 97 (30, 102, 0, []) 100 := Or.inl ⟨by decide +kernel, ok_goto dm_88_97 (by decide +kernel)⟩
set_option maxRecDepth 100000 in
theorem vv_88_100 {l : Launch} (hl : l.stackTraces = false) : cj_V1 l 88 100 (0, 7, 0, []) 102 := Or.inl ⟨by decide +kernel, ok_bipush dm_88_100 (by decide +kernel)⟩
set_option maxRecDepth 100000 in
theorem vv_88_102 {l : Launch} (hl : l.stackTraces = false) : cj_V1 l 88 102 (4, 1, 0, []) 103 := Or.inl ⟨by decide +kernel, ok_istore_n dm_88_102 rfl⟩
set_option maxRecDepth 100000 in
theorem vv_88_103 {l : Launch} (hl : l.stackTraces = false) : cj_V1 l 88 103 (30, 166, 0, []) 106 := Or.inl ⟨by decide +kernel, ok_goto dm_88_103 (by decide +kernel)⟩
set_option maxRecDepth 100000 in
theorem vv_88_106 {l : Launch} (hl : l.stackTraces = false) : cj_V1 l 88 106 (2, 5, 0, []) 108 := Or.inl ⟨by decide +kernel, ok_iload dm_88_106⟩
set_option maxRecDepth 100000 in
theorem vv_88_108 {l : Launch} (hl : l.stackTraces = false) : cj_V1 l 88 108 (0, 91, 0, []) 110 := Or.inl ⟨by decide +kernel, ok_bipush dm_88_108 (by decide +kernel)⟩
set_option maxRecDepth 100000 in
theorem vv_88_110 {l : Launch} (hl : l.stackTraces = false) : cj_V1 l 88 110 (38, 129, 0, []) 113 := Or.inl ⟨by decide +kernel, ok_icmp_ne dm_88_110 (by decide +kernel)⟩
set_option maxRecDepth 100000 in
theorem vv_88_113 {l : Launch} (hl : l.stackTraces = false) : cj_V1 l 88 113 (2, 3, 0, []) 114 := Or.inl ⟨by decide +kernel, ok_iload_n dm_88_113 rfl⟩
set_option maxRecDepth 100000 in
theorem vv_88_114 {l : Launch} (hl : l.stackTraces = false) : cj_V1 l 88 114 (32, 121, 0, []) 117 := Or.inl ⟨by decide +kernel, ok_if_ne dm_88_114 (by decide +kernel)⟩
set_option maxRecDepth 100000 in
theorem vv_88_117 {l : Launch} (hl : l.stackTraces = false) : cj_V1 l 88 117 (0, 1, 0, []) 118 := Or.inl ⟨by decide +kernel, ok_iconst dm_88_117 (by decide +kernel)⟩
set_option maxRecDepth 100000 in
theorem vv_88_118 {l : Launch} (hl : l.stackTraces = false) : cj_V1 l 88 118 (30, 122, 0, []) 121 := Or.inl ⟨by decide +kernel, ok_goto dm_88_118 (by decide +kernel)⟩
set_option maxRecDepth 100000 in
theorem vv_88_121 {l : Launch} (hl : l.stackTraces = false) : cj_V1 l 88 121 (0, 0, 0, []) 122 := Or.inl ⟨by decide +kernel, ok_iconst dm_88_121 (by decide +kernel)⟩
set_option maxRecDepth 100000 in
theorem vv_88_122 {l : Launch} (hl : l.stackTraces = false) : cj_V1 l 88 122 (4, 6, 0, []) 124 := Or.inl ⟨by decide +kernel, ok_istore dm_88_122⟩
set_option maxRecDepth 100000 in
theorem vv_88_124 {l : Launch} (hl : l.stackTraces = false) : cj_V1 l 88 124 (0, 1, 0, []) 125 := Or.inl ⟨by decide +kernel, ok_iconst dm_88_124 (by decide +kernel)⟩
set_option maxRecDepth 100000 in
theorem vv_88_125 {l : Launch} (hl : l.stackTraces = false) : cj_V1 l 88 125 (4, 3, 0, []) 126 := Or.inl ⟨by decide +kernel, ok_istore_n dm_88_125 rfl⟩
set_option maxRecDepth 100000 in
theorem vv_88_126 {l : Launch} (hl : l.stackTraces = false) : cj_V1 l 88 126 (30, 166, 0, []) 129 := Or.inl ⟨by decide +kernel, ok_goto dm_88_126 (by decide +kernel)⟩
set_option maxRecDepth 100000 in
theorem vv_88_129 {l : Launch} (hl : l.stackTraces = false) : cj_V1 l 88 129 (2, 5, 0, []) 131 := Or.inl ⟨by decide +kernel, ok_iload dm_88_129⟩
set_option maxRecDepth 100000 in
theorem vv_88_131 {l : Launch} (hl : l.stackTraces = false) : cj_V1 l 88 131 (0, 93, 0, []) 133 := Or.inl ⟨by decide +kernel, ok_bipush dm_88_131 (by decide +kernel)⟩
set_option maxRecDepth 100000 in
theorem vv_88_133 {l : Launch} (hl : l.stackTraces = false) : cj_V1 l 88 133 (38, 144, 0, []) 136 := Or.inl ⟨by decide +kernel, ok_icmp_ne dm_88_133 (by decide +kernel)⟩
set_option maxRecDepth 100000 in
theorem vv_88_136 {l : Launch} (hl : l.stackTraces = false) : cj_V1 l 88 136 (2, 3, 0, []) 137 := Or.inl ⟨by decide +kernel, ok_iload_n dm_88_136 rfl⟩
set_option maxRecDepth 100000 in
theorem vv_88_137 {l : Launch} (hl : l.stackTraces = false) : cj_V1 l 88 137 (4, 6, 0, []) 139 := Or.inl ⟨by decide +kernel, ok_istore dm_88_137⟩
set_option maxRecDepth 100000 in
theorem vv_88_139 {l : Launch} (hl : l.stackTraces = false) : cj_V1 l 88 139 (0, 0, 0, []) 140 := Or.inl ⟨by decide +kernel, ok_iconst dm_88_139 (by decide +kernel)⟩
set_option maxRecDepth 100000 in
theorem vv_88_140 {l : Launch} (hl : l.stackTraces = false) : cj_V1 l 88 140 (4, 3, 0, []) 141 := Or.inl ⟨by decide +kernel, ok_istore_n dm_88_140 rfl⟩
set_option maxRecDepth 100000 in
theorem vv_88_141 {l : Launch} (hl : l.stackTraces = false) : cj_V1 l 88 141 (30, 166, 0, []) 144 := Or.inl ⟨by decide +kernel, ok_goto dm_88_141 (by decide +kernel)⟩
set_option maxRecDepth 100000 in
theorem vv_88_144 {l : Launch} (hl : l.stackTraces = false) : cj_V1 l 88 144 (2, 5, 0, []) 146 := Or.inl ⟨by decide +kernel, ok_iload dm_88_144⟩
set_option maxRecDepth 100000 in
theorem vv_88_146 {l : Launch} (hl : l.stackTraces = false) : cj_V1 l 88 146 (81, 49, 1, []) 149 := Or.inr (Or.inr (Or.inl ⟨by decide +kernel, by decide +kernel, rfl, vc_static mi_49 dm_88_146 (Or.inl wm_881) wm_882 (by decide +kernel) (by decide +kernel) (by decide +kernel), (vx_none rfl)⟩))
set_option maxRecDepth 100000 in
theorem vv_88_149 {l : Launch} (hl : l.stackTraces = false) : cj_V1 l 88 149 (32, 159, 0, []) 152 := Or.inl ⟨by decide +kernel, ok_if_ne dm_88_149 (by decide +kernel)⟩
set_option maxRecDepth 100000 in
theorem vv_88_152 {l : Launch} (hl : l.stackTraces = false) : cj_V1 l 88 152 (2, 5, 0, []) 154 := Or.inl ⟨by decide +kernel, ok_iload dm_88_152⟩
set_option maxRecDepth 100000 in
theorem vv_88_154 {l : Launch} (hl : l.stackTraces = false) : cj_V1 l 88 154 (0, 32, 0, []) 156 := Or.inl ⟨by decide +kernel, ok_bipush dm_88_154 (by decide +kernel)⟩
set_option maxRecDepth 100000 in
theorem vv_88_156 {l : Launch} (hl : l.stackTraces = false) : cj_V1 l 88 156 (38, 163, 0, []) 159 := Or.inl ⟨by decide +kernel, ok_icmp_ne dm_88_156 (by decide +kernel)⟩
set_option maxRecDepth 100000 in
theorem vv_88_159 {l : Launch} (hl : l.stackTraces = false) : cj_V1 l 88 159 (0, 1, 0, []) 160 := Or.inl ⟨by decide +kernel, ok_iconst dm_88_159 (by decide +kernel)⟩
set_option maxRecDepth 100000 in
theorem vv_88_160 {l : Launch} (hl : l.stackTraces = false) : cj_V1 l 88 160 (30, 164, 0, []) 163 := Or.inl ⟨by decide +kernel, ok_goto dm_88_160 (by decide +kernel)⟩
set_option maxRecDepth 100000 in
theorem vv_88_163 {l : Launch} (hl : l.stackTraces = false) : cj_V1 l 88 163 (0, 0, 0, []) 164 := Or.inl ⟨by decide +kernel, ok_iconst dm_88_163 (by decide +kernel)⟩
set_option maxRecDepth 100000 in
theorem vv_88_164 {l : Launch} (hl : l.stackTraces = false) : cj_V1 l 88 164 (4, 6, 0, []) 166 := Or.inl ⟨by decide +kernel, ok_istore dm_88_164⟩
set_option maxRecDepth 100000 in
theorem vv_88_166 {l : Launch} (hl : l.stackTraces = false) : cj_V1 l 88 166 (2, 6, 0, []) 168 := Or.inl ⟨by decide +kernel, ok_iload dm_88_166⟩
set_option maxRecDepth 100000 in
theorem vv_88_168 {l : Launch} (hl : l.stackTraces = false) : cj_V1 l 88 168 (32, 174, 0, []) 171 := Or.inl ⟨by decide +kernel, ok_if_ne dm_88_168 (by decide +kernel)⟩
set_option maxRecDepth 100000 in
theorem vv_88_171 {l : Launch} (hl : l.stackTraces = false) : cj_V1 l 88 171 (2, 4, 0, []) 173 := Or.inl ⟨by decide +kernel, ok_iload dm_88_171⟩
set_option maxRecDepth 100000 in
theorem vv_88_173 {l : Launch} (hl : l.stackTraces = false) : cj_V1 l 88 173 (90, 0, 0, []) 174 := Or.inr (Or.inl ⟨by decide +kernel, Or.inl (Or.inl ⟨rfl, dm_88_173, rfl⟩)⟩)
set_option maxRecDepth 100000 in
theorem vv_88_174 {l : Launch} (hl : l.stackTraces = false) : cj_V1 l 88 174 (6, 4, 1, []) 177 := Or.inl ⟨by decide +kernel, ok_iinc6 dm_88_174 (by decide +kernel)⟩
set_option maxRecDepth 100000 in
theorem vv_88_177 {l : Launch} (hl : l.stackTraces = false) : cj_V1 l 88 177 (30, 9, 0, []) 180 := Or.inl ⟨by decide +kernel, ok_goto dm_88_177 (by decide +kernel)⟩
set_option maxRecDepth 100000 in
theorem vv_88_180 {l : Launch} (hl : l.stackTraces = false) : cj_V1 l 88 180 (2, 1, 0, []) 181 := Or.inl ⟨by decide +kernel, ok_iload_n dm_88_180 rfl⟩
set_option maxRecDepth 100000 in
theorem vv_88_181 {l : Launch} (hl : l.stackTraces = false) : cj_V1 l 88 181 (35, 188, 0, []) 184 := Or.inl ⟨by decide +kernel, ok_if_gt dm_88_181 (by decide +kernel)⟩
set_option maxRecDepth 100000 in
theorem vv_88_184 {l : Launch} (hl : l.stackTraces = false) : cj_V1 l 88 184 (2, 3, 0, []) 185 := Or.inl ⟨by decide +kernel, ok_iload_n dm_88_184 rfl⟩
set_option maxRecDepth 100000 in
theorem vv_88_185 {l : Launch} (hl : l.stackTraces = false) : cj_V1 l 88 185 (31, 195, 0, []) 188 := Or.inl ⟨by decide +kernel, ok_if_eq dm_88_185 (by decide +kernel)⟩
set_option maxRecDepth 100000 in
theorem vv_88_188 {l : Launch} (hl : l.stackTraces = false) : cj_V1 l 88 188 (3, 0, 0, []) 189 := Or.inl ⟨by decide +kernel, ok_aload_n dm_88_188 rfl⟩
set_option maxRecDepth 100000 in
theorem vv_88_189 {l : Launch} (hl : l.stackTraces = false) : cj_V1 l 88 189 (50, 7, 3, []) 192 := Or.inl ⟨by decide +kernel, ok_getfield (N := 39) (C := RK_7) (T := TK_7) dm_88_189 rfl inK_7 (by decide +kernel) wm_736⟩
set_option maxRecDepth 100000 in
theorem vv_88_192 {l : Launch} (hl : l.stackTraces = false) : cj_V1 l 88 192 (30, 196, 0, []) 195 := Or.inl ⟨by decide +kernel, ok_goto dm_88_192 (by decide +kernel)⟩
set_option maxRecDepth 100000 in
theorem vv_88_195 {l : Launch} (hl : l.stackTraces = false) : cj_V1 l 88 195 (1, 1, 0, []) 196 := Or.inl ⟨by decide +kernel, ok_iconst_m dm_88_195 (by decide +kernel)⟩
set_option maxRecDepth 100000 in
theorem vv_88_196 {l : Launch} (hl : l.stackTraces = false) : cj_V1 l 88 196 (90, 0, 0, []) 197 := Or.inr (Or.inl ⟨by decide +kernel, Or.inl (Or.inl ⟨rfl, dm_88_196, rfl⟩)⟩)
set_option maxRecDepth 100000 in
theorem vm_88 {l : Launch} (hl : l.stackTraces = false) : cj_Vm l 88 := cj_Vm_of (r := kc88_) rfl ⟨vv_88_0 hl, vv_88_1 hl, vv_88_2 hl, vv_88_3 hl, vv_88_4 hl, vv_88_5 hl, vv_88_6 hl, vv_88_7 hl, vv_88_9 hl, vv_88_11 hl, vv_88_12 hl, vv_88_15 hl, vv_88_18 hl, vv_88_19 hl, vv_88_22 hl, vv_88_24 hl, vv_88_25 hl, vv_88_27 hl, vv_88_28 hl, vv_88_31 hl, vv_88_33 hl, vv_88_35 hl, vv_88_38 hl, vv_88_40 hl, vv_88_42 hl, vv_88_43 hl, vv_88_44 hl, vv_88_47 hl, vv_88_48 hl, vv_88_51 hl, vv_88_52 hl, vv_88_54 hl, vv_88_55 hl, vv_88_56 hl, vv_88_59 hl, vv_88_61 hl, vv_88_63 hl, vv_88_66 hl, vv_88_68 hl, vv_88_70 hl, vv_88_73 hl, vv_88_74 hl, vv_88_76 hl, vv_88_79 hl, vv_88_80 hl, vv_88_83 hl, vv_88_84 hl, vv_88_86 hl, vv_88_89 hl, vv_88_91 hl, vv_88_93 hl, vv_88_96 hl, vv_88_97 hl, vv_88_100 hl, vv_88_102 hl, vv_88_103 hl, vv_88_106 hl, vv_88_108 hl, vv_88_110 hl, vv_88_113 hl, vv_88_114 hl, vv_88_117 hl, vv_88_118 hl, vv_88_121 hl, vv_88_122 hl, vv_88_124 hl, vv_88_125 hl, vv_88_126 hl, vv_88_129 hl, vv_88_131 hl, vv_88_133 hl, vv_88_136 hl, vv_88_137 hl, vv_88_139 hl, vv_88_140 hl, vv_88_141 hl, vv_88_144 hl, vv_88_146 hl, vv_88_149 hl, vv_88_152 hl, vv_88_154 hl, vv_88_156 hl, vv_88_159 hl, vv_88_160 hl, vv_88_163 hl, vv_88_164 hl, vv_88_166 hl, vv_88_168 hl, vv_88_171 hl, vv_88_173 hl, vv_88_174 hl, vv_88_177 hl, vv_88_180 hl, vv_88_181 hl, vv_88_184 hl, vv_88_185 hl, vv_88_188 hl, vv_88_189 hl, vv_88_192 hl, vv_88_195 hl, vv_88_196 hl, trivial⟩
set_option maxRecDepth 100000 in
theorem vv_89_0 {l : Launch} (hl : l.stackTraces = false) : cj_V1 l 89 0 (0, 4, 0, []) 1 := Or.inl ⟨by decide +kernel, ok_iconst dm_89_0 (by decide +kernel)⟩
set_option maxRecDepth 100000 in
theorem vv_89_1 {l : Launch} (hl : l.stackTraces = false) : cj_V1 l 89 1 (2, 1, 0, []) 2 := Or.inl ⟨by decide +kernel, ok_iload_n dm_89_1 rfl⟩
set_option maxRecDepth 100000 in
theorem vv_89_2 {l : Launch} (hl : l.stackTraces = false) : cj_V1 l 89 2 (12, 0, 0, []) 3 := Or.inl ⟨by decide +kernel, ok_imul dm_89_2⟩
set_option maxRecDepth 100000 in
theorem vv_89_3 {l : Launch} (hl : l.stackTraces = false) : cj_V1 l 89 3 (2, 3, 0, []) 4 := Or.inl ⟨by decide +kernel, ok_iload_n dm_89_3 rfl⟩
set_option maxRecDepth 100000 in
theorem vv_89_4 {l : Launch} (hl : l.stackTraces = false) : cj_V1 l 89 4 (10, 0, 0, []) 5 := Or.inl ⟨by decide +kernel, ok_iadd dm_89_4⟩
set_option maxRecDepth 100000 in
theorem vv_89_5 {l : Launch} (hl : l.stackTraces = false) : cj_V1 l 89 5 (4, 4, 0, []) 7 := Or.inl ⟨by decide +kernel, ok_istore dm_89_5⟩
set_option maxRecDepth 100000 in
theorem vv_89_7 {l : Launch} (hl : l.stackTraces = false) : cj_V1 l 89 7 (0, 4, 0, []) 8 := Or.inl ⟨by decide +kernel, ok_iconst dm_89_7 (by decide +kernel)⟩
set_option maxRecDepth 100000 in
theorem vv_89_8 {l : Launch} (hl : l.stackTraces = false) : cj_V1 l 89 8 (2, 2, 0, []) 9 := Or.inl ⟨by decide +kernel, ok_iload_n dm_89_8 rfl⟩
set_option maxRecDepth 100000 in
theorem vv_89_9 {l : Launch} (hl : l.stackTraces = false) : cj_V1 l 89 9 (12, 0, 0, []) 10 := Or.inl ⟨by decide +kernel, ok_imul dm_89_9⟩
set_option maxRecDepth 100000 in
theorem vv_89_10 {l : Launch} (hl : l.stackTraces = false) : cj_V1 l 89 10 (2, 3, 0, []) 11 := Or.inl ⟨by decide +kernel, ok_iload_n dm_89_10 rfl⟩
set_option maxRecDepth 100000 in
theorem vv_89_11 {l : Launch} (hl : l.stackTraces = false) : cj_V1 l 89 11 (10, 0, 0, []) 12 := Or.inl ⟨by decide +kernel, ok_iadd dm_89_11⟩
set_option maxRecDepth 100000 in
theorem vv_89_12 {l : Launch} (hl : l.stackTraces = false) : cj_V1 l 89 12 (4, 5, 0, []) 14 := Or.inl ⟨by decide +kernel, ok_istore dm_89_12⟩
set_option maxRecDepth 100000 in
theorem vv_89_14 {l : Launch} (hl : l.stackTraces = false) : cj_V1 l 89 14 (0, 0, 0, []) 15 := Or.inl ⟨by decide +kernel, ok_iconst dm_89_14 (by decide +kernel)⟩
set_option maxRecDepth 100000 in
theorem vv_89_15 {l : Launch} (hl : l.stackTraces = false) : cj_V1 l 89 15 (4, 6, 0, []) 17 := Or.inl ⟨by decide +kernel, ok_istore dm_89_15⟩
set_option maxRecDepth 100000 in
theorem vv_89_17 {l : Launch} (hl : l.stackTraces = false) : cj_V1 l 89 17 (2, 6, 0, []) 19 := Or.inl ⟨by decide +kernel, ok_iload dm_89_17⟩
set_option maxRecDepth 100000 in
theorem vv_89_19 {l : Launch} (hl : l.stackTraces = false) : cj_V1 l 89 19 (3, 0, 0, []) 20 := Or.inl ⟨by decide +kernel, ok_aload_n dm_89_19 rfl⟩
set_option maxRecDepth 100000 in
theorem vv_89_20 {l : Launch} (hl : l.stackTraces = false) : cj_V1 l 89 20 (50, 7, 10, []) 23 := Or.inl ⟨by decide +kernel, ok_getfield (N := 39) (C := RK_7) (T := TK_7) dm_89_20 rfl inK_7 (by decide +kernel) wm_743⟩
set_option maxRecDepth 100000 in
theorem vv_89_23 {l : Launch} (hl : l.stackTraces = false) : cj_V1 l 89 23 (2, 4, 0, []) 25 := Or.inl ⟨by decide +kernel, ok_iload dm_89_23⟩
set_option maxRecDepth 100000 in
theorem vv_89_25 {l : Launch} (hl : l.stackTraces = false) : cj_V1 l 89 25 (54, 0, 0, []) 26 := Or.inl ⟨by decide +kernel, ok_iaload dm_89_25 rfl⟩
set_option maxRecDepth 100000 in
theorem vv_89_26 {l : Launch} (hl : l.stackTraces = false) : cj_V1 l 89 26 (40, 105, 0, []) 29 := Or.inl ⟨by decide +kernel, ok_icmp_ge dm_89_26 (by decide +kernel)⟩
set_option maxRecDepth 100000 in
theorem vv_89_29 {l : Launch} (hl : l.stackTraces = false) : cj_V1 l 89 29 (2, 6, 0, []) 31 := Or.inl ⟨by decide +kernel, ok_iload dm_89_29⟩
set_option maxRecDepth 100000 in
theorem vv_89_31 {l : Launch} (hl : l.stackTraces = false) : cj_V1 l 89 31 (3, 0, 0, []) 32 := Or.inl ⟨by decide +kernel, ok_aload_n dm_89_31 rfl⟩
set_option maxRecDepth 100000 in
theorem vv_89_32 {l : Launch} (hl : l.stackTraces = false) : cj_V1 l 89 32 (50, 7, 10, []) 35 := Or.inl ⟨by decide +kernel, ok_getfield (N := 39) (C := RK_7) (T := TK_7) dm_89_32 rfl inK_7 (by decide +kernel) wm_743⟩
set_option maxRecDepth 100000 in
theorem vv_89_35 {l : Launch} (hl : l.stackTraces = false) : cj_V1 l 89 35 (2, 5, 0, []) 37 := Or.inl ⟨by decide +kernel, ok_iload dm_89_35⟩
set_option maxRecDepth 100000 in
theorem vv_89_37 {l : Launch} (hl : l.stackTraces = false) : cj_V1 l 89 37 (54, 0, 0, []) 38 := Or.inl ⟨by decide +kernel, ok_iaload dm_89_37 rfl⟩
set_option maxRecDepth 100000 in
theorem vv_89_38 {l : Launch} (hl : l.stackTraces = false) : cj_V1 l 89 38 (40, 105, 0, []) 41 := Or.inl ⟨by decide +kernel, ok_icmp_ge dm_89_38 (by decide +kernel)⟩
set_option maxRecDepth 100000 in
theorem vv_89_41 {l : Launch} (hl : l.stackTraces = false) : cj_V1 l 89 41 (3, 0, 0, []) 42 := Or.inl ⟨by decide +kernel, ok_aload_n dm_89_41 rfl⟩
set_option maxRecDepth 100000 in
theorem vv_89_42 {l : Launch} (hl : l.stackTraces = false) : cj_V1 l 89 42 (3, 0, 0, []) 43 := Or.inl ⟨by decide +kernel, ok_aload_n dm_89_42 rfl⟩
set_option maxRecDepth 100000 in
theorem vv_89_43 {l : Launch} (hl : l.stackTraces = false) : cj_V1 l 89 43 (50, 7, 11, []) 46 := Or.inl ⟨by decide +kernel, ok_getfield (N := 39) (C := RK_7) (T := TK_7) dm_89_43 rfl inK_7 (by decide +kernel) wm_744⟩
set_option maxRecDepth 100000 in
theorem vv_89_46 {l : Launch} (hl : l.stackTraces = false) : cj_V1 l 89 46 (0, 32, 0, []) 48 := Or.inl ⟨by decide +kernel, ok_bipush dm_89_46 (by decide +kernel)⟩
set_option maxRecDepth 100000 in
theorem vv_89_48 {l : Launch} (hl : l.stackTraces = false) : cj_V1 l 89 48 (2, 4, 0, []) 50 := Or.inl ⟨by decide +kernel, ok_iload dm_89_48⟩
set_option maxRecDepth 100000 in
theorem vv_89_50 {l : Launch} (hl : l.stackTraces = false) : cj_V1 l 89 50 (12, 0, 0, []) 51 := Or.inl ⟨by decide +kernel, ok_imul dm_89_50⟩
set_option maxRecDepth 100000 in
theorem vv_89_51 {l : Launch} (hl : l.stackTraces = false) : cj_V1 l 89 51 (2, 6, 0, []) 53 := Or.inl ⟨by decide +kernel, ok_iload dm_89_51⟩
set_option maxRecDepth 100000 in
theorem vv_89_53 {l : Launch} (hl : l.stackTraces = false) : cj_V1 l 89 53 (10, 0, 0, []) 54 := Or.inl ⟨by decide +kernel, ok_iadd dm_89_53⟩
set_option maxRecDepth 100000 in
theorem vv_89_54 {l : Launch} (hl : l.stackTraces = false) : cj_V1 l 89 54 (54, 0, 0, []) 55 := Or.inl ⟨by decide +kernel, ok_iaload dm_89_54 rfl⟩
set_option maxRecDepth 100000 in
theorem vv_89_55 {l : Launch} (hl : l.stackTraces = false) : cj_V1 l 89 55 (80, 51, 2, [7]) 58 := Or.inr (Or.inr (Or.inl ⟨by decide +kernel, by decide +kernel, rfl, vc_virtual (n := 1) (q := (RK_7, TK_7, 39)) mi_51 dm_89_55 (Or.inl wm_1003) wm_1005 wm_p40 rfl rfl (by decide +kernel) rfl (by decide +kernel) (by decide +kernel), (vx_none rfl)⟩))
set_option maxRecDepth 100000 in
theorem vv_89_58 {l : Launch} (hl : l.stackTraces = false) : cj_V1 l 89 58 (4, 7, 0, []) 60 := Or.inl ⟨by decide +kernel, ok_istore dm_89_58⟩
set_option maxRecDepth 100000 in
theorem vv_89_60 {l : Launch} (hl : l.stackTraces = false) : cj_V1 l 89 60 (3, 0, 0, []) 61 := Or.inl ⟨by decide +kernel, ok_aload_n dm_89_60 rfl⟩
set_option maxRecDepth 100000 in
theorem vv_89_61 {l : Launch} (hl : l.stackTraces = false) : cj_V1 l 89 61 (3, 0, 0, []) 62 := Or.inl ⟨by decide +kernel, ok_aload_n dm_89_61 rfl⟩
set_option maxRecDepth 100000 in
theorem vv_89_62 {l : Launch} (hl : l.stackTraces = false) : cj_V1 l 89 62 (50, 7, 11, []) 65 := Or.inl ⟨by decide +kernel, ok_getfield (N := 39) (C := RK_7) (T := TK_7) dm_89_62 rfl inK_7 (by decide +kernel) wm_744⟩
set_option maxRecDepth 100000 in
theorem vv_89_65 {l : Launch} (hl : l.stackTraces = false) : cj_V1 l 89 65 (0, 32, 0, []) 67 := Or.inl ⟨by decide +kernel, ok_bipush dm_89_65 (by decide +kernel)⟩
set_option maxRecDepth 100000 in
theorem vv_89_67 {l : Launch} (hl : l.stackTraces = false) : cj_V1 l 89 67 (2, 5, 0, []) 69 := Or.inl ⟨by decide +kernel, ok_iload dm_89_67⟩
set_option maxRecDepth 100000 in
theorem vv_89_69 {l : Launch} (hl : l.stackTraces = false) : cj_V1 l 89 69 (12, 0, 0, []) 70 := Or.inl ⟨by decide +kernel, ok_imul dm_89_69⟩
set_option maxRecDepth 100000 in
theorem vv_89_70 {l : Launch} (hl : l.stackTraces = false) : cj_V1 l 89 70 (2, 6, 0, []) 72 := Or.inl ⟨by decide +kernel, ok_iload dm_89_70⟩
set_option maxRecDepth 100000 in
theorem vv_89_72 {l : Launch} (hl : l.stackTraces = false) : cj_V1 l 89 72 (10, 0, 0, []) 73 := Or.inl ⟨by decide +kernel, ok_iadd dm_89_72⟩
set_option maxRecDepth 100000 in
theorem vv_89_73 {l : Launch} (hl : l.stackTraces = false) : cj_V1 l 89 73 (54, 0, 0, []) 74 := Or.inl ⟨by decide +kernel, ok_iaload dm_89_73 rfl⟩
set_option maxRecDepth 100000 in
theorem vv_89_74 {l : Launch} (hl : l.stackTraces = false) : cj_V1 l 89 74 (80, 51, 2, [7]) 77 := Or.inr (Or.inr (Or.inl ⟨by decide +kernel, by decide +kernel, rfl, vc_virtual (n := 1) (q := (RK_7, TK_7, 39)) mi_51 dm_89_74 (Or.inl wm_1003) wm_1005 wm_p40 rfl rfl (by decide +kernel) rfl (by decide +kernel) (by decide +kernel), (vx_none rfl)⟩))
set_option maxRecDepth 100000 in
theorem vv_89_77 {l : Launch} (hl : l.stackTraces = false) : cj_V1 l 89 77 (4, 8, 0, []) 79 := Or.inl ⟨by decide +kernel, ok_istore dm_89_77⟩
set_option maxRecDepth 100000 in
theorem vv_89_79 {l : Launch} (hl : l.stackTraces = false) : cj_V1 l 89 79 (2, 7, 0, []) 81 := Or.inl ⟨by decide +kernel, ok_iload dm_89_79⟩
set_option maxRecDepth 100000 in
theorem vv_89_81 {l : Launch} (hl : l.stackTraces = false) : cj_V1 l 89 81 (2, 8, 0, []) 83 := Or.inl ⟨by decide +kernel, ok_iload dm_89_81⟩
set_option maxRecDepth 100000 in
theorem vv_89_83 {l : Launch} (hl : l.stackTraces = false) : cj_V1 l 89 83 (37, 99, 0, []) 86 := Or.inl ⟨by decide +kernel, ok_icmp_eq dm_89_83 (by decide +kernel)⟩
set_option maxRecDepth 100000 in
theorem vv_89_86 {l : Launch} (hl : l.stackTraces = false) : cj_V1 l 89 86 (2, 7, 0, []) 88 := Or.inl ⟨by decide +kernel, ok_iload dm_89_86⟩
set_option maxRecDepth 100000 in
theorem vv_89_88 {l : Launch} (hl : l.stackTraces = false) : cj_V1 l 89 88 (2, 8, 0, []) 90 := Or.inl ⟨by decide +kernel, ok_iload dm_89_88⟩
set_option maxRecDepth 100000 in
theorem vv_89_90 {l : Launch} (hl : l.stackTraces = false) : cj_V1 l 89 90 (40, 97, 0, []) 93 := Or.inl ⟨by decide +kernel, ok_icmp_ge dm_89_90 (by decide +kernel)⟩
set_option maxRecDepth 100000 in
theorem vv_89_93 {l : Launch} (hl : l.stackTraces = false) : cj_V1 l 89 93 (0, 1, 0, []) 94 := Or.inl ⟨by decide +kernel, ok_iconst dm_89_93 (by decide +kernel)⟩
set_option maxRecDepth 100000 in
theorem vv_89_94 {l : Launch} (hl : l.stackTraces = false) : cj_V1 l 89 94 (30, 98, 0, []) 97 := Or.inl ⟨by decide +kernel, ok_goto dm_89_94 (by decide +kernel)⟩
set_option maxRecDepth 100000 in
theorem vv_89_97 {l : Launch} (hl : l.stackTraces = false) : cj_V1 l 89 97 (0, 0, 0, []) 98 := Or.inl ⟨by decide +kernel, ok_iconst dm_89_97 (by decide +kernel)⟩
set_option maxRecDepth 100000 in
theorem vv_89_98 {l : Launch} (hl : l.stackTraces = false) : cj_V1 l 89 98 (93, 0, 0, []) 99 := Or.inr (Or.inl ⟨by decide +kernel, Or.inl (Or.inr (Or.inr (Or.inr ⟨rfl, dm_89_98, rfl⟩)))⟩)
set_option maxRecDepth 100000 in
theorem vv_89_99 {l : Launch} (hl : l.stackTraces = false) : cj_V1 l 89 99 (6, 6, 1, []) 102 := Or.inl ⟨by decide +kernel, ok_iinc6 dm_89_99 (by decide +kernel)⟩
set_option maxRecDepth 100000 in
theorem vv_89_102 {l : Launch} (hl : l.stackTraces = false) : cj_V1 l 89 102 (30, 17, 0, []) 105 := Or.inl ⟨by decide +kernel, ok_goto dm_89_102 (by decide +kernel)⟩
set_option maxRecDepth 100000 in
theorem vv_89_105 {l : Launch} (hl : l.stackTraces = false) : cj_V1 l 89 105 (3, 0, 0, []) 106 := Or.inl ⟨by decide +kernel, ok_aload_n dm_89_105 rfl⟩
set_option maxRecDepth 100000 in
theorem vv_89_106 {l : Launch} (hl : l.stackTraces = false) : cj_V1 l 89 106 (50, 7, 10, []) 109 := Or.inl ⟨by decide +kernel, ok_getfield (N := 39) (C := RK_7) (T := TK_7) dm_89_106 rfl inK_7 (by decide +kernel) wm_743⟩
set_option maxRecDepth 100000 in
theorem vv_89_109 {l : Launch} (hl : l.stackTraces = false) : cj_V1 l 89 109 (2, 4, 0, []) 111 := Or.inl ⟨by decide +kernel, ok_iload dm_89_109⟩
set_option maxRecDepth 100000 in
theorem vv_89_111 {l : Launch} (hl : l.stackTraces = false) : cj_V1 l 89 111 (54, 0, 0, []) 112 := Or.inl ⟨by decide +kernel, ok_iaload dm_89_111 rfl⟩
set_option maxRecDepth 100000 in
theorem vv_89_112 {l : Launch} (hl : l.stackTraces = false) : cj_V1 l 89 112 (3, 0, 0, []) 113 := Or.inl ⟨by decide +kernel, ok_aload_n dm_89_112 rfl⟩
set_option maxRecDepth 100000 in
theorem vv_89_113 {l : Launch} (hl : l.stackTraces = false) : cj_V1 l 89 113 (50, 7, 10, []) 116 := Or.inl ⟨by decide +kernel, ok_getfield (N := 39) (C := RK_7) (T := TK_7) dm_89_113 rfl inK_7 (by decide +kernel) wm_743⟩
set_option maxRecDepth 100000 in
theorem vv_89_116 {l : Launch} (hl : l.stackTraces = false) : cj_V1 l 89 116 (2, 5, 0, []) 118 := Or.inl ⟨by decide +kernel, ok_iload dm_89_116⟩
set_option maxRecDepth 100000 in
theorem vv_89_118 {l : Launch} (hl : l.stackTraces = false) : cj_V1 l 89 118 (54, 0, 0, []) 119 := Or.inl ⟨by decide +kernel, ok_iaload dm_89_118 rfl⟩
set_option maxRecDepth 100000 in
theorem vv_89_119 {l : Launch} (hl : l.stackTraces = false) : cj_V1 l 89 119 (39, 144, 0, []) 122 := Or.inl ⟨by decide +kernel, ok_icmp_lt dm_89_119 (by decide +kernel)⟩
set_option maxRecDepth 100000 in
theorem vv_89_122 {l : Launch} (hl : l.stackTraces = false) : cj_V1 l 89 122 (3, 0, 0, []) 123 := Or.inl ⟨by decide +kernel, ok_aload_n dm_89_122 rfl⟩
set_option maxRecDepth 100000 in
theorem vv_89_123 {l : Launch} (hl : l.stackTraces = false) : cj_V1 l 89 123 (50, 7, 10, []) 126 := Or.inl ⟨by decide +kernel, ok_getfield (N := 39) (C := RK_7) (T := TK_7) dm_89_123 rfl inK_7 (by decide +kernel) wm_743⟩
set_option maxRecDepth 100000 in
theorem vv_89_126 {l : Launch} (hl : l.stackTraces = false) : cj_V1 l 89 126 (2, 4, 0, []) 128 := Or.inl ⟨by decide +kernel, ok_iload dm_89_126⟩
set_option maxRecDepth 100000 in
theorem vv_89_128 {l : Launch} (hl : l.stackTraces = false) : cj_V1 l 89 128 (54, 0, 0, []) 129 := Or.inl ⟨by decide +kernel, ok_iaload dm_89_128 rfl⟩
set_option maxRecDepth 100000 in
theorem vv_89_129 {l : Launch} (hl : l.stackTraces = false) : cj_V1 l 89 129 (3, 0, 0, []) 130 := Or.inl ⟨by decide +kernel, ok_aload_n dm_89_129 rfl⟩
set_option maxRecDepth 100000 in
theorem vv_89_130 {l : Launch} (hl : l.stackTraces = false) : cj_V1 l 89 130 (50, 7, 10, []) 133 := Or.inl ⟨by decide +kernel, ok_getfield (N := 39) (C := RK_7) (T := TK_7) dm_89_130 rfl inK_7 (by decide +kernel) wm_743⟩
set_option maxRecDepth 100000 in
theorem vv_89_133 {l : Launch} (hl : l.stackTraces = false) : cj_V1 l 89 133 (2, 5, 0, []) 135 := Or.inl ⟨by decide +kernel, ok_iload dm_89_133⟩
set_option maxRecDepth 100000 in
theorem vv_89_135 {l : Launch} (hl : l.stackTraces = false) : cj_V1 l 89 135 (54, 0, 0, []) 136 := Or.inl ⟨by decide +kernel, ok_iaload dm_89_135 rfl⟩
set_option maxRecDepth 100000 in
theorem vv_89_136 {l : Launch} (hl : l.stackTraces = false) : cj_V1 l 89 136 (38, 148, 0, []) 139 := Or.inl ⟨by decide +kernel, ok_icmp_ne dm_89_136 (by decide +kernel)⟩
set_option maxRecDepth 100000 in
theorem vv_89_139 {l : Launch} (hl : l.stackTraces = false) : cj_V1 l 89 139 (2, 1, 0, []) 140 := Or.inl ⟨by decide +kernel, ok_iload_n dm_89_139 rfl⟩
set_option maxRecDepth 100000 in
theorem vv_89_140 {l : Launch} (hl : l.stackTraces = false) : cj_V1 l 89 140 (2, 2, 0, []) 141 := Or.inl ⟨by decide +kernel, ok_iload_n dm_89_140 rfl⟩
set_option maxRecDepth 100000 in
theorem vv_89_141 {l : Launch} (hl : l.stackTraces = false) : cj_V1 l 89 141 (40, 148, 0, []) 144 := Or.inl ⟨by decide +kernel, ok_icmp_ge dm_89_141 (by decide +kernel)⟩
set_option maxRecDepth 100000 in
theorem vv_89_144 {l : Launch} (hl : l.stackTraces = false) : cj_V1 l 89 144 (0, 1, 0, []) 145 := Or.inl ⟨by decide +kernel, ok_iconst dm_89_144 (by decide +kernel)⟩
set_option maxRecDepth 100000 in
theorem vv_89_145 {l : Launch} (hl : l.stackTraces = false) : cj_V1 l 89 145 (30, 149, 0, []) 148 := Or.inl ⟨by decide +kernel, ok_goto dm_89_145 (by decide +kernel)⟩
set_option maxRecDepth 100000 in
theorem vv_89_148 {l : Launch} (hl : l.stackTraces = false) : cj_V1 l 89 148 (0, 0, 0, []) 149 := Or.inl ⟨by decide +kernel, ok_iconst dm_89_148 (by decide +kernel)⟩
set_option maxRecDepth 100000 in
theorem vv_89_149 {l : Launch} (hl : l.stackTraces = false) : cj_V1 l 89 149 (93, 0, 0, []) 150 := Or.inr (Or.inl ⟨by decide +kernel, Or.inl (Or.inr (Or.inr (Or.inr ⟨rfl, dm_89_149, rfl⟩)))⟩)
set_option maxRecDepth 100000 in
theorem vm_89 {l : Launch} (hl : l.stackTraces = false) : cj_Vm l 89 := cj_Vm_of (r := kc89_) rfl ⟨vv_89_0 hl, vv_89_1 hl, vv_89_2 hl, vv_89_3 hl, vv_89_4 hl, vv_89_5 hl, vv_89_7 hl, vv_89_8 hl, vv_89_9 hl, vv_89_10 hl, vv_89_11 hl, vv_89_12 hl, vv_89_14 hl, vv_89_15 hl, vv_89_17 hl, vv_89_19 hl, vv_89_20 hl, vv_89_23 hl, vv_89_25 hl, vv_89_26 hl, vv_89_29 hl, vv_89_31 hl, vv_89_32 hl, vv_89_35 hl, vv_89_37 hl, vv_89_38 hl, vv_89_41 hl, vv_89_42 hl, vv_89_43 hl, vv_89_46 hl, vv_89_48 hl, vv_89_50 hl, vv_89_51 hl, vv_89_53 hl, vv_89_54 hl, vv_89_55 hl, vv_89_58 hl, vv_89_60 hl, vv_89_61 hl, vv_89_62 hl, vv_89_65 hl, vv_89_67 hl, vv_89_69 hl, vv_89_70 hl, vv_89_72 hl, vv_89_73 hl, vv_89_74 hl, vv_89_77 hl, vv_89_79 hl, vv_89_81 hl, vv_89_83 hl, vv_89_86 hl, vv_89_88 hl, vv_89_90 hl, vv_89_93 hl, vv_89_94 hl, vv_89_97 hl, vv_89_98 hl, vv_89_99 hl, vv_89_102 hl, vv_89_105 hl, vv_89_106 hl, vv_89_109 hl, vv_89_111 hl, vv_89_112 hl, vv_89_113 hl, vv_89_116 hl, vv_89_118 hl, vv_89_119 hl, vv_89_122 hl, vv_89_123 hl, vv_89_126 hl, vv_89_128 hl, vv_89_129 hl, vv_89_130 hl, vv_89_133 hl, vv_89_135 hl, vv_89_136 hl, vv_89_139 hl, vv_89_140 hl, vv_89_141 hl, vv_89_144 hl, vv_89_145 hl, vv_89_148 hl, vv_89_149 hl, trivial⟩
set_option maxRecDepth 100000 in
theorem vv_90_0 {l : Launch} (hl : l.stackTraces = false) : cj_V1 l 90 0 (2, 1, 0, []) 1 := Or.inl ⟨by decide +kernel, ok_iload_n dm_90_0 rfl⟩
set_option maxRecDepth 100000 in
theorem vv_90_1 {l : Launch} (hl : l.stackTraces = false) : cj_V1 l 90 1 (3, 0, 0, []) 2 := Or.inl ⟨by decide +kernel, ok_aload_n dm_90_1 rfl⟩
set_option maxRecDepth 100000 in
theorem vv_90_2 {l : Launch} (hl : l.stackTraces = false) : cj_V1 l 90 2 (50, 7, 8, []) 5 := Or.inl ⟨by decide +kernel, ok_getfield (N := 39) (C := RK_7) (T := TK_7) dm_90_2 rfl inK_7 (by decide +kernel) wm_741⟩
set_option maxRecDepth 100000 in
theorem vv_90_5 {l : Launch} (hl : l.stackTraces = false) : cj_V1 l 90 5 (81, 44, 2, []) 8 := Or.inr (Or.inr (Or.inl ⟨by decide +kernel, by decide +kernel, rfl, vc_static mi_44 dm_90_5 (Or.inl wm_888) wm_889 (by decide +kernel) (by decide +kernel) (by decide +kernel), (vx_none rfl)⟩))
set_option maxRecDepth 100000 in
theorem vv_90_8 {l : Launch} (hl : l.stackTraces = false) : cj_V1 l 90 8 (93, 0, 0, []) 9 := Or.inr (Or.inl ⟨by decide +kernel, Or.inl (Or.inr (Or.inr (Or.inr ⟨rfl, dm_90_8, rfl⟩)))⟩)
set_option maxRecDepth 100000 in
theorem vm_90 {l : Launch} (hl : l.stackTraces = false) : cj_Vm l 90 := cj_Vm_of (r := kc90_) rfl ⟨vv_90_0 hl, vv_90_1 hl, vv_90_2 hl, vv_90_5 hl, vv_90_8 hl, trivial⟩
set_option maxRecDepth 100000 in
theorem vv_91_0 {l : Launch} (hl : l.stackTraces = false) : cj_V1 l 91 0 (0, 8, 0, []) 2 := Or.inl ⟨by decide +kernel, ok_bipush dm_91_0 (by decide +kernel)⟩
set_option maxRecDepth 100000 in
theorem vv_91_2 {l : Launch} (hl : l.stackTraces = false) : cj_V1 l 91 2 (2, 1, 0, []) 3 := Or.inl ⟨by decide +kernel, ok_iload_n dm_91_2 rfl⟩
set_option maxRecDepth 100000 in
theorem vv_91_3 {l : Launch} (hl : l.stackTraces = false) : cj_V1 l 91 3 (12, 0, 0, []) 4 := Or.inl ⟨by decide +kernel, ok_imul dm_91_3⟩
set_option maxRecDepth 100000 in
theorem vv_91_4 {l : Launch} (hl : l.stackTraces = false) : cj_V1 l 91 4 (2, 2, 0, []) 5 := Or.inl ⟨by decide +kernel, ok_iload_n dm_91_4 rfl⟩
set_option maxRecDepth 100000 in
theorem vv_91_5 {l : Launch} (hl : l.stackTraces = false) : cj_V1 l 91 5 (10, 0, 0, []) 6 := Or.inl ⟨by decide +kernel, ok_iadd dm_91_5⟩
set_option maxRecDepth 100000 in
theorem vv_91_6 {l : Launch} (hl : l.stackTraces = false) : cj_V1 l 91 6 (4, 3, 0, []) 7 := Or.inl ⟨by decide +kernel, ok_istore_n dm_91_6 rfl⟩
set_option maxRecDepth 100000 in
theorem vv_91_7 {l : Launch} (hl : l.stackTraces = false) : cj_V1 l 91 7 (3, 0, 0, []) 8 := Or.inl ⟨by decide +kernel, ok_aload_n dm_91_7 rfl⟩
set_option maxRecDepth 100000 in
theorem vv_91_8 {l : Launch} (hl : l.stackTraces = false) : cj_V1 l 91 8 (0, 0, 0, []) 9 := Or.inl ⟨by decide +kernel, ok_iconst dm_91_8 (by decide +kernel)⟩
set_option maxRecDepth 100000 in
theorem vv_91_9 {l : Launch} (hl : l.stackTraces = false) : cj_V1 l 91 9 (51, 7, 18, [0]) 12 := Or.inl ⟨by decide +kernel, ok_putfield (N := 39) (C := RK_7) (T := TK_7) (ty0 := tyK_7) dm_91_9 rfl inK_7 (by decide +kernel) wm_751 tyK_7_ok nmK_7 (Or.inl rfl) (Or.inl ⟨rfl, rfl⟩)⟩
set_option maxRecDepth 100000 in
theorem vv_91_12 {l : Launch} (hl : l.stackTraces = false) : cj_V1 l 91 12 (0, 0, 0, []) 13 := Or.inl ⟨by decide +kernel, ok_iconst dm_91_12 (by decide +kernel)⟩
set_option maxRecDepth 100000 in
theorem vv_91_13 {l : Launch} (hl : l.stackTraces = false) : cj_V1 l 91 13 (4, 4, 0, []) 15 := Or.inl ⟨by decide +kernel, ok_istore dm_91_13⟩
set_option maxRecDepth 100000 in
theorem vv_91_15 {l : Launch} (hl : l.stackTraces = false) : cj_V1 l 91 15 (0, 1, 0, []) 16 := Or.inl ⟨by decide +kernel, ok_iconst dm_91_15 (by decide +kernel)⟩
set_option maxRecDepth 100000 in
theorem vv_91_16 {l : Launch} (hl : l.stackTraces = false) : cj_V1 l 91 16 (4, 5, 0, []) 18 := Or.inl ⟨by decide +kernel, ok_istore dm_91_16⟩
set_option maxRecDepth 100000 in
theorem vv_91_18 {l : Launch} (hl : l.stackTraces = false) : cj_V1 l 91 18 (0, 0, 0, []) 19 := Or.inl ⟨by decide +kernel, ok_iconst dm_91_18 (by decide +kernel)⟩
set_option maxRecDepth 100000 in
theorem vv_91_19 {l : Launch} (hl : l.stackTraces = false) : cj_V1 l 91 19 (4, 6, 0, []) 21 := Or.inl ⟨by decide +kernel, ok_istore dm_91_19⟩
set_option maxRecDepth 100000 in
theorem vv_91_21 {l : Launch} (hl : l.stackTraces = false) : cj_V1 l 91 21 (2, 6, 0, []) 23 := Or.inl ⟨by decide +kernel, ok_iload dm_91_21⟩
set_option maxRecDepth 100000 in
theorem vv_91_23 {l : Launch} (hl : l.stackTraces = false) : cj_V1 l 91 23 (3, 0, 0, []) 24 := Or.inl ⟨by decide +kernel, ok_aload_n dm_91_23 rfl⟩
set_option maxRecDepth 100000 in
theorem vv_91_24 {l : Launch} (hl : l.stackTraces = false) : cj_V1 l 91 24 (50, 7, 16, []) 27 := Or.inl ⟨by decide +kernel, ok_getfield (N := 39) (C := RK_7) (T := TK_7) dm_91_24 rfl inK_7 (by decide +kernel) wm_749⟩
set_option maxRecDepth 100000 in
theorem vv_91_27 {l : Launch} (hl : l.stackTraces = false) : cj_V1 l 91 27 (40, 182, 0, []) 30 := Or.inl ⟨by decide +kernel, ok_icmp_ge dm_91_27 (by decide +kernel)⟩
set_option maxRecDepth 100000 in
theorem vv_91_30 {l : Launch} (hl : l.stackTraces = false) : cj_V1 l 91 30 (3, 0, 0, []) 31 := Or.inl ⟨by decide +kernel, ok_aload_n dm_91_30 rfl⟩
set_option maxRecDepth 100000 in
theorem vv_91_31 {l : Launch} (hl : l.stackTraces = false) : cj_V1 l 91 31 (50, 7, 17, []) 34 := Or.inl ⟨by decide +kernel, ok_getfield (N := 39) (C := RK_7) (T := TK_7) dm_91_31 rfl inK_7 (by decide +kernel) wm_750⟩
set_option maxRecDepth 100000 in
theorem vv_91_34 {l : Launch} (hl : l.stackTraces = false) : cj_V1 l 91 34 (2, 6, 0, []) 36 := Or.inl ⟨by decide +kernel, ok_iload dm_91_34⟩
set_option maxRecDepth 100000 in
theorem vv_91_36 {l : Launch} (hl : l.stackTraces = false) : cj_V1 l 91 36 (54, 0, 0, []) 37 := Or.inl ⟨by decide +kernel, ok_iaload dm_91_36 rfl⟩
set_option maxRecDepth 100000 in
theorem vv_91_37 {l : Launch} (hl : l.stackTraces = false) : cj_V1 l 91 37 (0, 32, 0, []) 39 := Or.inl ⟨by decide +kernel, ok_bipush dm_91_37 (by decide +kernel)⟩
set_option maxRecDepth 100000 in
theorem vv_91_39 {l : Launch} (hl : l.stackTraces = false) : cj_V1 l 91 39 (37, 176, 0, []) 42 := Or.inl ⟨by decide +kernel, ok_icmp_eq dm_91_39 (by decide +kernel)⟩
set_option maxRecDepth 100000 in
theorem vv_91_42 {l : Launch} (hl : l.stackTraces = false) : cj_V1 l 91 42 (2, 6, 0, []) 44 := Or.inl ⟨by decide +kernel, ok_iload dm_91_42⟩
set_option maxRecDepth 100000 in
theorem vv_91_44 {l : Launch} (hl : l.stackTraces = false) : cj_V1 l 91 44 (31, 61, 0, []) 47 := Or.inl ⟨by decide +kernel, ok_if_eq dm_91_44 (by decide +kernel)⟩
set_option maxRecDepth 100000 in
theorem vv_91_47 {l : Launch} (hl : l.stackTraces = false) : cj_V1 l 91 47 (3, 0, 0, []) 48 := Or.inl ⟨by decide +kernel, ok_aload_n dm_91_47 rfl⟩
set_option maxRecDepth 100000 in
theorem vv_91_48 {l : Launch} (hl : l.stackTraces = false) : cj_V1 l 91 48 (50, 7, 17, []) 51 := Or.inl ⟨by decide +kernel, ok_getfield (N := 39) (C := RK_7) (T := TK_7) dm_91_48 rfl inK_7 (by decide +kernel) wm_750⟩
set_option maxRecDepth 100000 in
theorem vv_91_51 {l : Launch} (hl : l.stackTraces = false) : cj_V1 l 91 51 (2, 6, 0, []) 53 := Or.inl ⟨by decide +kernel, ok_iload dm_91_51⟩
set_option maxRecDepth 100000 in
theorem vv_91_53 {l : Launch} (hl : l.stackTraces = false) : cj_V1 l 91 53 (0, 1, 0, []) 54 := Or.inl ⟨by decide +kernel, ok_iconst dm_91_53 (by decide +kernel)⟩
set_option maxRecDepth 100000 in
theorem vv_91_54 {l : Launch} (hl : l.stackTraces = false) : cj_V1 l 91 54 (11, 0, 0, []) 55 := Or.inl ⟨by decide +kernel, ok_isub dm_91_54⟩
set_option maxRecDepth 100000 in
theorem vv_91_55 {l : Launch} (hl : l.stackTraces = false) : cj_V1 l 91 55 (54, 0, 0, []) 56 := Or.inl ⟨by decide +kernel, ok_iaload dm_91_55 rfl⟩
set_option maxRecDepth 100000 in
theorem vv_91_56 {l : Launch} (hl : l.stackTraces = false) : cj_V1 l 91 56 (0, 32, 0, []) 58 := Or.inl ⟨by decide +kernel, ok_bipush dm_91_56 (by decide +kernel)⟩
set_option maxRecDepth 100000 in
theorem vv_91_58 {l : Launch} (hl : l.stackTraces = false) : cj_V1 l 91 58 (38, 107, 0, []) 61 := Or.inl ⟨by decide +kernel, ok_icmp_ne dm_91_58 (by decide +kernel)⟩
set_option maxRecDepth 100000 in
theorem vv_91_61 {l : Launch} (hl : l.stackTraces = false) : cj_V1 l 91 61 (3, 0, 0, []) 62 := Or.inl ⟨by decide +kernel, ok_aload_n dm_91_61 rfl⟩
set_option maxRecDepth 100000 in
theorem vv_91_62 {l : Launch} (hl : l.stackTraces = false) : cj_V1 l 91 62 (50, 7, 18, []) 65 := Or.inl ⟨by decide +kernel, ok_getfield (N := 39) (C := RK_7) (T := TK_7) dm_91_62 rfl inK_7 (by decide +kernel) wm_751⟩
set_option maxRecDepth 100000 in
theorem vv_91_65 {l : Launch} (hl : l.stackTraces = false) : cj_V1 l 91 65 (36, 86, 0, []) 68 := Or.inl ⟨by decide +kernel, ok_if_le dm_91_65 (by decide +kernel)⟩
set_option maxRecDepth 100000 in
theorem vv_91_68 {l : Launch} (hl : l.stackTraces = false) : cj_V1 l 91 68 (3, 0, 0, []) 69 := Or.inl ⟨by decide +kernel, ok_aload_n dm_91_68 rfl⟩
set_option maxRecDepth 100000 in
theorem vv_91_69 {l : Launch} (hl : l.stackTraces = false) : cj_V1 l 91 69 (50, 7, 31, []) 72 := Or.inl ⟨by decide +kernel, ok_getfield (N := 39) (C := RK_7) (T := TK_7) dm_91_69 rfl inK_7 (by decide +kernel) wm_764⟩
set_option maxRecDepth 100000 in
theorem vv_91_72 {l : Launch} (hl : l.stackTraces = false) : cj_V1 l 91 72 (0, 240, 0, []) 75 := Or.inl ⟨by decide +kernel, ok_sipush dm_91_72 (by decide +kernel)⟩
set_option maxRecDepth 100000 in
theorem vv_91_75 {l : Launch} (hl : l.stackTraces = false) : cj_V1 l 91 75 (2, 3, 0, []) 76 := Or.inl ⟨by decide +kernel, ok_iload_n dm_91_75 rfl⟩
set_option maxRecDepth 100000 in
theorem vv_91_76 {l : Launch} (hl : l.stackTraces = false) : cj_V1 l 91 76 (12, 0, 0, []) 77 := Or.inl ⟨by decide +kernel, ok_imul dm_91_76⟩
set_option maxRecDepth 100000 in
theorem vv_91_77 {l : Launch} (hl : l.stackTraces = false) : cj_V1 l 91 77 (2, 4, 0, []) 79 := Or.inl ⟨by decide +kernel, ok_iload dm_91_77⟩
set_option maxRecDepth 100000 in
theorem vv_91_79 {l : Launch} (hl : l.stackTraces = false) : cj_V1 l 91 79 (10, 0, 0, []) 80 := Or.inl ⟨by decide +kernel, ok_iadd dm_91_79⟩
set_option maxRecDepth 100000 in
theorem vv_91_80 {l : Launch} (hl : l.stackTraces = false) : cj_V1 l 91 80 (0, 32, 0, []) 82 := Or.inl ⟨by decide +kernel, ok_bipush dm_91_80 (by decide +kernel)⟩
set_option maxRecDepth 100000 in
theorem vv_91_82 {l : Launch} (hl : l.stackTraces = false) : cj_V1 l 91 82 (56, 0, 0, []) 83 := Or.inl ⟨by decide +kernel, ok_iastore dm_91_82 rfl⟩
set_option maxRecDepth 100000 in
theorem vv_91_83 {l : Launch} (hl : l.stackTraces = false) : cj_V1 l 91 83 (6, 4, 1, []) 86 := Or.inl ⟨by decide +kernel, ok_iinc6 dm_91_83 (by decide +kernel)⟩
set_option maxRecDepth 100000 in
theorem vv_91_86 {l : Launch} (hl : l.stackTraces = false) : cj_V1 l 91 86 (3, 0, 0, []) 87 := Or.inl ⟨by decide +kernel, ok_aload_n dm_91_86 rfl⟩
set_option maxRecDepth 100000 in
theorem vv_91_87 {l : Launch} (hl : l.stackTraces = false) : cj_V1 l 91 87 (50, 7, 19, []) 90 := Or.inl ⟨by decide +kernel, ok_getfield (N := 39) (C := RK_7) (T := TK_7) dm_91_87 rfl inK_7 (by decide +kernel) wm_752⟩
set_option maxRecDepth 100000 in
theorem vv_91_90 {l : Launch} (hl : l.stackTraces = false) : cj_V1 l 91 90 (3, 0, 0, []) 91 := Or.inl ⟨by decide +kernel, ok_aload_n dm_91_90 rfl⟩
set_option maxRecDepth 100000 in
theorem vv_91_91 {l : Launch} (hl : l.stackTraces = false) : cj_V1 l 91 91 (50, 7, 18, []) 94 := Or.inl ⟨by decide +kernel, ok_getfield (N := 39) (C := RK_7) (T := TK_7) dm_91_91 rfl inK_7 (by decide +kernel) wm_751⟩
set_option maxRecDepth 100000 in
theorem vv_91_94 {l : Launch} (hl : l.stackTraces = false) : cj_V1 l 91 94 (2, 4, 0, []) 96 := Or.inl ⟨by decide +kernel, ok_iload dm_91_94⟩
set_option maxRecDepth 100000 in
theorem vv_91_96 {l : Launch} (hl : l.stackTraces = false) : cj_V1 l 91 96 (56, 0, 0, []) 97 := Or.inl ⟨by decide +kernel, ok_iastore dm_91_96 rfl⟩
set_option maxRecDepth 100000 in
theorem vv_91_97 {l : Launch} (hl : l.stackTraces = false) : cj_V1 l 91 97 (3, 0, 0, []) 98 := Or.inl ⟨by decide +kernel, ok_aload_n dm_91_97 rfl⟩
set_option maxRecDepth 100000 in
theorem vv_91_98 {l : Launch} (hl : l.stackTraces = false) : cj_V1 l 91 98 (25, 0, 0, []) 99 := Or.inl ⟨by decide +kernel, ok_dup dm_91_98⟩
set_option maxRecDepth 100000 in
theorem vv_91_99 {l : Launch} (hl : l.stackTraces = false) : cj_V1 l 91 99 (50, 7, 18, []) 102 := Or.inl ⟨by decide +kernel, ok_getfield (N := 39) (C := RK_7) (T := TK_7) dm_91_99 rfl inK_7 (by decide +kernel) wm_751⟩
set_option maxRecDepth 100000 in
theorem vv_91_102 {l : Launch} (hl : l.stackTraces = false) : cj_V1 l 91 102 (0, 1, 0, []) 103 := Or.inl ⟨by decide +kernel, ok_iconst dm_91_102 (by decide +kernel)⟩
set_option maxRecDepth 100000 in
theorem vv_91_103 {l : Launch} (hl : l.stackTraces = false) : cj_V1 l 91 103 (10, 0, 0, []) 104 := Or.inl ⟨by decide +kernel, ok_iadd dm_91_103⟩
set_option maxRecDepth 100000 in
theorem vv_91_104 {l : Launch} (hl : l.stackTraces = false) : cj_V1 l 91 104 (51, 7, 18, [0]) 107 := Or.inl ⟨by decide +kernel, ok_putfield (N := 39) (C := RK_7) (T := TK_7) (ty0 := tyK_7) dm_91_104 rfl inK_7 (by decide +kernel) wm_751 tyK_7_ok nmK_7 (Or.inl rfl) (Or.inl ⟨rfl, rfl⟩)⟩
set_option maxRecDepth 100000 in
theorem vv_91_107 {l : Launch} (hl : l.stackTraces = false) : cj_V1 l 91 107 (3, 0, 0, []) 108 := Or.inl ⟨by decide +kernel, ok_aload_n dm_91_107 rfl⟩
set_option maxRecDepth 100000 in
theorem vv_91_108 {l : Launch} (hl : l.stackTraces = false) : cj_V1 l 91 108 (50, 7, 31, []) 111 := Or.inl ⟨by decide +kernel, ok_getfield (N := 39) (C := RK_7) (T := TK_7) dm_91_108 rfl inK_7 (by decide +kernel) wm_764⟩
set_option maxRecDepth 100000 in
theorem vv_91_111 {l : Launch} (hl : l.stackTraces = false) : cj_V1 l 91 111 (0, 240, 0, []) 114 := Or.inl ⟨by decide +kernel, ok_sipush dm_91_111 (by decide +kernel)⟩
set_option maxRecDepth 100000 in
theorem vv_91_114 {l : Launch} (hl : l.stackTraces = false) : cj_V1 l 91 114 (2, 3, 0, []) 115 := Or.inl ⟨by decide +kernel, ok_iload_n dm_91_114 rfl⟩
set_option maxRecDepth 100000 in
theorem vv_91_115 {l : Launch} (hl : l.stackTraces = false) : cj_V1 l 91 115 (12, 0, 0, []) 116 := Or.inl ⟨by decide +kernel, ok_imul dm_91_115⟩
set_option maxRecDepth 100000 in
theorem vv_91_116 {l : Launch} (hl : l.stackTraces = false) : cj_V1 l 91 116 (2, 4, 0, []) 118 := Or.inl ⟨by decide +kernel, ok_iload dm_91_116⟩
set_option maxRecDepth 100000 in
theorem vv_91_118 {l : Launch} (hl : l.stackTraces = false) : cj_V1 l 91 118 (10, 0, 0, []) 119 := Or.inl ⟨by decide +kernel, ok_iadd dm_91_118⟩
set_option maxRecDepth 100000 in
theorem vv_91_119 {l : Launch} (hl : l.stackTraces = false) : cj_V1 l 91 119 (3, 0, 0, []) 120 := Or.inl ⟨by decide +kernel, ok_aload_n dm_91_119 rfl⟩
set_option maxRecDepth 100000 in
theorem vv_91_120 {l : Launch} (hl : l.stackTraces = false) : cj_V1 l 91 120 (50, 7, 17, []) 123 := Or.inl ⟨by decide +kernel, ok_getfield (N := 39) (C := RK_7) (T := TK_7) dm_91_120 rfl inK_7 (by decide +kernel) wm_750⟩
set_option maxRecDepth 100000 in
theorem vv_91_123 {l : Launch} (hl : l.stackTraces = false) : cj_V1 l 91 123 (2, 6, 0, []) 125 := Or.inl ⟨by decide +kernel, ok_iload dm_91_123⟩
set_option maxRecDepth 100000 in
theorem vv_91_125 {l : Launch} (hl : l.stackTraces = false) : cj_V1 l 91 125 (54, 0, 0, []) 126 := Or.inl ⟨by decide +kernel, ok_iaload dm_91_125 rfl⟩
set_option maxRecDepth 100000 in
theorem vv_91_126 {l : Launch} (hl : l.stackTraces = false) : cj_V1 l 91 126 (56, 0, 0, []) 127 := Or.inl ⟨by decide +kernel, ok_iastore dm_91_126 rfl⟩
set_option maxRecDepth 100000 in
theorem vv_91_127 {l : Launch} (hl : l.stackTraces = false) : cj_V1 l 91 127 (6, 4, 1, []) 130 := Or.inl ⟨by decide +kernel, ok_iinc6 dm_91_127 (by decide +kernel)⟩
set_option maxRecDepth 100000 in
theorem vv_91_130 {l : Launch} (hl : l.stackTraces = false) : cj_V1 l 91 130 (3, 0, 0, []) 131 := Or.inl ⟨by decide +kernel, ok_aload_n dm_91_130 rfl⟩
set_option maxRecDepth 100000 in
theorem vv_91_131 {l : Launch} (hl : l.stackTraces = false) : cj_V1 l 91 131 (50, 7, 20, []) 134 := Or.inl ⟨by decide +kernel, ok_getfield (N := 39) (C := RK_7) (T := TK_7) dm_91_131 rfl inK_7 (by decide +kernel) wm_753⟩
set_option maxRecDepth 100000 in
theorem vv_91_134 {l : Launch} (hl : l.stackTraces = false) : cj_V1 l 91 134 (3, 0, 0, []) 135 := Or.inl ⟨by decide +kernel, ok_aload_n dm_91_134 rfl⟩
set_option maxRecDepth 100000 in
theorem vv_91_135 {l : Launch} (hl : l.stackTraces = false) : cj_V1 l 91 135 (50, 7, 18, []) 138 := Or.inl ⟨by decide +kernel, ok_getfield (N := 39) (C := RK_7) (T := TK_7) dm_91_135 rfl inK_7 (by decide +kernel) wm_751⟩
set_option maxRecDepth 100000 in
theorem vv_91_138 {l : Launch} (hl : l.stackTraces = false) : cj_V1 l 91 138 (0, 1, 0, []) 139 := Or.inl ⟨by decide +kernel, ok_iconst dm_91_138 (by decide +kernel)⟩
set_option maxRecDepth 100000 in
theorem vv_91_139 {l : Launch} (hl : l.stackTraces = false) : cj_V1 l 91 139 (11, 0, 0, []) 140 := Or.inl ⟨by decide +kernel, ok_isub dm_91_139⟩
set_option maxRecDepth 100000 in
theorem vv_91_140 {l : Launch} (hl : l.stackTraces = false) : cj_V1 l 91 140 (2, 4, 0, []) 142 := Or.inl ⟨by decide +kernel, ok_iload dm_91_140⟩
set_option maxRecDepth 100000 in
theorem vv_91_142 {l : Launch} (hl : l.stackTraces = false) : cj_V1 l 91 142 (56, 0, 0, []) 143 := Or.inl ⟨by decide +kernel, ok_iastore dm_91_142 rfl⟩
set_option maxRecDepth 100000 in
theorem vv_91_143 {l : Launch} (hl : l.stackTraces = false) : cj_V1 l 91 143 (2, 5, 0, []) 145 := Or.inl ⟨by decide +kernel, ok_iload dm_91_143⟩
set_option maxRecDepth 100000 in
theorem vv_91_145 {l : Launch} (hl : l.stackTraces = false) : cj_V1 l 91 145 (31, 173, 0, []) 148 := Or.inl ⟨by decide +kernel, ok_if_eq dm_91_145 (by decide +kernel)⟩
set_option maxRecDepth 100000 in
theorem vv_91_148 {l : Launch} (hl : l.stackTraces = false) : cj_V1 l 91 148 (2, 4, 0, []) 150 := Or.inl ⟨by decide +kernel, ok_iload dm_91_148⟩
set_option maxRecDepth 100000 in
theorem vv_91_150 {l : Launch} (hl : l.stackTraces = false) : cj_V1 l 91 150 (3, 0, 0, []) 151 := Or.inl ⟨by decide +kernel, ok_aload_n dm_91_150 rfl⟩
set_option maxRecDepth 100000 in
theorem vv_91_151 {l : Launch} (hl : l.stackTraces = false) : cj_V1 l 91 151 (50, 7, 19, []) 154 := Or.inl ⟨by decide +kernel, ok_getfield (N := 39) (C := RK_7) (T := TK_7) dm_91_151 rfl inK_7 (by decide +kernel) wm_752⟩
set_option maxRecDepth 100000 in
theorem vv_91_154 {l : Launch} (hl : l.stackTraces = false) : cj_V1 l 91 154 (3, 0, 0, []) 155 := Or.inl ⟨by decide +kernel, ok_aload_n dm_91_154 rfl⟩
set_option maxRecDepth 100000 in
theorem vv_91_155 {l : Launch} (hl : l.stackTraces = false) : cj_V1 l 91 155 (50, 7, 18, []) 158 := Or.inl ⟨by decide +kernel, ok_getfield (N := 39) (C := RK_7) (T := TK_7) dm_91_155 rfl inK_7 (by decide +kernel) wm_751⟩
set_option maxRecDepth 100000 in
theorem vv_91_158 {l : Launch} (hl : l.stackTraces = false) : cj_V1 l 91 158 (0, 1, 0, []) 159 := Or.inl ⟨by decide +kernel, ok_iconst dm_91_158 (by decide +kernel)⟩
set_option maxRecDepth 100000 in
theorem vv_91_159 {l : Launch} (hl : l.stackTraces = false) : cj_V1 l 91 159 (11, 0, 0, []) 160 := Or.inl ⟨by decide +kernel, ok_isub dm_91_159⟩
set_option maxRecDepth 100000 in
theorem vv_91_160 {l : Launch} (hl : l.stackTraces = false) : cj_V1 l 91 160 (54, 0, 0, []) 161 := Or.inl ⟨by decide +kernel, ok_iaload dm_91_160 rfl⟩
set_option maxRecDepth 100000 in
theorem vv_91_161 {l : Launch} (hl : l.stackTraces = false) : cj_V1 l 91 161 (11, 0, 0, []) 162 := Or.inl ⟨by decide +kernel, ok_isub dm_91_161⟩
set_option maxRecDepth 100000 in
theorem vv_91_162 {l : Launch} (hl : l.stackTraces = false) : cj_V1 l 91 162 (3, 0, 0, []) 163 := Or.inl ⟨by decide +kernel, ok_aload_n dm_91_162 rfl⟩
set_option maxRecDepth 100000 in
theorem vv_91_163 {l : Launch} (hl : l.stackTraces = false) : cj_V1 l 91 163 (50, 7, 0, []) 166 := Or.inl ⟨by decide +kernel, ok_getfield (N := 39) (C := RK_7) (T := TK_7) dm_91_163 rfl inK_7 (by decide +kernel) wm_733⟩
set_option maxRecDepth 100000 in
theorem vv_91_166 {l : Launch} (hl : l.stackTraces = false) : cj_V1 l 91 166 (41, 173, 0, []) 169 := Or.inl ⟨by decide +kernel, ok_icmp_gt dm_91_166 (by decide +kernel)⟩
set_option maxRecDepth 100000 in
theorem vv_91_169 {l : Launch} (hl : l.stackTraces = false) : cj_V1 l 91 169 (0, 1, 0, []) 170 := Or.inl ⟨by decide +kernel, ok_iconst dm_91_169 (by decide +kernel)⟩
set_option maxRecDepth 100000 in
theorem vv_91_170 {l : Launch} (hl : l.stackTraces = false) : cj_V1 l 91 170 (30, 174, 0, []) 173 := Or.inl ⟨by decide +kernel, ok_goto dm_91_170 (by decide +kernel)⟩
set_option maxRecDepth 100000 in
theorem vv_91_173 {l : Launch} (hl : l.stackTraces = false) : cj_V1 l 91 173 (0, 0, 0, []) 174 := Or.inl ⟨by decide +kernel, ok_iconst dm_91_173 (by decide +kernel)⟩
set_option maxRecDepth 100000 in
theorem vv_91_174 {l : Launch} (hl : l.stackTraces = false) : cj_V1 l 91 174 (4, 5, 0, []) 176 := Or.inl ⟨by decide +kernel, ok_istore dm_91_174⟩
set_option maxRecDepth 100000 in
theorem vv_91_176 {l : Launch} (hl : l.stackTraces = false) : cj_V1 l 91 176 (6, 6, 1, []) 179 := Or.inl ⟨by decide +kernel, ok_iinc6 dm_91_176 (by decide +kernel)⟩
set_option maxRecDepth 100000 in
theorem vv_91_179 {l : Launch} (hl : l.stackTraces = false) : cj_V1 l 91 179 (30, 21, 0, []) 182 := Or.inl ⟨by decide +kernel, ok_goto dm_91_179 (by decide +kernel)⟩
set_option maxRecDepth 100000 in
theorem vv_91_182 {l : Launch} (hl : l.stackTraces = false) : cj_V1 l 91 182 (3, 0, 0, []) 183 := Or.inl ⟨by decide +kernel, ok_aload_n dm_91_182 rfl⟩
set_option maxRecDepth 100000 in
theorem vv_91_183 {l : Launch} (hl : l.stackTraces = false) : cj_V1 l 91 183 (50, 7, 28, []) 186 := Or.inl ⟨by decide +kernel, ok_getfield (N := 39) (C := RK_7) (T := TK_7) dm_91_183 rfl inK_7 (by decide +kernel) wm_761⟩
set_option maxRecDepth 100000 in
theorem vv_91_186 {l : Launch} (hl : l.stackTraces = false) : cj_V1 l 91 186 (2, 3, 0, []) 187 := Or.inl ⟨by decide +kernel, ok_iload_n dm_91_186 rfl⟩
set_option maxRecDepth 100000 in
theorem vv_91_187 {l : Launch} (hl : l.stackTraces = false) : cj_V1 l 91 187 (0, 0, 0, []) 188 := Or.inl ⟨by decide +kernel, ok_iconst dm_91_187 (by decide +kernel)⟩
set_option maxRecDepth 100000 in
theorem vv_91_188 {l : Launch} (hl : l.stackTraces = false) : cj_V1 l 91 188 (56, 0, 0, []) 189 := Or.inl ⟨by decide +kernel, ok_iastore dm_91_188 rfl⟩
set_option maxRecDepth 100000 in
theorem vv_91_189 {l : Launch} (hl : l.stackTraces = false) : cj_V1 l 91 189 (3, 0, 0, []) 190 := Or.inl ⟨by decide +kernel, ok_aload_n dm_91_189 rfl⟩
set_option maxRecDepth 100000 in
theorem vv_91_190 {l : Launch} (hl : l.stackTraces = false) : cj_V1 l 91 190 (50, 7, 18, []) 193 := Or.inl ⟨by decide +kernel, ok_getfield (N := 39) (C := RK_7) (T := TK_7) dm_91_190 rfl inK_7 (by decide +kernel) wm_751⟩
set_option maxRecDepth 100000 in
theorem vv_91_193 {l : Launch} (hl : l.stackTraces = false) : cj_V1 l 91 193 (0, 1, 0, []) 194 := Or.inl ⟨by decide +kernel, ok_iconst dm_91_193 (by decide +kernel)⟩
set_option maxRecDepth 100000 in
theorem vv_91_194 {l : Launch} (hl : l.stackTraces = false) : cj_V1 l 91 194 (11, 0, 0, []) 195 := Or.inl ⟨by decide +kernel, ok_isub dm_91_194⟩
set_option maxRecDepth 100000 in
theorem vv_91_195 {l : Launch} (hl : l.stackTraces = false) : cj_V1 l 91 195 (4, 6, 0, []) 197 := Or.inl ⟨by decide +kernel, ok_istore dm_91_195⟩
set_option maxRecDepth 100000 in
theorem vv_91_197 {l : Launch} (hl : l.stackTraces = false) : cj_V1 l 91 197 (2, 6, 0, []) 199 := Or.inl ⟨by decide +kernel, ok_iload dm_91_197⟩
set_option maxRecDepth 100000 in
theorem vv_91_199 {l : Launch} (hl : l.stackTraces = false) : cj_V1 l 91 199 (33, 219, 0, []) 202 := Or.inl ⟨by decide +kernel, ok_if_lt dm_91_199 (by decide +kernel)⟩
set_option maxRecDepth 100000 in
theorem vv_91_202 {l : Launch} (hl : l.stackTraces = false) : cj_V1 l 91 202 (2, 5, 0, []) 204 := Or.inl ⟨by decide +kernel, ok_iload dm_91_202⟩
set_option maxRecDepth 100000 in
theorem vv_91_204 {l : Launch} (hl : l.stackTraces = false) : cj_V1 l 91 204 (31, 219, 0, []) 207 := Or.inl ⟨by decide +kernel, ok_if_eq dm_91_204 (by decide +kernel)⟩
set_option maxRecDepth 100000 in
theorem vv_91_207 {l : Launch} (hl : l.stackTraces = false) : cj_V1 l 91 207 (3, 0, 0, []) 208 := Or.inl ⟨by decide +kernel, ok_aload_n dm_91_207 rfl⟩
set_option maxRecDepth 100000 in
theorem vv_91_208 {l : Launch} (hl : l.stackTraces = false) : cj_V1 l 91 208 (2, 6, 0, []) 210 := Or.inl ⟨by decide +kernel, ok_iload dm_91_208⟩
set_option maxRecDepth 100000 in
theorem vv_91_210 {l : Launch} (hl : l.stackTraces = false) : cj_V1 l 91 210 (80, 54, 2, [7]) 213 := Or.inr (Or.inr (Or.inl ⟨by decide +kernel, by decide +kernel, rfl, vc_virtual (n := 1) (q := (RK_7, TK_7, 39)) mi_54 dm_91_210 (Or.inl wm_947) wm_949 wm_p31 rfl rfl (by decide +kernel) rfl (by decide +kernel) (by decide +kernel), (vx_none rfl)⟩))
set_option maxRecDepth 100000 in
theorem vv_91_213 {l : Launch} (hl : l.stackTraces = false) : cj_V1 l 91 213 (7, 6, 1, []) 216 := Or.inl ⟨by decide +kernel, ok_iinc7 dm_91_213 (by decide +kernel)⟩
set_option maxRecDepth 100000 in
theorem vv_91_216 {l : Launch} (hl : l.stackTraces = false) : cj_V1 l 91 216 (30, 197, 0, []) 219 := Or.inl ⟨by decide +kernel, ok_goto dm_91_216 (by decide +kernel)⟩
set_option maxRecDepth 100000 in
theorem vv_91_219 {l : Launch} (hl : l.stackTraces = false) : cj_V1 l 91 219 (0, 0, 0, []) 220 := Or.inl ⟨by decide +kernel, ok_iconst dm_91_219 (by decide +kernel)⟩
set_option maxRecDepth 100000 in
theorem vv_91_220 {l : Launch} (hl : l.stackTraces = false) : cj_V1 l 91 220 (4, 6, 0, []) 222 := Or.inl ⟨by decide +kernel, ok_istore dm_91_220⟩
set_option maxRecDepth 100000 in
theorem vv_91_222 {l : Launch} (hl : l.stackTraces = false) : cj_V1 l 91 222 (2, 6, 0, []) 224 := Or.inl ⟨by decide +kernel, ok_iload dm_91_222⟩
set_option maxRecDepth 100000 in
theorem vv_91_224 {l : Launch} (hl : l.stackTraces = false) : cj_V1 l 91 224 (3, 0, 0, []) 225 := Or.inl ⟨by decide +kernel, ok_aload_n dm_91_224 rfl⟩
set_option maxRecDepth 100000 in
theorem vv_91_225 {l : Launch} (hl : l.stackTraces = false) : cj_V1 l 91 225 (50, 7, 18, []) 228 := Or.inl ⟨by decide +kernel, ok_getfield (N := 39) (C := RK_7) (T := TK_7) dm_91_225 rfl inK_7 (by decide +kernel) wm_751⟩
set_option maxRecDepth 100000 in
theorem vv_91_228 {l : Launch} (hl : l.stackTraces = false) : cj_V1 l 91 228 (40, 320, 0, []) 231 := Or.inl ⟨by decide +kernel, ok_icmp_ge dm_91_228 (by decide +kernel)⟩
set_option maxRecDepth 100000 in
theorem vv_91_231 {l : Launch} (hl : l.stackTraces = false) : cj_V1 l 91 231 (2, 5, 0, []) 233 := Or.inl ⟨by decide +kernel, ok_iload dm_91_231⟩
set_option maxRecDepth 100000 in
theorem vv_91_233 {l : Launch} (hl : l.stackTraces = false) : cj_V1 l 91 233 (31, 320, 0, []) 236 := Or.inl ⟨by decide +kernel, ok_if_eq dm_91_233 (by decide +kernel)⟩
set_option maxRecDepth 100000 in
theorem vv_91_236 {l : Launch} (hl : l.stackTraces = false) : cj_V1 l 91 236 (0, 112, 0, []) 238 := Or.inl ⟨by decide +kernel, ok_bipush dm_91_236 (by decide +kernel)⟩
set_option maxRecDepth 100000 in
theorem vv_91_238 {l : Launch} (hl : l.stackTraces = false) : cj_V1 l 91 238 (2, 3, 0, []) 239 := Or.inl ⟨by decide +kernel, ok_iload_n dm_91_238 rfl⟩
set_option maxRecDepth 100000 in
theorem vv_91_239 {l : Launch} (hl : l.stackTraces = false) : cj_V1 l 91 239 (12, 0, 0, []) 240 := Or.inl ⟨by decide +kernel, ok_imul dm_91_239⟩
set_option maxRecDepth 100000 in
theorem vv_91_240 {l : Launch} (hl : l.stackTraces = false) : cj_V1 l 91 240 (3, 0, 0, []) 241 := Or.inl ⟨by decide +kernel, ok_aload_n dm_91_240 rfl⟩
set_option maxRecDepth 100000 in
theorem vv_91_241 {l : Launch} (hl : l.stackTraces = false) : cj_V1 l 91 241 (50, 7, 28, []) 244 := Or.inl ⟨by decide +kernel, ok_getfield (N := 39) (C := RK_7) (T := TK_7) dm_91_241 rfl inK_7 (by decide +kernel) wm_761⟩
set_option maxRecDepth 100000 in
theorem vv_91_244 {l : Launch} (hl : l.stackTraces = false) : cj_V1 l 91 244 (2, 3, 0, []) 245 := Or.inl ⟨by decide +kernel, ok_iload_n dm_91_244 rfl⟩
set_option maxRecDepth 100000 in
theorem vv_91_245 {l : Launch} (hl : l.stackTraces = false) : cj_V1 l 91 245 (54, 0, 0, []) 246 := Or.inl ⟨by decide +kernel, ok_iaload dm_91_245 rfl⟩
set_option maxRecDepth 100000 in
theorem vv_91_246 {l : Launch} (hl : l.stackTraces = false) : cj_V1 l 91 246 (10, 0, 0, []) 247 := Or.inl ⟨by decide +kernel, ok_iadd dm_91_246⟩
set_option maxRecDepth 100000 in
theorem vv_91_247 {l : Launch} (hl : l.stackTraces = false) : cj_V1 l 91 247 (4, 7, 0, []) 249 := Or.inl ⟨by decide +kernel, ok_istore dm_91_247⟩
set_option maxRecDepth 100000 in
theorem vv_91_249 {l : Launch} (hl : l.stackTraces = false) : cj_V1 l 91 249 (3, 0, 0, []) 250 := Or.inl ⟨by decide +kernel, ok_aload_n dm_91_249 rfl⟩
set_option maxRecDepth 100000 in
theorem vv_91_250 {l : Launch} (hl : l.stackTraces = false) : cj_V1 l 91 250 (50, 7, 29, []) 253 := Or.inl ⟨by decide +kernel, ok_getfield (N := 39) (C := RK_7) (T := TK_7) dm_91_250 rfl inK_7 (by decide +kernel) wm_762⟩
set_option maxRecDepth 100000 in
theorem vv_91_253 {l : Launch} (hl : l.stackTraces = false) : cj_V1 l 91 253 (2, 7, 0, []) 255 := Or.inl ⟨by decide +kernel, ok_iload dm_91_253⟩
set_option maxRecDepth 100000 in
theorem vv_91_255 {l : Launch} (hl : l.stackTraces = false) : cj_V1 l 91 255 (3, 0, 0, []) 256 := Or.inl ⟨by decide +kernel, ok_aload_n dm_91_255 rfl⟩
set_option maxRecDepth 100000 in
theorem vv_91_256 {l : Launch} (hl : l.stackTraces = false) : cj_V1 l 91 256 (50, 7, 19, []) 259 := Or.inl ⟨by decide +kernel, ok_getfield (N := 39) (C := RK_7) (T := TK_7) dm_91_256 rfl inK_7 (by decide +kernel) wm_752⟩
set_option maxRecDepth 100000 in
theorem vv_91_259 {l : Launch} (hl : l.stackTraces = false) : cj_V1 l 91 259 (2, 6, 0, []) 261 := Or.inl ⟨by decide +kernel, ok_iload dm_91_259⟩
set_option maxRecDepth 100000 in
theorem vv_91_261 {l : Launch} (hl : l.stackTraces = false) : cj_V1 l 91 261 (54, 0, 0, []) 262 := Or.inl ⟨by decide +kernel, ok_iaload dm_91_261 rfl⟩
set_option maxRecDepth 100000 in
theorem vv_91_262 {l : Launch} (hl : l.stackTraces = false) : cj_V1 l 91 262 (56, 0, 0, []) 263 := Or.inl ⟨by decide +kernel, ok_iastore dm_91_262 rfl⟩
set_option maxRecDepth 100000 in
theorem vv_91_263 {l : Launch} (hl : l.stackTraces = false) : cj_V1 l 91 263 (3, 0, 0, []) 264 := Or.inl ⟨by decide +kernel, ok_aload_n dm_91_263 rfl⟩
set_option maxRecDepth 100000 in
theorem vv_91_264 {l : Launch} (hl : l.stackTraces = false) : cj_V1 l 91 264 (50, 7, 30, []) 267 := Or.inl ⟨by decide +kernel, ok_getfield (N := 39) (C := RK_7) (T := TK_7) dm_91_264 rfl inK_7 (by decide +kernel) wm_763⟩
set_option maxRecDepth 100000 in
theorem vv_91_267 {l : Launch} (hl : l.stackTraces = false) : cj_V1 l 91 267 (2, 7, 0, []) 269 := Or.inl ⟨by decide +kernel, ok_iload dm_91_267⟩
set_option maxRecDepth 100000 in
theorem vv_91_269 {l : Launch} (hl : l.stackTraces = false) : cj_V1 l 91 269 (3, 0, 0, []) 270 := Or.inl ⟨by decide +kernel, ok_aload_n dm_91_269 rfl⟩
set_option maxRecDepth 100000 in
theorem vv_91_270 {l : Launch} (hl : l.stackTraces = false) : cj_V1 l 91 270 (50, 7, 20, []) 273 := Or.inl ⟨by decide +kernel, ok_getfield (N := 39) (C := RK_7) (T := TK_7) dm_91_270 rfl inK_7 (by decide +kernel) wm_753⟩
set_option maxRecDepth 100000 in
theorem vv_91_273 {l : Launch} (hl : l.stackTraces = false) : cj_V1 l 91 273 (2, 6, 0, []) 275 := Or.inl ⟨by decide +kernel, ok_iload dm_91_273⟩
set_option maxRecDepth 100000 in
theorem vv_91_275 {l : Launch} (hl : l.stackTraces = false) : cj_V1 l 91 275 (3, 0, 0, []) 276 := Or.inl ⟨by decide +kernel, ok_aload_n dm_91_275 rfl⟩
set_option maxRecDepth 100000 in
theorem vv_91_276 {l : Launch} (hl : l.stackTraces = false) : cj_V1 l 91 276 (50, 7, 22, []) 279 := Or.inl ⟨by decide +kernel, ok_getfield (N := 39) (C := RK_7) (T := TK_7) dm_91_276 rfl inK_7 (by decide +kernel) wm_755⟩
set_option maxRecDepth 100000 in
theorem vv_91_279 {l : Launch} (hl : l.stackTraces = false) : cj_V1 l 91 279 (2, 6, 0, []) 281 := Or.inl ⟨by decide +kernel, ok_iload dm_91_279⟩
set_option maxRecDepth 100000 in
theorem vv_91_281 {l : Launch} (hl : l.stackTraces = false) : cj_V1 l 91 281 (54, 0, 0, []) 282 := Or.inl ⟨by decide +kernel, ok_iaload dm_91_281 rfl⟩
set_option maxRecDepth 100000 in
theorem vv_91_282 {l : Launch} (hl : l.stackTraces = false) : cj_V1 l 91 282 (10, 0, 0, []) 283 := Or.inl ⟨by decide +kernel, ok_iadd dm_91_282⟩
set_option maxRecDepth 100000 in
theorem vv_91_283 {l : Launch} (hl : l.stackTraces = false) : cj_V1 l 91 283 (0, 1, 0, []) 284 := Or.inl ⟨by decide +kernel, ok_iconst dm_91_283 (by decide +kernel)⟩
set_option maxRecDepth 100000 in
theorem vv_91_284 {l : Launch} (hl : l.stackTraces = false) : cj_V1 l 91 284 (11, 0, 0, []) 285 := Or.inl ⟨by decide +kernel, ok_isub dm_91_284⟩
set_option maxRecDepth 100000 in
theorem vv_91_285 {l : Launch} (hl : l.stackTraces = false) : cj_V1 l 91 285 (54, 0, 0, []) 286 := Or.inl ⟨by decide +kernel, ok_iaload dm_91_285 rfl⟩
set_option maxRecDepth 100000 in
theorem vv_91_286 {l : Launch} (hl : l.stackTraces = false) : cj_V1 l 91 286 (3, 0, 0, []) 287 := Or.inl ⟨by decide +kernel, ok_aload_n dm_91_286 rfl⟩
set_option maxRecDepth 100000 in
theorem vv_91_287 {l : Launch} (hl : l.stackTraces = false) : cj_V1 l 91 287 (50, 7, 19, []) 290 := Or.inl ⟨by decide +kernel, ok_getfield (N := 39) (C := RK_7) (T := TK_7) dm_91_287 rfl inK_7 (by decide +kernel) wm_752⟩
set_option maxRecDepth 100000 in
theorem vv_91_290 {l : Launch} (hl : l.stackTraces = false) : cj_V1 l 91 290 (2, 6, 0, []) 292 := Or.inl ⟨by decide +kernel, ok_iload dm_91_290⟩
set_option maxRecDepth 100000 in
theorem vv_91_292 {l : Launch} (hl : l.stackTraces = false) : cj_V1 l 91 292 (54, 0, 0, []) 293 := Or.inl ⟨by decide +kernel, ok_iaload dm_91_292 rfl⟩
set_option maxRecDepth 100000 in
theorem vv_91_293 {l : Launch} (hl : l.stackTraces = false) : cj_V1 l 91 293 (11, 0, 0, []) 294 := Or.inl ⟨by decide +kernel, ok_isub dm_91_293⟩
set_option maxRecDepth 100000 in
theorem vv_91_294 {l : Launch} (hl : l.stackTraces = false) : cj_V1 l 91 294 (56, 0, 0, []) 295 := Or.inl ⟨by decide +kernel, ok_iastore dm_91_294 rfl⟩
set_option maxRecDepth 100000 in
theorem vv_91_295 {l : Launch} (hl : l.stackTraces = false) : cj_V1 l 91 295 (3, 0, 0, []) 296 := Or.inl ⟨by decide +kernel, ok_aload_n dm_91_295 rfl⟩
set_option maxRecDepth 100000 in
theorem vv_91_296 {l : Launch} (hl : l.stackTraces = false) : cj_V1 l 91 296 (50, 7, 28, []) 299 := Or.inl ⟨by decide +kernel, ok_getfield (N := 39) (C := RK_7) (T := TK_7) dm_91_296 rfl inK_7 (by decide +kernel) wm_761⟩
set_option maxRecDepth 100000 in
theorem vv_91_299 {l : Launch} (hl : l.stackTraces = false) : cj_V1 l 91 299 (2, 3, 0, []) 300 := Or.inl ⟨by decide +kernel, ok_iload_n dm_91_299 rfl⟩
set_option maxRecDepth 100000 in
theorem vv_91_300 {l : Launch} (hl : l.stackTraces = false) : cj_V1 l 91 300 (28, 0, 0, []) 301 := Or.inl ⟨by decide +kernel, ok_dup2 dm_91_300⟩
set_option maxRecDepth 100000 in
theorem vv_91_301 {l : Launch} (hl : l.stackTraces = false) : cj_V1 l 91 301 (54, 0, 0, []) 302 := Or.inl ⟨by decide +kernel, ok_iaload dm_91_301 rfl⟩
set_option maxRecDepth 100000 in
theorem vv_91_302 {l : Launch} (hl : l.stackTraces = false) : cj_V1 l 91 302 (0, 1, 0, []) 303 := Or.inl ⟨by decide +kernel, ok_iconst dm_91_302 (by decide +kernel)⟩
set_option maxRecDepth 100000 in
theorem vv_91_303 {l : Launch} (hl : l.stackTraces = false) : cj_V1 l 91 303 (10, 0, 0, []) 304 := Or.inl ⟨by decide +kernel, ok_iadd dm_91_303⟩
set_option maxRecDepth 100000 in
theorem vv_91_304 {l : Launch} (hl : l.stackTraces = false) : cj_V1 l 91 304 (56, 0, 0, []) 305 := Or.inl ⟨by decide +kernel, ok_iastore dm_91_304 rfl⟩
set_option maxRecDepth 100000 in
theorem vv_91_305 {l : Launch} (hl : l.stackTraces = false) : cj_V1 l 91 305 (2, 6, 0, []) 307 := Or.inl ⟨by decide +kernel, ok_iload dm_91_305⟩
set_option maxRecDepth 100000 in
theorem vv_91_307 {l : Launch} (hl : l.stackTraces = false) : cj_V1 l 91 307 (3, 0, 0, []) 308 := Or.inl ⟨by decide +kernel, ok_aload_n dm_91_307 rfl⟩
set_option maxRecDepth 100000 in
theorem vv_91_308 {l : Launch} (hl : l.stackTraces = false) : cj_V1 l 91 308 (50, 7, 22, []) 311 := Or.inl ⟨by decide +kernel, ok_getfield (N := 39) (C := RK_7) (T := TK_7) dm_91_308 rfl inK_7 (by decide +kernel) wm_755⟩
set_option maxRecDepth 100000 in
theorem vv_91_311 {l : Launch} (hl : l.stackTraces = false) : cj_V1 l 91 311 (2, 6, 0, []) 313 := Or.inl ⟨by decide +kernel, ok_iload dm_91_311⟩
set_option maxRecDepth 100000 in
theorem vv_91_313 {l : Launch} (hl : l.stackTraces = false) : cj_V1 l 91 313 (54, 0, 0, []) 314 := Or.inl ⟨by decide +kernel, ok_iaload dm_91_313 rfl⟩
set_option maxRecDepth 100000 in
theorem vv_91_314 {l : Launch} (hl : l.stackTraces = false) : cj_V1 l 91 314 (10, 0, 0, []) 315 := Or.inl ⟨by decide +kernel, ok_iadd dm_91_314⟩
set_option maxRecDepth 100000 in
theorem vv_91_315 {l : Launch} (hl : l.stackTraces = false) : cj_V1 l 91 315 (4, 6, 0, []) 317 := Or.inl ⟨by decide +kernel, ok_istore dm_91_315⟩
set_option maxRecDepth 100000 in
theorem vv_91_317 {l : Launch} (hl : l.stackTraces = false) : cj_V1 l 91 317 (30, 222, 0, []) 320 := Or.inl ⟨by decide +kernel, ok_goto dm_91_317 (by decide +kernel)⟩
set_option maxRecDepth 100000 in
theorem vv_91_320 {l : Launch} (hl : l.stackTraces = false) : cj_V1 l 91 320 (3, 0, 0, []) 321 := Or.inl ⟨by decide +kernel, ok_aload_n dm_91_320 rfl⟩
set_option maxRecDepth 100000 in
theorem vv_91_321 {l : Launch} (hl : l.stackTraces = false) : cj_V1 l 91 321 (50, 7, 25, []) 324 := Or.inl ⟨by decide +kernel, ok_getfield (N := 39) (C := RK_7) (T := TK_7) dm_91_321 rfl inK_7 (by decide +kernel) wm_758⟩
set_option maxRecDepth 100000 in
theorem vv_91_324 {l : Launch} (hl : l.stackTraces = false) : cj_V1 l 91 324 (0, 5, 0, []) 325 := Or.inl ⟨by decide +kernel, ok_iconst dm_91_324 (by decide +kernel)⟩
set_option maxRecDepth 100000 in
theorem vv_91_325 {l : Launch} (hl : l.stackTraces = false) : cj_V1 l 91 325 (2, 1, 0, []) 326 := Or.inl ⟨by decide +kernel, ok_iload_n dm_91_325 rfl⟩
set_option maxRecDepth 100000 in
theorem vv_91_326 {l : Launch} (hl : l.stackTraces = false) : cj_V1 l 91 326 (12, 0, 0, []) 327 := Or.inl ⟨by decide +kernel, ok_imul dm_91_326⟩
set_option maxRecDepth 100000 in
theorem vv_91_327 {l : Launch} (hl : l.stackTraces = false) : cj_V1 l 91 327 (0, 3, 0, []) 328 := Or.inl ⟨by decide +kernel, ok_iconst dm_91_327 (by decide +kernel)⟩
set_option maxRecDepth 100000 in
theorem vv_91_328 {l : Launch} (hl : l.stackTraces = false) : cj_V1 l 91 328 (10, 0, 0, []) 329 := Or.inl ⟨by decide +kernel, ok_iadd dm_91_328⟩
set_option maxRecDepth 100000 in
theorem vv_91_329 {l : Launch} (hl : l.stackTraces = false) : cj_V1 l 91 329 (3, 0, 0, []) 330 := Or.inl ⟨by decide +kernel, ok_aload_n dm_91_329 rfl⟩
set_option maxRecDepth 100000 in
theorem vv_91_330 {l : Launch} (hl : l.stackTraces = false) : cj_V1 l 91 330 (50, 7, 25, []) 333 := Or.inl ⟨by decide +kernel, ok_getfield (N := 39) (C := RK_7) (T := TK_7) dm_91_330 rfl inK_7 (by decide +kernel) wm_758⟩
set_option maxRecDepth 100000 in
theorem vv_91_333 {l : Launch} (hl : l.stackTraces = false) : cj_V1 l 91 333 (0, 5, 0, []) 334 := Or.inl ⟨by decide +kernel, ok_iconst dm_91_333 (by decide +kernel)⟩
set_option maxRecDepth 100000 in
theorem vv_91_334 {l : Launch} (hl : l.stackTraces = false) : cj_V1 l 91 334 (2, 1, 0, []) 335 := Or.inl ⟨by decide +kernel, ok_iload_n dm_91_334 rfl⟩
set_option maxRecDepth 100000 in
theorem vv_91_335 {l : Launch} (hl : l.stackTraces = false) : cj_V1 l 91 335 (12, 0, 0, []) 336 := Or.inl ⟨by decide +kernel, ok_imul dm_91_335⟩
set_option maxRecDepth 100000 in
theorem vv_91_336 {l : Launch} (hl : l.stackTraces = false) : cj_V1 l 91 336 (0, 3, 0, []) 337 := Or.inl ⟨by decide +kernel, ok_iconst dm_91_336 (by decide +kernel)⟩
set_option maxRecDepth 100000 in
theorem vv_91_337 {l : Launch} (hl : l.stackTraces = false) : cj_V1 l 91 337 (10, 0, 0, []) 338 := Or.inl ⟨by decide +kernel, ok_iadd dm_91_337⟩
set_option maxRecDepth 100000 in
theorem vv_91_338 {l : Launch} (hl : l.stackTraces = false) : cj_V1 l 91 338 (54, 0, 0, []) 339 := Or.inl ⟨by decide +kernel, ok_iaload dm_91_338 rfl⟩
set_option maxRecDepth 100000 in
theorem vv_91_339 {l : Launch} (hl : l.stackTraces = false) : cj_V1 l 91 339 (3, 0, 0, []) 340 := Or.inl ⟨by decide +kernel, ok_aload_n dm_91_339 rfl⟩
set_option maxRecDepth 100000 in
theorem vv_91_340 {l : Launch} (hl : l.stackTraces = false) : cj_V1 l 91 340 (50, 7, 18, []) 343 := Or.inl ⟨by decide +kernel, ok_getfield (N := 39) (C := RK_7) (T := TK_7) dm_91_340 rfl inK_7 (by decide +kernel) wm_751⟩
set_option maxRecDepth 100000 in
theorem vv_91_343 {l : Launch} (hl : l.stackTraces = false) : cj_V1 l 91 343 (36, 360, 0, []) 346 := Or.inl ⟨by decide +kernel, ok_if_le dm_91_343 (by decide +kernel)⟩
set_option maxRecDepth 100000 in
theorem vv_91_346 {l : Launch} (hl : l.stackTraces = false) : cj_V1 l 91 346 (2, 5, 0, []) 348 := Or.inl ⟨by decide +kernel, ok_iload dm_91_346⟩
set_option maxRecDepth 100000 in
theorem vv_91_348 {l : Launch} (hl : l.stackTraces = false) : cj_V1 l 91 348 (31, 360, 0, []) 351 := Or.inl ⟨by decide +kernel, ok_if_eq dm_91_348 (by decide +kernel)⟩
set_option maxRecDepth 100000 in
theorem vv_91_351 {l : Launch} (hl : l.stackTraces = false) : cj_V1 l 91 351 (3, 0, 0, []) 352 := Or.inl ⟨by decide +kernel, ok_aload_n dm_91_351 rfl⟩
set_option maxRecDepth 100000 in
theorem vv_91_352 {l : Launch} (hl : l.stackTraces = false) : cj_V1 l 91 352 (50, 7, 21, []) 355 := Or.inl ⟨by decide +kernel, ok_getfield (N := 39) (C := RK_7) (T := TK_7) dm_91_352 rfl inK_7 (by decide +kernel) wm_754⟩
set_option maxRecDepth 100000 in
theorem vv_91_355 {l : Launch} (hl : l.stackTraces = false) : cj_V1 l 91 355 (0, 0, 0, []) 356 := Or.inl ⟨by decide +kernel, ok_iconst dm_91_355 (by decide +kernel)⟩
set_option maxRecDepth 100000 in
theorem vv_91_356 {l : Launch} (hl : l.stackTraces = false) : cj_V1 l 91 356 (54, 0, 0, []) 357 := Or.inl ⟨by decide +kernel, ok_iaload dm_91_356 rfl⟩
set_option maxRecDepth 100000 in
theorem vv_91_357 {l : Launch} (hl : l.stackTraces = false) : cj_V1 l 91 357 (30, 361, 0, []) 360 := Or.inl ⟨by decide +kernel, ok_goto dm_91_357 (by decide +kernel)⟩
set_option maxRecDepth 100000 in
theorem vv_91_360 {l : Launch} (hl : l.stackTraces = false) : cj_V1 l 91 360 (0, 0, 0, []) 361 := Or.inl ⟨by decide +kernel, ok_iconst dm_91_360 (by decide +kernel)⟩
set_option maxRecDepth 100000 in
theorem vv_91_361 {l : Launch} (hl : l.stackTraces = false) : cj_V1 l 91 361 (10, 0, 0, []) 362 := Or.inl ⟨by decide +kernel, ok_iadd dm_91_361⟩
set_option maxRecDepth 100000 in
theorem vv_91_362 {l : Launch} (hl : l.stackTraces = false) : cj_V1 l 91 362 (56, 0, 0, []) 363 := Or.inl ⟨by decide +kernel, ok_iastore dm_91_362 rfl⟩
set_option maxRecDepth 100000 in
theorem vv_91_363 {l : Launch} (hl : l.stackTraces = false) : cj_V1 l 91 363 (2, 5, 0, []) 365 := Or.inl ⟨by decide +kernel, ok_iload dm_91_363⟩
set_option maxRecDepth 100000 in
theorem vv_91_365 {l : Launch} (hl : l.stackTraces = false) : cj_V1 l 91 365 (93, 0, 0, []) 366 := Or.inr (Or.inl ⟨by decide +kernel, Or.inl (Or.inr (Or.inr (Or.inr ⟨rfl, dm_91_365, rfl⟩)))⟩)
set_option maxRecDepth 100000 in
theorem vm_91 {l : Launch} (hl : l.stackTraces = false) : cj_Vm l 91 := cj_Vm_of (r := kc91_) rfl ⟨vv_91_0 hl, vv_91_2 hl, vv_91_3 hl, vv_91_4 hl, vv_91_5 hl, vv_91_6 hl, vv_91_7 hl, vv_91_8 hl, vv_91_9 hl, vv_91_12 hl, vv_91_13 hl, vv_91_15 hl, vv_91_16 hl, vv_91_18 hl, vv_91_19 hl, vv_91_21 hl, vv_91_23 hl, vv_91_24 hl, vv_91_27 hl, vv_91_30 hl, vv_91_31 hl, vv_91_34 hl, vv_91_36 hl, vv_91_37 hl, vv_91_39 hl, vv_91_42 hl, vv_91_44 hl, vv_91_47 hl, vv_91_48 hl, vv_91_51 hl, vv_91_53 hl, vv_91_54 hl, vv_91_55 hl, vv_91_56 hl, vv_91_58 hl, vv_91_61 hl, vv_91_62 hl, vv_91_65 hl, vv_91_68 hl, vv_91_69 hl, vv_91_72 hl, vv_91_75 hl, vv_91_76 hl, vv_91_77 hl, vv_91_79 hl, vv_91_80 hl, vv_91_82 hl, vv_91_83 hl, vv_91_86 hl, vv_91_87 hl, vv_91_90 hl, vv_91_91 hl, vv_91_94 hl, vv_91_96 hl, vv_91_97 hl, vv_91_98 hl, vv_91_99 hl, vv_91_102 hl, vv_91_103 hl, vv_91_104 hl, vv_91_107 hl, vv_91_108 hl, vv_91_111 hl, vv_91_114 hl, vv_91_115 hl, vv_91_116 hl, vv_91_118 hl, vv_91_119 hl, vv_91_120 hl, vv_91_123 hl, vv_91_125 hl, vv_91_126 hl, vv_91_127 hl, vv_91_130 hl, vv_91_131 hl, vv_91_134 hl, vv_91_135 hl, vv_91_138 hl, vv_91_139 hl, vv_91_140 hl, vv_91_142 hl, vv_91_143 hl, vv_91_145 hl, vv_91_148 hl, vv_91_150 hl, vv_91_151 hl, vv_91_154 hl, vv_91_155 hl, vv_91_158 hl, vv_91_159 hl, vv_91_160 hl, vv_91_161 hl, vv_91_162 hl, vv_91_163 hl, vv_91_166 hl, vv_91_169 hl, vv_91_170 hl, vv_91_173 hl, vv_91_174 hl, vv_91_176 hl, vv_91_179 hl, vv_91_182 hl, vv_91_183 hl, vv_91_186 hl, vv_91_187 hl, vv_91_188 hl, vv_91_189 hl, vv_91_190 hl, vv_91_193 hl, vv_91_194 hl, vv_91_195 hl, vv_91_197 hl, vv_91_199 hl, vv_91_202 hl, vv_91_204 hl, vv_91_207 hl, vv_91_208 hl, vv_91_210 hl, vv_91_213 hl, vv_91_216 hl, vv_91_219 hl, vv_91_220 hl, vv_91_222 hl, vv_91_224 hl, vv_91_225 hl, vv_91_228 hl, vv_91_231 hl, vv_91_233 hl, vv_91_236 hl, vv_91_238 hl, vv_91_239 hl, vv_91_240 hl, vv_91_241 hl, vv_91_244 hl, vv_91_245 hl, vv_91_246 hl, vv_91_247 hl, vv_91_249 hl, vv_91_250 hl, vv_91_253 hl, vv_91_255 hl, vv_91_256 hl, vv_91_259 hl, vv_91_261 hl, vv_91_262 hl, vv_91_263 hl, vv_91_264 hl, vv_91_267 hl, vv_91_269 hl, vv_91_270 hl, vv_91_273 hl, vv_91_275 hl, vv_91_276 hl, vv_91_279 hl, vv_91_281 hl, vv_91_282 hl, vv_91_283 hl, vv_91_284 hl, vv_91_285 hl, vv_91_286 hl, vv_91_287 hl, vv_91_290 hl, vv_91_292 hl, vv_91_293 hl, vv_91_294 hl, vv_91_295 hl, vv_91_296 hl, vv_91_299 hl, vv_91_300 hl, vv_91_301 hl, vv_91_302 hl, vv_91_303 hl, vv_91_304 hl, vv_91_305 hl, vv_91_307 hl, vv_91_308 hl, vv_91_311 hl, vv_91_313 hl, vv_91_314 hl, vv_91_315 hl, vv_91_317 hl, vv_91_320 hl, vv_91_321 hl, vv_91_324 hl, vv_91_325 hl, vv_91_326 hl, vv_91_327 hl, vv_91_328 hl, vv_91_329 hl, vv_91_330 hl, vv_91_333 hl, vv_91_334 hl, vv_91_335 hl, vv_91_336 hl, vv_91_337 hl, vv_91_338 hl, vv_91_339 hl, vv_91_340 hl, vv_91_343 hl, vv_91_346 hl, vv_91_348 hl, vv_91_351 hl, vv_91_352 hl, vv_91_355 hl, vv_91_356 hl, vv_91_357 hl, vv_91_360 hl, vv_91_361 hl, vv_91_362 hl, vv_91_363 hl, vv_91_365 hl, trivial⟩
