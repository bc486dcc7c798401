set_option maxRecDepth 100000 in
theorem vv_118_0 {l : Launch} (hl : l.stackTraces = false) : cj_V1 l 118 0 (3, 0, 0, []) 1 := Or.inl ⟨by decide +kernel, ok_aload_n dm_118_0 rfl⟩
set_option maxRecDepth 100000 in
theorem vv_118_1 {l : Launch} (hl : l.stackTraces = false) : cj_V1 l 118 1 (3, 0, 0, []) 2 := Or.inl ⟨by decide +kernel, ok_aload_n dm_118_1 rfl⟩
set_option maxRecDepth 100000 in
theorem vv_118_2 {l : Launch} (hl : l.stackTraces = false) : cj_V1 l 118 2 (2, 1, 0, []) 3 := Or.inl ⟨by decide +kernel, ok_iload_n dm_118_2 rfl⟩
set_option maxRecDepth 100000 in
theorem vv_118_3 {l : Launch} (hl : l.stackTraces = false) : cj_V1 l 118 3 (80, 99, 2, [7]) 6 := Or.inr (Or.inr (Or.inl ⟨by decide +kernel, by decide +kernel, rfl, vc_virtual (n := 1) (q := (RK_7, TK_7, 39)) mi_99 dm_118_3 (Or.inl wm_983) wm_985 wm_p38 rfl rfl (by decide +kernel) rfl (by decide +kernel) (by decide +kernel), (vx_none rfl)⟩))
set_option maxRecDepth 100000 in
theorem vv_118_6 {l : Launch} (hl : l.stackTraces = false) : cj_V1 l 118 6 (3, 0, 0, []) 7 := Or.inl ⟨by decide +kernel, ok_aload_n dm_118_6 rfl⟩
set_option maxRecDepth 100000 in
theorem vv_118_7 {l : Launch} (hl : l.stackTraces = false) : cj_V1 l 118 7 (50, 7, 23, []) 10 := Or.inl ⟨by decide +kernel, ok_getfield (N := 39) (C := RK_7) (T := TK_7) dm_118_7 rfl inK_7 (by decide +kernel) wm_756⟩
set_option maxRecDepth 100000 in
theorem vv_118_10 {l : Launch} (hl : l.stackTraces = false) : cj_V1 l 118 10 (1, 1, 0, []) 11 := Or.inl ⟨by decide +kernel, ok_iconst_m dm_118_10 (by decide +kernel)⟩
set_option maxRecDepth 100000 in
theorem vv_118_11 {l : Launch} (hl : l.stackTraces = false) : cj_V1 l 118 11 (37, 18, 0, []) 14 := Or.inl ⟨by decide +kernel, ok_icmp_eq dm_118_11 (by decide +kernel)⟩
set_option maxRecDepth 100000 in
theorem vv_118_14 {l : Launch} (hl : l.stackTraces = false) : cj_V1 l 118 14 (0, 1, 0, []) 15 := Or.inl ⟨by decide +kernel, ok_iconst dm_118_14 (by decide +kernel)⟩
set_option maxRecDepth 100000 in
theorem vv_118_15 {l : Launch} (hl : l.stackTraces = false) : cj_V1 l 118 15 (30, 19, 0, []) 18 := Or.inl ⟨by decide +kernel, ok_goto dm_118_15 (by decide +kernel)⟩
set_option maxRecDepth 100000 in
theorem vv_118_18 {l : Launch} (hl : l.stackTraces = false) : cj_V1 l 118 18 (0, 0, 0, []) 19 := Or.inl ⟨by decide +kernel, ok_iconst dm_118_18 (by decide +kernel)⟩
set_option maxRecDepth 100000 in
theorem vv_118_19 {l : Launch} (hl : l.stackTraces = false) : cj_V1 l 118 19 (80, 46, 3, [7]) 22 := Or.inr (Or.inr (Or.inl ⟨by decide +kernel, by decide +kernel, rfl, vc_virtual (n := 2) (q := (RK_7, TK_7, 39)) mi_46 dm_118_19 (Or.inl wm_865) wm_867 wm_p19 rfl rfl (by decide +kernel) rfl (by decide +kernel) (by decide +kernel), (vx_none rfl)⟩))
set_option maxRecDepth 100000 in
theorem vv_118_22 {l : Launch} (hl : l.stackTraces = false) : cj_V1 l 118 22 (31, 42, 0, []) 25 := Or.inl ⟨by decide +kernel, ok_if_eq dm_118_22 (by decide +kernel)⟩
set_option maxRecDepth 100000 in
theorem vv_118_25 {l : Launch} (hl : l.stackTraces = false) : cj_V1 l 118 25 (3, 0, 0, []) 26 := Or.inl ⟨by decide +kernel, ok_aload_n dm_118_25 rfl⟩
set_option maxRecDepth 100000 in
theorem vv_118_26 {l : Launch} (hl : l.stackTraces = false) : cj_V1 l 118 26 (50, 7, 26, []) 29 := Or.inl ⟨by decide +kernel, ok_getfield (N := 39) (C := RK_7) (T := TK_7) dm_118_26 rfl inK_7 (by decide +kernel) wm_759⟩
set_option maxRecDepth 100000 in
theorem vv_118_29 {l : Launch} (hl : l.stackTraces = false) : cj_V1 l 118 29 (0, 8, 0, []) 31 := Or.inl ⟨by decide +kernel, ok_bipush dm_118_29 (by decide +kernel)⟩
set_option maxRecDepth 100000 in
theorem vv_118_31 {l : Launch} (hl : l.stackTraces = false) : cj_V1 l 118 31 (3, 0, 0, []) 32 := Or.inl ⟨by decide +kernel, ok_aload_n dm_118_31 rfl⟩
set_option maxRecDepth 100000 in
theorem vv_118_32 {l : Launch} (hl : l.stackTraces = false) : cj_V1 l 118 32 (50, 7, 23, []) 35 := Or.inl ⟨by decide +kernel, ok_getfield (N := 39) (C := RK_7) (T := TK_7) dm_118_32 rfl inK_7 (by decide +kernel) wm_756⟩
set_option maxRecDepth 100000 in
theorem vv_118_35 {l : Launch} (hl : l.stackTraces = false) : cj_V1 l 118 35 (12, 0, 0, []) 36 := Or.inl ⟨by decide +kernel, ok_imul dm_118_35⟩
set_option maxRecDepth 100000 in
theorem vv_118_36 {l : Launch} (hl : l.stackTraces = false) : cj_V1 l 118 36 (2, 1, 0, []) 37 := Or.inl ⟨by decide +kernel, ok_iload_n dm_118_36 rfl⟩
set_option maxRecDepth 100000 in
theorem vv_118_37 {l : Launch} (hl : l.stackTraces = false) : cj_V1 l 118 37 (10, 0, 0, []) 38 := Or.inl ⟨by decide +kernel, ok_iadd dm_118_37⟩
set_option maxRecDepth 100000 in
theorem vv_118_38 {l : Launch} (hl : l.stackTraces = false) : cj_V1 l 118 38 (54, 0, 0, []) 39 := Or.inl ⟨by decide +kernel, ok_iaload dm_118_38 rfl⟩
set_option maxRecDepth 100000 in
theorem vv_118_39 {l : Launch} (hl : l.stackTraces = false) : cj_V1 l 118 39 (30, 43, 0, []) 42 := Or.inl ⟨by decide +kernel, ok_goto dm_118_39 (by decide +kernel)⟩
set_option maxRecDepth 100000 in
theorem vv_118_42 {l : Launch} (hl : l.stackTraces = false) : cj_V1 l 118 42 (0, 0, 0, []) 43 := Or.inl ⟨by decide +kernel, ok_iconst dm_118_42 (by decide +kernel)⟩
set_option maxRecDepth 100000 in
theorem vv_118_43 {l : Launch} (hl : l.stackTraces = false) : cj_V1 l 118 43 (90, 0, 0, []) 44 := Or.inr (Or.inl ⟨by decide +kernel, Or.inl (Or.inl ⟨rfl, dm_118_43, rfl⟩)⟩)
set_option maxRecDepth 100000 in
theorem vm_118 {l : Launch} (hl : l.stackTraces = false) : cj_Vm l 118 := cj_Vm_of (r := kc118_) rfl ⟨vv_118_0 hl, vv_118_1 hl, vv_118_2 hl, vv_118_3 hl, vv_118_6 hl, vv_118_7 hl, vv_118_10 hl, vv_118_11 hl, vv_118_14 hl, vv_118_15 hl, vv_118_18 hl, vv_118_19 hl, vv_118_22 hl, vv_118_25 hl, vv_118_26 hl, vv_118_29 hl, vv_118_31 hl, vv_118_32 hl, vv_118_35 hl, vv_118_36 hl, vv_118_37 hl, vv_118_38 hl, vv_118_39 hl, vv_118_42 hl, vv_118_43 hl, trivial⟩
set_option maxRecDepth 100000 in
theorem vv_119_0 {l : Launch} (hl : l.stackTraces = false) : cj_V1 l 119 0 (3, 0, 0, []) 1 := Or.inl ⟨by decide +kernel, ok_aload_n dm_119_0 rfl⟩
set_option maxRecDepth 100000 in
theorem vv_119_1 {l : Launch} (hl : l.stackTraces = false) : cj_V1 l 119 1 (3, 0, 0, []) 2 := Or.inl ⟨by decide +kernel, ok_aload_n dm_119_1 rfl⟩
set_option maxRecDepth 100000 in
theorem vv_119_2 {l : Launch} (hl : l.stackTraces = false) : cj_V1 l 119 2 (2, 1, 0, []) 3 := Or.inl ⟨by decide +kernel, ok_iload_n dm_119_2 rfl⟩
set_option maxRecDepth 100000 in
theorem vv_119_3 {l : Launch} (hl : l.stackTraces = false) : cj_V1 l 119 3 (80, 90, 2, [7]) 6 := Or.inr (Or.inr (Or.inl ⟨by decide +kernel, by decide +kernel, rfl, vc_virtual (n := 1) (q := (RK_7, TK_7, 39)) mi_90 dm_119_3 (Or.inl wm_895) wm_897 wm_p22 rfl rfl (by decide +kernel) rfl (by decide +kernel) (by decide +kernel), (vx_none rfl)⟩))
set_option maxRecDepth 100000 in
theorem vv_119_6 {l : Launch} (hl : l.stackTraces = false) : cj_V1 l 119 6 (2, 2, 0, []) 7 := Or.inl ⟨by decide +kernel, ok_iload_n dm_119_6 rfl⟩
set_option maxRecDepth 100000 in
theorem vv_119_7 {l : Launch} (hl : l.stackTraces = false) : cj_V1 l 119 7 (33, 20, 0, []) 10 := Or.inl ⟨by decide +kernel, ok_if_lt dm_119_7 (by decide +kernel)⟩
set_option maxRecDepth 100000 in
theorem vv_119_10 {l : Launch} (hl : l.stackTraces = false) : cj_V1 l 119 10 (2, 2, 0, []) 11 := Or.inl ⟨by decide +kernel, ok_iload_n dm_119_10 rfl⟩
set_option maxRecDepth 100000 in
theorem vv_119_11 {l : Launch} (hl : l.stackTraces = false) : cj_V1 l 119 11 (0, 30, 0, []) 13 := Or.inl ⟨by decide +kernel, ok_bipush dm_119_11 (by decide +kernel)⟩
set_option maxRecDepth 100000 in
theorem vv_119_13 {l : Launch} (hl : l.stackTraces = false) : cj_V1 l 119 13 (41, 20, 0, []) 16 := Or.inl ⟨by decide +kernel, ok_icmp_gt dm_119_13 (by decide +kernel)⟩
set_option maxRecDepth 100000 in
theorem vv_119_16 {l : Launch} (hl : l.stackTraces = false) : cj_V1 l 119 16 (0, 1, 0, []) 17 := Or.inl ⟨by decide +kernel, ok_iconst dm_119_16 (by decide +kernel)⟩
set_option maxRecDepth 100000 in
theorem vv_119_17 {l : Launch} (hl : l.stackTraces = false) : cj_V1 l 119 17 (30, 21, 0, []) 20 := Or.inl ⟨by decide +kernel, ok_goto dm_119_17 (by decide +kernel)⟩
set_option maxRecDepth 100000 in
theorem vv_119_20 {l : Launch} (hl : l.stackTraces = false) : cj_V1 l 119 20 (0, 0, 0, []) 21 := Or.inl ⟨by decide +kernel, ok_iconst dm_119_20 (by decide +kernel)⟩
set_option maxRecDepth 100000 in
theorem vv_119_21 {l : Launch} (hl : l.stackTraces = false) : cj_V1 l 119 21 (80, 46, 3, [7]) 24 := Or.inr (Or.inr (Or.inl ⟨by decide +kernel, by decide +kernel, rfl, vc_virtual (n := 2) (q := (RK_7, TK_7, 39)) mi_46 dm_119_21 (Or.inl wm_865) wm_867 wm_p19 rfl rfl (by decide +kernel) rfl (by decide +kernel) (by decide +kernel), (vx_none rfl)⟩))
set_option maxRecDepth 100000 in
theorem vv_119_24 {l : Launch} (hl : l.stackTraces = false) : cj_V1 l 119 24 (32, 29, 0, []) 27 := Or.inl ⟨by decide +kernel, ok_if_ne dm_119_24 (by decide +kernel)⟩
set_option maxRecDepth 100000 in
theorem vv_119_27 {l : Launch} (hl : l.stackTraces = false) : cj_V1 l 119 27 (0, 0, 0, []) 28 := Or.inl ⟨by decide +kernel, ok_iconst dm_119_27 (by decide +kernel)⟩
set_option maxRecDepth 100000 in
theorem vv_119_28 {l : Launch} (hl : l.stackTraces = false) : cj_V1 l 119 28 (90, 0, 0, []) 29 := Or.inr (Or.inl ⟨by decide +kernel, Or.inl (Or.inl ⟨rfl, dm_119_28, rfl⟩)⟩)
set_option maxRecDepth 100000 in
theorem vv_119_29 {l : Launch} (hl : l.stackTraces = false) : cj_V1 l 119 29 (3, 0, 0, []) 30 := Or.inl ⟨by decide +kernel, ok_aload_n dm_119_29 rfl⟩
set_option maxRecDepth 100000 in
theorem vv_119_30 {l : Launch} (hl : l.stackTraces = false) : cj_V1 l 119 30 (50, 7, 12, []) 33 := Or.inl ⟨by decide +kernel, ok_getfield (N := 39) (C := RK_7) (T := TK_7) dm_119_30 rfl inK_7 (by decide +kernel) wm_745⟩
set_option maxRecDepth 100000 in
theorem vv_119_33 {l : Launch} (hl : l.stackTraces = false) : cj_V1 l 119 33 (2, 1, 0, []) 34 := Or.inl ⟨by decide +kernel, ok_iload_n dm_119_33 rfl⟩
set_option maxRecDepth 100000 in
theorem vv_119_34 {l : Launch} (hl : l.stackTraces = false) : cj_V1 l 119 34 (54, 0, 0, []) 35 := Or.inl ⟨by decide +kernel, ok_iaload dm_119_34 rfl⟩
set_option maxRecDepth 100000 in
theorem vv_119_35 {l : Launch} (hl : l.stackTraces = false) : cj_V1 l 119 35 (4, 3, 0, []) 36 := Or.inl ⟨by decide +kernel, ok_istore_n dm_119_35 rfl⟩
set_option maxRecDepth 100000 in
theorem vv_119_36 {l : Launch} (hl : l.stackTraces = false) : cj_V1 l 119 36 (3, 0, 0, []) 37 := Or.inl ⟨by decide +kernel, ok_aload_n dm_119_36 rfl⟩
set_option maxRecDepth 100000 in
theorem vv_119_37 {l : Launch} (hl : l.stackTraces = false) : cj_V1 l 119 37 (50, 7, 12, []) 40 := Or.inl ⟨by decide +kernel, ok_getfield (N := 39) (C := RK_7) (T := TK_7) dm_119_37 rfl inK_7 (by decide +kernel) wm_745⟩
set_option maxRecDepth 100000 in
theorem vv_119_40 {l : Launch} (hl : l.stackTraces = false) : cj_V1 l 119 40 (2, 1, 0, []) 41 := Or.inl ⟨by decide +kernel, ok_iload_n dm_119_40 rfl⟩
set_option maxRecDepth 100000 in
theorem vv_119_41 {l : Launch} (hl : l.stackTraces = false) : cj_V1 l 119 41 (2, 2, 0, []) 42 := Or.inl ⟨by decide +kernel, ok_iload_n dm_119_41 rfl⟩
set_option maxRecDepth 100000 in
theorem vv_119_42 {l : Launch} (hl : l.stackTraces = false) : cj_V1 l 119 42 (56, 0, 0, []) 43 := Or.inl ⟨by decide +kernel, ok_iastore dm_119_42 rfl⟩
set_option maxRecDepth 100000 in
theorem vv_119_43 {l : Launch} (hl : l.stackTraces = false) : cj_V1 l 119 43 (2, 3, 0, []) 44 := Or.inl ⟨by decide +kernel, ok_iload_n dm_119_43 rfl⟩
set_option maxRecDepth 100000 in
theorem vv_119_44 {l : Launch} (hl : l.stackTraces = false) : cj_V1 l 119 44 (90, 0, 0, []) 45 := Or.inr (Or.inl ⟨by decide +kernel, Or.inl (Or.inl ⟨rfl, dm_119_44, rfl⟩)⟩)
set_option maxRecDepth 100000 in
theorem vm_119 {l : Launch} (hl : l.stackTraces = false) : cj_Vm l 119 := cj_Vm_of (r := kc119_) rfl ⟨vv_119_0 hl, vv_119_1 hl, vv_119_2 hl, vv_119_3 hl, vv_119_6 hl, vv_119_7 hl, vv_119_10 hl, vv_119_11 hl, vv_119_13 hl, vv_119_16 hl, vv_119_17 hl, vv_119_20 hl, vv_119_21 hl, vv_119_24 hl, vv_119_27 hl, vv_119_28 hl, vv_119_29 hl, vv_119_30 hl, vv_119_33 hl, vv_119_34 hl, vv_119_35 hl, vv_119_36 hl, vv_119_37 hl, vv_119_40 hl, vv_119_41 hl, vv_119_42 hl, vv_119_43 hl, vv_119_44 hl, trivial⟩
set_option maxRecDepth 100000 in
theorem vv_120_0 {l : Launch} (hl : l.stackTraces = false) : cj_V1 l 120 0 (3, 0, 0, []) 1 := Or.inl ⟨by decide +kernel, ok_aload_n dm_120_0 rfl⟩
set_option maxRecDepth 100000 in
theorem vv_120_1 {l : Launch} (hl : l.stackTraces = false) : cj_V1 l 120 1 (50, 7, 9, []) 4 := Or.inl ⟨by decide +kernel, ok_getfield (N := 39) (C := RK_7) (T := TK_7) dm_120_1 rfl inK_7 (by decide +kernel) wm_742⟩
set_option maxRecDepth 100000 in
theorem vv_120_4 {l : Launch} (hl : l.stackTraces = false) : cj_V1 l 120 4 (2, 1, 0, []) 5 := Or.inl ⟨by decide +kernel, ok_iload_n dm_120_4 rfl⟩
set_option maxRecDepth 100000 in
theorem vv_120_5 {l : Launch} (hl : l.stackTraces = false) : cj_V1 l 120 5 (54, 0, 0, []) 6 := Or.inl ⟨by decide +kernel, ok_iaload dm_120_5 rfl⟩
set_option maxRecDepth 100000 in
theorem vv_120_6 {l : Launch} (hl : l.stackTraces = false) : cj_V1 l 120 6 (4, 2, 0, []) 7 := Or.inl ⟨by decide +kernel, ok_istore_n dm_120_6 rfl⟩
set_option maxRecDepth 100000 in
theorem vv_120_7 {l : Launch} (hl : l.stackTraces = false) : cj_V1 l 120 7 (3, 0, 0, []) 8 := Or.inl ⟨by decide +kernel, ok_aload_n dm_120_7 rfl⟩
set_option maxRecDepth 100000 in
theorem vv_120_8 {l : Launch} (hl : l.stackTraces = false) : cj_V1 l 120 8 (0, 0, 0, []) 9 := Or.inl ⟨by decide +kernel, ok_iconst dm_120_8 (by decide +kernel)⟩
set_option maxRecDepth 100000 in
theorem vv_120_9 {l : Launch} (hl : l.stackTraces = false) : cj_V1 l 120 9 (51, 7, 16, [0]) 12 := Or.inl ⟨by decide +kernel, ok_putfield (N := 39) (C := RK_7) (T := TK_7) (ty0 := tyK_7) dm_120_9 rfl inK_7 (by decide +kernel) wm_749 tyK_7_ok nmK_7 (Or.inl rfl) (Or.inl ⟨rfl, rfl⟩)⟩
set_option maxRecDepth 100000 in
theorem vv_120_12 {l : Launch} (hl : l.stackTraces = false) : cj_V1 l 120 12 (0, 0, 0, []) 13 := Or.inl ⟨by decide +kernel, ok_iconst dm_120_12 (by decide +kernel)⟩
set_option maxRecDepth 100000 in
theorem vv_120_13 {l : Launch} (hl : l.stackTraces = false) : cj_V1 l 120 13 (4, 3, 0, []) 14 := Or.inl ⟨by decide +kernel, ok_istore_n dm_120_13 rfl⟩
set_option maxRecDepth 100000 in
theorem vv_120_14 {l : Launch} (hl : l.stackTraces = false) : cj_V1 l 120 14 (2, 3, 0, []) 15 := Or.inl ⟨by decide +kernel, ok_iload_n dm_120_14 rfl⟩
set_option maxRecDepth 100000 in
theorem vv_120_15 {l : Launch} (hl : l.stackTraces = false) : cj_V1 l 120 15 (3, 0, 0, []) 16 := Or.inl ⟨by decide +kernel, ok_aload_n dm_120_15 rfl⟩
set_option maxRecDepth 100000 in
theorem vv_120_16 {l : Launch} (hl : l.stackTraces = false) : cj_V1 l 120 16 (50, 7, 6, []) 19 := Or.inl ⟨by decide +kernel, ok_getfield (N := 39) (C := RK_7) (T := TK_7) dm_120_16 rfl inK_7 (by decide +kernel) wm_739⟩
set_option maxRecDepth 100000 in
theorem vv_120_19 {l : Launch} (hl : l.stackTraces = false) : cj_V1 l 120 19 (2, 2, 0, []) 20 := Or.inl ⟨by decide +kernel, ok_iload_n dm_120_19 rfl⟩
set_option maxRecDepth 100000 in
theorem vv_120_20 {l : Launch} (hl : l.stackTraces = false) : cj_V1 l 120 20 (54, 0, 0, []) 21 := Or.inl ⟨by decide +kernel, ok_iaload dm_120_20 rfl⟩
set_option maxRecDepth 100000 in
theorem vv_120_21 {l : Launch} (hl : l.stackTraces = false) : cj_V1 l 120 21 (40, 177, 0, []) 24 := Or.inl ⟨by decide +kernel, ok_icmp_ge dm_120_21 (by decide +kernel)⟩
set_option maxRecDepth 100000 in
theorem vv_120_24 {l : Launch} (hl : l.stackTraces = false) : cj_V1 l 120 24 (3, 0, 0, []) 25 := Or.inl ⟨by decide +kernel, ok_aload_n dm_120_24 rfl⟩
set_option maxRecDepth 100000 in
theorem vv_120_25 {l : Launch} (hl : l.stackTraces = false) : cj_V1 l 120 25 (50, 7, 7, []) 28 := Or.inl ⟨by decide +kernel, ok_getfield (N := 39) (C := RK_7) (T := TK_7) dm_120_25 rfl inK_7 (by decide +kernel) wm_740⟩
set_option maxRecDepth 100000 in
theorem vv_120_28 {l : Launch} (hl : l.stackTraces = false) : cj_V1 l 120 28 (0, 32, 0, []) 30 := Or.inl ⟨by decide +kernel, ok_bipush dm_120_28 (by decide +kernel)⟩
set_option maxRecDepth 100000 in
theorem vv_120_30 {l : Launch} (hl : l.stackTraces = false) : cj_V1 l 120 30 (2, 2, 0, []) 31 := Or.inl ⟨by decide +kernel, ok_iload_n dm_120_30 rfl⟩
set_option maxRecDepth 100000 in
theorem vv_120_31 {l : Launch} (hl : l.stackTraces = false) : cj_V1 l 120 31 (12, 0, 0, []) 32 := Or.inl ⟨by decide +kernel, ok_imul dm_120_31⟩
set_option maxRecDepth 100000 in
theorem vv_120_32 {l : Launch} (hl : l.stackTraces = false) : cj_V1 l 120 32 (2, 3, 0, []) 33 := Or.inl ⟨by decide +kernel, ok_iload_n dm_120_32 rfl⟩
set_option maxRecDepth 100000 in
theorem vv_120_33 {l : Launch} (hl : l.stackTraces = false) : cj_V1 l 120 33 (10, 0, 0, []) 34 := Or.inl ⟨by decide +kernel, ok_iadd dm_120_33⟩
set_option maxRecDepth 100000 in
theorem vv_120_34 {l : Launch} (hl : l.stackTraces = false) : cj_V1 l 120 34 (54, 0, 0, []) 35 := Or.inl ⟨by decide +kernel, ok_iaload dm_120_34 rfl⟩
set_option maxRecDepth 100000 in
theorem vv_120_35 {l : Launch} (hl : l.stackTraces = false) : cj_V1 l 120 35 (4, 4, 0, []) 37 := Or.inl ⟨by decide +kernel, ok_istore dm_120_35⟩
set_option maxRecDepth 100000 in
theorem vv_120_37 {l : Launch} (hl : l.stackTraces = false) : cj_V1 l 120 37 (2, 3, 0, []) 38 := Or.inl ⟨by decide +kernel, ok_iload_n dm_120_37 rfl⟩
set_option maxRecDepth 100000 in
theorem vv_120_38 {l : Launch} (hl : l.stackTraces = false) : cj_V1 l 120 38 (0, 1, 0, []) 39 := Or.inl ⟨by decide +kernel, ok_iconst dm_120_38 (by decide +kernel)⟩
set_option maxRecDepth 100000 in
theorem vv_120_39 {l : Launch} (hl : l.stackTraces = false) : cj_V1 l 120 39 (10, 0, 0, []) 40 := Or.inl ⟨by decide +kernel, ok_iadd dm_120_39⟩
set_option maxRecDepth 100000 in
theorem vv_120_40 {l : Launch} (hl : l.stackTraces = false) : cj_V1 l 120 40 (3, 0, 0, []) 41 := Or.inl ⟨by decide +kernel, ok_aload_n dm_120_40 rfl⟩
set_option maxRecDepth 100000 in
theorem vv_120_41 {l : Launch} (hl : l.stackTraces = false) : cj_V1 l 120 41 (50, 7, 6, []) 44 := Or.inl ⟨by decide +kernel, ok_getfield (N := 39) (C := RK_7) (T := TK_7) dm_120_41 rfl inK_7 (by decide +kernel) wm_739⟩
set_option maxRecDepth 100000 in
theorem vv_120_44 {l : Launch} (hl : l.stackTraces = false) : cj_V1 l 120 44 (2, 2, 0, []) 45 := Or.inl ⟨by decide +kernel, ok_iload_n dm_120_44 rfl⟩
set_option maxRecDepth 100000 in
theorem vv_120_45 {l : Launch} (hl : l.stackTraces = false) : cj_V1 l 120 45 (54, 0, 0, []) 46 := Or.inl ⟨by decide +kernel, ok_iaload dm_120_45 rfl⟩
set_option maxRecDepth 100000 in
theorem vv_120_46 {l : Launch} (hl : l.stackTraces = false) : cj_V1 l 120 46 (40, 68, 0, []) 49 := Or.inl ⟨by decide +kernel, ok_icmp_ge dm_120_46 (by decide +kernel)⟩
set_option maxRecDepth 100000 in
theorem vv_120_49 {l : Launch} (hl : l.stackTraces = false) : cj_V1 l 120 49 (3, 0, 0, []) 50 := Or.inl ⟨by decide +kernel, ok_aload_n dm_120_49 rfl⟩
set_option maxRecDepth 100000 in
theorem vv_120_50 {l : Launch} (hl : l.stackTraces = false) : cj_V1 l 120 50 (50, 7, 7, []) 53 := Or.inl ⟨by decide +kernel, ok_getfield (N := 39) (C := RK_7) (T := TK_7) dm_120_50 rfl inK_7 (by decide +kernel) wm_740⟩
set_option maxRecDepth 100000 in
theorem vv_120_53 {l : Launch} (hl : l.stackTraces = false) : cj_V1 l 120 53 (0, 32, 0, []) 55 := Or.inl ⟨by decide +kernel, ok_bipush dm_120_53 (by decide +kernel)⟩
set_option maxRecDepth 100000 in
theorem vv_120_55 {l : Launch} (hl : l.stackTraces = false) : cj_V1 l 120 55 (2, 2, 0, []) 56 := Or.inl ⟨by decide +kernel, ok_iload_n dm_120_55 rfl⟩
set_option maxRecDepth 100000 in
theorem vv_120_56 {l : Launch} (hl : l.stackTraces = false) : cj_V1 l 120 56 (12, 0, 0, []) 57 := Or.inl ⟨by decide +kernel, ok_imul dm_120_56⟩
set_option maxRecDepth 100000 in
theorem vv_120_57 {l : Launch} (hl : l.stackTraces = false) : cj_V1 l 120 57 (2, 3, 0, []) 58 := Or.inl ⟨by decide +kernel, ok_iload_n dm_120_57 rfl⟩
set_option maxRecDepth 100000 in
theorem vv_120_58 {l : Launch} (hl : l.stackTraces = false) : cj_V1 l 120 58 (10, 0, 0, []) 59 := Or.inl ⟨by decide +kernel, ok_iadd dm_120_58⟩
set_option maxRecDepth 100000 in
theorem vv_120_59 {l : Launch} (hl : l.stackTraces = false) : cj_V1 l 120 59 (0, 1, 0, []) 60 := Or.inl ⟨by decide +kernel, ok_iconst dm_120_59 (by decide +kernel)⟩
set_option maxRecDepth 100000 in
theorem vv_120_60 {l : Launch} (hl : l.stackTraces = false) : cj_V1 l 120 60 (10, 0, 0, []) 61 := Or.inl ⟨by decide +kernel, ok_iadd dm_120_60⟩
set_option maxRecDepth 100000 in
theorem vv_120_61 {l : Launch} (hl : l.stackTraces = false) : cj_V1 l 120 61 (54, 0, 0, []) 62 := Or.inl ⟨by decide +kernel, ok_iaload dm_120_61 rfl⟩
set_option maxRecDepth 100000 in
theorem vv_120_62 {l : Launch} (hl : l.stackTraces = false) : cj_V1 l 120 62 (0, 48, 0, []) 64 := Or.inl ⟨by decide +kernel, ok_bipush dm_120_62 (by decide +kernel)⟩
set_option maxRecDepth 100000 in
theorem vv_120_64 {l : Launch} (hl : l.stackTraces = false) : cj_V1 l 120 64 (11, 0, 0, []) 65 := Or.inl ⟨by decide +kernel, ok_isub dm_120_64⟩
set_option maxRecDepth 100000 in
theorem vv_120_65 {l : Launch} (hl : l.stackTraces = false) : cj_V1 l 120 65 (30, 69, 0, []) 68 := Or.inl ⟨by decide +kernel, ok_goto dm_120_65 (by decide +kernel)⟩
set_option maxRecDepth 100000 in
theorem vv_120_68 {l : Launch} (hl : l.stackTraces = false) : cj_V1 l 120 68 (0, 0, 0, []) 69 := Or.inl ⟨by decide +kernel, ok_iconst dm_120_68 (by decide +kernel)⟩
set_option maxRecDepth 100000 in
theorem vv_120_69 {l : Launch} (hl : l.stackTraces = false) : cj_V1 l 120 69 (4, 5, 0, []) 71 := Or.inl ⟨by decide +kernel, ok_istore dm_120_69⟩
set_option maxRecDepth 100000 in
theorem vv_120_71 {l : Launch} (hl : l.stackTraces = false) : cj_V1 l 120 71 (2, 4, 0, []) 73 := Or.inl ⟨by decide +kernel, ok_iload dm_120_71⟩
set_option maxRecDepth 100000 in
theorem vv_120_73 {l : Launch} (hl : l.stackTraces = false) : cj_V1 l 120 73 (0, 35, 0, []) 75 := Or.inl ⟨by decide +kernel, ok_bipush dm_120_73 (by decide +kernel)⟩
set_option maxRecDepth 100000 in
theorem vv_120_75 {l : Launch} (hl : l.stackTraces = false) : cj_V1 l 120 75 (38, 94, 0, []) 78 := Or.inl ⟨by decide +kernel, ok_icmp_ne dm_120_75 (by decide +kernel)⟩
set_option maxRecDepth 100000 in
theorem vv_120_78 {l : Launch} (hl : l.stackTraces = false) : cj_V1 l 120 78 (3, 0, 0, []) 79 := Or.inl ⟨by decide +kernel, ok_aload_n dm_120_78 rfl⟩
set_option maxRecDepth 100000 in
theorem vv_120_79 {l : Launch} (hl : l.stackTraces = false) : cj_V1 l 120 79 (0, 4, 0, []) 80 := Or.inl ⟨by decide +kernel, ok_iconst dm_120_79 (by decide +kernel)⟩
set_option maxRecDepth 100000 in
theorem vv_120_80 {l : Launch} (hl : l.stackTraces = false) : cj_V1 l 120 80 (2, 1, 0, []) 81 := Or.inl ⟨by decide +kernel, ok_iload_n dm_120_80 rfl⟩
set_option maxRecDepth 100000 in
theorem vv_120_81 {l : Launch} (hl : l.stackTraces = false) : cj_V1 l 120 81 (12, 0, 0, []) 82 := Or.inl ⟨by decide +kernel, ok_imul dm_120_81⟩
set_option maxRecDepth 100000 in
theorem vv_120_82 {l : Launch} (hl : l.stackTraces = false) : cj_V1 l 120 82 (2, 5, 0, []) 84 := Or.inl ⟨by decide +kernel, ok_iload dm_120_82⟩
set_option maxRecDepth 100000 in
theorem vv_120_84 {l : Launch} (hl : l.stackTraces = false) : cj_V1 l 120 84 (10, 0, 0, []) 85 := Or.inl ⟨by decide +kernel, ok_iadd dm_120_84⟩
set_option maxRecDepth 100000 in
theorem vv_120_85 {l : Launch} (hl : l.stackTraces = false) : cj_V1 l 120 85 (80, 95, 2, [7]) 88 := Or.inr (Or.inr (Or.inl ⟨by decide +kernel, by decide +kernel, rfl, vc_virtual (n := 1) (q := (RK_7, TK_7, 39)) mi_95 dm_120_85 (Or.inl wm_923) wm_925 wm_p25 rfl rfl (by decide +kernel) rfl (by decide +kernel) (by decide +kernel), (vx_none rfl)⟩))
set_option maxRecDepth 100000 in
theorem vv_120_88 {l : Launch} (hl : l.stackTraces = false) : cj_V1 l 120 88 (6, 3, 1, []) 91 := Or.inl ⟨by decide +kernel, ok_iinc6 dm_120_88 (by decide +kernel)⟩
set_option maxRecDepth 100000 in
theorem vv_120_91 {l : Launch} (hl : l.stackTraces = false) : cj_V1 l 120 91 (30, 171, 0, []) 94 := Or.inl ⟨by decide +kernel, ok_goto dm_120_91 (by decide +kernel)⟩
set_option maxRecDepth 100000 in
theorem vv_120_94 {l : Launch} (hl : l.stackTraces = false) : cj_V1 l 120 94 (2, 4, 0, []) 96 := Or.inl ⟨by decide +kernel, ok_iload dm_120_94⟩
set_option maxRecDepth 100000 in
theorem vv_120_96 {l : Launch} (hl : l.stackTraces = false) : cj_V1 l 120 96 (0, 64, 0, []) 98 := Or.inl ⟨by decide +kernel, ok_bipush dm_120_96 (by decide +kernel)⟩
set_option maxRecDepth 100000 in
theorem vv_120_98 {l : Launch} (hl : l.stackTraces = false) : cj_V1 l 120 98 (38, 118, 0, []) 101 := Or.inl ⟨by decide +kernel, ok_icmp_ne dm_120_98 (by decide +kernel)⟩
set_option maxRecDepth 100000 in
theorem vv_120_101 {l : Launch} (hl : l.stackTraces = false) : cj_V1 l 120 101 (3, 0, 0, []) 102 := Or.inl ⟨by decide +kernel, ok_aload_n dm_120_101 rfl⟩
set_option maxRecDepth 100000 in
theorem vv_120_102 {l : Launch} (hl : l.stackTraces = false) : cj_V1 l 120 102 (3, 0, 0, []) 103 := Or.inl ⟨by decide +kernel, ok_aload_n dm_120_102 rfl⟩
set_option maxRecDepth 100000 in
theorem vv_120_103 {l : Launch} (hl : l.stackTraces = false) : cj_V1 l 120 103 (50, 7, 27, []) 106 := Or.inl ⟨by decide +kernel, ok_getfield (N := 39) (C := RK_7) (T := TK_7) dm_120_103 rfl inK_7 (by decide +kernel) wm_760⟩
set_option maxRecDepth 100000 in
theorem vv_120_106 {l : Launch} (hl : l.stackTraces = false) : cj_V1 l 120 106 (2, 5, 0, []) 108 := Or.inl ⟨by decide +kernel, ok_iload dm_120_106⟩
set_option maxRecDepth 100000 in
theorem vv_120_108 {l : Launch} (hl : l.stackTraces = false) : cj_V1 l 120 108 (54, 0, 0, []) 109 := Or.inl ⟨by decide +kernel, ok_iaload dm_120_108 rfl⟩
set_option maxRecDepth 100000 in
theorem vv_120_109 {l : Launch} (hl : l.stackTraces = false) : cj_V1 l 120 109 (80, 96, 2, [7]) 112 := Or.inr (Or.inr (Or.inl ⟨by decide +kernel, by decide +kernel, rfl, vc_virtual (n := 1) (q := (RK_7, TK_7, 39)) mi_96 dm_120_109 (Or.inl wm_931) wm_933 wm_p27 rfl rfl (by decide +kernel) rfl (by decide +kernel) (by decide +kernel), (vx_none rfl)⟩))
set_option maxRecDepth 100000 in
theorem vv_120_112 {l : Launch} (hl : l.stackTraces = false) : cj_V1 l 120 112 (6, 3, 1, []) 115 := Or.inl ⟨by decide +kernel, ok_iinc6 dm_120_112 (by decide +kernel)⟩
set_option maxRecDepth 100000 in
theorem vv_120_115 {l : Launch} (hl : l.stackTraces = false) : cj_V1 l 120 115 (30, 171, 0, []) 118 := Or.inl ⟨by decide +kernel, ok_goto dm_120_115 (by decide +kernel)⟩
set_option maxRecDepth 100000 in
theorem vv_120_118 {l : Launch} (hl : l.stackTraces = false) : cj_V1 l 120 118 (2, 4, 0, []) 120 := Or.inl ⟨by decide +kernel, ok_iload dm_120_118⟩
set_option maxRecDepth 100000 in
theorem vv_120_120 {l : Launch} (hl : l.stackTraces = false) : cj_V1 l 120 120 (0, 91, 0, []) 122 := Or.inl ⟨by decide +kernel, ok_bipush dm_120_120 (by decide +kernel)⟩
set_option maxRecDepth 100000 in
theorem vv_120_122 {l : Launch} (hl : l.stackTraces = false) : cj_V1 l 120 122 (38, 151, 0, []) 125 := Or.inl ⟨by decide +kernel, ok_icmp_ne dm_120_122 (by decide +kernel)⟩
set_option maxRecDepth 100000 in
theorem vv_120_125 {l : Launch} (hl : l.stackTraces = false) : cj_V1 l 120 125 (3, 0, 0, []) 126 := Or.inl ⟨by decide +kernel, ok_aload_n dm_120_125 rfl⟩
set_option maxRecDepth 100000 in
theorem vv_120_126 {l : Launch} (hl : l.stackTraces = false) : cj_V1 l 120 126 (2, 1, 0, []) 127 := Or.inl ⟨by decide +kernel, ok_iload_n dm_120_126 rfl⟩
set_option maxRecDepth 100000 in
theorem vv_120_127 {l : Launch} (hl : l.stackTraces = false) : cj_V1 l 120 127 (2, 2, 0, []) 128 := Or.inl ⟨by decide +kernel, ok_iload_n dm_120_127 rfl⟩
set_option maxRecDepth 100000 in
theorem vv_120_128 {l : Launch} (hl : l.stackTraces = false) : cj_V1 l 120 128 (2, 3, 0, []) 129 := Or.inl ⟨by decide +kernel, ok_iload_n dm_120_128 rfl⟩
set_option maxRecDepth 100000 in
theorem vv_120_129 {l : Launch} (hl : l.stackTraces = false) : cj_V1 l 120 129 (3, 0, 0, []) 130 := Or.inl ⟨by decide +kernel, ok_aload_n dm_120_129 rfl⟩
set_option maxRecDepth 100000 in
theorem vv_120_130 {l : Launch} (hl : l.stackTraces = false) : cj_V1 l 120 130 (2, 2, 0, []) 131 := Or.inl ⟨by decide +kernel, ok_iload_n dm_120_130 rfl⟩
set_option maxRecDepth 100000 in
theorem vv_120_131 {l : Launch} (hl : l.stackTraces = false) : cj_V1 l 120 131 (2, 3, 0, []) 132 := Or.inl ⟨by decide +kernel, ok_iload_n dm_120_131 rfl⟩
set_option maxRecDepth 100000 in
theorem vv_120_132 {l : Launch} (hl : l.stackTraces = false) : cj_V1 l 120 132 (80, 45, 3, [7]) 135 := Or.inr (Or.inr (Or.inl ⟨by decide +kernel, by decide +kernel, rfl, vc_virtual (n := 2) (q := (RK_7, TK_7, 39)) mi_45 dm_120_132 (Or.inl wm_935) wm_937 wm_p28 rfl rfl (by decide +kernel) rfl (by decide +kernel) (by decide +kernel), (vx_none rfl)⟩))
set_option maxRecDepth 100000 in
theorem vv_120_135 {l : Launch} (hl : l.stackTraces = false) : cj_V1 l 120 135 (80, 47, 5, [7]) 138 := Or.inr (Or.inr (Or.inl ⟨by decide +kernel, by decide +kernel, rfl, vc_virtual (n := 4) (q := (RK_7, TK_7, 39)) mi_47 dm_120_135 (Or.inl wm_939) wm_941 wm_p29 rfl rfl (by decide +kernel) rfl (by decide +kernel) (by decide +kernel), (vx_none rfl)⟩))
set_option maxRecDepth 100000 in
theorem vv_120_138 {l : Launch} (hl : l.stackTraces = false) : cj_V1 l 120 138 (31, 151, 0, []) 141 := Or.inl ⟨by decide +kernel, ok_if_eq dm_120_138 (by decide +kernel)⟩
set_option maxRecDepth 100000 in
theorem vv_120_141 {l : Launch} (hl : l.stackTraces = false) : cj_V1 l 120 141 (3, 0, 0, []) 142 := Or.inl ⟨by decide +kernel, ok_aload_n dm_120_141 rfl⟩
set_option maxRecDepth 100000 in
theorem vv_120_142 {l : Launch} (hl : l.stackTraces = false) : cj_V1 l 120 142 (2, 2, 0, []) 143 := Or.inl ⟨by decide +kernel, ok_iload_n dm_120_142 rfl⟩
set_option maxRecDepth 100000 in
theorem vv_120_143 {l : Launch} (hl : l.stackTraces = false) : cj_V1 l 120 143 (2, 3, 0, []) 144 := Or.inl ⟨by decide +kernel, ok_iload_n dm_120_143 rfl⟩
set_option maxRecDepth 100000 in
theorem vv_120_144 {l : Launch} (hl : l.stackTraces = false) : cj_V1 l 120 144 (80, 45, 3, [7]) 147 := Or.inr (Or.inr (Or.inl ⟨by decide +kernel, by decide +kernel, rfl, vc_virtual (n := 2) (q := (RK_7, TK_7, 39)) mi_45 dm_120_144 (Or.inl wm_935) wm_937 wm_p28 rfl rfl (by decide +kernel) rfl (by decide +kernel) (by decide +kernel), (vx_none rfl)⟩))
set_option maxRecDepth 100000 in
theorem vv_120_147 {l : Launch} (hl : l.stackTraces = false) : cj_V1 l 120 147 (4, 3, 0, []) 148 := Or.inl ⟨by decide +kernel, ok_istore_n dm_120_147 rfl⟩
set_option maxRecDepth 100000 in
theorem vv_120_148 {l : Launch} (hl : l.stackTraces = false) : cj_V1 l 120 148 (30, 171, 0, []) 151 := Or.inl ⟨by decide +kernel, ok_goto dm_120_148 (by decide +kernel)⟩
set_option maxRecDepth 100000 in
theorem vv_120_151 {l : Launch} (hl : l.stackTraces = false) : cj_V1 l 120 151 (2, 4, 0, []) 153 := Or.inl ⟨by decide +kernel, ok_iload dm_120_151⟩
set_option maxRecDepth 100000 in
theorem vv_120_153 {l : Launch} (hl : l.stackTraces = false) : cj_V1 l 120 153 (0, 91, 0, []) 155 := Or.inl ⟨by decide +kernel, ok_bipush dm_120_153 (by decide +kernel)⟩
set_option maxRecDepth 100000 in
theorem vv_120_155 {l : Launch} (hl : l.stackTraces = false) : cj_V1 l 120 155 (37, 171, 0, []) 158 := Or.inl ⟨by decide +kernel, ok_icmp_eq dm_120_155 (by decide +kernel)⟩
set_option maxRecDepth 100000 in
theorem vv_120_158 {l : Launch} (hl : l.stackTraces = false) : cj_V1 l 120 158 (2, 4, 0, []) 160 := Or.inl ⟨by decide +kernel, ok_iload dm_120_158⟩
set_option maxRecDepth 100000 in
theorem vv_120_160 {l : Launch} (hl : l.stackTraces = false) : cj_V1 l 120 160 (0, 93, 0, []) 162 := Or.inl ⟨by decide +kernel, ok_bipush dm_120_160 (by decide +kernel)⟩
set_option maxRecDepth 100000 in
theorem vv_120_162 {l : Launch} (hl : l.stackTraces = false) : cj_V1 l 120 162 (37, 171, 0, []) 165 := Or.inl ⟨by decide +kernel, ok_icmp_eq dm_120_162 (by decide +kernel)⟩
set_option maxRecDepth 100000 in
theorem vv_120_165 {l : Launch} (hl : l.stackTraces = false) : cj_V1 l 120 165 (3, 0, 0, []) 166 := Or.inl ⟨by decide +kernel, ok_aload_n dm_120_165 rfl⟩
set_option maxRecDepth 100000 in
theorem vv_120_166 {l : Launch} (hl : l.stackTraces = false) : cj_V1 l 120 166 (2, 4, 0, []) 168 := Or.inl ⟨by decide +kernel, ok_iload dm_120_166⟩
set_option maxRecDepth 100000 in
theorem vv_120_168 {l : Launch} (hl : l.stackTraces = false) : cj_V1 l 120 168 (80, 50, 2, [7]) 171 := Or.inr (Or.inr (Or.inl ⟨by decide +kernel, by decide +kernel, rfl, vc_virtual (n := 1) (q := (RK_7, TK_7, 39)) mi_50 dm_120_168 (Or.inl wm_927) wm_929 wm_p26 rfl rfl (by decide +kernel) rfl (by decide +kernel) (by decide +kernel), (vx_none rfl)⟩))
set_option maxRecDepth 100000 in
theorem vv_120_171 {l : Launch} (hl : l.stackTraces = false) : cj_V1 l 120 171 (6, 3, 1, []) 174 := Or.inl ⟨by decide +kernel, ok_iinc6 dm_120_171 (by decide +kernel)⟩
set_option maxRecDepth 100000 in
theorem vv_120_174 {l : Launch} (hl : l.stackTraces = false) : cj_V1 l 120 174 (30, 14, 0, []) 177 := Or.inl ⟨by decide +kernel, ok_goto dm_120_174 (by decide +kernel)⟩
set_option maxRecDepth 100000 in
theorem vv_120_177 {l : Launch} (hl : l.stackTraces = false) : cj_V1 l 120 177 (91, 0, 0, []) 178 := Or.inr (Or.inl ⟨by decide +kernel, Or.inl (Or.inr (Or.inl ⟨rfl, dm_120_177, rfl⟩))⟩)
set_option maxRecDepth 100000 in
theorem vm_120 {l : Launch} (hl : l.stackTraces = false) : cj_Vm l 120 := cj_Vm_of (r := kc120_) rfl ⟨vv_120_0 hl, vv_120_1 hl, vv_120_4 hl, vv_120_5 hl, vv_120_6 hl, vv_120_7 hl, vv_120_8 hl, vv_120_9 hl, vv_120_12 hl, vv_120_13 hl, vv_120_14 hl, vv_120_15 hl, vv_120_16 hl, vv_120_19 hl, vv_120_20 hl, vv_120_21 hl, vv_120_24 hl, vv_120_25 hl, vv_120_28 hl, vv_120_30 hl, vv_120_31 hl, vv_120_32 hl, vv_120_33 hl, vv_120_34 hl, vv_120_35 hl, vv_120_37 hl, vv_120_38 hl, vv_120_39 hl, vv_120_40 hl, vv_120_41 hl, vv_120_44 hl, vv_120_45 hl, vv_120_46 hl, vv_120_49 hl, vv_120_50 hl, vv_120_53 hl, vv_120_55 hl, vv_120_56 hl, vv_120_57 hl, vv_120_58 hl, vv_120_59 hl, vv_120_60 hl, vv_120_61 hl, vv_120_62 hl, vv_120_64 hl, vv_120_65 hl, vv_120_68 hl, vv_120_69 hl, vv_120_71 hl, vv_120_73 hl, vv_120_75 hl, vv_120_78 hl, vv_120_79 hl, vv_120_80 hl, vv_120_81 hl, vv_120_82 hl, vv_120_84 hl, vv_120_85 hl, vv_120_88 hl, vv_120_91 hl, vv_120_94 hl, vv_120_96 hl, vv_120_98 hl, vv_120_101 hl, vv_120_102 hl, vv_120_103 hl, vv_120_106 hl, vv_120_108 hl, vv_120_109 hl, vv_120_112 hl, vv_120_115 hl, vv_120_118 hl, vv_120_120 hl, vv_120_122 hl, vv_120_125 hl, vv_120_126 hl, vv_120_127 hl, vv_120_128 hl, vv_120_129 hl, vv_120_130 hl, vv_120_131 hl, vv_120_132 hl, vv_120_135 hl, vv_120_138 hl, vv_120_141 hl, vv_120_142 hl, vv_120_143 hl, vv_120_144 hl, vv_120_147 hl, vv_120_148 hl, vv_120_151 hl, vv_120_153 hl, vv_120_155 hl, vv_120_158 hl, vv_120_160 hl, vv_120_162 hl, vv_120_165 hl, vv_120_166 hl, vv_120_168 hl, vv_120_171 hl, vv_120_174 hl, vv_120_177 hl, trivial⟩
set_option maxRecDepth 100000 in
theorem vv_121_0 {l : Launch} (hl : l.stackTraces = false) : cj_V1 l 121 0 (3, 0, 0, []) 1 := Or.inl ⟨by decide +kernel, ok_aload_n dm_121_0 rfl⟩
set_option maxRecDepth 100000 in
theorem vv_121_1 {l : Launch} (hl : l.stackTraces = false) : cj_V1 l 121 1 (2, 1, 0, []) 2 := Or.inl ⟨by decide +kernel, ok_iload_n dm_121_1 rfl⟩
set_option maxRecDepth 100000 in
theorem vv_121_2 {l : Launch} (hl : l.stackTraces = false) : cj_V1 l 121 2 (80, 99, 2, [7]) 5 := Or.inr (Or.inr (Or.inl ⟨by decide +kernel, by decide +kernel, rfl, vc_virtual (n := 1) (q := (RK_7, TK_7, 39)) mi_99 dm_121_2 (Or.inl wm_983) wm_985 wm_p38 rfl rfl (by decide +kernel) rfl (by decide +kernel) (by decide +kernel), (vx_none rfl)⟩))
set_option maxRecDepth 100000 in
theorem vv_121_5 {l : Launch} (hl : l.stackTraces = false) : cj_V1 l 121 5 (4, 4, 0, []) 7 := Or.inl ⟨by decide +kernel, ok_istore dm_121_5⟩
set_option maxRecDepth 100000 in
theorem vv_121_7 {l : Launch} (hl : l.stackTraces = false) : cj_V1 l 121 7 (3, 0, 0, []) 8 := Or.inl ⟨by decide +kernel, ok_aload_n dm_121_7 rfl⟩
set_option maxRecDepth 100000 in
theorem vv_121_8 {l : Launch} (hl : l.stackTraces = false) : cj_V1 l 121 8 (50, 7, 23, []) 11 := Or.inl ⟨by decide +kernel, ok_getfield (N := 39) (C := RK_7) (T := TK_7) dm_121_8 rfl inK_7 (by decide +kernel) wm_756⟩
set_option maxRecDepth 100000 in
theorem vv_121_11 {l : Launch} (hl : l.stackTraces = false) : cj_V1 l 121 11 (1, 1, 0, []) 12 := Or.inl ⟨by decide +kernel, ok_iconst_m dm_121_11 (by decide +kernel)⟩
set_option maxRecDepth 100000 in
theorem vv_121_12 {l : Launch} (hl : l.stackTraces = false) : cj_V1 l 121 12 (37, 20, 0, []) 15 := Or.inl ⟨by decide +kernel, ok_icmp_eq dm_121_12 (by decide +kernel)⟩
set_option maxRecDepth 100000 in
theorem vv_121_15 {l : Launch} (hl : l.stackTraces = false) : cj_V1 l 121 15 (2, 4, 0, []) 17 := Or.inl ⟨by decide +kernel, ok_iload dm_121_15⟩
set_option maxRecDepth 100000 in
theorem vv_121_17 {l : Launch} (hl : l.stackTraces = false) : cj_V1 l 121 17 (32, 24, 0, []) 20 := Or.inl ⟨by decide +kernel, ok_if_ne dm_121_17 (by decide +kernel)⟩
set_option maxRecDepth 100000 in
theorem vv_121_20 {l : Launch} (hl : l.stackTraces = false) : cj_V1 l 121 20 (0, 0, 0, []) 21 := Or.inl ⟨by decide +kernel, ok_iconst dm_121_20 (by decide +kernel)⟩
set_option maxRecDepth 100000 in
theorem vv_121_21 {l : Launch} (hl : l.stackTraces = false) : cj_V1 l 121 21 (30, 33, 0, []) 24 := Or.inl ⟨by decide +kernel, ok_goto dm_121_21 (by decide +kernel)⟩
set_option maxRecDepth 100000 in
theorem vv_121_24 {l : Launch} (hl : l.stackTraces = false) : cj_V1 l 121 24 (0, 8, 0, []) 26 := Or.inl ⟨by decide +kernel, ok_bipush dm_121_24 (by decide +kernel)⟩
set_option maxRecDepth 100000 in
theorem vv_121_26 {l : Launch} (hl : l.stackTraces = false) : cj_V1 l 121 26 (3, 0, 0, []) 27 := Or.inl ⟨by decide +kernel, ok_aload_n dm_121_26 rfl⟩
set_option maxRecDepth 100000 in
theorem vv_121_27 {l : Launch} (hl : l.stackTraces = false) : cj_V1 l 121 27 (50, 7, 23, []) 30 := Or.inl ⟨by decide +kernel, ok_getfield (N := 39) (C := RK_7) (T := TK_7) dm_121_27 rfl inK_7 (by decide +kernel) wm_756⟩
set_option maxRecDepth 100000 in
theorem vv_121_30 {l : Launch} (hl : l.stackTraces = false) : cj_V1 l 121 30 (12, 0, 0, []) 31 := Or.inl ⟨by decide +kernel, ok_imul dm_121_30⟩
set_option maxRecDepth 100000 in
theorem vv_121_31 {l : Launch} (hl : l.stackTraces = false) : cj_V1 l 121 31 (2, 1, 0, []) 32 := Or.inl ⟨by decide +kernel, ok_iload_n dm_121_31 rfl⟩
set_option maxRecDepth 100000 in
theorem vv_121_32 {l : Launch} (hl : l.stackTraces = false) : cj_V1 l 121 32 (10, 0, 0, []) 33 := Or.inl ⟨by decide +kernel, ok_iadd dm_121_32⟩
set_option maxRecDepth 100000 in
theorem vv_121_33 {l : Launch} (hl : l.stackTraces = false) : cj_V1 l 121 33 (4, 5, 0, []) 35 := Or.inl ⟨by decide +kernel, ok_istore dm_121_33⟩
set_option maxRecDepth 100000 in
theorem vv_121_35 {l : Launch} (hl : l.stackTraces = false) : cj_V1 l 121 35 (2, 2, 0, []) 36 := Or.inl ⟨by decide +kernel, ok_iload_n dm_121_35 rfl⟩
set_option maxRecDepth 100000 in
theorem vv_121_36 {l : Launch} (hl : l.stackTraces = false) : cj_V1 l 121 36 (1, 1, 0, []) 37 := Or.inl ⟨by decide +kernel, ok_iconst_m dm_121_36 (by decide +kernel)⟩
set_option maxRecDepth 100000 in
theorem vv_121_37 {l : Launch} (hl : l.stackTraces = false) : cj_V1 l 121 37 (38, 49, 0, []) 40 := Or.inl ⟨by decide +kernel, ok_icmp_ne dm_121_37 (by decide +kernel)⟩
set_option maxRecDepth 100000 in
theorem vv_121_40 {l : Launch} (hl : l.stackTraces = false) : cj_V1 l 121 40 (2, 3, 0, []) 41 := Or.inl ⟨by decide +kernel, ok_iload_n dm_121_40 rfl⟩
set_option maxRecDepth 100000 in
theorem vv_121_41 {l : Launch} (hl : l.stackTraces = false) : cj_V1 l 121 41 (1, 1, 0, []) 42 := Or.inl ⟨by decide +kernel, ok_iconst_m dm_121_41 (by decide +kernel)⟩
set_option maxRecDepth 100000 in
theorem vv_121_42 {l : Launch} (hl : l.stackTraces = false) : cj_V1 l 121 42 (38, 49, 0, []) 45 := Or.inl ⟨by decide +kernel, ok_icmp_ne dm_121_42 (by decide +kernel)⟩
set_option maxRecDepth 100000 in
theorem vv_121_45 {l : Launch} (hl : l.stackTraces = false) : cj_V1 l 121 45 (0, 1, 0, []) 46 := Or.inl ⟨by decide +kernel, ok_iconst dm_121_45 (by decide +kernel)⟩
set_option maxRecDepth 100000 in
theorem vv_121_46 {l : Launch} (hl : l.stackTraces = false) : cj_V1 l 121 46 (30, 50, 0, []) 49 := Or.inl ⟨by decide +kernel, ok_goto dm_121_46 (by decide +kernel)⟩
set_option maxRecDepth 100000 in
theorem vv_121_49 {l : Launch} (hl : l.stackTraces = false) : cj_V1 l 121 49 (0, 0, 0, []) 50 := Or.inl ⟨by decide +kernel, ok_iconst dm_121_49 (by decide +kernel)⟩
set_option maxRecDepth 100000 in
theorem vv_121_50 {l : Launch} (hl : l.stackTraces = false) : cj_V1 l 121 50 (4, 6, 0, []) 52 := Or.inl ⟨by decide +kernel, ok_istore dm_121_50⟩
set_option maxRecDepth 100000 in
theorem vv_121_52 {l : Launch} (hl : l.stackTraces = false) : cj_V1 l 121 52 (2, 2, 0, []) 53 := Or.inl ⟨by decide +kernel, ok_iload_n dm_121_52 rfl⟩
set_option maxRecDepth 100000 in
theorem vv_121_53 {l : Launch} (hl : l.stackTraces = false) : cj_V1 l 121 53 (3, 0, 0, []) 54 := Or.inl ⟨by decide +kernel, ok_aload_n dm_121_53 rfl⟩
set_option maxRecDepth 100000 in
theorem vv_121_54 {l : Launch} (hl : l.stackTraces = false) : cj_V1 l 121 54 (50, 7, 28, []) 57 := Or.inl ⟨by decide +kernel, ok_getfield (N := 39) (C := RK_7) (T := TK_7) dm_121_54 rfl inK_7 (by decide +kernel) wm_761⟩
set_option maxRecDepth 100000 in
theorem vv_121_57 {l : Launch} (hl : l.stackTraces = false) : cj_V1 l 121 57 (2, 5, 0, []) 59 := Or.inl ⟨by decide +kernel, ok_iload dm_121_57⟩
set_option maxRecDepth 100000 in
theorem vv_121_59 {l : Launch} (hl : l.stackTraces = false) : cj_V1 l 121 59 (54, 0, 0, []) 60 := Or.inl ⟨by decide +kernel, ok_iaload dm_121_59 rfl⟩
set_option maxRecDepth 100000 in
theorem vv_121_60 {l : Launch} (hl : l.stackTraces = false) : cj_V1 l 121 60 (81, 44, 2, []) 63 := Or.inr (Or.inr (Or.inl ⟨by decide +kernel, by decide +kernel, rfl, vc_static mi_44 dm_121_60 (Or.inl wm_888) wm_889 (by decide +kernel) (by decide +kernel) (by decide +kernel), (vx_none rfl)⟩))
set_option maxRecDepth 100000 in
theorem vv_121_63 {l : Launch} (hl : l.stackTraces = false) : cj_V1 l 121 63 (31, 109, 0, []) 66 := Or.inl ⟨by decide +kernel, ok_if_eq dm_121_63 (by decide +kernel)⟩
set_option maxRecDepth 100000 in
theorem vv_121_66 {l : Launch} (hl : l.stackTraces = false) : cj_V1 l 121 66 (2, 3, 0, []) 67 := Or.inl ⟨by decide +kernel, ok_iload_n dm_121_66 rfl⟩
set_option maxRecDepth 100000 in
theorem vv_121_67 {l : Launch} (hl : l.stackTraces = false) : cj_V1 l 121 67 (1, 1, 0, []) 68 := Or.inl ⟨by decide +kernel, ok_iconst_m dm_121_67 (by decide +kernel)⟩
set_option maxRecDepth 100000 in
theorem vv_121_68 {l : Launch} (hl : l.stackTraces = false) : cj_V1 l 121 68 (39, 109, 0, []) 71 := Or.inl ⟨by decide +kernel, ok_icmp_lt dm_121_68 (by decide +kernel)⟩
set_option maxRecDepth 100000 in
theorem vv_121_71 {l : Launch} (hl : l.stackTraces = false) : cj_V1 l 121 71 (2, 3, 0, []) 72 := Or.inl ⟨by decide +kernel, ok_iload_n dm_121_71 rfl⟩
set_option maxRecDepth 100000 in
theorem vv_121_72 {l : Launch} (hl : l.stackTraces = false) : cj_V1 l 121 72 (3, 0, 0, []) 73 := Or.inl ⟨by decide +kernel, ok_aload_n dm_121_72 rfl⟩
set_option maxRecDepth 100000 in
theorem vv_121_73 {l : Launch} (hl : l.stackTraces = false) : cj_V1 l 121 73 (50, 7, 30, []) 76 := Or.inl ⟨by decide +kernel, ok_getfield (N := 39) (C := RK_7) (T := TK_7) dm_121_73 rfl inK_7 (by decide +kernel) wm_763⟩
set_option maxRecDepth 100000 in
theorem vv_121_76 {l : Launch} (hl : l.stackTraces = false) : cj_V1 l 121 76 (0, 112, 0, []) 78 := Or.inl ⟨by decide +kernel, ok_bipush dm_121_76 (by decide +kernel)⟩
set_option maxRecDepth 100000 in
theorem vv_121_78 {l : Launch} (hl : l.stackTraces = false) : cj_V1 l 121 78 (2, 5, 0, []) 80 := Or.inl ⟨by decide +kernel, ok_iload dm_121_78⟩
set_option maxRecDepth 100000 in
theorem vv_121_80 {l : Launch} (hl : l.stackTraces = false) : cj_V1 l 121 80 (12, 0, 0, []) 81 := Or.inl ⟨by decide +kernel, ok_imul dm_121_80⟩
set_option maxRecDepth 100000 in
theorem vv_121_81 {l : Launch} (hl : l.stackTraces = false) : cj_V1 l 121 81 (2, 2, 0, []) 82 := Or.inl ⟨by decide +kernel, ok_iload_n dm_121_81 rfl⟩
set_option maxRecDepth 100000 in
theorem vv_121_82 {l : Launch} (hl : l.stackTraces = false) : cj_V1 l 121 82 (3, 0, 0, []) 83 := Or.inl ⟨by decide +kernel, ok_aload_n dm_121_82 rfl⟩
set_option maxRecDepth 100000 in
theorem vv_121_83 {l : Launch} (hl : l.stackTraces = false) : cj_V1 l 121 83 (50, 7, 28, []) 86 := Or.inl ⟨by decide +kernel, ok_getfield (N := 39) (C := RK_7) (T := TK_7) dm_121_83 rfl inK_7 (by decide +kernel) wm_761⟩
set_option maxRecDepth 100000 in
theorem vv_121_86 {l : Launch} (hl : l.stackTraces = false) : cj_V1 l 121 86 (2, 5, 0, []) 88 := Or.inl ⟨by decide +kernel, ok_iload dm_121_86⟩
set_option maxRecDepth 100000 in
theorem vv_121_88 {l : Launch} (hl : l.stackTraces = false) : cj_V1 l 121 88 (54, 0, 0, []) 89 := Or.inl ⟨by decide +kernel, ok_iaload dm_121_88 rfl⟩
set_option maxRecDepth 100000 in
theorem vv_121_89 {l : Launch} (hl : l.stackTraces = false) : cj_V1 l 121 89 (81, 44, 2, []) 92 := Or.inr (Or.inr (Or.inl ⟨by decide +kernel, by decide +kernel, rfl, vc_static mi_44 dm_121_89 (Or.inl wm_888) wm_889 (by decide +kernel) (by decide +kernel) (by decide +kernel), (vx_none rfl)⟩))
set_option maxRecDepth 100000 in
theorem vv_121_92 {l : Launch} (hl : l.stackTraces = false) : cj_V1 l 121 92 (31, 99, 0, []) 95 := Or.inl ⟨by decide +kernel, ok_if_eq dm_121_92 (by decide +kernel)⟩
set_option maxRecDepth 100000 in
theorem vv_121_95 {l : Launch} (hl : l.stackTraces = false) : cj_V1 l 121 95 (2, 2, 0, []) 96 := Or.inl ⟨by decide +kernel, ok_iload_n dm_121_95 rfl⟩
set_option maxRecDepth 100000 in
theorem vv_121_96 {l : Launch} (hl : l.stackTraces = false) : cj_V1 l 121 96 (30, 100, 0, []) 99 := Or.inl ⟨by decide +kernel, ok_goto dm_121_96 (by decide +kernel)⟩
set_option maxRecDepth 100000 in
theorem vv_121_99 {l : Launch} (hl : l.stackTraces = false) : cj_V1 l 121 99 (0, 0, 0, []) 100 := Or.inl ⟨by decide +kernel, ok_iconst dm_121_99 (by decide +kernel)⟩
set_option maxRecDepth 100000 in
theorem vv_121_100 {l : Launch} (hl : l.stackTraces = false) : cj_V1 l 121 100 (10, 0, 0, []) 101 := Or.inl ⟨by decide +kernel, ok_iadd dm_121_100⟩
set_option maxRecDepth 100000 in
theorem vv_121_101 {l : Launch} (hl : l.stackTraces = false) : cj_V1 l 121 101 (54, 0, 0, []) 102 := Or.inl ⟨by decide +kernel, ok_iaload dm_121_101 rfl⟩
set_option maxRecDepth 100000 in
theorem vv_121_102 {l : Launch} (hl : l.stackTraces = false) : cj_V1 l 121 102 (40, 109, 0, []) 105 := Or.inl ⟨by decide +kernel, ok_icmp_ge dm_121_102 (by decide +kernel)⟩
set_option maxRecDepth 100000 in
theorem vv_121_105 {l : Launch} (hl : l.stackTraces = false) : cj_V1 l 121 105 (0, 1, 0, []) 106 := Or.inl ⟨by decide +kernel, ok_iconst dm_121_105 (by decide +kernel)⟩
set_option maxRecDepth 100000 in
theorem vv_121_106 {l : Launch} (hl : l.stackTraces = false) : cj_V1 l 121 106 (30, 110, 0, []) 109 := Or.inl ⟨by decide +kernel, ok_goto dm_121_106 (by decide +kernel)⟩
set_option maxRecDepth 100000 in
theorem vv_121_109 {l : Launch} (hl : l.stackTraces = false) : cj_V1 l 121 109 (0, 0, 0, []) 110 := Or.inl ⟨by decide +kernel, ok_iconst dm_121_109 (by decide +kernel)⟩
set_option maxRecDepth 100000 in
theorem vv_121_110 {l : Launch} (hl : l.stackTraces = false) : cj_V1 l 121 110 (4, 7, 0, []) 112 := Or.inl ⟨by decide +kernel, ok_istore dm_121_110⟩
set_option maxRecDepth 100000 in
theorem vv_121_112 {l : Launch} (hl : l.stackTraces = false) : cj_V1 l 121 112 (3, 0, 0, []) 113 := Or.inl ⟨by decide +kernel, ok_aload_n dm_121_112 rfl⟩
set_option maxRecDepth 100000 in
theorem vv_121_113 {l : Launch} (hl : l.stackTraces = false) : cj_V1 l 121 113 (2, 4, 0, []) 115 := Or.inl ⟨by decide +kernel, ok_iload dm_121_113⟩
set_option maxRecDepth 100000 in
theorem vv_121_115 {l : Launch} (hl : l.stackTraces = false) : cj_V1 l 121 115 (31, 140, 0, []) 118 := Or.inl ⟨by decide +kernel, ok_if_eq dm_121_115 (by decide +kernel)⟩
set_option maxRecDepth 100000 in
theorem vv_121_118 {l : Launch} (hl : l.stackTraces = false) : cj_V1 l 121 118 (3, 0, 0, []) 119 := Or.inl ⟨by decide +kernel, ok_aload_n dm_121_118 rfl⟩
set_option maxRecDepth 100000 in
theorem vv_121_119 {l : Launch} (hl : l.stackTraces = false) : cj_V1 l 121 119 (50, 7, 23, []) 122 := Or.inl ⟨by decide +kernel, ok_getfield (N := 39) (C := RK_7) (T := TK_7) dm_121_119 rfl inK_7 (by decide +kernel) wm_756⟩
set_option maxRecDepth 100000 in
theorem vv_121_122 {l : Launch} (hl : l.stackTraces = false) : cj_V1 l 121 122 (1, 1, 0, []) 123 := Or.inl ⟨by decide +kernel, ok_iconst_m dm_121_122 (by decide +kernel)⟩
set_option maxRecDepth 100000 in
theorem vv_121_123 {l : Launch} (hl : l.stackTraces = false) : cj_V1 l 121 123 (37, 136, 0, []) 126 := Or.inl ⟨by decide +kernel, ok_icmp_eq dm_121_123 (by decide +kernel)⟩
set_option maxRecDepth 100000 in
theorem vv_121_126 {l : Launch} (hl : l.stackTraces = false) : cj_V1 l 121 126 (2, 6, 0, []) 128 := Or.inl ⟨by decide +kernel, ok_iload dm_121_126⟩
set_option maxRecDepth 100000 in
theorem vv_121_128 {l : Launch} (hl : l.stackTraces = false) : cj_V1 l 121 128 (32, 136, 0, []) 131 := Or.inl ⟨by decide +kernel, ok_if_ne dm_121_128 (by decide +kernel)⟩
set_option maxRecDepth 100000 in
theorem vv_121_131 {l : Launch} (hl : l.stackTraces = false) : cj_V1 l 121 131 (2, 7, 0, []) 133 := Or.inl ⟨by decide +kernel, ok_iload dm_121_131⟩
set_option maxRecDepth 100000 in
theorem vv_121_133 {l : Launch} (hl : l.stackTraces = false) : cj_V1 l 121 133 (31, 140, 0, []) 136 := Or.inl ⟨by decide +kernel, ok_if_eq dm_121_133 (by decide +kernel)⟩
set_option maxRecDepth 100000 in
theorem vv_121_136 {l : Launch} (hl : l.stackTraces = false) : cj_V1 l 121 136 (0, 1, 0, []) 137 := Or.inl ⟨by decide +kernel, ok_iconst dm_121_136 (by decide +kernel)⟩
set_option maxRecDepth 100000 in
theorem vv_121_137 {l : Launch} (hl : l.stackTraces = false) : cj_V1 l 121 137 (30, 141, 0, []) 140 := Or.inl ⟨by decide +kernel, ok_goto dm_121_137 (by decide +kernel)⟩
set_option maxRecDepth 100000 in
theorem vv_121_140 {l : Launch} (hl : l.stackTraces = false) : cj_V1 l 121 140 (0, 0, 0, []) 141 := Or.inl ⟨by decide +kernel, ok_iconst dm_121_140 (by decide +kernel)⟩
set_option maxRecDepth 100000 in
theorem vv_121_141 {l : Launch} (hl : l.stackTraces = false) : cj_V1 l 121 141 (3, 0, 0, []) 142 := Or.inl ⟨by decide +kernel, ok_aload_n dm_121_141 rfl⟩
set_option maxRecDepth 100000 in
theorem vv_121_142 {l : Launch} (hl : l.stackTraces = false) : cj_V1 l 121 142 (50, 7, 23, []) 145 := Or.inl ⟨by decide +kernel, ok_getfield (N := 39) (C := RK_7) (T := TK_7) dm_121_142 rfl inK_7 (by decide +kernel) wm_756⟩
set_option maxRecDepth 100000 in
theorem vv_121_145 {l : Launch} (hl : l.stackTraces = false) : cj_V1 l 121 145 (1, 1, 0, []) 146 := Or.inl ⟨by decide +kernel, ok_iconst_m dm_121_145 (by decide +kernel)⟩
set_option maxRecDepth 100000 in
theorem vv_121_146 {l : Launch} (hl : l.stackTraces = false) : cj_V1 l 121 146 (37, 153, 0, []) 149 := Or.inl ⟨by decide +kernel, ok_icmp_eq dm_121_146 (by decide +kernel)⟩
set_option maxRecDepth 100000 in
theorem vv_121_149 {l : Launch} (hl : l.stackTraces = false) : cj_V1 l 121 149 (0, 1, 0, []) 150 := Or.inl ⟨by decide +kernel, ok_iconst dm_121_149 (by decide +kernel)⟩
set_option maxRecDepth 100000 in
theorem vv_121_150 {l : Launch} (hl : l.stackTraces = false) : cj_V1 l 121 150 (30, 154, 0, []) 153 := Or.inl ⟨by decide +kernel, ok_goto dm_121_150 (by decide +kernel)⟩
set_option maxRecDepth 100000 in
theorem vv_121_153 {l : Launch} (hl : l.stackTraces = false) : cj_V1 l 121 153 (0, 0, 0, []) 154 := Or.inl ⟨by decide +kernel, ok_iconst dm_121_153 (by decide +kernel)⟩
set_option maxRecDepth 100000 in
theorem vv_121_154 {l : Launch} (hl : l.stackTraces = false) : cj_V1 l 121 154 (80, 46, 3, [7]) 157 := Or.inr (Or.inr (Or.inl ⟨by decide +kernel, by decide +kernel, rfl, vc_virtual (n := 2) (q := (RK_7, TK_7, 39)) mi_46 dm_121_154 (Or.inl wm_865) wm_867 wm_p19 rfl rfl (by decide +kernel) rfl (by decide +kernel) (by decide +kernel), (vx_none rfl)⟩))
set_option maxRecDepth 100000 in
theorem vv_121_157 {l : Launch} (hl : l.stackTraces = false) : cj_V1 l 121 157 (32, 162, 0, []) 160 := Or.inl ⟨by decide +kernel, ok_if_ne dm_121_157 (by decide +kernel)⟩
set_option maxRecDepth 100000 in
theorem vv_121_160 {l : Launch} (hl : l.stackTraces = false) : cj_V1 l 121 160 (0, 0, 0, []) 161 := Or.inl ⟨by decide +kernel, ok_iconst dm_121_160 (by decide +kernel)⟩
set_option maxRecDepth 100000 in
theorem vv_121_161 {l : Launch} (hl : l.stackTraces = false) : cj_V1 l 121 161 (90, 0, 0, []) 162 := Or.inr (Or.inl ⟨by decide +kernel, Or.inl (Or.inl ⟨rfl, dm_121_161, rfl⟩)⟩)
set_option maxRecDepth 100000 in
theorem vv_121_162 {l : Launch} (hl : l.stackTraces = false) : cj_V1 l 121 162 (0, 112, 0, []) 164 := Or.inl ⟨by decide +kernel, ok_bipush dm_121_162 (by decide +kernel)⟩
set_option maxRecDepth 100000 in
theorem vv_121_164 {l : Launch} (hl : l.stackTraces = false) : cj_V1 l 121 164 (2, 5, 0, []) 166 := Or.inl ⟨by decide +kernel, ok_iload dm_121_164⟩
set_option maxRecDepth 100000 in
theorem vv_121_166 {l : Launch} (hl : l.stackTraces = false) : cj_V1 l 121 166 (12, 0, 0, []) 167 := Or.inl ⟨by decide +kernel, ok_imul dm_121_166⟩
set_option maxRecDepth 100000 in
theorem vv_121_167 {l : Launch} (hl : l.stackTraces = false) : cj_V1 l 121 167 (2, 6, 0, []) 169 := Or.inl ⟨by decide +kernel, ok_iload dm_121_167⟩
set_option maxRecDepth 100000 in
theorem vv_121_169 {l : Launch} (hl : l.stackTraces = false) : cj_V1 l 121 169 (31, 176, 0, []) 172 := Or.inl ⟨by decide +kernel, ok_if_eq dm_121_169 (by decide +kernel)⟩
set_option maxRecDepth 100000 in
theorem vv_121_172 {l : Launch} (hl : l.stackTraces = false) : cj_V1 l 121 172 (0, 0, 0, []) 173 := Or.inl ⟨by decide +kernel, ok_iconst dm_121_172 (by decide +kernel)⟩
set_option maxRecDepth 100000 in
theorem vv_121_173 {l : Launch} (hl : l.stackTraces = false) : cj_V1 l 121 173 (30, 177, 0, []) 176 := Or.inl ⟨by decide +kernel, ok_goto dm_121_173 (by decide +kernel)⟩
set_option maxRecDepth 100000 in
theorem vv_121_176 {l : Launch} (hl : l.stackTraces = false) : cj_V1 l 121 176 (2, 2, 0, []) 177 := Or.inl ⟨by decide +kernel, ok_iload_n dm_121_176 rfl⟩
set_option maxRecDepth 100000 in
theorem vv_121_177 {l : Launch} (hl : l.stackTraces = false) : cj_V1 l 121 177 (10, 0, 0, []) 178 := Or.inl ⟨by decide +kernel, ok_iadd dm_121_177⟩
set_option maxRecDepth 100000 in
theorem vv_121_178 {l : Launch} (hl : l.stackTraces = false) : cj_V1 l 121 178 (4, 8, 0, []) 180 := Or.inl ⟨by decide +kernel, ok_istore dm_121_178⟩
set_option maxRecDepth 100000 in
theorem vv_121_180 {l : Launch} (hl : l.stackTraces = false) : cj_V1 l 121 180 (2, 6, 0, []) 182 := Or.inl ⟨by decide +kernel, ok_iload dm_121_180⟩
set_option maxRecDepth 100000 in
theorem vv_121_182 {l : Launch} (hl : l.stackTraces = false) : cj_V1 l 121 182 (31, 195, 0, []) 185 := Or.inl ⟨by decide +kernel, ok_if_eq dm_121_182 (by decide +kernel)⟩
set_option maxRecDepth 100000 in
theorem vv_121_185 {l : Launch} (hl : l.stackTraces = false) : cj_V1 l 121 185 (3, 0, 0, []) 186 := Or.inl ⟨by decide +kernel, ok_aload_n dm_121_185 rfl⟩
set_option maxRecDepth 100000 in
theorem vv_121_186 {l : Launch} (hl : l.stackTraces = false) : cj_V1 l 121 186 (50, 7, 28, []) 189 := Or.inl ⟨by decide +kernel, ok_getfield (N := 39) (C := RK_7) (T := TK_7) dm_121_186 rfl inK_7 (by decide +kernel) wm_761⟩
set_option maxRecDepth 100000 in
theorem vv_121_189 {l : Launch} (hl : l.stackTraces = false) : cj_V1 l 121 189 (2, 5, 0, []) 191 := Or.inl ⟨by decide +kernel, ok_iload dm_121_189⟩
set_option maxRecDepth 100000 in
theorem vv_121_191 {l : Launch} (hl : l.stackTraces = false) : cj_V1 l 121 191 (54, 0, 0, []) 192 := Or.inl ⟨by decide +kernel, ok_iaload dm_121_191 rfl⟩
set_option maxRecDepth 100000 in
theorem vv_121_192 {l : Launch} (hl : l.stackTraces = false) : cj_V1 l 121 192 (30, 231, 0, []) 195 := Or.inl ⟨by decide +kernel, ok_goto dm_121_192 (by decide +kernel)⟩
set_option maxRecDepth 100000 in
theorem vv_121_195 {l : Launch} (hl : l.stackTraces = false) : cj_V1 l 121 195 (2, 3, 0, []) 196 := Or.inl ⟨by decide +kernel, ok_iload_n dm_121_195 rfl⟩
set_option maxRecDepth 100000 in
theorem vv_121_196 {l : Launch} (hl : l.stackTraces = false) : cj_V1 l 121 196 (1, 1, 0, []) 197 := Or.inl ⟨by decide +kernel, ok_iconst_m dm_121_196 (by decide +kernel)⟩
set_option maxRecDepth 100000 in
theorem vv_121_197 {l : Launch} (hl : l.stackTraces = false) : cj_V1 l 121 197 (38, 210, 0, []) 200 := Or.inl ⟨by decide +kernel, ok_icmp_ne dm_121_197 (by decide +kernel)⟩
set_option maxRecDepth 100000 in
theorem vv_121_200 {l : Launch} (hl : l.stackTraces = false) : cj_V1 l 121 200 (3, 0, 0, []) 201 := Or.inl ⟨by decide +kernel, ok_aload_n dm_121_200 rfl⟩
set_option maxRecDepth 100000 in
theorem vv_121_201 {l : Launch} (hl : l.stackTraces = false) : cj_V1 l 121 201 (50, 7, 30, []) 204 := Or.inl ⟨by decide +kernel, ok_getfield (N := 39) (C := RK_7) (T := TK_7) dm_121_201 rfl inK_7 (by decide +kernel) wm_763⟩
set_option maxRecDepth 100000 in
theorem vv_121_204 {l : Launch} (hl : l.stackTraces = false) : cj_V1 l 121 204 (2, 8, 0, []) 206 := Or.inl ⟨by decide +kernel, ok_iload dm_121_204⟩
set_option maxRecDepth 100000 in
theorem vv_121_206 {l : Launch} (hl : l.stackTraces = false) : cj_V1 l 121 206 (54, 0, 0, []) 207 := Or.inl ⟨by decide +kernel, ok_iaload dm_121_206 rfl⟩
set_option maxRecDepth 100000 in
theorem vv_121_207 {l : Launch} (hl : l.stackTraces = false) : cj_V1 l 121 207 (30, 231, 0, []) 210 := Or.inl ⟨by decide +kernel, ok_goto dm_121_207 (by decide +kernel)⟩
set_option maxRecDepth 100000 in
theorem vv_121_210 {l : Launch} (hl : l.stackTraces = false) : cj_V1 l 121 210 (3, 0, 0, []) 211 := Or.inl ⟨by decide +kernel, ok_aload_n dm_121_210 rfl⟩
set_option maxRecDepth 100000 in
theorem vv_121_211 {l : Launch} (hl : l.stackTraces = false) : cj_V1 l 121 211 (50, 7, 31, []) 214 := Or.inl ⟨by decide +kernel, ok_getfield (N := 39) (C := RK_7) (T := TK_7) dm_121_211 rfl inK_7 (by decide +kernel) wm_764⟩
set_option maxRecDepth 100000 in
theorem vv_121_214 {l : Launch} (hl : l.stackTraces = false) : cj_V1 l 121 214 (0, 240, 0, []) 217 := Or.inl ⟨by decide +kernel, ok_sipush dm_121_214 (by decide +kernel)⟩
set_option maxRecDepth 100000 in
theorem vv_121_217 {l : Launch} (hl : l.stackTraces = false) : cj_V1 l 121 217 (2, 5, 0, []) 219 := Or.inl ⟨by decide +kernel, ok_iload dm_121_217⟩
set_option maxRecDepth 100000 in
theorem vv_121_219 {l : Launch} (hl : l.stackTraces = false) : cj_V1 l 121 219 (12, 0, 0, []) 220 := Or.inl ⟨by decide +kernel, ok_imul dm_121_219⟩
set_option maxRecDepth 100000 in
theorem vv_121_220 {l : Launch} (hl : l.stackTraces = false) : cj_V1 l 121 220 (3, 0, 0, []) 221 := Or.inl ⟨by decide +kernel, ok_aload_n dm_121_220 rfl⟩
set_option maxRecDepth 100000 in
theorem vv_121_221 {l : Launch} (hl : l.stackTraces = false) : cj_V1 l 121 221 (50, 7, 29, []) 224 := Or.inl ⟨by decide +kernel, ok_getfield (N := 39) (C := RK_7) (T := TK_7) dm_121_221 rfl inK_7 (by decide +kernel) wm_762⟩
set_option maxRecDepth 100000 in
theorem vv_121_224 {l : Launch} (hl : l.stackTraces = false) : cj_V1 l 121 224 (2, 8, 0, []) 226 := Or.inl ⟨by decide +kernel, ok_iload dm_121_224⟩
set_option maxRecDepth 100000 in
theorem vv_121_226 {l : Launch} (hl : l.stackTraces = false) : cj_V1 l 121 226 (54, 0, 0, []) 227 := Or.inl ⟨by decide +kernel, ok_iaload dm_121_226 rfl⟩
set_option maxRecDepth 100000 in
theorem vv_121_227 {l : Launch} (hl : l.stackTraces = false) : cj_V1 l 121 227 (10, 0, 0, []) 228 := Or.inl ⟨by decide +kernel, ok_iadd dm_121_227⟩
set_option maxRecDepth 100000 in
theorem vv_121_228 {l : Launch} (hl : l.stackTraces = false) : cj_V1 l 121 228 (2, 3, 0, []) 229 := Or.inl ⟨by decide +kernel, ok_iload_n dm_121_228 rfl⟩
set_option maxRecDepth 100000 in
theorem vv_121_229 {l : Launch} (hl : l.stackTraces = false) : cj_V1 l 121 229 (10, 0, 0, []) 230 := Or.inl ⟨by decide +kernel, ok_iadd dm_121_229⟩
set_option maxRecDepth 100000 in
theorem vv_121_230 {l : Launch} (hl : l.stackTraces = false) : cj_V1 l 121 230 (54, 0, 0, []) 231 := Or.inl ⟨by decide +kernel, ok_iaload dm_121_230 rfl⟩
set_option maxRecDepth 100000 in
theorem vv_121_231 {l : Launch} (hl : l.stackTraces = false) : cj_V1 l 121 231 (90, 0, 0, []) 232 := Or.inr (Or.inl ⟨by decide +kernel, Or.inl (Or.inl ⟨rfl, dm_121_231, rfl⟩)⟩)
set_option maxRecDepth 100000 in
theorem vm_121 {l : Launch} (hl : l.stackTraces = false) : cj_Vm l 121 := cj_Vm_of (r := kc121_) rfl ⟨vv_121_0 hl, vv_121_1 hl, vv_121_2 hl, vv_121_5 hl, vv_121_7 hl, vv_121_8 hl, vv_121_11 hl, vv_121_12 hl, vv_121_15 hl, vv_121_17 hl, vv_121_20 hl, vv_121_21 hl, vv_121_24 hl, vv_121_26 hl, vv_121_27 hl, vv_121_30 hl, vv_121_31 hl, vv_121_32 hl, vv_121_33 hl, vv_121_35 hl, vv_121_36 hl, vv_121_37 hl, vv_121_40 hl, vv_121_41 hl, vv_121_42 hl, vv_121_45 hl, vv_121_46 hl, vv_121_49 hl, vv_121_50 hl, vv_121_52 hl, vv_121_53 hl, vv_121_54 hl, vv_121_57 hl, vv_121_59 hl, vv_121_60 hl, vv_121_63 hl, vv_121_66 hl, vv_121_67 hl, vv_121_68 hl, vv_121_71 hl, vv_121_72 hl, vv_121_73 hl, vv_121_76 hl, vv_121_78 hl, vv_121_80 hl, vv_121_81 hl, vv_121_82 hl, vv_121_83 hl, vv_121_86 hl, vv_121_88 hl, vv_121_89 hl, vv_121_92 hl, vv_121_95 hl, vv_121_96 hl, vv_121_99 hl, vv_121_100 hl, vv_121_101 hl, vv_121_102 hl, vv_121_105 hl, vv_121_106 hl, vv_121_109 hl, vv_121_110 hl, vv_121_112 hl, vv_121_113 hl, vv_121_115 hl, vv_121_118 hl, vv_121_119 hl, vv_121_122 hl, vv_121_123 hl, vv_121_126 hl, vv_121_128 hl, vv_121_131 hl, vv_121_133 hl, vv_121_136 hl, vv_121_137 hl, vv_121_140 hl, vv_121_141 hl, vv_121_142 hl, vv_121_145 hl, vv_121_146 hl, vv_121_149 hl, vv_121_150 hl, vv_121_153 hl, vv_121_154 hl, vv_121_157 hl, vv_121_160 hl, vv_121_161 hl, vv_121_162 hl, vv_121_164 hl, vv_121_166 hl, vv_121_167 hl, vv_121_169 hl, vv_121_172 hl, vv_121_173 hl, vv_121_176 hl, vv_121_177 hl, vv_121_178 hl, vv_121_180 hl, vv_121_182 hl, vv_121_185 hl, vv_121_186 hl, vv_121_189 hl, vv_121_191 hl, vv_121_192 hl, vv_121_195 hl, vv_121_196 hl, vv_121_197 hl, vv_121_200 hl, vv_121_201 hl, vv_121_204 hl, vv_121_206 hl, vv_121_207 hl, vv_121_210 hl, vv_121_211 hl, vv_121_214 hl, vv_121_217 hl, vv_121_219 hl, vv_121_220 hl, vv_121_221 hl, vv_121_224 hl, vv_121_226 hl, vv_121_227 hl, vv_121_228 hl, vv_121_229 hl, vv_121_230 hl, vv_121_231 hl, trivial⟩
set_option maxRecDepth 100000 in
theorem vv_122_0 {l : Launch} (hl : l.stackTraces = false) : cj_V1 l 122 0 (3, 0, 0, []) 1 := Or.inl ⟨by decide +kernel, ok_aload_n dm_122_0 rfl⟩
set_option maxRecDepth 100000 in
theorem vv_122_1 {l : Launch} (hl : l.stackTraces = false) : cj_V1 l 122 1 (3, 0, 0, []) 2 := Or.inl ⟨by decide +kernel, ok_aload_n dm_122_1 rfl⟩
set_option maxRecDepth 100000 in
theorem vv_122_2 {l : Launch} (hl : l.stackTraces = false) : cj_V1 l 122 2 (50, 7, 5, []) 5 := Or.inl ⟨by decide +kernel, ok_getfield (N := 39) (C := RK_7) (T := TK_7) dm_122_2 rfl inK_7 (by decide +kernel) wm_738⟩
set_option maxRecDepth 100000 in
theorem vv_122_5 {l : Launch} (hl : l.stackTraces = false) : cj_V1 l 122 5 (0, 6, 0, []) 7 := Or.inl ⟨by decide +kernel, ok_bipush dm_122_5 (by decide +kernel)⟩
set_option maxRecDepth 100000 in
theorem vv_122_7 {l : Launch} (hl : l.stackTraces = false) : cj_V1 l 122 7 (40, 14, 0, []) 10 := Or.inl ⟨by decide +kernel, ok_icmp_ge dm_122_7 (by decide +kernel)⟩
set_option maxRecDepth 100000 in
theorem vv_122_10 {l : Launch} (hl : l.stackTraces = false) : cj_V1 l 122 10 (0, 1, 0, []) 11 := Or.inl ⟨by decide +kernel, ok_iconst dm_122_10 (by decide +kernel)⟩
set_option maxRecDepth 100000 in
theorem vv_122_11 {l : Launch} (hl : l.stackTraces = false) : cj_V1 l 122 11 (30, 15, 0, []) 14 := Or.inl ⟨by decide +kernel, ok_goto dm_122_11 (by decide +kernel)⟩
set_option maxRecDepth 100000 in
theorem vv_122_14 {l : Launch} (hl : l.stackTraces = false) : cj_V1 l 122 14 (0, 0, 0, []) 15 := Or.inl ⟨by decide +kernel, ok_iconst dm_122_14 (by decide +kernel)⟩
set_option maxRecDepth 100000 in
theorem vv_122_15 {l : Launch} (hl : l.stackTraces = false) : cj_V1 l 122 15 (0, 1, 0, []) 16 := Or.inl ⟨by decide +kernel, ok_iconst dm_122_15 (by decide +kernel)⟩
set_option maxRecDepth 100000 in
theorem vv_122_16 {l : Launch} (hl : l.stackTraces = false) : cj_V1 l 122 16 (80, 46, 3, [7]) 19 := Or.inr (Or.inr (Or.inl ⟨by decide +kernel, by decide +kernel, rfl, vc_virtual (n := 2) (q := (RK_7, TK_7, 39)) mi_46 dm_122_16 (Or.inl wm_865) wm_867 wm_p19 rfl rfl (by decide +kernel) rfl (by decide +kernel) (by decide +kernel), (vx_none rfl)⟩))
set_option maxRecDepth 100000 in
theorem vv_122_19 {l : Launch} (hl : l.stackTraces = false) : cj_V1 l 122 19 (32, 24, 0, []) 22 := Or.inl ⟨by decide +kernel, ok_if_ne dm_122_19 (by decide +kernel)⟩
set_option maxRecDepth 100000 in
theorem vv_122_22 {l : Launch} (hl : l.stackTraces = false) : cj_V1 l 122 22 (0, 0, 0, []) 23 := Or.inl ⟨by decide +kernel, ok_iconst dm_122_22 (by decide +kernel)⟩
set_option maxRecDepth 100000 in
theorem vv_122_23 {l : Launch} (hl : l.stackTraces = false) : cj_V1 l 122 23 (90, 0, 0, []) 24 := Or.inr (Or.inl ⟨by decide +kernel, Or.inl (Or.inl ⟨rfl, dm_122_23, rfl⟩)⟩)
set_option maxRecDepth 100000 in
theorem vv_122_24 {l : Launch} (hl : l.stackTraces = false) : cj_V1 l 122 24 (3, 0, 0, []) 25 := Or.inl ⟨by decide +kernel, ok_aload_n dm_122_24 rfl⟩
set_option maxRecDepth 100000 in
theorem vv_122_25 {l : Launch} (hl : l.stackTraces = false) : cj_V1 l 122 25 (80, 88, 1, [7]) 28 := Or.inr (Or.inr (Or.inl ⟨by decide +kernel, by decide +kernel, rfl, vc_virtual (n := 0) (q := (RK_7, TK_7, 39)) mi_88 dm_122_25 (Or.inl wm_877) wm_879 wm_p21 rfl rfl (by decide +kernel) rfl (by decide +kernel) (by decide +kernel), (vx_none rfl)⟩))
set_option maxRecDepth 100000 in
theorem vv_122_28 {l : Launch} (hl : l.stackTraces = false) : cj_V1 l 122 28 (4, 1, 0, []) 29 := Or.inl ⟨by decide +kernel, ok_istore_n dm_122_28 rfl⟩
set_option maxRecDepth 100000 in
theorem vv_122_29 {l : Launch} (hl : l.stackTraces = false) : cj_V1 l 122 29 (0, 0, 0, []) 30 := Or.inl ⟨by decide +kernel, ok_iconst dm_122_29 (by decide +kernel)⟩
set_option maxRecDepth 100000 in
theorem vv_122_30 {l : Launch} (hl : l.stackTraces = false) : cj_V1 l 122 30 (4, 2, 0, []) 31 := Or.inl ⟨by decide +kernel, ok_istore_n dm_122_30 rfl⟩
set_option maxRecDepth 100000 in
theorem vv_122_31 {l : Launch} (hl : l.stackTraces = false) : cj_V1 l 122 31 (2, 2, 0, []) 32 := Or.inl ⟨by decide +kernel, ok_iload_n dm_122_31 rfl⟩
set_option maxRecDepth 100000 in
theorem vv_122_32 {l : Launch} (hl : l.stackTraces = false) : cj_V1 l 122 32 (3, 0, 0, []) 33 := Or.inl ⟨by decide +kernel, ok_aload_n dm_122_32 rfl⟩
set_option maxRecDepth 100000 in
theorem vv_122_33 {l : Launch} (hl : l.stackTraces = false) : cj_V1 l 122 33 (50, 7, 3, []) 36 := Or.inl ⟨by decide +kernel, ok_getfield (N := 39) (C := RK_7) (T := TK_7) dm_122_33 rfl inK_7 (by decide +kernel) wm_736⟩
set_option maxRecDepth 100000 in
theorem vv_122_36 {l : Launch} (hl : l.stackTraces = false) : cj_V1 l 122 36 (40, 70, 0, []) 39 := Or.inl ⟨by decide +kernel, ok_icmp_ge dm_122_36 (by decide +kernel)⟩
set_option maxRecDepth 100000 in
theorem vv_122_39 {l : Launch} (hl : l.stackTraces = false) : cj_V1 l 122 39 (2, 1, 0, []) 40 := Or.inl ⟨by decide +kernel, ok_iload_n dm_122_39 rfl⟩
set_option maxRecDepth 100000 in
theorem vv_122_40 {l : Launch} (hl : l.stackTraces = false) : cj_V1 l 122 40 (1, 1, 0, []) 41 := Or.inl ⟨by decide +kernel, ok_iconst_m dm_122_40 (by decide +kernel)⟩
set_option maxRecDepth 100000 in
theorem vv_122_41 {l : Launch} (hl : l.stackTraces = false) : cj_V1 l 122 41 (38, 70, 0, []) 44 := Or.inl ⟨by decide +kernel, ok_icmp_ne dm_122_41 (by decide +kernel)⟩
set_option maxRecDepth 100000 in
theorem vv_122_44 {l : Launch} (hl : l.stackTraces = false) : cj_V1 l 122 44 (3, 0, 0, []) 45 := Or.inl ⟨by decide +kernel, ok_aload_n dm_122_44 rfl⟩
set_option maxRecDepth 100000 in
theorem vv_122_45 {l : Launch} (hl : l.stackTraces = false) : cj_V1 l 122 45 (50, 7, 7, []) 48 := Or.inl ⟨by decide +kernel, ok_getfield (N := 39) (C := RK_7) (T := TK_7) dm_122_45 rfl inK_7 (by decide +kernel) wm_740⟩
set_option maxRecDepth 100000 in
theorem vv_122_48 {l : Launch} (hl : l.stackTraces = false) : cj_V1 l 122 48 (0, 32, 0, []) 50 := Or.inl ⟨by decide +kernel, ok_bipush dm_122_48 (by decide +kernel)⟩
set_option maxRecDepth 100000 in
theorem vv_122_50 {l : Launch} (hl : l.stackTraces = false) : cj_V1 l 122 50 (3, 0, 0, []) 51 := Or.inl ⟨by decide +kernel, ok_aload_n dm_122_50 rfl⟩
set_option maxRecDepth 100000 in
theorem vv_122_51 {l : Launch} (hl : l.stackTraces = false) : cj_V1 l 122 51 (50, 7, 5, []) 54 := Or.inl ⟨by decide +kernel, ok_getfield (N := 39) (C := RK_7) (T := TK_7) dm_122_51 rfl inK_7 (by decide +kernel) wm_738⟩
set_option maxRecDepth 100000 in
theorem vv_122_54 {l : Launch} (hl : l.stackTraces = false) : cj_V1 l 122 54 (12, 0, 0, []) 55 := Or.inl ⟨by decide +kernel, ok_imul dm_122_54⟩
set_option maxRecDepth 100000 in
theorem vv_122_55 {l : Launch} (hl : l.stackTraces = false) : cj_V1 l 122 55 (2, 2, 0, []) 56 := Or.inl ⟨by decide +kernel, ok_iload_n dm_122_55 rfl⟩
set_option maxRecDepth 100000 in
theorem vv_122_56 {l : Launch} (hl : l.stackTraces = false) : cj_V1 l 122 56 (10, 0, 0, []) 57 := Or.inl ⟨by decide +kernel, ok_iadd dm_122_56⟩
set_option maxRecDepth 100000 in
theorem vv_122_57 {l : Launch} (hl : l.stackTraces = false) : cj_V1 l 122 57 (3, 0, 0, []) 58 := Or.inl ⟨by decide +kernel, ok_aload_n dm_122_57 rfl⟩
set_option maxRecDepth 100000 in
theorem vv_122_58 {l : Launch} (hl : l.stackTraces = false) : cj_V1 l 122 58 (50, 7, 4, []) 61 := Or.inl ⟨by decide +kernel, ok_getfield (N := 39) (C := RK_7) (T := TK_7) dm_122_58 rfl inK_7 (by decide +kernel) wm_737⟩
set_option maxRecDepth 100000 in
theorem vv_122_61 {l : Launch} (hl : l.stackTraces = false) : cj_V1 l 122 61 (2, 2, 0, []) 62 := Or.inl ⟨by decide +kernel, ok_iload_n dm_122_61 rfl⟩
set_option maxRecDepth 100000 in
theorem vv_122_62 {l : Launch} (hl : l.stackTraces = false) : cj_V1 l 122 62 (54, 0, 0, []) 63 := Or.inl ⟨by decide +kernel, ok_iaload dm_122_62 rfl⟩
set_option maxRecDepth 100000 in
theorem vv_122_63 {l : Launch} (hl : l.stackTraces = false) : cj_V1 l 122 63 (56, 0, 0, []) 64 := Or.inl ⟨by decide +kernel, ok_iastore dm_122_63 rfl⟩
set_option maxRecDepth 100000 in
theorem vv_122_64 {l : Launch} (hl : l.stackTraces = false) : cj_V1 l 122 64 (6, 2, 1, []) 67 := Or.inl ⟨by decide +kernel, ok_iinc6 dm_122_64 (by decide +kernel)⟩
set_option maxRecDepth 100000 in
theorem vv_122_67 {l : Launch} (hl : l.stackTraces = false) : cj_V1 l 122 67 (30, 31, 0, []) 70 := Or.inl ⟨by decide +kernel, ok_goto dm_122_67 (by decide +kernel)⟩
set_option maxRecDepth 100000 in
theorem vv_122_70 {l : Launch} (hl : l.stackTraces = false) : cj_V1 l 122 70 (3, 0, 0, []) 71 := Or.inl ⟨by decide +kernel, ok_aload_n dm_122_70 rfl⟩
set_option maxRecDepth 100000 in
theorem vv_122_71 {l : Launch} (hl : l.stackTraces = false) : cj_V1 l 122 71 (50, 7, 6, []) 74 := Or.inl ⟨by decide +kernel, ok_getfield (N := 39) (C := RK_7) (T := TK_7) dm_122_71 rfl inK_7 (by decide +kernel) wm_739⟩
set_option maxRecDepth 100000 in
theorem vv_122_74 {l : Launch} (hl : l.stackTraces = false) : cj_V1 l 122 74 (3, 0, 0, []) 75 := Or.inl ⟨by decide +kernel, ok_aload_n dm_122_74 rfl⟩
set_option maxRecDepth 100000 in
theorem vv_122_75 {l : Launch} (hl : l.stackTraces = false) : cj_V1 l 122 75 (50, 7, 5, []) 78 := Or.inl ⟨by decide +kernel, ok_getfield (N := 39) (C := RK_7) (T := TK_7) dm_122_75 rfl inK_7 (by decide +kernel) wm_738⟩
set_option maxRecDepth 100000 in
theorem vv_122_78 {l : Launch} (hl : l.stackTraces = false) : cj_V1 l 122 78 (3, 0, 0, []) 79 := Or.inl ⟨by decide +kernel, ok_aload_n dm_122_78 rfl⟩
set_option maxRecDepth 100000 in
theorem vv_122_79 {l : Launch} (hl : l.stackTraces = false) : cj_V1 l 122 79 (50, 7, 3, []) 82 := Or.inl ⟨by decide +kernel, ok_getfield (N := 39) (C := RK_7) (T := TK_7) dm_122_79 rfl inK_7 (by decide +kernel) wm_736⟩
set_option maxRecDepth 100000 in
theorem vv_122_82 {l : Launch} (hl : l.stackTraces = false) : cj_V1 l 122 82 (56, 0, 0, []) 83 := Or.inl ⟨by decide +kernel, ok_iastore dm_122_82 rfl⟩
set_option maxRecDepth 100000 in
theorem vv_122_83 {l : Launch} (hl : l.stackTraces = false) : cj_V1 l 122 83 (3, 0, 0, []) 84 := Or.inl ⟨by decide +kernel, ok_aload_n dm_122_83 rfl⟩
set_option maxRecDepth 100000 in
theorem vv_122_84 {l : Launch} (hl : l.stackTraces = false) : cj_V1 l 122 84 (2, 1, 0, []) 85 := Or.inl ⟨by decide +kernel, ok_iload_n dm_122_84 rfl⟩
set_option maxRecDepth 100000 in
theorem vv_122_85 {l : Launch} (hl : l.stackTraces = false) : cj_V1 l 122 85 (1, 1, 0, []) 86 := Or.inl ⟨by decide +kernel, ok_iconst_m dm_122_85 (by decide +kernel)⟩
set_option maxRecDepth 100000 in
theorem vv_122_86 {l : Launch} (hl : l.stackTraces = false) : cj_V1 l 122 86 (38, 98, 0, []) 89 := Or.inl ⟨by decide +kernel, ok_icmp_ne dm_122_86 (by decide +kernel)⟩
set_option maxRecDepth 100000 in
theorem vv_122_89 {l : Launch} (hl : l.stackTraces = false) : cj_V1 l 122 89 (3, 0, 0, []) 90 := Or.inl ⟨by decide +kernel, ok_aload_n dm_122_89 rfl⟩
set_option maxRecDepth 100000 in
theorem vv_122_90 {l : Launch} (hl : l.stackTraces = false) : cj_V1 l 122 90 (50, 7, 5, []) 93 := Or.inl ⟨by decide +kernel, ok_getfield (N := 39) (C := RK_7) (T := TK_7) dm_122_90 rfl inK_7 (by decide +kernel) wm_738⟩
set_option maxRecDepth 100000 in
theorem vv_122_93 {l : Launch} (hl : l.stackTraces = false) : cj_V1 l 122 93 (0, 1, 0, []) 94 := Or.inl ⟨by decide +kernel, ok_iconst dm_122_93 (by decide +kernel)⟩
set_option maxRecDepth 100000 in
theorem vv_122_94 {l : Launch} (hl : l.stackTraces = false) : cj_V1 l 122 94 (10, 0, 0, []) 95 := Or.inl ⟨by decide +kernel, ok_iadd dm_122_94⟩
set_option maxRecDepth 100000 in
theorem vv_122_95 {l : Launch} (hl : l.stackTraces = false) : cj_V1 l 122 95 (30, 102, 0, []) 98 := Or.inl ⟨by decide +kernel, ok_goto dm_122_95 (by decide +kernel)⟩
set_option maxRecDepth 100000 in
theorem vv_122_98 {l : Launch} (hl : l.stackTraces = false) : cj_V1 l 122 98 (3, 0, 0, []) 99 := Or.inl ⟨by decide +kernel, ok_aload_n dm_122_98 rfl⟩
set_option maxRecDepth 100000 in
theorem vv_122_99 {l : Launch} (hl : l.stackTraces = false) : cj_V1 l 122 99 (50, 7, 5, []) 102 := Or.inl ⟨by decide +kernel, ok_getfield (N := 39) (C := RK_7) (T := TK_7) dm_122_99 rfl inK_7 (by decide +kernel) wm_738⟩
set_option maxRecDepth 100000 in
theorem vv_122_102 {l : Launch} (hl : l.stackTraces = false) : cj_V1 l 122 102 (51, 7, 5, [0]) 105 := Or.inl ⟨by decide +kernel, ok_putfield (N := 39) (C := RK_7) (T := TK_7) (ty0 := tyK_7) dm_122_102 rfl inK_7 (by decide +kernel) wm_738 tyK_7_ok nmK_7 (Or.inl rfl) (Or.inl ⟨rfl, rfl⟩)⟩
set_option maxRecDepth 100000 in
theorem vv_122_105 {l : Launch} (hl : l.stackTraces = false) : cj_V1 l 122 105 (3, 0, 0, []) 106 := Or.inl ⟨by decide +kernel, ok_aload_n dm_122_105 rfl⟩
set_option maxRecDepth 100000 in
theorem vv_122_106 {l : Launch} (hl : l.stackTraces = false) : cj_V1 l 122 106 (0, 0, 0, []) 107 := Or.inl ⟨by decide +kernel, ok_iconst dm_122_106 (by decide +kernel)⟩
set_option maxRecDepth 100000 in
theorem vv_122_107 {l : Launch} (hl : l.stackTraces = false) : cj_V1 l 122 107 (51, 7, 3, [0]) 110 := Or.inl ⟨by decide +kernel, ok_putfield (N := 39) (C := RK_7) (T := TK_7) (ty0 := tyK_7) dm_122_107 rfl inK_7 (by decide +kernel) wm_736 tyK_7_ok nmK_7 (Or.inl rfl) (Or.inl ⟨rfl, rfl⟩)⟩
set_option maxRecDepth 100000 in
theorem vv_122_110 {l : Launch} (hl : l.stackTraces = false) : cj_V1 l 122 110 (2, 1, 0, []) 111 := Or.inl ⟨by decide +kernel, ok_iload_n dm_122_110 rfl⟩
set_option maxRecDepth 100000 in
theorem vv_122_111 {l : Launch} (hl : l.stackTraces = false) : cj_V1 l 122 111 (1, 1, 0, []) 112 := Or.inl ⟨by decide +kernel, ok_iconst_m dm_122_111 (by decide +kernel)⟩
set_option maxRecDepth 100000 in
theorem vv_122_112 {l : Launch} (hl : l.stackTraces = false) : cj_V1 l 122 112 (38, 124, 0, []) 115 := Or.inl ⟨by decide +kernel, ok_icmp_ne dm_122_112 (by decide +kernel)⟩
set_option maxRecDepth 100000 in
theorem vv_122_115 {l : Launch} (hl : l.stackTraces = false) : cj_V1 l 122 115 (3, 0, 0, []) 116 := Or.inl ⟨by decide +kernel, ok_aload_n dm_122_115 rfl⟩
set_option maxRecDepth 100000 in
theorem vv_122_116 {l : Launch} (hl : l.stackTraces = false) : cj_V1 l 122 116 (50, 7, 5, []) 119 := Or.inl ⟨by decide +kernel, ok_getfield (N := 39) (C := RK_7) (T := TK_7) dm_122_116 rfl inK_7 (by decide +kernel) wm_738⟩
set_option maxRecDepth 100000 in
theorem vv_122_119 {l : Launch} (hl : l.stackTraces = false) : cj_V1 l 122 119 (0, 1, 0, []) 120 := Or.inl ⟨by decide +kernel, ok_iconst dm_122_119 (by decide +kernel)⟩
set_option maxRecDepth 100000 in
theorem vv_122_120 {l : Launch} (hl : l.stackTraces = false) : cj_V1 l 122 120 (11, 0, 0, []) 121 := Or.inl ⟨by decide +kernel, ok_isub dm_122_120⟩
set_option maxRecDepth 100000 in
theorem vv_122_121 {l : Launch} (hl : l.stackTraces = false) : cj_V1 l 122 121 (30, 127, 0, []) 124 := Or.inl ⟨by decide +kernel, ok_goto dm_122_121 (by decide +kernel)⟩
set_option maxRecDepth 100000 in
theorem vv_122_124 {l : Launch} (hl : l.stackTraces = false) : cj_V1 l 122 124 (1, 1, 0, []) 125 := Or.inl ⟨by decide +kernel, ok_iconst_m dm_122_124 (by decide +kernel)⟩
set_option maxRecDepth 100000 in
theorem vv_122_125 {l : Launch} (hl : l.stackTraces = false) : cj_V1 l 122 125 (2, 1, 0, []) 126 := Or.inl ⟨by decide +kernel, ok_iload_n dm_122_125 rfl⟩
set_option maxRecDepth 100000 in
theorem vv_122_126 {l : Launch} (hl : l.stackTraces = false) : cj_V1 l 122 126 (11, 0, 0, []) 127 := Or.inl ⟨by decide +kernel, ok_isub dm_122_126⟩
set_option maxRecDepth 100000 in
theorem vv_122_127 {l : Launch} (hl : l.stackTraces = false) : cj_V1 l 122 127 (90, 0, 0, []) 128 := Or.inr (Or.inl ⟨by decide +kernel, Or.inl (Or.inl ⟨rfl, dm_122_127, rfl⟩)⟩)
set_option maxRecDepth 100000 in
theorem vm_122 {l : Launch} (hl : l.stackTraces = false) : cj_Vm l 122 := cj_Vm_of (r := kc122_) rfl ⟨vv_122_0 hl, vv_122_1 hl, vv_122_2 hl, vv_122_5 hl, vv_122_7 hl, vv_122_10 hl, vv_122_11 hl, vv_122_14 hl, vv_122_15 hl, vv_122_16 hl, vv_122_19 hl, vv_122_22 hl, vv_122_23 hl, vv_122_24 hl, vv_122_25 hl, vv_122_28 hl, vv_122_29 hl, vv_122_30 hl, vv_122_31 hl, vv_122_32 hl, vv_122_33 hl, vv_122_36 hl, vv_122_39 hl, vv_122_40 hl, vv_122_41 hl, vv_122_44 hl, vv_122_45 hl, vv_122_48 hl, vv_122_50 hl, vv_122_51 hl, vv_122_54 hl, vv_122_55 hl, vv_122_56 hl, vv_122_57 hl, vv_122_58 hl, vv_122_61 hl, vv_122_62 hl, vv_122_63 hl, vv_122_64 hl, vv_122_67 hl, vv_122_70 hl, vv_122_71 hl, vv_122_74 hl, vv_122_75 hl, vv_122_78 hl, vv_122_79 hl, vv_122_82 hl, vv_122_83 hl, vv_122_84 hl, vv_122_85 hl, vv_122_86 hl, vv_122_89 hl, vv_122_90 hl, vv_122_93 hl, vv_122_94 hl, vv_122_95 hl, vv_122_98 hl, vv_122_99 hl, vv_122_102 hl, vv_122_105 hl, vv_122_106 hl, vv_122_107 hl, vv_122_110 hl, vv_122_111 hl, vv_122_112 hl, vv_122_115 hl, vv_122_116 hl, vv_122_119 hl, vv_122_120 hl, vv_122_121 hl, vv_122_124 hl, vv_122_125 hl, vv_122_126 hl, vv_122_127 hl, trivial⟩
set_option maxRecDepth 100000 in
theorem vv_123_0 {l : Launch} (hl : l.stackTraces = false) : cj_V1 l 123 0 (3, 0, 0, []) 1 := Or.inl ⟨by decide +kernel, ok_aload_n dm_123_0 rfl⟩
set_option maxRecDepth 100000 in
theorem vv_123_1 {l : Launch} (hl : l.stackTraces = false) : cj_V1 l 123 1 (50, 7, 32, []) 4 := Or.inl ⟨by decide +kernel, ok_getfield (N := 39) (C := RK_7) (T := TK_7) dm_123_1 rfl inK_7 (by decide +kernel) wm_765⟩
set_option maxRecDepth 100000 in
theorem vv_123_4 {l : Launch} (hl : l.stackTraces = false) : cj_V1 l 123 4 (2, 1, 0, []) 5 := Or.inl ⟨by decide +kernel, ok_iload_n dm_123_4 rfl⟩
set_option maxRecDepth 100000 in
theorem vv_123_5 {l : Launch} (hl : l.stackTraces = false) : cj_V1 l 123 5 (54, 0, 0, []) 6 := Or.inl ⟨by decide +kernel, ok_iaload dm_123_5 rfl⟩
set_option maxRecDepth 100000 in
theorem vv_123_6 {l : Launch} (hl : l.stackTraces = false) : cj_V1 l 123 6 (0, 1, 0, []) 7 := Or.inl ⟨by decide +kernel, ok_iconst dm_123_6 (by decide +kernel)⟩
set_option maxRecDepth 100000 in
theorem vv_123_7 {l : Launch} (hl : l.stackTraces = false) : cj_V1 l 123 7 (11, 0, 0, []) 8 := Or.inl ⟨by decide +kernel, ok_isub dm_123_7⟩
set_option maxRecDepth 100000 in
theorem vv_123_8 {l : Launch} (hl : l.stackTraces = false) : cj_V1 l 123 8 (4, 2, 0, []) 9 := Or.inl ⟨by decide +kernel, ok_istore_n dm_123_8 rfl⟩
set_option maxRecDepth 100000 in
theorem vv_123_9 {l : Launch} (hl : l.stackTraces = false) : cj_V1 l 123 9 (2, 2, 0, []) 10 := Or.inl ⟨by decide +kernel, ok_iload_n dm_123_9 rfl⟩
set_option maxRecDepth 100000 in
theorem vv_123_10 {l : Launch} (hl : l.stackTraces = false) : cj_V1 l 123 10 (33, 25, 0, []) 13 := Or.inl ⟨by decide +kernel, ok_if_lt dm_123_10 (by decide +kernel)⟩
set_option maxRecDepth 100000 in
theorem vv_123_13 {l : Launch} (hl : l.stackTraces = false) : cj_V1 l 123 13 (3, 0, 0, []) 14 := Or.inl ⟨by decide +kernel, ok_aload_n dm_123_13 rfl⟩
set_option maxRecDepth 100000 in
theorem vv_123_14 {l : Launch} (hl : l.stackTraces = false) : cj_V1 l 123 14 (2, 1, 0, []) 15 := Or.inl ⟨by decide +kernel, ok_iload_n dm_123_14 rfl⟩
set_option maxRecDepth 100000 in
theorem vv_123_15 {l : Launch} (hl : l.stackTraces = false) : cj_V1 l 123 15 (2, 2, 0, []) 16 := Or.inl ⟨by decide +kernel, ok_iload_n dm_123_15 rfl⟩
set_option maxRecDepth 100000 in
theorem vv_123_16 {l : Launch} (hl : l.stackTraces = false) : cj_V1 l 123 16 (80, 97, 3, [7]) 19 := Or.inr (Or.inr (Or.inl ⟨by decide +kernel, by decide +kernel, rfl, vc_virtual (n := 2) (q := (RK_7, TK_7, 39)) mi_97 dm_123_16 (Or.inl wm_963) wm_965 wm_p35 rfl rfl (by decide +kernel) rfl (by decide +kernel) (by decide +kernel), (vx_none rfl)⟩))
set_option maxRecDepth 100000 in
theorem vv_123_19 {l : Launch} (hl : l.stackTraces = false) : cj_V1 l 123 19 (7, 2, 1, []) 22 := Or.inl ⟨by decide +kernel, ok_iinc7 dm_123_19 (by decide +kernel)⟩
set_option maxRecDepth 100000 in
theorem vv_123_22 {l : Launch} (hl : l.stackTraces = false) : cj_V1 l 123 22 (30, 9, 0, []) 25 := Or.inl ⟨by decide +kernel, ok_goto dm_123_22 (by decide +kernel)⟩
set_option maxRecDepth 100000 in
theorem vv_123_25 {l : Launch} (hl : l.stackTraces = false) : cj_V1 l 123 25 (0, 0, 0, []) 26 := Or.inl ⟨by decide +kernel, ok_iconst dm_123_25 (by decide +kernel)⟩
set_option maxRecDepth 100000 in
theorem vv_123_26 {l : Launch} (hl : l.stackTraces = false) : cj_V1 l 123 26 (4, 2, 0, []) 27 := Or.inl ⟨by decide +kernel, ok_istore_n dm_123_26 rfl⟩
set_option maxRecDepth 100000 in
theorem vv_123_27 {l : Launch} (hl : l.stackTraces = false) : cj_V1 l 123 27 (2, 2, 0, []) 28 := Or.inl ⟨by decide +kernel, ok_iload_n dm_123_27 rfl⟩
set_option maxRecDepth 100000 in
theorem vv_123_28 {l : Launch} (hl : l.stackTraces = false) : cj_V1 l 123 28 (0, 8, 0, []) 30 := Or.inl ⟨by decide +kernel, ok_bipush dm_123_28 (by decide +kernel)⟩
set_option maxRecDepth 100000 in
theorem vv_123_30 {l : Launch} (hl : l.stackTraces = false) : cj_V1 l 123 30 (40, 51, 0, []) 33 := Or.inl ⟨by decide +kernel, ok_icmp_ge dm_123_30 (by decide +kernel)⟩
set_option maxRecDepth 100000 in
theorem vv_123_33 {l : Launch} (hl : l.stackTraces = false) : cj_V1 l 123 33 (3, 0, 0, []) 34 := Or.inl ⟨by decide +kernel, ok_aload_n dm_123_33 rfl⟩
set_option maxRecDepth 100000 in
theorem vv_123_34 {l : Launch} (hl : l.stackTraces = false) : cj_V1 l 123 34 (50, 7, 26, []) 37 := Or.inl ⟨by decide +kernel, ok_getfield (N := 39) (C := RK_7) (T := TK_7) dm_123_34 rfl inK_7 (by decide +kernel) wm_759⟩
set_option maxRecDepth 100000 in
theorem vv_123_37 {l : Launch} (hl : l.stackTraces = false) : cj_V1 l 123 37 (0, 8, 0, []) 39 := Or.inl ⟨by decide +kernel, ok_bipush dm_123_37 (by decide +kernel)⟩
set_option maxRecDepth 100000 in
theorem vv_123_39 {l : Launch} (hl : l.stackTraces = false) : cj_V1 l 123 39 (2, 1, 0, []) 40 := Or.inl ⟨by decide +kernel, ok_iload_n dm_123_39 rfl⟩
set_option maxRecDepth 100000 in
theorem vv_123_40 {l : Launch} (hl : l.stackTraces = false) : cj_V1 l 123 40 (12, 0, 0, []) 41 := Or.inl ⟨by decide +kernel, ok_imul dm_123_40⟩
set_option maxRecDepth 100000 in
theorem vv_123_41 {l : Launch} (hl : l.stackTraces = false) : cj_V1 l 123 41 (2, 2, 0, []) 42 := Or.inl ⟨by decide +kernel, ok_iload_n dm_123_41 rfl⟩
set_option maxRecDepth 100000 in
theorem vv_123_42 {l : Launch} (hl : l.stackTraces = false) : cj_V1 l 123 42 (10, 0, 0, []) 43 := Or.inl ⟨by decide +kernel, ok_iadd dm_123_42⟩
set_option maxRecDepth 100000 in
theorem vv_123_43 {l : Launch} (hl : l.stackTraces = false) : cj_V1 l 123 43 (1, 1, 0, []) 44 := Or.inl ⟨by decide +kernel, ok_iconst_m dm_123_43 (by decide +kernel)⟩
set_option maxRecDepth 100000 in
theorem vv_123_44 {l : Launch} (hl : l.stackTraces = false) : cj_V1 l 123 44 (56, 0, 0, []) 45 := Or.inl ⟨by decide +kernel, ok_iastore dm_123_44 rfl⟩
set_option maxRecDepth 100000 in
theorem vv_123_45 {l : Launch} (hl : l.stackTraces = false) : cj_V1 l 123 45 (6, 2, 1, []) 48 := Or.inl ⟨by decide +kernel, ok_iinc6 dm_123_45 (by decide +kernel)⟩
set_option maxRecDepth 100000 in
theorem vv_123_48 {l : Launch} (hl : l.stackTraces = false) : cj_V1 l 123 48 (30, 27, 0, []) 51 := Or.inl ⟨by decide +kernel, ok_goto dm_123_48 (by decide +kernel)⟩
set_option maxRecDepth 100000 in
theorem vv_123_51 {l : Launch} (hl : l.stackTraces = false) : cj_V1 l 123 51 (0, 0, 0, []) 52 := Or.inl ⟨by decide +kernel, ok_iconst dm_123_51 (by decide +kernel)⟩
set_option maxRecDepth 100000 in
theorem vv_123_52 {l : Launch} (hl : l.stackTraces = false) : cj_V1 l 123 52 (4, 2, 0, []) 53 := Or.inl ⟨by decide +kernel, ok_istore_n dm_123_52 rfl⟩
set_option maxRecDepth 100000 in
theorem vv_123_53 {l : Launch} (hl : l.stackTraces = false) : cj_V1 l 123 53 (0, 0, 0, []) 54 := Or.inl ⟨by decide +kernel, ok_iconst dm_123_53 (by decide +kernel)⟩
set_option maxRecDepth 100000 in
theorem vv_123_54 {l : Launch} (hl : l.stackTraces = false) : cj_V1 l 123 54 (4, 3, 0, []) 55 := Or.inl ⟨by decide +kernel, ok_istore_n dm_123_54 rfl⟩
set_option maxRecDepth 100000 in
theorem vv_123_55 {l : Launch} (hl : l.stackTraces = false) : cj_V1 l 123 55 (2, 3, 0, []) 56 := Or.inl ⟨by decide +kernel, ok_iload_n dm_123_55 rfl⟩
set_option maxRecDepth 100000 in
theorem vv_123_56 {l : Launch} (hl : l.stackTraces = false) : cj_V1 l 123 56 (3, 0, 0, []) 57 := Or.inl ⟨by decide +kernel, ok_aload_n dm_123_56 rfl⟩
set_option maxRecDepth 100000 in
theorem vv_123_57 {l : Launch} (hl : l.stackTraces = false) : cj_V1 l 123 57 (50, 7, 32, []) 60 := Or.inl ⟨by decide +kernel, ok_getfield (N := 39) (C := RK_7) (T := TK_7) dm_123_57 rfl inK_7 (by decide +kernel) wm_765⟩
set_option maxRecDepth 100000 in
theorem vv_123_60 {l : Launch} (hl : l.stackTraces = false) : cj_V1 l 123 60 (2, 1, 0, []) 61 := Or.inl ⟨by decide +kernel, ok_iload_n dm_123_60 rfl⟩
set_option maxRecDepth 100000 in
theorem vv_123_61 {l : Launch} (hl : l.stackTraces = false) : cj_V1 l 123 61 (54, 0, 0, []) 62 := Or.inl ⟨by decide +kernel, ok_iaload dm_123_61 rfl⟩
set_option maxRecDepth 100000 in
theorem vv_123_62 {l : Launch} (hl : l.stackTraces = false) : cj_V1 l 123 62 (40, 188, 0, []) 65 := Or.inl ⟨by decide +kernel, ok_icmp_ge dm_123_62 (by decide +kernel)⟩
set_option maxRecDepth 100000 in
theorem vv_123_65 {l : Launch} (hl : l.stackTraces = false) : cj_V1 l 123 65 (6, 2, 1, []) 68 := Or.inl ⟨by decide +kernel, ok_iinc6 dm_123_65 (by decide +kernel)⟩
set_option maxRecDepth 100000 in
theorem vv_123_68 {l : Launch} (hl : l.stackTraces = false) : cj_V1 l 123 68 (0, 0, 0, []) 69 := Or.inl ⟨by decide +kernel, ok_iconst dm_123_68 (by decide +kernel)⟩
set_option maxRecDepth 100000 in
theorem vv_123_69 {l : Launch} (hl : l.stackTraces = false) : cj_V1 l 123 69 (4, 4, 0, []) 71 := Or.inl ⟨by decide +kernel, ok_istore dm_123_69⟩
set_option maxRecDepth 100000 in
theorem vv_123_71 {l : Launch} (hl : l.stackTraces = false) : cj_V1 l 123 71 (0, 900, 0, []) 74 := Or.inl ⟨by decide +kernel, ok_sipush dm_123_71 (by decide +kernel)⟩
set_option maxRecDepth 100000 in
theorem vv_123_74 {l : Launch} (hl : l.stackTraces = false) : cj_V1 l 123 74 (2, 1, 0, []) 75 := Or.inl ⟨by decide +kernel, ok_iload_n dm_123_74 rfl⟩
set_option maxRecDepth 100000 in
theorem vv_123_75 {l : Launch} (hl : l.stackTraces = false) : cj_V1 l 123 75 (12, 0, 0, []) 76 := Or.inl ⟨by decide +kernel, ok_imul dm_123_75⟩
set_option maxRecDepth 100000 in
theorem vv_123_76 {l : Launch} (hl : l.stackTraces = false) : cj_V1 l 123 76 (2, 3, 0, []) 77 := Or.inl ⟨by decide +kernel, ok_iload_n dm_123_76 rfl⟩
set_option maxRecDepth 100000 in
theorem vv_123_77 {l : Launch} (hl : l.stackTraces = false) : cj_V1 l 123 77 (10, 0, 0, []) 78 := Or.inl ⟨by decide +kernel, ok_iadd dm_123_77⟩
set_option maxRecDepth 100000 in
theorem vv_123_78 {l : Launch} (hl : l.stackTraces = false) : cj_V1 l 123 78 (4, 5, 0, []) 80 := Or.inl ⟨by decide +kernel, ok_istore dm_123_78⟩
set_option maxRecDepth 100000 in
theorem vv_123_80 {l : Launch} (hl : l.stackTraces = false) : cj_V1 l 123 80 (2, 5, 0, []) 82 := Or.inl ⟨by decide +kernel, ok_iload dm_123_80⟩
set_option maxRecDepth 100000 in
theorem vv_123_82 {l : Launch} (hl : l.stackTraces = false) : cj_V1 l 123 82 (0, 900, 0, []) 85 := Or.inl ⟨by decide +kernel, ok_sipush dm_123_82 (by decide +kernel)⟩
set_option maxRecDepth 100000 in
theorem vv_123_85 {l : Launch} (hl : l.stackTraces = false) : cj_V1 l 123 85 (2, 1, 0, []) 86 := Or.inl ⟨by decide +kernel, ok_iload_n dm_123_85 rfl⟩
set_option maxRecDepth 100000 in
theorem vv_123_86 {l : Launch} (hl : l.stackTraces = false) : cj_V1 l 123 86 (12, 0, 0, []) 87 := Or.inl ⟨by decide +kernel, ok_imul dm_123_86⟩
set_option maxRecDepth 100000 in
theorem vv_123_87 {l : Launch} (hl : l.stackTraces = false) : cj_V1 l 123 87 (2, 3, 0, []) 88 := Or.inl ⟨by decide +kernel, ok_iload_n dm_123_87 rfl⟩
set_option maxRecDepth 100000 in
theorem vv_123_88 {l : Launch} (hl : l.stackTraces = false) : cj_V1 l 123 88 (10, 0, 0, []) 89 := Or.inl ⟨by decide +kernel, ok_iadd dm_123_88⟩
set_option maxRecDepth 100000 in
theorem vv_123_89 {l : Launch} (hl : l.stackTraces = false) : cj_V1 l 123 89 (3, 0, 0, []) 90 := Or.inl ⟨by decide +kernel, ok_aload_n dm_123_89 rfl⟩
set_option maxRecDepth 100000 in
theorem vv_123_90 {l : Launch} (hl : l.stackTraces = false) : cj_V1 l 123 90 (50, 7, 22, []) 93 := Or.inl ⟨by decide +kernel, ok_getfield (N := 39) (C := RK_7) (T := TK_7) dm_123_90 rfl inK_7 (by decide +kernel) wm_755⟩
set_option maxRecDepth 100000 in
theorem vv_123_93 {l : Launch} (hl : l.stackTraces = false) : cj_V1 l 123 93 (2, 3, 0, []) 94 := Or.inl ⟨by decide +kernel, ok_iload_n dm_123_93 rfl⟩
set_option maxRecDepth 100000 in
theorem vv_123_94 {l : Launch} (hl : l.stackTraces = false) : cj_V1 l 123 94 (54, 0, 0, []) 95 := Or.inl ⟨by decide +kernel, ok_iaload dm_123_94 rfl⟩
set_option maxRecDepth 100000 in
theorem vv_123_95 {l : Launch} (hl : l.stackTraces = false) : cj_V1 l 123 95 (10, 0, 0, []) 96 := Or.inl ⟨by decide +kernel, ok_iadd dm_123_95⟩
set_option maxRecDepth 100000 in
theorem vv_123_96 {l : Launch} (hl : l.stackTraces = false) : cj_V1 l 123 96 (40, 176, 0, []) 99 := Or.inl ⟨by decide +kernel, ok_icmp_ge dm_123_96 (by decide +kernel)⟩
set_option maxRecDepth 100000 in
theorem vv_123_99 {l : Launch} (hl : l.stackTraces = false) : cj_V1 l 123 99 (3, 0, 0, []) 100 := Or.inl ⟨by decide +kernel, ok_aload_n dm_123_99 rfl⟩
set_option maxRecDepth 100000 in
theorem vv_123_100 {l : Launch} (hl : l.stackTraces = false) : cj_V1 l 123 100 (50, 7, 37, []) 103 := Or.inl ⟨by decide +kernel, ok_getfield (N := 39) (C := RK_7) (T := TK_7) dm_123_100 rfl inK_7 (by decide +kernel) wm_770⟩
set_option maxRecDepth 100000 in
theorem vv_123_103 {l : Launch} (hl : l.stackTraces = false) : cj_V1 l 123 103 (2, 5, 0, []) 105 := Or.inl ⟨by decide +kernel, ok_iload dm_123_103⟩
set_option maxRecDepth 100000 in
theorem vv_123_105 {l : Launch} (hl : l.stackTraces = false) : cj_V1 l 123 105 (2, 2, 0, []) 106 := Or.inl ⟨by decide +kernel, ok_iload_n dm_123_105 rfl⟩
set_option maxRecDepth 100000 in
theorem vv_123_106 {l : Launch} (hl : l.stackTraces = false) : cj_V1 l 123 106 (56, 0, 0, []) 107 := Or.inl ⟨by decide +kernel, ok_iastore dm_123_106 rfl⟩
set_option maxRecDepth 100000 in
theorem vv_123_107 {l : Launch} (hl : l.stackTraces = false) : cj_V1 l 123 107 (3, 0, 0, []) 108 := Or.inl ⟨by decide +kernel, ok_aload_n dm_123_107 rfl⟩
set_option maxRecDepth 100000 in
theorem vv_123_108 {l : Launch} (hl : l.stackTraces = false) : cj_V1 l 123 108 (50, 7, 38, []) 111 := Or.inl ⟨by decide +kernel, ok_getfield (N := 39) (C := RK_7) (T := TK_7) dm_123_108 rfl inK_7 (by decide +kernel) wm_771⟩
set_option maxRecDepth 100000 in
theorem vv_123_111 {l : Launch} (hl : l.stackTraces = false) : cj_V1 l 123 111 (2, 5, 0, []) 113 := Or.inl ⟨by decide +kernel, ok_iload dm_123_111⟩
set_option maxRecDepth 100000 in
theorem vv_123_113 {l : Launch} (hl : l.stackTraces = false) : cj_V1 l 123 113 (2, 4, 0, []) 115 := Or.inl ⟨by decide +kernel, ok_iload dm_123_113⟩
set_option maxRecDepth 100000 in
theorem vv_123_115 {l : Launch} (hl : l.stackTraces = false) : cj_V1 l 123 115 (56, 0, 0, []) 116 := Or.inl ⟨by decide +kernel, ok_iastore dm_123_115 rfl⟩
set_option maxRecDepth 100000 in
theorem vv_123_116 {l : Launch} (hl : l.stackTraces = false) : cj_V1 l 123 116 (2, 4, 0, []) 118 := Or.inl ⟨by decide +kernel, ok_iload dm_123_116⟩
set_option maxRecDepth 100000 in
theorem vv_123_118 {l : Launch} (hl : l.stackTraces = false) : cj_V1 l 123 118 (3, 0, 0, []) 119 := Or.inl ⟨by decide +kernel, ok_aload_n dm_123_118 rfl⟩
set_option maxRecDepth 100000 in
theorem vv_123_119 {l : Launch} (hl : l.stackTraces = false) : cj_V1 l 123 119 (2, 5, 0, []) 121 := Or.inl ⟨by decide +kernel, ok_iload dm_123_119⟩
set_option maxRecDepth 100000 in
theorem vv_123_121 {l : Launch} (hl : l.stackTraces = false) : cj_V1 l 123 121 (80, 48, 2, [7]) 124 := Or.inr (Or.inr (Or.inl ⟨by decide +kernel, by decide +kernel, rfl, vc_virtual (n := 1) (q := (RK_7, TK_7, 39)) mi_48 dm_123_121 (Or.inl wm_967) wm_969 wm_p36 rfl rfl (by decide +kernel) rfl (by decide +kernel) (by decide +kernel), (vx_none rfl)⟩))
set_option maxRecDepth 100000 in
theorem vv_123_124 {l : Launch} (hl : l.stackTraces = false) : cj_V1 l 123 124 (10, 0, 0, []) 125 := Or.inl ⟨by decide +kernel, ok_iadd dm_123_124⟩
set_option maxRecDepth 100000 in
theorem vv_123_125 {l : Launch} (hl : l.stackTraces = false) : cj_V1 l 123 125 (4, 4, 0, []) 127 := Or.inl ⟨by decide +kernel, ok_istore dm_123_125⟩
set_option maxRecDepth 100000 in
theorem vv_123_127 {l : Launch} (hl : l.stackTraces = false) : cj_V1 l 123 127 (0, 8, 0, []) 129 := Or.inl ⟨by decide +kernel, ok_bipush dm_123_127 (by decide +kernel)⟩
set_option maxRecDepth 100000 in
theorem vv_123_129 {l : Launch} (hl : l.stackTraces = false) : cj_V1 l 123 129 (2, 1, 0, []) 130 := Or.inl ⟨by decide +kernel, ok_iload_n dm_123_129 rfl⟩
set_option maxRecDepth 100000 in
theorem vv_123_130 {l : Launch} (hl : l.stackTraces = false) : cj_V1 l 123 130 (12, 0, 0, []) 131 := Or.inl ⟨by decide +kernel, ok_imul dm_123_130⟩
set_option maxRecDepth 100000 in
theorem vv_123_131 {l : Launch} (hl : l.stackTraces = false) : cj_V1 l 123 131 (3, 0, 0, []) 132 := Or.inl ⟨by decide +kernel, ok_aload_n dm_123_131 rfl⟩
set_option maxRecDepth 100000 in
theorem vv_123_132 {l : Launch} (hl : l.stackTraces = false) : cj_V1 l 123 132 (50, 7, 33, []) 135 := Or.inl ⟨by decide +kernel, ok_getfield (N := 39) (C := RK_7) (T := TK_7) dm_123_132 rfl inK_7 (by decide +kernel) wm_766⟩
set_option maxRecDepth 100000 in
theorem vv_123_135 {l : Launch} (hl : l.stackTraces = false) : cj_V1 l 123 135 (2, 5, 0, []) 137 := Or.inl ⟨by decide +kernel, ok_iload dm_123_135⟩
set_option maxRecDepth 100000 in
theorem vv_123_137 {l : Launch} (hl : l.stackTraces = false) : cj_V1 l 123 137 (54, 0, 0, []) 138 := Or.inl ⟨by decide +kernel, ok_iaload dm_123_137 rfl⟩
set_option maxRecDepth 100000 in
theorem vv_123_138 {l : Launch} (hl : l.stackTraces = false) : cj_V1 l 123 138 (10, 0, 0, []) 139 := Or.inl ⟨by decide +kernel, ok_iadd dm_123_138⟩
set_option maxRecDepth 100000 in
theorem vv_123_139 {l : Launch} (hl : l.stackTraces = false) : cj_V1 l 123 139 (4, 6, 0, []) 141 := Or.inl ⟨by decide +kernel, ok_istore dm_123_139⟩
set_option maxRecDepth 100000 in
theorem vv_123_141 {l : Launch} (hl : l.stackTraces = false) : cj_V1 l 123 141 (3, 0, 0, []) 142 := Or.inl ⟨by decide +kernel, ok_aload_n dm_123_141 rfl⟩
set_option maxRecDepth 100000 in
theorem vv_123_142 {l : Launch} (hl : l.stackTraces = false) : cj_V1 l 123 142 (50, 7, 26, []) 145 := Or.inl ⟨by decide +kernel, ok_getfield (N := 39) (C := RK_7) (T := TK_7) dm_123_142 rfl inK_7 (by decide +kernel) wm_759⟩
set_option maxRecDepth 100000 in
theorem vv_123_145 {l : Launch} (hl : l.stackTraces = false) : cj_V1 l 123 145 (2, 6, 0, []) 147 := Or.inl ⟨by decide +kernel, ok_iload dm_123_145⟩
set_option maxRecDepth 100000 in
theorem vv_123_147 {l : Launch} (hl : l.stackTraces = false) : cj_V1 l 123 147 (3, 0, 0, []) 148 := Or.inl ⟨by decide +kernel, ok_aload_n dm_123_147 rfl⟩
set_option maxRecDepth 100000 in
theorem vv_123_148 {l : Launch} (hl : l.stackTraces = false) : cj_V1 l 123 148 (50, 7, 26, []) 151 := Or.inl ⟨by decide +kernel, ok_getfield (N := 39) (C := RK_7) (T := TK_7) dm_123_148 rfl inK_7 (by decide +kernel) wm_759⟩
set_option maxRecDepth 100000 in
theorem vv_123_151 {l : Launch} (hl : l.stackTraces = false) : cj_V1 l 123 151 (2, 6, 0, []) 153 := Or.inl ⟨by decide +kernel, ok_iload dm_123_151⟩
set_option maxRecDepth 100000 in
theorem vv_123_153 {l : Launch} (hl : l.stackTraces = false) : cj_V1 l 123 153 (54, 0, 0, []) 154 := Or.inl ⟨by decide +kernel, ok_iaload dm_123_153 rfl⟩
set_option maxRecDepth 100000 in
theorem vv_123_154 {l : Launch} (hl : l.stackTraces = false) : cj_V1 l 123 154 (1, 1, 0, []) 155 := Or.inl ⟨by decide +kernel, ok_iconst_m dm_123_154 (by decide +kernel)⟩
set_option maxRecDepth 100000 in
theorem vv_123_155 {l : Launch} (hl : l.stackTraces = false) : cj_V1 l 123 155 (38, 162, 0, []) 158 := Or.inl ⟨by decide +kernel, ok_icmp_ne dm_123_155 (by decide +kernel)⟩
set_option maxRecDepth 100000 in
theorem vv_123_158 {l : Launch} (hl : l.stackTraces = false) : cj_V1 l 123 158 (2, 2, 0, []) 159 := Or.inl ⟨by decide +kernel, ok_iload_n dm_123_158 rfl⟩
set_option maxRecDepth 100000 in
theorem vv_123_159 {l : Launch} (hl : l.stackTraces = false) : cj_V1 l 123 159 (30, 169, 0, []) 162 := Or.inl ⟨by decide +kernel, ok_goto dm_123_159 (by decide +kernel)⟩
set_option maxRecDepth 100000 in
theorem vv_123_162 {l : Launch} (hl : l.stackTraces = false) : cj_V1 l 123 162 (3, 0, 0, []) 163 := Or.inl ⟨by decide +kernel, ok_aload_n dm_123_162 rfl⟩
set_option maxRecDepth 100000 in
theorem vv_123_163 {l : Launch} (hl : l.stackTraces = false) : cj_V1 l 123 163 (50, 7, 26, []) 166 := Or.inl ⟨by decide +kernel, ok_getfield (N := 39) (C := RK_7) (T := TK_7) dm_123_163 rfl inK_7 (by decide +kernel) wm_759⟩
set_option maxRecDepth 100000 in
theorem vv_123_166 {l : Launch} (hl : l.stackTraces = false) : cj_V1 l 123 166 (2, 6, 0, []) 168 := Or.inl ⟨by decide +kernel, ok_iload dm_123_166⟩
set_option maxRecDepth 100000 in
theorem vv_123_168 {l : Launch} (hl : l.stackTraces = false) : cj_V1 l 123 168 (54, 0, 0, []) 169 := Or.inl ⟨by decide +kernel, ok_iaload dm_123_168 rfl⟩
set_option maxRecDepth 100000 in
theorem vv_123_169 {l : Launch} (hl : l.stackTraces = false) : cj_V1 l 123 169 (56, 0, 0, []) 170 := Or.inl ⟨by decide +kernel, ok_iastore dm_123_169 rfl⟩
set_option maxRecDepth 100000 in
theorem vv_123_170 {l : Launch} (hl : l.stackTraces = false) : cj_V1 l 123 170 (6, 5, 1, []) 173 := Or.inl ⟨by decide +kernel, ok_iinc6 dm_123_170 (by decide +kernel)⟩
set_option maxRecDepth 100000 in
theorem vv_123_173 {l : Launch} (hl : l.stackTraces = false) : cj_V1 l 123 173 (30, 80, 0, []) 176 := Or.inl ⟨by decide +kernel, ok_goto dm_123_173 (by decide +kernel)⟩
set_option maxRecDepth 100000 in
theorem vv_123_176 {l : Launch} (hl : l.stackTraces = false) : cj_V1 l 123 176 (2, 3, 0, []) 177 := Or.inl ⟨by decide +kernel, ok_iload_n dm_123_176 rfl⟩
set_option maxRecDepth 100000 in
theorem vv_123_177 {l : Launch} (hl : l.stackTraces = false) : cj_V1 l 123 177 (3, 0, 0, []) 178 := Or.inl ⟨by decide +kernel, ok_aload_n dm_123_177 rfl⟩
set_option maxRecDepth 100000 in
theorem vv_123_178 {l : Launch} (hl : l.stackTraces = false) : cj_V1 l 123 178 (50, 7, 22, []) 181 := Or.inl ⟨by decide +kernel, ok_getfield (N := 39) (C := RK_7) (T := TK_7) dm_123_178 rfl inK_7 (by decide +kernel) wm_755⟩
set_option maxRecDepth 100000 in
theorem vv_123_181 {l : Launch} (hl : l.stackTraces = false) : cj_V1 l 123 181 (2, 3, 0, []) 182 := Or.inl ⟨by decide +kernel, ok_iload_n dm_123_181 rfl⟩
set_option maxRecDepth 100000 in
theorem vv_123_182 {l : Launch} (hl : l.stackTraces = false) : cj_V1 l 123 182 (54, 0, 0, []) 183 := Or.inl ⟨by decide +kernel, ok_iaload dm_123_182 rfl⟩
set_option maxRecDepth 100000 in
theorem vv_123_183 {l : Launch} (hl : l.stackTraces = false) : cj_V1 l 123 183 (10, 0, 0, []) 184 := Or.inl ⟨by decide +kernel, ok_iadd dm_123_183⟩
set_option maxRecDepth 100000 in
theorem vv_123_184 {l : Launch} (hl : l.stackTraces = false) : cj_V1 l 123 184 (4, 3, 0, []) 185 := Or.inl ⟨by decide +kernel, ok_istore_n dm_123_184 rfl⟩
set_option maxRecDepth 100000 in
theorem vv_123_185 {l : Launch} (hl : l.stackTraces = false) : cj_V1 l 123 185 (30, 55, 0, []) 188 := Or.inl ⟨by decide +kernel, ok_goto dm_123_185 (by decide +kernel)⟩
set_option maxRecDepth 100000 in
theorem vv_123_188 {l : Launch} (hl : l.stackTraces = false) : cj_V1 l 123 188 (3, 0, 0, []) 189 := Or.inl ⟨by decide +kernel, ok_aload_n dm_123_188 rfl⟩
set_option maxRecDepth 100000 in
theorem vv_123_189 {l : Launch} (hl : l.stackTraces = false) : cj_V1 l 123 189 (50, 7, 25, []) 192 := Or.inl ⟨by decide +kernel, ok_getfield (N := 39) (C := RK_7) (T := TK_7) dm_123_189 rfl inK_7 (by decide +kernel) wm_758⟩
set_option maxRecDepth 100000 in
theorem vv_123_192 {l : Launch} (hl : l.stackTraces = false) : cj_V1 l 123 192 (0, 5, 0, []) 193 := Or.inl ⟨by decide +kernel, ok_iconst dm_123_192 (by decide +kernel)⟩
set_option maxRecDepth 100000 in
theorem vv_123_193 {l : Launch} (hl : l.stackTraces = false) : cj_V1 l 123 193 (2, 1, 0, []) 194 := Or.inl ⟨by decide +kernel, ok_iload_n dm_123_193 rfl⟩
set_option maxRecDepth 100000 in
theorem vv_123_194 {l : Launch} (hl : l.stackTraces = false) : cj_V1 l 123 194 (12, 0, 0, []) 195 := Or.inl ⟨by decide +kernel, ok_imul dm_123_194⟩
set_option maxRecDepth 100000 in
theorem vv_123_195 {l : Launch} (hl : l.stackTraces = false) : cj_V1 l 123 195 (2, 2, 0, []) 196 := Or.inl ⟨by decide +kernel, ok_iload_n dm_123_195 rfl⟩
set_option maxRecDepth 100000 in
theorem vv_123_196 {l : Launch} (hl : l.stackTraces = false) : cj_V1 l 123 196 (56, 0, 0, []) 197 := Or.inl ⟨by decide +kernel, ok_iastore dm_123_196 rfl⟩
set_option maxRecDepth 100000 in
theorem vv_123_197 {l : Launch} (hl : l.stackTraces = false) : cj_V1 l 123 197 (3, 0, 0, []) 198 := Or.inl ⟨by decide +kernel, ok_aload_n dm_123_197 rfl⟩
set_option maxRecDepth 100000 in
theorem vv_123_198 {l : Launch} (hl : l.stackTraces = false) : cj_V1 l 123 198 (50, 7, 25, []) 201 := Or.inl ⟨by decide +kernel, ok_getfield (N := 39) (C := RK_7) (T := TK_7) dm_123_198 rfl inK_7 (by decide +kernel) wm_758⟩
set_option maxRecDepth 100000 in
theorem vv_123_201 {l : Launch} (hl : l.stackTraces = false) : cj_V1 l 123 201 (0, 5, 0, []) 202 := Or.inl ⟨by decide +kernel, ok_iconst dm_123_201 (by decide +kernel)⟩
set_option maxRecDepth 100000 in
theorem vv_123_202 {l : Launch} (hl : l.stackTraces = false) : cj_V1 l 123 202 (2, 1, 0, []) 203 := Or.inl ⟨by decide +kernel, ok_iload_n dm_123_202 rfl⟩
set_option maxRecDepth 100000 in
theorem vv_123_203 {l : Launch} (hl : l.stackTraces = false) : cj_V1 l 123 203 (12, 0, 0, []) 204 := Or.inl ⟨by decide +kernel, ok_imul dm_123_203⟩
set_option maxRecDepth 100000 in
theorem vv_123_204 {l : Launch} (hl : l.stackTraces = false) : cj_V1 l 123 204 (0, 4, 0, []) 205 := Or.inl ⟨by decide +kernel, ok_iconst dm_123_204 (by decide +kernel)⟩
set_option maxRecDepth 100000 in
theorem vv_123_205 {l : Launch} (hl : l.stackTraces = false) : cj_V1 l 123 205 (10, 0, 0, []) 206 := Or.inl ⟨by decide +kernel, ok_iadd dm_123_205⟩
set_option maxRecDepth 100000 in
theorem vv_123_206 {l : Launch} (hl : l.stackTraces = false) : cj_V1 l 123 206 (3, 0, 0, []) 207 := Or.inl ⟨by decide +kernel, ok_aload_n dm_123_206 rfl⟩
set_option maxRecDepth 100000 in
theorem vv_123_207 {l : Launch} (hl : l.stackTraces = false) : cj_V1 l 123 207 (50, 7, 32, []) 210 := Or.inl ⟨by decide +kernel, ok_getfield (N := 39) (C := RK_7) (T := TK_7) dm_123_207 rfl inK_7 (by decide +kernel) wm_765⟩
set_option maxRecDepth 100000 in
theorem vv_123_210 {l : Launch} (hl : l.stackTraces = false) : cj_V1 l 123 210 (2, 1, 0, []) 211 := Or.inl ⟨by decide +kernel, ok_iload_n dm_123_210 rfl⟩
set_option maxRecDepth 100000 in
theorem vv_123_211 {l : Launch} (hl : l.stackTraces = false) : cj_V1 l 123 211 (54, 0, 0, []) 212 := Or.inl ⟨by decide +kernel, ok_iaload dm_123_211 rfl⟩
set_option maxRecDepth 100000 in
theorem vv_123_212 {l : Launch} (hl : l.stackTraces = false) : cj_V1 l 123 212 (32, 219, 0, []) 215 := Or.inl ⟨by decide +kernel, ok_if_ne dm_123_212 (by decide +kernel)⟩
set_option maxRecDepth 100000 in
theorem vv_123_215 {l : Launch} (hl : l.stackTraces = false) : cj_V1 l 123 215 (0, 0, 0, []) 216 := Or.inl ⟨by decide +kernel, ok_iconst dm_123_215 (by decide +kernel)⟩
set_option maxRecDepth 100000 in
theorem vv_123_216 {l : Launch} (hl : l.stackTraces = false) : cj_V1 l 123 216 (30, 225, 0, []) 219 := Or.inl ⟨by decide +kernel, ok_goto dm_123_216 (by decide +kernel)⟩
set_option maxRecDepth 100000 in
theorem vv_123_219 {l : Launch} (hl : l.stackTraces = false) : cj_V1 l 123 219 (3, 0, 0, []) 220 := Or.inl ⟨by decide +kernel, ok_aload_n dm_123_219 rfl⟩
set_option maxRecDepth 100000 in
theorem vv_123_220 {l : Launch} (hl : l.stackTraces = false) : cj_V1 l 123 220 (50, 7, 21, []) 223 := Or.inl ⟨by decide +kernel, ok_getfield (N := 39) (C := RK_7) (T := TK_7) dm_123_220 rfl inK_7 (by decide +kernel) wm_754⟩
set_option maxRecDepth 100000 in
theorem vv_123_223 {l : Launch} (hl : l.stackTraces = false) : cj_V1 l 123 223 (0, 0, 0, []) 224 := Or.inl ⟨by decide +kernel, ok_iconst dm_123_223 (by decide +kernel)⟩
set_option maxRecDepth 100000 in
theorem vv_123_224 {l : Launch} (hl : l.stackTraces = false) : cj_V1 l 123 224 (54, 0, 0, []) 225 := Or.inl ⟨by decide +kernel, ok_iaload dm_123_224 rfl⟩
set_option maxRecDepth 100000 in
theorem vv_123_225 {l : Launch} (hl : l.stackTraces = false) : cj_V1 l 123 225 (56, 0, 0, []) 226 := Or.inl ⟨by decide +kernel, ok_iastore dm_123_225 rfl⟩
set_option maxRecDepth 100000 in
theorem vv_123_226 {l : Launch} (hl : l.stackTraces = false) : cj_V1 l 123 226 (91, 0, 0, []) 227 := Or.inr (Or.inl ⟨by decide +kernel, Or.inl (Or.inr (Or.inl ⟨rfl, dm_123_226, rfl⟩))⟩)
set_option maxRecDepth 100000 in
theorem vm_123 {l : Launch} (hl : l.stackTraces = false) : cj_Vm l 123 := cj_Vm_of (r := kc123_) rfl ⟨vv_123_0 hl, vv_123_1 hl, vv_123_4 hl, vv_123_5 hl, vv_123_6 hl, vv_123_7 hl, vv_123_8 hl, vv_123_9 hl, vv_123_10 hl, vv_123_13 hl, vv_123_14 hl, vv_123_15 hl, vv_123_16 hl, vv_123_19 hl, vv_123_22 hl, vv_123_25 hl, vv_123_26 hl, vv_123_27 hl, vv_123_28 hl, vv_123_30 hl, vv_123_33 hl, vv_123_34 hl, vv_123_37 hl, vv_123_39 hl, vv_123_40 hl, vv_123_41 hl, vv_123_42 hl, vv_123_43 hl, vv_123_44 hl, vv_123_45 hl, vv_123_48 hl, vv_123_51 hl, vv_123_52 hl, vv_123_53 hl, vv_123_54 hl, vv_123_55 hl, vv_123_56 hl, vv_123_57 hl, vv_123_60 hl, vv_123_61 hl, vv_123_62 hl, vv_123_65 hl, vv_123_68 hl, vv_123_69 hl, vv_123_71 hl, vv_123_74 hl, vv_123_75 hl, vv_123_76 hl, vv_123_77 hl, vv_123_78 hl, vv_123_80 hl, vv_123_82 hl, vv_123_85 hl, vv_123_86 hl, vv_123_87 hl, vv_123_88 hl, vv_123_89 hl, vv_123_90 hl, vv_123_93 hl, vv_123_94 hl, vv_123_95 hl, vv_123_96 hl, vv_123_99 hl, vv_123_100 hl, vv_123_103 hl, vv_123_105 hl, vv_123_106 hl, vv_123_107 hl, vv_123_108 hl, vv_123_111 hl, vv_123_113 hl, vv_123_115 hl, vv_123_116 hl, vv_123_118 hl, vv_123_119 hl, vv_123_121 hl, vv_123_124 hl, vv_123_125 hl, vv_123_127 hl, vv_123_129 hl, vv_123_130 hl, vv_123_131 hl, vv_123_132 hl, vv_123_135 hl, vv_123_137 hl, vv_123_138 hl, vv_123_139 hl, vv_123_141 hl, vv_123_142 hl, vv_123_145 hl, vv_123_147 hl, vv_123_148 hl, vv_123_151 hl, vv_123_153 hl, vv_123_154 hl, vv_123_155 hl, vv_123_158 hl, vv_123_159 hl, vv_123_162 hl, vv_123_163 hl, vv_123_166 hl, vv_123_168 hl, vv_123_169 hl, vv_123_170 hl, vv_123_173 hl, vv_123_176 hl, vv_123_177 hl, vv_123_178 hl, vv_123_181 hl, vv_123_182 hl, vv_123_183 hl, vv_123_184 hl, vv_123_185 hl, vv_123_188 hl, vv_123_189 hl, vv_123_192 hl, vv_123_193 hl, vv_123_194 hl, vv_123_195 hl, vv_123_196 hl, vv_123_197 hl, vv_123_198 hl, vv_123_201 hl, vv_123_202 hl, vv_123_203 hl, vv_123_204 hl, vv_123_205 hl, vv_123_206 hl, vv_123_207 hl, vv_123_210 hl, vv_123_211 hl, vv_123_212 hl, vv_123_215 hl, vv_123_216 hl, vv_123_219 hl, vv_123_220 hl, vv_123_223 hl, vv_123_224 hl, vv_123_225 hl, vv_123_226 hl, trivial⟩
set_option maxRecDepth 100000 in
theorem vv_124_0 {l : Launch} (hl : l.stackTraces = false) : cj_V1 l 124 0 (3, 0, 0, []) 1 := Or.inl ⟨by decide +kernel, ok_aload_n dm_124_0 rfl⟩
set_option maxRecDepth 100000 in
theorem vv_124_1 {l : Launch} (hl : l.stackTraces = false) : cj_V1 l 124 1 (83, 0, 0, []) 4 := Or.inl ⟨by decide +kernel, ok_objInit dm_124_1 wm_21 wm_22 wm_23 (by decide +kernel) (by decide +kernel)⟩
set_option maxRecDepth 100000 in
theorem vv_124_4 {l : Launch} (hl : l.stackTraces = false) : cj_V1 l 124 4 (3, 0, 0, []) 5 := Or.inl ⟨by decide +kernel, ok_aload_n dm_124_4 rfl⟩
set_option maxRecDepth 100000 in
theorem vv_124_5 {l : Launch} (hl : l.stackTraces = false) : cj_V1 l 124 5 (0, 3, 0, []) 6 := Or.inl ⟨by decide +kernel, ok_iconst dm_124_5 (by decide +kernel)⟩
set_option maxRecDepth 100000 in
theorem vv_124_6 {l : Launch} (hl : l.stackTraces = false) : cj_V1 l 124 6 (0, 30, 0, []) 8 := Or.inl ⟨by decide +kernel, ok_bipush dm_124_6 (by decide +kernel)⟩
set_option maxRecDepth 100000 in
theorem vv_124_8 {l : Launch} (hl : l.stackTraces = false) : cj_V1 l 124 8 (2, 2, 0, []) 9 := Or.inl ⟨by decide +kernel, ok_iload_n dm_124_8 rfl⟩
set_option maxRecDepth 100000 in
theorem vv_124_9 {l : Launch} (hl : l.stackTraces = false) : cj_V1 l 124 9 (85, 0, 0, []) 12 := Or.inl ⟨by decide +kernel, ok_min dm_124_9 wm_24 wm_25 wm_2 wm_26 (by decide +kernel) (by decide +kernel)⟩
set_option maxRecDepth 100000 in
theorem vv_124_12 {l : Launch} (hl : l.stackTraces = false) : cj_V1 l 124 12 (84, 0, 0, []) 15 := Or.inl ⟨by decide +kernel, ok_max dm_124_12 wm_27 wm_28 wm_2 wm_29 (by decide +kernel) (by decide +kernel)⟩
set_option maxRecDepth 100000 in
theorem vv_124_15 {l : Launch} (hl : l.stackTraces = false) : cj_V1 l 124 15 (51, 0, 0, [0]) 18 := Or.inl ⟨by decide +kernel, ok_putfield (N := 11) (C := RK_0) (T := TK_0) (ty0 := tyK_0) dm_124_15 rfl inK_0 (by decide +kernel) wm_177 tyK_0_ok nmK_0 (Or.inr ⟨rfl, rfl, rfl⟩) (Or.inl ⟨rfl, rfl⟩)⟩
set_option maxRecDepth 100000 in
theorem vv_124_18 {l : Launch} (hl : l.stackTraces = false) : cj_V1 l 124 18 (3, 0, 0, []) 19 := Or.inl ⟨by decide +kernel, ok_aload_n dm_124_18 rfl⟩
set_option maxRecDepth 100000 in
theorem vv_124_19 {l : Launch} (hl : l.stackTraces = false) : cj_V1 l 124 19 (70, 6, 2, [2, 0]) 22 := Or.inl ⟨by decide +kernel, ok_new (N := 2) (C := RK_6) (T := TK_6) (ty0 := tyK_6) dm_124_19 rfl inK_6 wm_30 wm_31 wm_3 rfl rfl tyK_6_ok (by decide +kernel)⟩
set_option maxRecDepth 100000 in
theorem vv_124_22 {l : Launch} (hl : l.stackTraces = false) : cj_V1 l 124 22 (25, 0, 0, []) 23 := Or.inl ⟨by decide +kernel, ok_dup dm_124_22⟩
set_option maxRecDepth 100000 in
theorem vv_124_23 {l : Launch} (hl : l.stackTraces = false) : cj_V1 l 124 23 (0, 32, 0, []) 25 := Or.inl ⟨by decide +kernel, ok_bipush dm_124_23 (by decide +kernel)⟩
set_option maxRecDepth 100000 in
theorem vv_124_25 {l : Launch} (hl : l.stackTraces = false) : cj_V1 l 124 25 (82, 34, 2, []) 28 := Or.inr (Or.inr (Or.inl ⟨by decide +kernel, by decide +kernel, rfl, vc_special (n := 1) mi_34 rfl rfl dm_124_25 (Or.inl wm_32) wm_33 (by decide +kernel) rfl (by decide +kernel) (by decide +kernel), (vx_none rfl)⟩))
set_option maxRecDepth 100000 in
theorem vv_124_28 {l : Launch} (hl : l.stackTraces = false) : cj_V1 l 124 28 (51, 0, 1, [2]) 31 := Or.inl ⟨by decide +kernel, ok_putfield (N := 11) (C := RK_0) (T := TK_0) (ty0 := tyK_0) dm_124_28 rfl inK_0 (by decide +kernel) wm_178 tyK_0_ok nmK_0 (Or.inr ⟨rfl, rfl, rfl⟩) (Or.inr (Or.inr (Or.inl ⟨rfl, Or.inl ⟨_, rfl⟩⟩)))⟩
set_option maxRecDepth 100000 in
theorem vv_124_31 {l : Launch} (hl : l.stackTraces = false) : cj_V1 l 124 31 (3, 0, 0, []) 32 := Or.inl ⟨by decide +kernel, ok_aload_n dm_124_31 rfl⟩
set_option maxRecDepth 100000 in
theorem vv_124_32 {l : Launch} (hl : l.stackTraces = false) : cj_V1 l 124 32 (70, 6, 2, [2, 0]) 35 := Or.inl ⟨by decide +kernel, ok_new (N := 2) (C := RK_6) (T := TK_6) (ty0 := tyK_6) dm_124_32 rfl inK_6 wm_30 wm_31 wm_3 rfl rfl tyK_6_ok (by decide +kernel)⟩
set_option maxRecDepth 100000 in
theorem vv_124_35 {l : Launch} (hl : l.stackTraces = false) : cj_V1 l 124 35 (25, 0, 0, []) 36 := Or.inl ⟨by decide +kernel, ok_dup dm_124_35⟩
set_option maxRecDepth 100000 in
theorem vv_124_36 {l : Launch} (hl : l.stackTraces = false) : cj_V1 l 124 36 (0, 26, 0, []) 38 := Or.inl ⟨by decide +kernel, ok_bipush dm_124_36 (by decide +kernel)⟩
set_option maxRecDepth 100000 in
theorem vv_124_38 {l : Launch} (hl : l.stackTraces = false) : cj_V1 l 124 38 (82, 34, 2, []) 41 := Or.inr (Or.inr (Or.inl ⟨by decide +kernel, by decide +kernel, rfl, vc_special (n := 1) mi_34 rfl rfl dm_124_38 (Or.inl wm_32) wm_33 (by decide +kernel) rfl (by decide +kernel) (by decide +kernel), (vx_none rfl)⟩))
set_option maxRecDepth 100000 in
theorem vv_124_41 {l : Launch} (hl : l.stackTraces = false) : cj_V1 l 124 41 (51, 0, 2, [2]) 44 := Or.inl ⟨by decide +kernel, ok_putfield (N := 11) (C := RK_0) (T := TK_0) (ty0 := tyK_0) dm_124_41 rfl inK_0 (by decide +kernel) wm_179 tyK_0_ok nmK_0 (Or.inr ⟨rfl, rfl, rfl⟩) (Or.inr (Or.inr (Or.inl ⟨rfl, Or.inl ⟨_, rfl⟩⟩)))⟩
set_option maxRecDepth 100000 in
theorem vv_124_44 {l : Launch} (hl : l.stackTraces = false) : cj_V1 l 124 44 (3, 0, 0, []) 45 := Or.inl ⟨by decide +kernel, ok_aload_n dm_124_44 rfl⟩
set_option maxRecDepth 100000 in
theorem vv_124_45 {l : Launch} (hl : l.stackTraces = false) : cj_V1 l 124 45 (0, 6, 0, []) 47 := Or.inl ⟨by decide +kernel, ok_bipush dm_124_45 (by decide +kernel)⟩
set_option maxRecDepth 100000 in
theorem vv_124_47 {l : Launch} (hl : l.stackTraces = false) : cj_V1 l 124 47 (73, 3, 0, []) 50 := Or.inl ⟨by decide +kernel, ok_anewarray (C := "CatalogueSet$Signs") dm_124_47 wm_30 wm_45 rfl⟩
set_option maxRecDepth 100000 in
theorem vv_124_50 {l : Launch} (hl : l.stackTraces = false) : cj_V1 l 124 50 (51, 0, 3, [2]) 53 := Or.inl ⟨by decide +kernel, ok_putfield (N := 11) (C := RK_0) (T := TK_0) (ty0 := tyK_0) dm_124_50 rfl inK_0 (by decide +kernel) wm_180 tyK_0_ok nmK_0 (Or.inr ⟨rfl, rfl, rfl⟩) (Or.inr (Or.inr (Or.inl ⟨rfl, Or.inr ⟨_, rfl⟩⟩)))⟩
set_option maxRecDepth 100000 in
theorem vv_124_53 {l : Launch} (hl : l.stackTraces = false) : cj_V1 l 124 53 (0, 0, 0, []) 54 := Or.inl ⟨by decide +kernel, ok_iconst dm_124_53 (by decide +kernel)⟩
set_option maxRecDepth 100000 in
theorem vv_124_54 {l : Launch} (hl : l.stackTraces = false) : cj_V1 l 124 54 (4, 3, 0, []) 55 := Or.inl ⟨by decide +kernel, ok_istore_n dm_124_54 rfl⟩
set_option maxRecDepth 100000 in
theorem vv_124_55 {l : Launch} (hl : l.stackTraces = false) : cj_V1 l 124 55 (2, 3, 0, []) 56 := Or.inl ⟨by decide +kernel, ok_iload_n dm_124_55 rfl⟩
set_option maxRecDepth 100000 in
theorem vv_124_56 {l : Launch} (hl : l.stackTraces = false) : cj_V1 l 124 56 (0, 6, 0, []) 58 := Or.inl ⟨by decide +kernel, ok_bipush dm_124_56 (by decide +kernel)⟩
set_option maxRecDepth 100000 in
theorem vv_124_58 {l : Launch} (hl : l.stackTraces = false) : cj_V1 l 124 58 (40, 82, 0, []) 61 := Or.inl ⟨by decide +kernel, ok_icmp_ge dm_124_58 (by decide +kernel)⟩
set_option maxRecDepth 100000 in
theorem vv_124_61 {l : Launch} (hl : l.stackTraces = false) : cj_V1 l 124 61 (3, 0, 0, []) 62 := Or.inl ⟨by decide +kernel, ok_aload_n dm_124_61 rfl⟩
set_option maxRecDepth 100000 in
theorem vv_124_62 {l : Launch} (hl : l.stackTraces = false) : cj_V1 l 124 62 (50, 0, 3, []) 65 := Or.inl ⟨by decide +kernel, ok_getfield (N := 11) (C := RK_0) (T := TK_0) dm_124_62 rfl inK_0 (by decide +kernel) wm_180⟩
set_option maxRecDepth 100000 in
theorem vv_124_65 {l : Launch} (hl : l.stackTraces = false) : cj_V1 l 124 65 (2, 3, 0, []) 66 := Or.inl ⟨by decide +kernel, ok_iload_n dm_124_65 rfl⟩
set_option maxRecDepth 100000 in
theorem vv_124_66 {l : Launch} (hl : l.stackTraces = false) : cj_V1 l 124 66 (70, 6, 2, [2, 0]) 69 := Or.inl ⟨by decide +kernel, ok_new (N := 2) (C := RK_6) (T := TK_6) (ty0 := tyK_6) dm_124_66 rfl inK_6 wm_30 wm_31 wm_3 rfl rfl tyK_6_ok (by decide +kernel)⟩
set_option maxRecDepth 100000 in
theorem vv_124_69 {l : Launch} (hl : l.stackTraces = false) : cj_V1 l 124 69 (25, 0, 0, []) 70 := Or.inl ⟨by decide +kernel, ok_dup dm_124_69⟩
set_option maxRecDepth 100000 in
theorem vv_124_70 {l : Launch} (hl : l.stackTraces = false) : cj_V1 l 124 70 (0, 32, 0, []) 72 := Or.inl ⟨by decide +kernel, ok_bipush dm_124_70 (by decide +kernel)⟩
set_option maxRecDepth 100000 in
theorem vv_124_72 {l : Launch} (hl : l.stackTraces = false) : cj_V1 l 124 72 (82, 34, 2, []) 75 := Or.inr (Or.inr (Or.inl ⟨by decide +kernel, by decide +kernel, rfl, vc_special (n := 1) mi_34 rfl rfl dm_124_72 (Or.inl wm_32) wm_33 (by decide +kernel) rfl (by decide +kernel) (by decide +kernel), (vx_none rfl)⟩))
set_option maxRecDepth 100000 in
theorem vv_124_75 {l : Launch} (hl : l.stackTraces = false) : cj_V1 l 124 75 (60, 6, 3, []) 76 := Or.inl ⟨by decide +kernel, ok_aastore (q1 := (RK_6, TK_6, 2)) dm_124_75 rfl rfl⟩
set_option maxRecDepth 100000 in
theorem vv_124_76 {l : Launch} (hl : l.stackTraces = false) : cj_V1 l 124 76 (6, 3, 1, []) 79 := Or.inl ⟨by decide +kernel, ok_iinc6 dm_124_76 (by decide +kernel)⟩
set_option maxRecDepth 100000 in
theorem vv_124_79 {l : Launch} (hl : l.stackTraces = false) : cj_V1 l 124 79 (30, 55, 0, []) 82 := Or.inl ⟨by decide +kernel, ok_goto dm_124_79 (by decide +kernel)⟩
set_option maxRecDepth 100000 in
theorem vv_124_82 {l : Launch} (hl : l.stackTraces = false) : cj_V1 l 124 82 (3, 0, 0, []) 83 := Or.inl ⟨by decide +kernel, ok_aload_n dm_124_82 rfl⟩
set_option maxRecDepth 100000 in
theorem vv_124_83 {l : Launch} (hl : l.stackTraces = false) : cj_V1 l 124 83 (0, 8, 0, []) 85 := Or.inl ⟨by decide +kernel, ok_bipush dm_124_83 (by decide +kernel)⟩
set_option maxRecDepth 100000 in
theorem vv_124_85 {l : Launch} (hl : l.stackTraces = false) : cj_V1 l 124 85 (73, 4, 0, []) 88 := Or.inl ⟨by decide +kernel, ok_anewarray (C := "CatalogueSet$Entry") dm_124_85 wm_46 wm_47 rfl⟩
set_option maxRecDepth 100000 in
theorem vv_124_88 {l : Launch} (hl : l.stackTraces = false) : cj_V1 l 124 88 (51, 0, 4, [2]) 91 := Or.inl ⟨by decide +kernel, ok_putfield (N := 11) (C := RK_0) (T := TK_0) (ty0 := tyK_0) dm_124_88 rfl inK_0 (by decide +kernel) wm_181 tyK_0_ok nmK_0 (Or.inr ⟨rfl, rfl, rfl⟩) (Or.inr (Or.inr (Or.inl ⟨rfl, Or.inr ⟨_, rfl⟩⟩)))⟩
set_option maxRecDepth 100000 in
theorem vv_124_91 {l : Launch} (hl : l.stackTraces = false) : cj_V1 l 124 91 (0, 0, 0, []) 92 := Or.inl ⟨by decide +kernel, ok_iconst dm_124_91 (by decide +kernel)⟩
set_option maxRecDepth 100000 in
theorem vv_124_92 {l : Launch} (hl : l.stackTraces = false) : cj_V1 l 124 92 (4, 3, 0, []) 93 := Or.inl ⟨by decide +kernel, ok_istore_n dm_124_92 rfl⟩
set_option maxRecDepth 100000 in
theorem vv_124_93 {l : Launch} (hl : l.stackTraces = false) : cj_V1 l 124 93 (2, 3, 0, []) 94 := Or.inl ⟨by decide +kernel, ok_iload_n dm_124_93 rfl⟩
set_option maxRecDepth 100000 in
theorem vv_124_94 {l : Launch} (hl : l.stackTraces = false) : cj_V1 l 124 94 (0, 8, 0, []) 96 := Or.inl ⟨by decide +kernel, ok_bipush dm_124_94 (by decide +kernel)⟩
set_option maxRecDepth 100000 in
theorem vv_124_96 {l : Launch} (hl : l.stackTraces = false) : cj_V1 l 124 96 (40, 118, 0, []) 99 := Or.inl ⟨by decide +kernel, ok_icmp_ge dm_124_96 (by decide +kernel)⟩
set_option maxRecDepth 100000 in
theorem vv_124_99 {l : Launch} (hl : l.stackTraces = false) : cj_V1 l 124 99 (3, 0, 0, []) 100 := Or.inl ⟨by decide +kernel, ok_aload_n dm_124_99 rfl⟩
set_option maxRecDepth 100000 in
theorem vv_124_100 {l : Launch} (hl : l.stackTraces = false) : cj_V1 l 124 100 (50, 0, 4, []) 103 := Or.inl ⟨by decide +kernel, ok_getfield (N := 11) (C := RK_0) (T := TK_0) dm_124_100 rfl inK_0 (by decide +kernel) wm_181⟩
set_option maxRecDepth 100000 in
theorem vv_124_103 {l : Launch} (hl : l.stackTraces = false) : cj_V1 l 124 103 (2, 3, 0, []) 104 := Or.inl ⟨by decide +kernel, ok_iload_n dm_124_103 rfl⟩
set_option maxRecDepth 100000 in
theorem vv_124_104 {l : Launch} (hl : l.stackTraces = false) : cj_V1 l 124 104 (70, 2, 4, [2, 2, 2, 0]) 107 := Or.inl ⟨by decide +kernel, ok_new (N := 4) (C := RK_2) (T := TK_2) (ty0 := tyK_2) dm_124_104 rfl inK_2 wm_46 wm_48 wm_4 rfl rfl tyK_2_ok (by decide +kernel)⟩
set_option maxRecDepth 100000 in
theorem vv_124_107 {l : Launch} (hl : l.stackTraces = false) : cj_V1 l 124 107 (25, 0, 0, []) 108 := Or.inl ⟨by decide +kernel, ok_dup dm_124_107⟩
set_option maxRecDepth 100000 in
theorem vv_124_108 {l : Launch} (hl : l.stackTraces = false) : cj_V1 l 124 108 (82, 74, 1, []) 111 := Or.inr (Or.inr (Or.inl ⟨by decide +kernel, by decide +kernel, rfl, vc_special (n := 0) mi_74 rfl rfl dm_124_108 (Or.inl wm_49) wm_50 (by decide +kernel) rfl (by decide +kernel) (by decide +kernel), (vx_none rfl)⟩))
set_option maxRecDepth 100000 in
theorem vv_124_111 {l : Launch} (hl : l.stackTraces = false) : cj_V1 l 124 111 (60, 2, 4, []) 112 := Or.inl ⟨by decide +kernel, ok_aastore (q1 := (RK_2, TK_2, 4)) dm_124_111 rfl rfl⟩
set_option maxRecDepth 100000 in
theorem vv_124_112 {l : Launch} (hl : l.stackTraces = false) : cj_V1 l 124 112 (6, 3, 1, []) 115 := Or.inl ⟨by decide +kernel, ok_iinc6 dm_124_112 (by decide +kernel)⟩
set_option maxRecDepth 100000 in
theorem vv_124_115 {l : Launch} (hl : l.stackTraces = false) : cj_V1 l 124 115 (30, 93, 0, []) 118 := Or.inl ⟨by decide +kernel, ok_goto dm_124_115 (by decide +kernel)⟩
set_option maxRecDepth 100000 in
theorem vv_124_118 {l : Launch} (hl : l.stackTraces = false) : cj_V1 l 124 118 (3, 0, 0, []) 119 := Or.inl ⟨by decide +kernel, ok_aload_n dm_124_118 rfl⟩
set_option maxRecDepth 100000 in
theorem vv_124_119 {l : Launch} (hl : l.stackTraces = false) : cj_V1 l 124 119 (70, 4, 5, [0, 0, 2, 2, 2]) 122 := Or.inl ⟨by decide +kernel, ok_new (N := 5) (C := RK_4) (T := TK_4) (ty0 := tyK_4) dm_124_119 rfl inK_4 wm_69 wm_70 wm_5 rfl rfl tyK_4_ok (by decide +kernel)⟩
set_option maxRecDepth 100000 in
theorem vv_124_122 {l : Launch} (hl : l.stackTraces = false) : cj_V1 l 124 122 (25, 0, 0, []) 123 := Or.inl ⟨by decide +kernel, ok_dup dm_124_122⟩
set_option maxRecDepth 100000 in
theorem vv_124_123 {l : Launch} (hl : l.stackTraces = false) : cj_V1 l 124 123 (0, 6, 0, []) 125 := Or.inl ⟨by decide +kernel, ok_bipush dm_124_123 (by decide +kernel)⟩
set_option maxRecDepth 100000 in
theorem vv_124_125 {l : Launch} (hl : l.stackTraces = false) : cj_V1 l 124 125 (0, 40, 0, []) 127 := Or.inl ⟨by decide +kernel, ok_bipush dm_124_125 (by decide +kernel)⟩
set_option maxRecDepth 100000 in
theorem vv_124_127 {l : Launch} (hl : l.stackTraces = false) : cj_V1 l 124 127 (2, 1, 0, []) 128 := Or.inl ⟨by decide +kernel, ok_iload_n dm_124_127 rfl⟩
set_option maxRecDepth 100000 in
theorem vv_124_128 {l : Launch} (hl : l.stackTraces = false) : cj_V1 l 124 128 (85, 0, 0, []) 131 := Or.inl ⟨by decide +kernel, ok_min dm_124_128 wm_24 wm_25 wm_2 wm_26 (by decide +kernel) (by decide +kernel)⟩
set_option maxRecDepth 100000 in
theorem vv_124_131 {l : Launch} (hl : l.stackTraces = false) : cj_V1 l 124 131 (84, 0, 0, []) 134 := Or.inl ⟨by decide +kernel, ok_max dm_124_131 wm_27 wm_28 wm_2 wm_29 (by decide +kernel) (by decide +kernel)⟩
set_option maxRecDepth 100000 in
theorem vv_124_134 {l : Launch} (hl : l.stackTraces = false) : cj_V1 l 124 134 (3, 0, 0, []) 135 := Or.inl ⟨by decide +kernel, ok_aload_n dm_124_134 rfl⟩
set_option maxRecDepth 100000 in
theorem vv_124_135 {l : Launch} (hl : l.stackTraces = false) : cj_V1 l 124 135 (50, 0, 0, []) 138 := Or.inl ⟨by decide +kernel, ok_getfield (N := 11) (C := RK_0) (T := TK_0) dm_124_135 rfl inK_0 (by decide +kernel) wm_177⟩
set_option maxRecDepth 100000 in
theorem vv_124_138 {l : Launch} (hl : l.stackTraces = false) : cj_V1 l 124 138 (82, 78, 3, []) 141 := Or.inr (Or.inr (Or.inl ⟨by decide +kernel, by decide +kernel, rfl, vc_special (n := 2) mi_78 rfl rfl dm_124_138 (Or.inl wm_71) wm_72 (by decide +kernel) rfl (by decide +kernel) (by decide +kernel), (vx_none rfl)⟩))
set_option maxRecDepth 100000 in
theorem vv_124_141 {l : Launch} (hl : l.stackTraces = false) : cj_V1 l 124 141 (51, 0, 5, [2]) 144 := Or.inl ⟨by decide +kernel, ok_putfield (N := 11) (C := RK_0) (T := TK_0) (ty0 := tyK_0) dm_124_141 rfl inK_0 (by decide +kernel) wm_182 tyK_0_ok nmK_0 (Or.inr ⟨rfl, rfl, rfl⟩) (Or.inr (Or.inr (Or.inl ⟨rfl, Or.inl ⟨_, rfl⟩⟩)))⟩
set_option maxRecDepth 100000 in
theorem vv_124_144 {l : Launch} (hl : l.stackTraces = false) : cj_V1 l 124 144 (3, 0, 0, []) 145 := Or.inl ⟨by decide +kernel, ok_aload_n dm_124_144 rfl⟩
set_option maxRecDepth 100000 in
theorem vv_124_145 {l : Launch} (hl : l.stackTraces = false) : cj_V1 l 124 145 (70, 5, 10, [2, 2, 2, 2, 0, 0, 0, 1, 0, 0]) 148 := Or.inl ⟨by decide +kernel, ok_new (N := 10) (C := RK_5) (T := TK_5) (ty0 := tyK_5) dm_124_145 rfl inK_5 wm_118 wm_119 wm_7 rfl rfl tyK_5_ok (by decide +kernel)⟩
set_option maxRecDepth 100000 in
theorem vv_124_148 {l : Launch} (hl : l.stackTraces = false) : cj_V1 l 124 148 (25, 0, 0, []) 149 := Or.inl ⟨by decide +kernel, ok_dup dm_124_148⟩
set_option maxRecDepth 100000 in
theorem vv_124_149 {l : Launch} (hl : l.stackTraces = false) : cj_V1 l 124 149 (82, 109, 1, []) 152 := Or.inr (Or.inr (Or.inl ⟨by decide +kernel, by decide +kernel, rfl, vc_special (n := 0) mi_109 rfl rfl dm_124_149 (Or.inl wm_120) wm_121 (by decide +kernel) rfl (by decide +kernel) (by decide +kernel), (vx_none rfl)⟩))
set_option maxRecDepth 100000 in
theorem vv_124_152 {l : Launch} (hl : l.stackTraces = false) : cj_V1 l 124 152 (51, 0, 9, [2]) 155 := Or.inl ⟨by decide +kernel, ok_putfield (N := 11) (C := RK_0) (T := TK_0) (ty0 := tyK_0) dm_124_152 rfl inK_0 (by decide +kernel) wm_186 tyK_0_ok nmK_0 (Or.inl rfl) (Or.inr (Or.inr (Or.inl ⟨rfl, Or.inl ⟨_, rfl⟩⟩)))⟩
set_option maxRecDepth 100000 in
theorem vv_124_155 {l : Launch} (hl : l.stackTraces = false) : cj_V1 l 124 155 (3, 0, 0, []) 156 := Or.inl ⟨by decide +kernel, ok_aload_n dm_124_155 rfl⟩
set_option maxRecDepth 100000 in
theorem vv_124_156 {l : Launch} (hl : l.stackTraces = false) : cj_V1 l 124 156 (70, 5, 10, [2, 2, 2, 2, 0, 0, 0, 1, 0, 0]) 159 := Or.inl ⟨by decide +kernel, ok_new (N := 10) (C := RK_5) (T := TK_5) (ty0 := tyK_5) dm_124_156 rfl inK_5 wm_118 wm_119 wm_7 rfl rfl tyK_5_ok (by decide +kernel)⟩
set_option maxRecDepth 100000 in
theorem vv_124_159 {l : Launch} (hl : l.stackTraces = false) : cj_V1 l 124 159 (25, 0, 0, []) 160 := Or.inl ⟨by decide +kernel, ok_dup dm_124_159⟩
set_option maxRecDepth 100000 in
theorem vv_124_160 {l : Launch} (hl : l.stackTraces = false) : cj_V1 l 124 160 (82, 109, 1, []) 163 := Or.inr (Or.inr (Or.inl ⟨by decide +kernel, by decide +kernel, rfl, vc_special (n := 0) mi_109 rfl rfl dm_124_160 (Or.inl wm_120) wm_121 (by decide +kernel) rfl (by decide +kernel) (by decide +kernel), (vx_none rfl)⟩))
set_option maxRecDepth 100000 in
theorem vv_124_163 {l : Launch} (hl : l.stackTraces = false) : cj_V1 l 124 163 (51, 0, 10, [2]) 166 := Or.inl ⟨by decide +kernel, ok_putfield (N := 11) (C := RK_0) (T := TK_0) (ty0 := tyK_0) dm_124_163 rfl inK_0 (by decide +kernel) wm_187 tyK_0_ok nmK_0 (Or.inl rfl) (Or.inr (Or.inr (Or.inl ⟨rfl, Or.inl ⟨_, rfl⟩⟩)))⟩
set_option maxRecDepth 100000 in
theorem vv_124_166 {l : Launch} (hl : l.stackTraces = false) : cj_V1 l 124 166 (91, 0, 0, []) 167 := Or.inr (Or.inl ⟨by decide +kernel, Or.inl (Or.inr (Or.inl ⟨rfl, dm_124_166, rfl⟩))⟩)
set_option maxRecDepth 100000 in
theorem vm_124 {l : Launch} (hl : l.stackTraces = false) : cj_Vm l 124 := cj_Vm_of (r := kc124_) rfl ⟨vv_124_0 hl, vv_124_1 hl, vv_124_4 hl, vv_124_5 hl, vv_124_6 hl, vv_124_8 hl, vv_124_9 hl, vv_124_12 hl, vv_124_15 hl, vv_124_18 hl, vv_124_19 hl, vv_124_22 hl, vv_124_23 hl, vv_124_25 hl, vv_124_28 hl, vv_124_31 hl, vv_124_32 hl, vv_124_35 hl, vv_124_36 hl, vv_124_38 hl, vv_124_41 hl, vv_124_44 hl, vv_124_45 hl, vv_124_47 hl, vv_124_50 hl, vv_124_53 hl, vv_124_54 hl, vv_124_55 hl, vv_124_56 hl, vv_124_58 hl, vv_124_61 hl, vv_124_62 hl, vv_124_65 hl, vv_124_66 hl, vv_124_69 hl, vv_124_70 hl, vv_124_72 hl, vv_124_75 hl, vv_124_76 hl, vv_124_79 hl, vv_124_82 hl, vv_124_83 hl, vv_124_85 hl, vv_124_88 hl, vv_124_91 hl, vv_124_92 hl, vv_124_93 hl, vv_124_94 hl, vv_124_96 hl, vv_124_99 hl, vv_124_100 hl, vv_124_103 hl, vv_124_104 hl, vv_124_107 hl, vv_124_108 hl, vv_124_111 hl, vv_124_112 hl, vv_124_115 hl, vv_124_118 hl, vv_124_119 hl, vv_124_122 hl, vv_124_123 hl, vv_124_125 hl, vv_124_127 hl, vv_124_128 hl, vv_124_131 hl, vv_124_134 hl, vv_124_135 hl, vv_124_138 hl, vv_124_141 hl, vv_124_144 hl, vv_124_145 hl, vv_124_148 hl, vv_124_149 hl, vv_124_152 hl, vv_124_155 hl, vv_124_156 hl, vv_124_159 hl, vv_124_160 hl, vv_124_163 hl, vv_124_166 hl, trivial⟩
