set_option maxRecDepth 100000 in
theorem vv_0_0 {l : Launch} (hl : l.stackTraces = false) : cj_V1 l 0 0 (2, 0, 0, []) 1 := Or.inl ⟨by decide +kernel, ok_iload_n dm_0_0 rfl⟩
set_option maxRecDepth 100000 in
theorem vv_0_1 {l : Launch} (hl : l.stackTraces = false) : cj_V1 l 0 1 (0, 8, 0, []) 3 := Or.inl ⟨by decide +kernel, ok_bipush dm_0_1 (by decide +kernel)⟩
set_option maxRecDepth 100000 in
theorem vv_0_3 {l : Launch} (hl : l.stackTraces = false) : cj_V1 l 0 3 (2, 1, 0, []) 4 := Or.inl ⟨by decide +kernel, ok_iload_n dm_0_3 rfl⟩
set_option maxRecDepth 100000 in
theorem vv_0_4 {l : Launch} (hl : l.stackTraces = false) : cj_V1 l 0 4 (12, 0, 0, []) 5 := Or.inl ⟨by decide +kernel, ok_imul dm_0_4⟩
set_option maxRecDepth 100000 in
theorem vv_0_5 {l : Launch} (hl : l.stackTraces = false) : cj_V1 l 0 5 (18, 0, 0, []) 6 := Or.inl ⟨by decide +kernel, ok_iushr dm_0_5⟩
set_option maxRecDepth 100000 in
theorem vv_0_6 {l : Launch} (hl : l.stackTraces = false) : cj_V1 l 0 6 (0, 255, 0, []) 9 := Or.inl ⟨by decide +kernel, ok_sipush dm_0_6 (by decide +kernel)⟩
set_option maxRecDepth 100000 in
theorem vv_0_9 {l : Launch} (hl : l.stackTraces = false) : cj_V1 l 0 9 (19, 0, 0, []) 10 := Or.inl ⟨by decide +kernel, ok_iand dm_0_9⟩
set_option maxRecDepth 100000 in
theorem vv_0_10 {l : Launch} (hl : l.stackTraces = false) : cj_V1 l 0 10 (90, 0, 0, []) 11 := Or.inr (Or.inl ⟨by decide +kernel, Or.inl (Or.inl ⟨rfl, dm_0_10, rfl⟩)⟩)
set_option maxRecDepth 100000 in
theorem vm_0 {l : Launch} (hl : l.stackTraces = false) : cj_Vm l 0 := cj_Vm_of (r := kc0_) rfl ⟨vv_0_0 hl, vv_0_1 hl, vv_0_3 hl, vv_0_4 hl, vv_0_5 hl, vv_0_6 hl, vv_0_9 hl, vv_0_10 hl, trivial⟩
set_option maxRecDepth 100000 in
theorem vv_1_0 {l : Launch} (hl : l.stackTraces = false) : cj_V1 l 1 0 (2, 1, 0, []) 1 := Or.inl ⟨by decide +kernel, ok_iload_n dm_1_0 rfl⟩
set_option maxRecDepth 100000 in
theorem vv_1_1 {l : Launch} (hl : l.stackTraces = false) : cj_V1 l 1 1 (33, 16, 0, []) 4 := Or.inl ⟨by decide +kernel, ok_if_lt dm_1_1 (by decide +kernel)⟩
set_option maxRecDepth 100000 in
theorem vv_1_4 {l : Launch} (hl : l.stackTraces = false) : cj_V1 l 1 4 (2, 1, 0, []) 5 := Or.inl ⟨by decide +kernel, ok_iload_n dm_1_4 rfl⟩
set_option maxRecDepth 100000 in
theorem vv_1_5 {l : Launch} (hl : l.stackTraces = false) : cj_V1 l 1 5 (3, 0, 0, []) 6 := Or.inl ⟨by decide +kernel, ok_aload_n dm_1_5 rfl⟩
set_option maxRecDepth 100000 in
theorem vv_1_6 {l : Launch} (hl : l.stackTraces = false) : cj_V1 l 1 6 (50, 0, 7, []) 9 := Or.inl ⟨by decide +kernel, ok_getfield (N := 11) (C := RK_0) (T := TK_0) dm_1_6 rfl inK_0 (by decide +kernel) wm_184⟩
set_option maxRecDepth 100000 in
theorem vv_1_9 {l : Launch} (hl : l.stackTraces = false) : cj_V1 l 1 9 (40, 16, 0, []) 12 := Or.inl ⟨by decide +kernel, ok_icmp_ge dm_1_9 (by decide +kernel)⟩
set_option maxRecDepth 100000 in
theorem vv_1_12 {l : Launch} (hl : l.stackTraces = false) : cj_V1 l 1 12 (0, 1, 0, []) 13 := Or.inl ⟨by decide +kernel, ok_iconst dm_1_12 (by decide +kernel)⟩
set_option maxRecDepth 100000 in
theorem vv_1_13 {l : Launch} (hl : l.stackTraces = false) : cj_V1 l 1 13 (30, 17, 0, []) 16 := Or.inl ⟨by decide +kernel, ok_goto dm_1_13 (by decide +kernel)⟩
set_option maxRecDepth 100000 in
theorem vv_1_16 {l : Launch} (hl : l.stackTraces = false) : cj_V1 l 1 16 (0, 0, 0, []) 17 := Or.inl ⟨by decide +kernel, ok_iconst dm_1_16 (by decide +kernel)⟩
set_option maxRecDepth 100000 in
theorem vv_1_17 {l : Launch} (hl : l.stackTraces = false) : cj_V1 l 1 17 (93, 0, 0, []) 18 := Or.inr (Or.inl ⟨by decide +kernel, Or.inl (Or.inr (Or.inr (Or.inr ⟨rfl, dm_1_17, rfl⟩)))⟩)
set_option maxRecDepth 100000 in
theorem vm_1 {l : Launch} (hl : l.stackTraces = false) : cj_Vm l 1 := cj_Vm_of (r := kc1_) rfl ⟨vv_1_0 hl, vv_1_1 hl, vv_1_4 hl, vv_1_5 hl, vv_1_6 hl, vv_1_9 hl, vv_1_12 hl, vv_1_13 hl, vv_1_16 hl, vv_1_17 hl, trivial⟩
set_option maxRecDepth 100000 in
theorem vv_2_0 {l : Launch} (hl : l.stackTraces = false) : cj_V1 l 2 0 (2, 0, 0, []) 1 := Or.inl ⟨by decide +kernel, ok_iload_n dm_2_0 rfl⟩
set_option maxRecDepth 100000 in
theorem vv_2_1 {l : Launch} (hl : l.stackTraces = false) : cj_V1 l 2 1 (33, 13, 0, []) 4 := Or.inl ⟨by decide +kernel, ok_if_lt dm_2_1 (by decide +kernel)⟩
set_option maxRecDepth 100000 in
theorem vv_2_4 {l : Launch} (hl : l.stackTraces = false) : cj_V1 l 2 4 (2, 0, 0, []) 5 := Or.inl ⟨by decide +kernel, ok_iload_n dm_2_4 rfl⟩
set_option maxRecDepth 100000 in
theorem vv_2_5 {l : Launch} (hl : l.stackTraces = false) : cj_V1 l 2 5 (0, 4, 0, []) 6 := Or.inl ⟨by decide +kernel, ok_iconst dm_2_5 (by decide +kernel)⟩
set_option maxRecDepth 100000 in
theorem vv_2_6 {l : Launch} (hl : l.stackTraces = false) : cj_V1 l 2 6 (40, 13, 0, []) 9 := Or.inl ⟨by decide +kernel, ok_icmp_ge dm_2_6 (by decide +kernel)⟩
set_option maxRecDepth 100000 in
theorem vv_2_9 {l : Launch} (hl : l.stackTraces = false) : cj_V1 l 2 9 (0, 1, 0, []) 10 := Or.inl ⟨by decide +kernel, ok_iconst dm_2_9 (by decide +kernel)⟩
set_option maxRecDepth 100000 in
theorem vv_2_10 {l : Launch} (hl : l.stackTraces = false) : cj_V1 l 2 10 (30, 14, 0, []) 13 := Or.inl ⟨by decide +kernel, ok_goto dm_2_10 (by decide +kernel)⟩
set_option maxRecDepth 100000 in
theorem vv_2_13 {l : Launch} (hl : l.stackTraces = false) : cj_V1 l 2 13 (0, 0, 0, []) 14 := Or.inl ⟨by decide +kernel, ok_iconst dm_2_13 (by decide +kernel)⟩
set_option maxRecDepth 100000 in
theorem vv_2_14 {l : Launch} (hl : l.stackTraces = false) : cj_V1 l 2 14 (93, 0, 0, []) 15 := Or.inr (Or.inl ⟨by decide +kernel, Or.inl (Or.inr (Or.inr (Or.inr ⟨rfl, dm_2_14, rfl⟩)))⟩)
set_option maxRecDepth 100000 in
theorem vm_2 {l : Launch} (hl : l.stackTraces = false) : cj_Vm l 2 := cj_Vm_of (r := kc2_) rfl ⟨vv_2_0 hl, vv_2_1 hl, vv_2_4 hl, vv_2_5 hl, vv_2_6 hl, vv_2_9 hl, vv_2_10 hl, vv_2_13 hl, vv_2_14 hl, trivial⟩
set_option maxRecDepth 100000 in
theorem vv_3_0 {l : Launch} (hl : l.stackTraces = false) : cj_V1 l 3 0 (2, 0, 0, []) 1 := Or.inl ⟨by decide +kernel, ok_iload_n dm_3_0 rfl⟩
set_option maxRecDepth 100000 in
theorem vv_3_1 {l : Launch} (hl : l.stackTraces = false) : cj_V1 l 3 1 (0, 97, 0, []) 3 := Or.inl ⟨by decide +kernel, ok_bipush dm_3_1 (by decide +kernel)⟩
set_option maxRecDepth 100000 in
theorem vv_3_3 {l : Launch} (hl : l.stackTraces = false) : cj_V1 l 3 3 (39, 16, 0, []) 6 := Or.inl ⟨by decide +kernel, ok_icmp_lt dm_3_3 (by decide +kernel)⟩
set_option maxRecDepth 100000 in
theorem vv_3_6 {l : Launch} (hl : l.stackTraces = false) : cj_V1 l 3 6 (2, 0, 0, []) 7 := Or.inl ⟨by decide +kernel, ok_iload_n dm_3_6 rfl⟩
set_option maxRecDepth 100000 in
theorem vv_3_7 {l : Launch} (hl : l.stackTraces = false) : cj_V1 l 3 7 (0, 122, 0, []) 9 := Or.inl ⟨by decide +kernel, ok_bipush dm_3_7 (by decide +kernel)⟩
set_option maxRecDepth 100000 in
theorem vv_3_9 {l : Launch} (hl : l.stackTraces = false) : cj_V1 l 3 9 (41, 16, 0, []) 12 := Or.inl ⟨by decide +kernel, ok_icmp_gt dm_3_9 (by decide +kernel)⟩
set_option maxRecDepth 100000 in
theorem vv_3_12 {l : Launch} (hl : l.stackTraces = false) : cj_V1 l 3 12 (0, 1, 0, []) 13 := Or.inl ⟨by decide +kernel, ok_iconst dm_3_12 (by decide +kernel)⟩
set_option maxRecDepth 100000 in
theorem vv_3_13 {l : Launch} (hl : l.stackTraces = false) : cj_V1 l 3 13 (30, 17, 0, []) 16 := Or.inl ⟨by decide +kernel, ok_goto dm_3_13 (by decide +kernel)⟩
set_option maxRecDepth 100000 in
theorem vv_3_16 {l : Launch} (hl : l.stackTraces = false) : cj_V1 l 3 16 (0, 0, 0, []) 17 := Or.inl ⟨by decide +kernel, ok_iconst dm_3_16 (by decide +kernel)⟩
set_option maxRecDepth 100000 in
theorem vv_3_17 {l : Launch} (hl : l.stackTraces = false) : cj_V1 l 3 17 (93, 0, 0, []) 18 := Or.inr (Or.inl ⟨by decide +kernel, Or.inl (Or.inr (Or.inr (Or.inr ⟨rfl, dm_3_17, rfl⟩)))⟩)
set_option maxRecDepth 100000 in
theorem vm_3 {l : Launch} (hl : l.stackTraces = false) : cj_Vm l 3 := cj_Vm_of (r := kc3_) rfl ⟨vv_3_0 hl, vv_3_1 hl, vv_3_3 hl, vv_3_6 hl, vv_3_7 hl, vv_3_9 hl, vv_3_12 hl, vv_3_13 hl, vv_3_16 hl, vv_3_17 hl, trivial⟩
set_option maxRecDepth 100000 in
theorem vv_4_0 {l : Launch} (hl : l.stackTraces = false) : cj_V1 l 4 0 (2, 1, 0, []) 1 := Or.inl ⟨by decide +kernel, ok_iload_n dm_4_0 rfl⟩
set_option maxRecDepth 100000 in
theorem vv_4_1 {l : Launch} (hl : l.stackTraces = false) : cj_V1 l 4 1 (32, 20, 0, []) 4 := Or.inl ⟨by decide +kernel, ok_if_ne dm_4_1 (by decide +kernel)⟩
set_option maxRecDepth 100000 in
theorem vv_4_4 {l : Launch} (hl : l.stackTraces = false) : cj_V1 l 4 4 (3, 0, 0, []) 5 := Or.inl ⟨by decide +kernel, ok_aload_n dm_4_4 rfl⟩
set_option maxRecDepth 100000 in
theorem vv_4_5 {l : Launch} (hl : l.stackTraces = false) : cj_V1 l 4 5 (50, 1, 3, []) 8 := Or.inl ⟨by decide +kernel, ok_getfield (N := 4) (C := RK_1) (T := TK_1) dm_4_5 rfl inK_1 (by decide +kernel) wm_136⟩
set_option maxRecDepth 100000 in
theorem vv_4_8 {l : Launch} (hl : l.stackTraces = false) : cj_V1 l 4 8 (0, 2, 0, []) 9 := Or.inl ⟨by decide +kernel, ok_iconst dm_4_8 (by decide +kernel)⟩
set_option maxRecDepth 100000 in
theorem vv_4_9 {l : Launch} (hl : l.stackTraces = false) : cj_V1 l 4 9 (3, 0, 0, []) 10 := Or.inl ⟨by decide +kernel, ok_aload_n dm_4_9 rfl⟩
set_option maxRecDepth 100000 in
theorem vv_4_10 {l : Launch} (hl : l.stackTraces = false) : cj_V1 l 4 10 (50, 1, 2, []) 13 := Or.inl ⟨by decide +kernel, ok_getfield (N := 4) (C := RK_1) (T := TK_1) dm_4_10 rfl inK_1 (by decide +kernel) wm_135⟩
set_option maxRecDepth 100000 in
theorem vv_4_13 {l : Launch} (hl : l.stackTraces = false) : cj_V1 l 4 13 (85, 0, 0, []) 16 := Or.inl ⟨by decide +kernel, ok_min dm_4_13 wm_348 wm_25 wm_2 wm_26 (by decide +kernel) (by decide +kernel)⟩
set_option maxRecDepth 100000 in
theorem vv_4_16 {l : Launch} (hl : l.stackTraces = false) : cj_V1 l 4 16 (10, 0, 0, []) 17 := Or.inl ⟨by decide +kernel, ok_iadd dm_4_16⟩
set_option maxRecDepth 100000 in
theorem vv_4_17 {l : Launch} (hl : l.stackTraces = false) : cj_V1 l 4 17 (30, 21, 0, []) 20 := Or.inl ⟨by decide +kernel, ok_goto dm_4_17 (by decide +kernel)⟩
set_option maxRecDepth 100000 in
theorem vv_4_20 {l : Launch} (hl : l.stackTraces = false) : cj_V1 l 4 20 (0, 1, 0, []) 21 := Or.inl ⟨by decide +kernel, ok_iconst dm_4_20 (by decide +kernel)⟩
set_option maxRecDepth 100000 in
theorem vv_4_21 {l : Launch} (hl : l.stackTraces = false) : cj_V1 l 4 21 (90, 0, 0, []) 22 := Or.inr (Or.inl ⟨by decide +kernel, Or.inl (Or.inl ⟨rfl, dm_4_21, rfl⟩)⟩)
set_option maxRecDepth 100000 in
theorem vm_4 {l : Launch} (hl : l.stackTraces = false) : cj_Vm l 4 := cj_Vm_of (r := kc4_) rfl ⟨vv_4_0 hl, vv_4_1 hl, vv_4_4 hl, vv_4_5 hl, vv_4_8 hl, vv_4_9 hl, vv_4_10 hl, vv_4_13 hl, vv_4_16 hl, vv_4_17 hl, vv_4_20 hl, vv_4_21 hl, trivial⟩
set_option maxRecDepth 100000 in
theorem vv_5_0 {l : Launch} (hl : l.stackTraces = false) : cj_V1 l 5 0 (2, 1, 0, []) 1 := Or.inl ⟨by decide +kernel, ok_iload_n dm_5_0 rfl⟩
set_option maxRecDepth 100000 in
theorem vv_5_1 {l : Launch} (hl : l.stackTraces = false) : cj_V1 l 5 1 (33, 32, 0, []) 4 := Or.inl ⟨by decide +kernel, ok_if_lt dm_5_1 (by decide +kernel)⟩
set_option maxRecDepth 100000 in
theorem vv_5_4 {l : Launch} (hl : l.stackTraces = false) : cj_V1 l 5 4 (2, 1, 0, []) 5 := Or.inl ⟨by decide +kernel, ok_iload_n dm_5_4 rfl⟩
set_option maxRecDepth 100000 in
theorem vv_5_5 {l : Launch} (hl : l.stackTraces = false) : cj_V1 l 5 5 (3, 0, 0, []) 6 := Or.inl ⟨by decide +kernel, ok_aload_n dm_5_5 rfl⟩
set_option maxRecDepth 100000 in
theorem vv_5_6 {l : Launch} (hl : l.stackTraces = false) : cj_V1 l 5 6 (50, 1, 2, []) 9 := Or.inl ⟨by decide +kernel, ok_getfield (N := 4) (C := RK_1) (T := TK_1) dm_5_6 rfl inK_1 (by decide +kernel) wm_135⟩
set_option maxRecDepth 100000 in
theorem vv_5_9 {l : Launch} (hl : l.stackTraces = false) : cj_V1 l 5 9 (40, 32, 0, []) 12 := Or.inl ⟨by decide +kernel, ok_icmp_ge dm_5_9 (by decide +kernel)⟩
set_option maxRecDepth 100000 in
theorem vv_5_12 {l : Launch} (hl : l.stackTraces = false) : cj_V1 l 5 12 (3, 0, 0, []) 13 := Or.inl ⟨by decide +kernel, ok_aload_n dm_5_12 rfl⟩
set_option maxRecDepth 100000 in
theorem vv_5_13 {l : Launch} (hl : l.stackTraces = false) : cj_V1 l 5 13 (50, 1, 1, []) 16 := Or.inl ⟨by decide +kernel, ok_getfield (N := 4) (C := RK_1) (T := TK_1) dm_5_13 rfl inK_1 (by decide +kernel) wm_134⟩
set_option maxRecDepth 100000 in
theorem vv_5_16 {l : Launch} (hl : l.stackTraces = false) : cj_V1 l 5 16 (2, 1, 0, []) 17 := Or.inl ⟨by decide +kernel, ok_iload_n dm_5_16 rfl⟩
set_option maxRecDepth 100000 in
theorem vv_5_17 {l : Launch} (hl : l.stackTraces = false) : cj_V1 l 5 17 (0, 1, 0, []) 18 := Or.inl ⟨by decide +kernel, ok_iconst dm_5_17 (by decide +kernel)⟩
set_option maxRecDepth 100000 in
theorem vv_5_18 {l : Launch} (hl : l.stackTraces = false) : cj_V1 l 5 18 (10, 0, 0, []) 19 := Or.inl ⟨by decide +kernel, ok_iadd dm_5_18⟩
set_option maxRecDepth 100000 in
theorem vv_5_19 {l : Launch} (hl : l.stackTraces = false) : cj_V1 l 5 19 (54, 0, 0, []) 20 := Or.inl ⟨by decide +kernel, ok_iaload dm_5_19 rfl⟩
set_option maxRecDepth 100000 in
theorem vv_5_20 {l : Launch} (hl : l.stackTraces = false) : cj_V1 l 5 20 (0, 1, 0, []) 21 := Or.inl ⟨by decide +kernel, ok_iconst dm_5_20 (by decide +kernel)⟩
set_option maxRecDepth 100000 in
theorem vv_5_21 {l : Launch} (hl : l.stackTraces = false) : cj_V1 l 5 21 (11, 0, 0, []) 22 := Or.inl ⟨by decide +kernel, ok_isub dm_5_21⟩
set_option maxRecDepth 100000 in
theorem vv_5_22 {l : Launch} (hl : l.stackTraces = false) : cj_V1 l 5 22 (3, 0, 0, []) 23 := Or.inl ⟨by decide +kernel, ok_aload_n dm_5_22 rfl⟩
set_option maxRecDepth 100000 in
theorem vv_5_23 {l : Launch} (hl : l.stackTraces = false) : cj_V1 l 5 23 (50, 1, 1, []) 26 := Or.inl ⟨by decide +kernel, ok_getfield (N := 4) (C := RK_1) (T := TK_1) dm_5_23 rfl inK_1 (by decide +kernel) wm_134⟩
set_option maxRecDepth 100000 in
theorem vv_5_26 {l : Launch} (hl : l.stackTraces = false) : cj_V1 l 5 26 (2, 1, 0, []) 27 := Or.inl ⟨by decide +kernel, ok_iload_n dm_5_26 rfl⟩
set_option maxRecDepth 100000 in
theorem vv_5_27 {l : Launch} (hl : l.stackTraces = false) : cj_V1 l 5 27 (54, 0, 0, []) 28 := Or.inl ⟨by decide +kernel, ok_iaload dm_5_27 rfl⟩
set_option maxRecDepth 100000 in
theorem vv_5_28 {l : Launch} (hl : l.stackTraces = false) : cj_V1 l 5 28 (11, 0, 0, []) 29 := Or.inl ⟨by decide +kernel, ok_isub dm_5_28⟩
set_option maxRecDepth 100000 in
theorem vv_5_29 {l : Launch} (hl : l.stackTraces = false) : cj_V1 l 5 29 (30, 33, 0, []) 32 := Or.inl ⟨by decide +kernel, ok_goto dm_5_29 (by decide +kernel)⟩
set_option maxRecDepth 100000 in
theorem vv_5_32 {l : Launch} (hl : l.stackTraces = false) : cj_V1 l 5 32 (0, 0, 0, []) 33 := Or.inl ⟨by decide +kernel, ok_iconst dm_5_32 (by decide +kernel)⟩
set_option maxRecDepth 100000 in
theorem vv_5_33 {l : Launch} (hl : l.stackTraces = false) : cj_V1 l 5 33 (90, 0, 0, []) 34 := Or.inr (Or.inl ⟨by decide +kernel, Or.inl (Or.inl ⟨rfl, dm_5_33, rfl⟩)⟩)
set_option maxRecDepth 100000 in
theorem vm_5 {l : Launch} (hl : l.stackTraces = false) : cj_Vm l 5 := cj_Vm_of (r := kc5_) rfl ⟨vv_5_0 hl, vv_5_1 hl, vv_5_4 hl, vv_5_5 hl, vv_5_6 hl, vv_5_9 hl, vv_5_12 hl, vv_5_13 hl, vv_5_16 hl, vv_5_17 hl, vv_5_18 hl, vv_5_19 hl, vv_5_20 hl, vv_5_21 hl, vv_5_22 hl, vv_5_23 hl, vv_5_26 hl, vv_5_27 hl, vv_5_28 hl, vv_5_29 hl, vv_5_32 hl, vv_5_33 hl, trivial⟩
set_option maxRecDepth 100000 in
theorem vv_6_0 {l : Launch} (hl : l.stackTraces = false) : cj_V1 l 6 0 (2, 1, 0, []) 1 := Or.inl ⟨by decide +kernel, ok_iload_n dm_6_0 rfl⟩
set_option maxRecDepth 100000 in
theorem vv_6_1 {l : Launch} (hl : l.stackTraces = false) : cj_V1 l 6 1 (36, 8, 0, []) 4 := Or.inl ⟨by decide +kernel, ok_if_le dm_6_1 (by decide +kernel)⟩
set_option maxRecDepth 100000 in
theorem vv_6_4 {l : Launch} (hl : l.stackTraces = false) : cj_V1 l 6 4 (2, 1, 0, []) 5 := Or.inl ⟨by decide +kernel, ok_iload_n dm_6_4 rfl⟩
set_option maxRecDepth 100000 in
theorem vv_6_5 {l : Launch} (hl : l.stackTraces = false) : cj_V1 l 6 5 (0, 1, 0, []) 6 := Or.inl ⟨by decide +kernel, ok_iconst dm_6_5 (by decide +kernel)⟩
set_option maxRecDepth 100000 in
theorem vv_6_6 {l : Launch} (hl : l.stackTraces = false) : cj_V1 l 6 6 (10, 0, 0, []) 7 := Or.inl ⟨by decide +kernel, ok_iadd dm_6_6⟩
set_option maxRecDepth 100000 in
theorem vv_6_7 {l : Launch} (hl : l.stackTraces = false) : cj_V1 l 6 7 (90, 0, 0, []) 8 := Or.inr (Or.inl ⟨by decide +kernel, Or.inl (Or.inl ⟨rfl, dm_6_7, rfl⟩)⟩)
set_option maxRecDepth 100000 in
theorem vv_6_8 {l : Launch} (hl : l.stackTraces = false) : cj_V1 l 6 8 (2, 2, 0, []) 9 := Or.inl ⟨by decide +kernel, ok_iload_n dm_6_8 rfl⟩
set_option maxRecDepth 100000 in
theorem vv_6_9 {l : Launch} (hl : l.stackTraces = false) : cj_V1 l 6 9 (3, 0, 0, []) 10 := Or.inl ⟨by decide +kernel, ok_aload_n dm_6_9 rfl⟩
set_option maxRecDepth 100000 in
theorem vv_6_10 {l : Launch} (hl : l.stackTraces = false) : cj_V1 l 6 10 (50, 1, 3, []) 13 := Or.inl ⟨by decide +kernel, ok_getfield (N := 4) (C := RK_1) (T := TK_1) dm_6_10 rfl inK_1 (by decide +kernel) wm_136⟩
set_option maxRecDepth 100000 in
theorem vv_6_13 {l : Launch} (hl : l.stackTraces = false) : cj_V1 l 6 13 (40, 20, 0, []) 16 := Or.inl ⟨by decide +kernel, ok_icmp_ge dm_6_13 (by decide +kernel)⟩
set_option maxRecDepth 100000 in
theorem vv_6_16 {l : Launch} (hl : l.stackTraces = false) : cj_V1 l 6 16 (1, 1, 0, []) 17 := Or.inl ⟨by decide +kernel, ok_iconst_m dm_6_16 (by decide +kernel)⟩
set_option maxRecDepth 100000 in
theorem vv_6_17 {l : Launch} (hl : l.stackTraces = false) : cj_V1 l 6 17 (30, 26, 0, []) 20 := Or.inl ⟨by decide +kernel, ok_goto dm_6_17 (by decide +kernel)⟩
set_option maxRecDepth 100000 in
theorem vv_6_20 {l : Launch} (hl : l.stackTraces = false) : cj_V1 l 6 20 (2, 2, 0, []) 21 := Or.inl ⟨by decide +kernel, ok_iload_n dm_6_20 rfl⟩
set_option maxRecDepth 100000 in
theorem vv_6_21 {l : Launch} (hl : l.stackTraces = false) : cj_V1 l 6 21 (3, 0, 0, []) 22 := Or.inl ⟨by decide +kernel, ok_aload_n dm_6_21 rfl⟩
set_option maxRecDepth 100000 in
theorem vv_6_22 {l : Launch} (hl : l.stackTraces = false) : cj_V1 l 6 22 (50, 1, 3, []) 25 := Or.inl ⟨by decide +kernel, ok_getfield (N := 4) (C := RK_1) (T := TK_1) dm_6_22 rfl inK_1 (by decide +kernel) wm_136⟩
set_option maxRecDepth 100000 in
theorem vv_6_25 {l : Launch} (hl : l.stackTraces = false) : cj_V1 l 6 25 (11, 0, 0, []) 26 := Or.inl ⟨by decide +kernel, ok_isub dm_6_25⟩
set_option maxRecDepth 100000 in
theorem vv_6_26 {l : Launch} (hl : l.stackTraces = false) : cj_V1 l 6 26 (90, 0, 0, []) 27 := Or.inr (Or.inl ⟨by decide +kernel, Or.inl (Or.inl ⟨rfl, dm_6_26, rfl⟩)⟩)
set_option maxRecDepth 100000 in
theorem vm_6 {l : Launch} (hl : l.stackTraces = false) : cj_Vm l 6 := cj_Vm_of (r := kc6_) rfl ⟨vv_6_0 hl, vv_6_1 hl, vv_6_4 hl, vv_6_5 hl, vv_6_6 hl, vv_6_7 hl, vv_6_8 hl, vv_6_9 hl, vv_6_10 hl, vv_6_13 hl, vv_6_16 hl, vv_6_17 hl, vv_6_20 hl, vv_6_21 hl, vv_6_22 hl, vv_6_25 hl, vv_6_26 hl, trivial⟩
set_option maxRecDepth 100000 in
theorem vv_7_0 {l : Launch} (hl : l.stackTraces = false) : cj_V1 l 7 0 (3, 0, 0, []) 1 := Or.inl ⟨by decide +kernel, ok_aload_n dm_7_0 rfl⟩
set_option maxRecDepth 100000 in
theorem vv_7_1 {l : Launch} (hl : l.stackTraces = false) : cj_V1 l 7 1 (50, 1, 2, []) 4 := Or.inl ⟨by decide +kernel, ok_getfield (N := 4) (C := RK_1) (T := TK_1) dm_7_1 rfl inK_1 (by decide +kernel) wm_135⟩
set_option maxRecDepth 100000 in
theorem vv_7_4 {l : Launch} (hl : l.stackTraces = false) : cj_V1 l 7 4 (90, 0, 0, []) 5 := Or.inr (Or.inl ⟨by decide +kernel, Or.inl (Or.inl ⟨rfl, dm_7_4, rfl⟩)⟩)
set_option maxRecDepth 100000 in
theorem vm_7 {l : Launch} (hl : l.stackTraces = false) : cj_Vm l 7 := cj_Vm_of (r := kc7_) rfl ⟨vv_7_0 hl, vv_7_1 hl, vv_7_4 hl, trivial⟩
set_option maxRecDepth 100000 in
theorem vv_8_0 {l : Launch} (hl : l.stackTraces = false) : cj_V1 l 8 0 (3, 0, 0, []) 1 := Or.inl ⟨by decide +kernel, ok_aload_n dm_8_0 rfl⟩
set_option maxRecDepth 100000 in
theorem vv_8_1 {l : Launch} (hl : l.stackTraces = false) : cj_V1 l 8 1 (2, 1, 0, []) 2 := Or.inl ⟨by decide +kernel, ok_iload_n dm_8_1 rfl⟩
set_option maxRecDepth 100000 in
theorem vv_8_2 {l : Launch} (hl : l.stackTraces = false) : cj_V1 l 8 2 (51, 1, 3, [0]) 5 := Or.inl ⟨by decide +kernel, ok_putfield (N := 4) (C := RK_1) (T := TK_1) (ty0 := tyK_1) dm_8_2 rfl inK_1 (by decide +kernel) wm_136 tyK_1_ok nmK_1 (Or.inl rfl) (Or.inl ⟨rfl, rfl⟩)⟩
set_option maxRecDepth 100000 in
theorem vv_8_5 {l : Launch} (hl : l.stackTraces = false) : cj_V1 l 8 5 (91, 0, 0, []) 6 := Or.inr (Or.inl ⟨by decide +kernel, Or.inl (Or.inr (Or.inl ⟨rfl, dm_8_5, rfl⟩))⟩)
set_option maxRecDepth 100000 in
theorem vm_8 {l : Launch} (hl : l.stackTraces = false) : cj_Vm l 8 := cj_Vm_of (r := kc8_) rfl ⟨vv_8_0 hl, vv_8_1 hl, vv_8_2 hl, vv_8_5 hl, trivial⟩
set_option maxRecDepth 100000 in
theorem vv_9_0 {l : Launch} (hl : l.stackTraces = false) : cj_V1 l 9 0 (3, 0, 0, []) 1 := Or.inl ⟨by decide +kernel, ok_aload_n dm_9_0 rfl⟩
set_option maxRecDepth 100000 in
theorem vv_9_1 {l : Launch} (hl : l.stackTraces = false) : cj_V1 l 9 1 (50, 1, 2, []) 4 := Or.inl ⟨by decide +kernel, ok_getfield (N := 4) (C := RK_1) (T := TK_1) dm_9_1 rfl inK_1 (by decide +kernel) wm_135⟩
set_option maxRecDepth 100000 in
theorem vv_9_4 {l : Launch} (hl : l.stackTraces = false) : cj_V1 l 9 4 (32, 20, 0, []) 7 := Or.inl ⟨by decide +kernel, ok_if_ne dm_9_4 (by decide +kernel)⟩
set_option maxRecDepth 100000 in
theorem vv_9_7 {l : Launch} (hl : l.stackTraces = false) : cj_V1 l 9 7 (3, 0, 0, []) 8 := Or.inl ⟨by decide +kernel, ok_aload_n dm_9_7 rfl⟩
set_option maxRecDepth 100000 in
theorem vv_9_8 {l : Launch} (hl : l.stackTraces = false) : cj_V1 l 9 8 (50, 1, 3, []) 11 := Or.inl ⟨by decide +kernel, ok_getfield (N := 4) (C := RK_1) (T := TK_1) dm_9_8 rfl inK_1 (by decide +kernel) wm_136⟩
set_option maxRecDepth 100000 in
theorem vv_9_11 {l : Launch} (hl : l.stackTraces = false) : cj_V1 l 9 11 (36, 18, 0, []) 14 := Or.inl ⟨by decide +kernel, ok_if_le dm_9_11 (by decide +kernel)⟩
set_option maxRecDepth 100000 in
theorem vv_9_14 {l : Launch} (hl : l.stackTraces = false) : cj_V1 l 9 14 (0, 1, 0, []) 15 := Or.inl ⟨by decide +kernel, ok_iconst dm_9_14 (by decide +kernel)⟩
set_option maxRecDepth 100000 in
theorem vv_9_15 {l : Launch} (hl : l.stackTraces = false) : cj_V1 l 9 15 (30, 19, 0, []) 18 := Or.inl ⟨by decide +kernel, ok_goto dm_9_15 (by decide +kernel)⟩
set_option maxRecDepth 100000 in
theorem vv_9_18 {l : Launch} (hl : l.stackTraces = false) : cj_V1 l 9 18 (0, 0, 0, []) 19 := Or.inl ⟨by decide +kernel, ok_iconst dm_9_18 (by decide +kernel)⟩
set_option maxRecDepth 100000 in
theorem vv_9_19 {l : Launch} (hl : l.stackTraces = false) : cj_V1 l 9 19 (90, 0, 0, []) 20 := Or.inr (Or.inl ⟨by decide +kernel, Or.inl (Or.inl ⟨rfl, dm_9_19, rfl⟩)⟩)
set_option maxRecDepth 100000 in
theorem vv_9_20 {l : Launch} (hl : l.stackTraces = false) : cj_V1 l 9 20 (0, 1, 0, []) 21 := Or.inl ⟨by decide +kernel, ok_iconst dm_9_20 (by decide +kernel)⟩
set_option maxRecDepth 100000 in
theorem vv_9_21 {l : Launch} (hl : l.stackTraces = false) : cj_V1 l 9 21 (3, 0, 0, []) 22 := Or.inl ⟨by decide +kernel, ok_aload_n dm_9_21 rfl⟩
set_option maxRecDepth 100000 in
theorem vv_9_22 {l : Launch} (hl : l.stackTraces = false) : cj_V1 l 9 22 (50, 1, 2, []) 25 := Or.inl ⟨by decide +kernel, ok_getfield (N := 4) (C := RK_1) (T := TK_1) dm_9_22 rfl inK_1 (by decide +kernel) wm_135⟩
set_option maxRecDepth 100000 in
theorem vv_9_25 {l : Launch} (hl : l.stackTraces = false) : cj_V1 l 9 25 (0, 1, 0, []) 26 := Or.inl ⟨by decide +kernel, ok_iconst dm_9_25 (by decide +kernel)⟩
set_option maxRecDepth 100000 in
theorem vv_9_26 {l : Launch} (hl : l.stackTraces = false) : cj_V1 l 9 26 (11, 0, 0, []) 27 := Or.inl ⟨by decide +kernel, ok_isub dm_9_26⟩
set_option maxRecDepth 100000 in
theorem vv_9_27 {l : Launch} (hl : l.stackTraces = false) : cj_V1 l 9 27 (84, 0, 0, []) 30 := Or.inl ⟨by decide +kernel, ok_max dm_9_27 wm_367 wm_28 wm_2 wm_29 (by decide +kernel) (by decide +kernel)⟩
set_option maxRecDepth 100000 in
theorem vv_9_30 {l : Launch} (hl : l.stackTraces = false) : cj_V1 l 9 30 (90, 0, 0, []) 31 := Or.inr (Or.inl ⟨by decide +kernel, Or.inl (Or.inl ⟨rfl, dm_9_30, rfl⟩)⟩)
set_option maxRecDepth 100000 in
theorem vm_9 {l : Launch} (hl : l.stackTraces = false) : cj_Vm l 9 := cj_Vm_of (r := kc9_) rfl ⟨vv_9_0 hl, vv_9_1 hl, vv_9_4 hl, vv_9_7 hl, vv_9_8 hl, vv_9_11 hl, vv_9_14 hl, vv_9_15 hl, vv_9_18 hl, vv_9_19 hl, vv_9_20 hl, vv_9_21 hl, vv_9_22 hl, vv_9_25 hl, vv_9_26 hl, vv_9_27 hl, vv_9_30 hl, trivial⟩
set_option maxRecDepth 100000 in
theorem vv_10_0 {l : Launch} (hl : l.stackTraces = false) : cj_V1 l 10 0 (3, 0, 0, []) 1 := Or.inl ⟨by decide +kernel, ok_aload_n dm_10_0 rfl⟩
set_option maxRecDepth 100000 in
theorem vv_10_1 {l : Launch} (hl : l.stackTraces = false) : cj_V1 l 10 1 (50, 2, 3, []) 4 := Or.inl ⟨by decide +kernel, ok_getfield (N := 4) (C := RK_2) (T := TK_2) dm_10_1 rfl inK_2 (by decide +kernel) wm_58⟩
set_option maxRecDepth 100000 in
theorem vv_10_4 {l : Launch} (hl : l.stackTraces = false) : cj_V1 l 10 4 (4, 2, 0, []) 5 := Or.inl ⟨by decide +kernel, ok_istore_n dm_10_4 rfl⟩
set_option maxRecDepth 100000 in
theorem vv_10_5 {l : Launch} (hl : l.stackTraces = false) : cj_V1 l 10 5 (3, 0, 0, []) 6 := Or.inl ⟨by decide +kernel, ok_aload_n dm_10_5 rfl⟩
set_option maxRecDepth 100000 in
theorem vv_10_6 {l : Launch} (hl : l.stackTraces = false) : cj_V1 l 10 6 (2, 1, 0, []) 7 := Or.inl ⟨by decide +kernel, ok_iload_n dm_10_6 rfl⟩
set_option maxRecDepth 100000 in
theorem vv_10_7 {l : Launch} (hl : l.stackTraces = false) : cj_V1 l 10 7 (51, 2, 3, [0]) 10 := Or.inl ⟨by decide +kernel, ok_putfield (N := 4) (C := RK_2) (T := TK_2) (ty0 := tyK_2) dm_10_7 rfl inK_2 (by decide +kernel) wm_58 tyK_2_ok nmK_2 (Or.inl rfl) (Or.inl ⟨rfl, rfl⟩)⟩
set_option maxRecDepth 100000 in
theorem vv_10_10 {l : Launch} (hl : l.stackTraces = false) : cj_V1 l 10 10 (2, 2, 0, []) 11 := Or.inl ⟨by decide +kernel, ok_iload_n dm_10_10 rfl⟩
set_option maxRecDepth 100000 in
theorem vv_10_11 {l : Launch} (hl : l.stackTraces = false) : cj_V1 l 10 11 (90, 0, 0, []) 12 := Or.inr (Or.inl ⟨by decide +kernel, Or.inl (Or.inl ⟨rfl, dm_10_11, rfl⟩)⟩)
set_option maxRecDepth 100000 in
theorem vm_10 {l : Launch} (hl : l.stackTraces = false) : cj_Vm l 10 := cj_Vm_of (r := kc10_) rfl ⟨vv_10_0 hl, vv_10_1 hl, vv_10_4 hl, vv_10_5 hl, vv_10_6 hl, vv_10_7 hl, vv_10_10 hl, vv_10_11 hl, trivial⟩
set_option maxRecDepth 100000 in
theorem vv_11_0 {l : Launch} (hl : l.stackTraces = false) : cj_V1 l 11 0 (0, 0, 0, []) 1 := Or.inl ⟨by decide +kernel, ok_iconst dm_11_0 (by decide +kernel)⟩
set_option maxRecDepth 100000 in
theorem vv_11_1 {l : Launch} (hl : l.stackTraces = false) : cj_V1 l 11 1 (4, 1, 0, []) 2 := Or.inl ⟨by decide +kernel, ok_istore_n dm_11_1 rfl⟩
set_option maxRecDepth 100000 in
theorem vv_11_2 {l : Launch} (hl : l.stackTraces = false) : cj_V1 l 11 2 (2, 1, 0, []) 3 := Or.inl ⟨by decide +kernel, ok_iload_n dm_11_2 rfl⟩
set_option maxRecDepth 100000 in
theorem vv_11_3 {l : Launch} (hl : l.stackTraces = false) : cj_V1 l 11 3 (0, 4, 0, []) 4 := Or.inl ⟨by decide +kernel, ok_iconst dm_11_3 (by decide +kernel)⟩
set_option maxRecDepth 100000 in
theorem vv_11_4 {l : Launch} (hl : l.stackTraces = false) : cj_V1 l 11 4 (40, 24, 0, []) 7 := Or.inl ⟨by decide +kernel, ok_icmp_ge dm_11_4 (by decide +kernel)⟩
set_option maxRecDepth 100000 in
theorem vv_11_7 {l : Launch} (hl : l.stackTraces = false) : cj_V1 l 11 7 (3, 0, 0, []) 8 := Or.inl ⟨by decide +kernel, ok_aload_n dm_11_7 rfl⟩
set_option maxRecDepth 100000 in
theorem vv_11_8 {l : Launch} (hl : l.stackTraces = false) : cj_V1 l 11 8 (50, 2, 1, []) 11 := Or.inl ⟨by decide +kernel, ok_getfield (N := 4) (C := RK_2) (T := TK_2) dm_11_8 rfl inK_2 (by decide +kernel) wm_56⟩
set_option maxRecDepth 100000 in
theorem vv_11_11 {l : Launch} (hl : l.stackTraces = false) : cj_V1 l 11 11 (2, 1, 0, []) 12 := Or.inl ⟨by decide +kernel, ok_iload_n dm_11_11 rfl⟩
set_option maxRecDepth 100000 in
theorem vv_11_12 {l : Launch} (hl : l.stackTraces = false) : cj_V1 l 11 12 (54, 0, 0, []) 13 := Or.inl ⟨by decide +kernel, ok_iaload dm_11_12 rfl⟩
set_option maxRecDepth 100000 in
theorem vv_11_13 {l : Launch} (hl : l.stackTraces = false) : cj_V1 l 11 13 (32, 18, 0, []) 16 := Or.inl ⟨by decide +kernel, ok_if_ne dm_11_13 (by decide +kernel)⟩
set_option maxRecDepth 100000 in
theorem vv_11_16 {l : Launch} (hl : l.stackTraces = false) : cj_V1 l 11 16 (0, 1, 0, []) 17 := Or.inl ⟨by decide +kernel, ok_iconst dm_11_16 (by decide +kernel)⟩
set_option maxRecDepth 100000 in
theorem vv_11_17 {l : Launch} (hl : l.stackTraces = false) : cj_V1 l 11 17 (93, 0, 0, []) 18 := Or.inr (Or.inl ⟨by decide +kernel, Or.inl (Or.inr (Or.inr (Or.inr ⟨rfl, dm_11_17, rfl⟩)))⟩)
set_option maxRecDepth 100000 in
theorem vv_11_18 {l : Launch} (hl : l.stackTraces = false) : cj_V1 l 11 18 (6, 1, 1, []) 21 := Or.inl ⟨by decide +kernel, ok_iinc6 dm_11_18 (by decide +kernel)⟩
set_option maxRecDepth 100000 in
theorem vv_11_21 {l : Launch} (hl : l.stackTraces = false) : cj_V1 l 11 21 (30, 2, 0, []) 24 := Or.inl ⟨by decide +kernel, ok_goto dm_11_21 (by decide +kernel)⟩
set_option maxRecDepth 100000 in
theorem vv_11_24 {l : Launch} (hl : l.stackTraces = false) : cj_V1 l 11 24 (0, 0, 0, []) 25 := Or.inl ⟨by decide +kernel, ok_iconst dm_11_24 (by decide +kernel)⟩
set_option maxRecDepth 100000 in
theorem vv_11_25 {l : Launch} (hl : l.stackTraces = false) : cj_V1 l 11 25 (93, 0, 0, []) 26 := Or.inr (Or.inl ⟨by decide +kernel, Or.inl (Or.inr (Or.inr (Or.inr ⟨rfl, dm_11_25, rfl⟩)))⟩)
set_option maxRecDepth 100000 in
theorem vm_11 {l : Launch} (hl : l.stackTraces = false) : cj_Vm l 11 := cj_Vm_of (r := kc11_) rfl ⟨vv_11_0 hl, vv_11_1 hl, vv_11_2 hl, vv_11_3 hl, vv_11_4 hl, vv_11_7 hl, vv_11_8 hl, vv_11_11 hl, vv_11_12 hl, vv_11_13 hl, vv_11_16 hl, vv_11_17 hl, vv_11_18 hl, vv_11_21 hl, vv_11_24 hl, vv_11_25 hl, trivial⟩
set_option maxRecDepth 100000 in
theorem vv_12_0 {l : Launch} (hl : l.stackTraces = false) : cj_V1 l 12 0 (3, 0, 0, []) 1 := Or.inl ⟨by decide +kernel, ok_aload_n dm_12_0 rfl⟩
set_option maxRecDepth 100000 in
theorem vv_12_1 {l : Launch} (hl : l.stackTraces = false) : cj_V1 l 12 1 (50, 2, 3, []) 4 := Or.inl ⟨by decide +kernel, ok_getfield (N := 4) (C := RK_2) (T := TK_2) dm_12_1 rfl inK_2 (by decide +kernel) wm_58⟩
set_option maxRecDepth 100000 in
theorem vv_12_4 {l : Launch} (hl : l.stackTraces = false) : cj_V1 l 12 4 (90, 0, 0, []) 5 := Or.inr (Or.inl ⟨by decide +kernel, Or.inl (Or.inl ⟨rfl, dm_12_4, rfl⟩)⟩)
set_option maxRecDepth 100000 in
theorem vm_12 {l : Launch} (hl : l.stackTraces = false) : cj_Vm l 12 := cj_Vm_of (r := kc12_) rfl ⟨vv_12_0 hl, vv_12_1 hl, vv_12_4 hl, trivial⟩
set_option maxRecDepth 100000 in
theorem vv_13_0 {l : Launch} (hl : l.stackTraces = false) : cj_V1 l 13 0 (2, 1, 0, []) 1 := Or.inl ⟨by decide +kernel, ok_iload_n dm_13_0 rfl⟩
set_option maxRecDepth 100000 in
theorem vv_13_1 {l : Launch} (hl : l.stackTraces = false) : cj_V1 l 13 1 (33, 9, 0, []) 4 := Or.inl ⟨by decide +kernel, ok_if_lt dm_13_1 (by decide +kernel)⟩
set_option maxRecDepth 100000 in
theorem vv_13_4 {l : Launch} (hl : l.stackTraces = false) : cj_V1 l 13 4 (2, 1, 0, []) 5 := Or.inl ⟨by decide +kernel, ok_iload_n dm_13_4 rfl⟩
set_option maxRecDepth 100000 in
theorem vv_13_5 {l : Launch} (hl : l.stackTraces = false) : cj_V1 l 13 5 (0, 4, 0, []) 6 := Or.inl ⟨by decide +kernel, ok_iconst dm_13_5 (by decide +kernel)⟩
set_option maxRecDepth 100000 in
theorem vv_13_6 {l : Launch} (hl : l.stackTraces = false) : cj_V1 l 13 6 (39, 11, 0, []) 9 := Or.inl ⟨by decide +kernel, ok_icmp_lt dm_13_6 (by decide +kernel)⟩
set_option maxRecDepth 100000 in
theorem vv_13_9 {l : Launch} (hl : l.stackTraces = false) : cj_V1 l 13 9 (1, 1, 0, []) 10 := Or.inl ⟨by decide +kernel, ok_iconst_m dm_13_9 (by decide +kernel)⟩
set_option maxRecDepth 100000 in
theorem vv_13_10 {l : Launch} (hl : l.stackTraces = false) : cj_V1 l 13 10 (90, 0, 0, []) 11 := Or.inr (Or.inl ⟨by decide +kernel, Or.inl (Or.inl ⟨rfl, dm_13_10, rfl⟩)⟩)
set_option maxRecDepth 100000 in
theorem vv_13_11 {l : Launch} (hl : l.stackTraces = false) : cj_V1 l 13 11 (3, 0, 0, []) 12 := Or.inl ⟨by decide +kernel, ok_aload_n dm_13_11 rfl⟩
set_option maxRecDepth 100000 in
theorem vv_13_12 {l : Launch} (hl : l.stackTraces = false) : cj_V1 l 13 12 (50, 2, 1, []) 15 := Or.inl ⟨by decide +kernel, ok_getfield (N := 4) (C := RK_2) (T := TK_2) dm_13_12 rfl inK_2 (by decide +kernel) wm_56⟩
set_option maxRecDepth 100000 in
theorem vv_13_15 {l : Launch} (hl : l.stackTraces = false) : cj_V1 l 13 15 (2, 1, 0, []) 16 := Or.inl ⟨by decide +kernel, ok_iload_n dm_13_15 rfl⟩
set_option maxRecDepth 100000 in
theorem vv_13_16 {l : Launch} (hl : l.stackTraces = false) : cj_V1 l 13 16 (54, 0, 0, []) 17 := Or.inl ⟨by decide +kernel, ok_iaload dm_13_16 rfl⟩
set_option maxRecDepth 100000 in
theorem vv_13_17 {l : Launch} (hl : l.stackTraces = false) : cj_V1 l 13 17 (4, 3, 0, []) 18 := Or.inl ⟨by decide +kernel, ok_istore_n dm_13_17 rfl⟩
set_option maxRecDepth 100000 in
theorem vv_13_18 {l : Launch} (hl : l.stackTraces = false) : cj_V1 l 13 18 (3, 0, 0, []) 19 := Or.inl ⟨by decide +kernel, ok_aload_n dm_13_18 rfl⟩
set_option maxRecDepth 100000 in
theorem vv_13_19 {l : Launch} (hl : l.stackTraces = false) : cj_V1 l 13 19 (50, 2, 1, []) 22 := Or.inl ⟨by decide +kernel, ok_getfield (N := 4) (C := RK_2) (T := TK_2) dm_13_19 rfl inK_2 (by decide +kernel) wm_56⟩
set_option maxRecDepth 100000 in
theorem vv_13_22 {l : Launch} (hl : l.stackTraces = false) : cj_V1 l 13 22 (2, 1, 0, []) 23 := Or.inl ⟨by decide +kernel, ok_iload_n dm_13_22 rfl⟩
set_option maxRecDepth 100000 in
theorem vv_13_23 {l : Launch} (hl : l.stackTraces = false) : cj_V1 l 13 23 (2, 2, 0, []) 24 := Or.inl ⟨by decide +kernel, ok_iload_n dm_13_23 rfl⟩
set_option maxRecDepth 100000 in
theorem vv_13_24 {l : Launch} (hl : l.stackTraces = false) : cj_V1 l 13 24 (56, 0, 0, []) 25 := Or.inl ⟨by decide +kernel, ok_iastore dm_13_24 rfl⟩
set_option maxRecDepth 100000 in
theorem vv_13_25 {l : Launch} (hl : l.stackTraces = false) : cj_V1 l 13 25 (2, 3, 0, []) 26 := Or.inl ⟨by decide +kernel, ok_iload_n dm_13_25 rfl⟩
set_option maxRecDepth 100000 in
theorem vv_13_26 {l : Launch} (hl : l.stackTraces = false) : cj_V1 l 13 26 (90, 0, 0, []) 27 := Or.inr (Or.inl ⟨by decide +kernel, Or.inl (Or.inl ⟨rfl, dm_13_26, rfl⟩)⟩)
set_option maxRecDepth 100000 in
theorem vm_13 {l : Launch} (hl : l.stackTraces = false) : cj_Vm l 13 := cj_Vm_of (r := kc13_) rfl ⟨vv_13_0 hl, vv_13_1 hl, vv_13_4 hl, vv_13_5 hl, vv_13_6 hl, vv_13_9 hl, vv_13_10 hl, vv_13_11 hl, vv_13_12 hl, vv_13_15 hl, vv_13_16 hl, vv_13_17 hl, vv_13_18 hl, vv_13_19 hl, vv_13_22 hl, vv_13_23 hl, vv_13_24 hl, vv_13_25 hl, vv_13_26 hl, trivial⟩
set_option maxRecDepth 100000 in
theorem vv_14_0 {l : Launch} (hl : l.stackTraces = false) : cj_V1 l 14 0 (3, 0, 0, []) 1 := Or.inl ⟨by decide +kernel, ok_aload_n dm_14_0 rfl⟩
set_option maxRecDepth 100000 in
theorem vv_14_1 {l : Launch} (hl : l.stackTraces = false) : cj_V1 l 14 1 (50, 2, 0, []) 4 := Or.inl ⟨by decide +kernel, ok_getfield (N := 4) (C := RK_2) (T := TK_2) dm_14_1 rfl inK_2 (by decide +kernel) wm_55⟩
set_option maxRecDepth 100000 in
theorem vv_14_4 {l : Launch} (hl : l.stackTraces = false) : cj_V1 l 14 4 (2, 1, 0, []) 5 := Or.inl ⟨by decide +kernel, ok_iload_n dm_14_4 rfl⟩
set_option maxRecDepth 100000 in
theorem vv_14_5 {l : Launch} (hl : l.stackTraces = false) : cj_V1 l 14 5 (33, 13, 0, []) 8 := Or.inl ⟨by decide +kernel, ok_if_lt dm_14_5 (by decide +kernel)⟩
set_option maxRecDepth 100000 in
theorem vv_14_8 {l : Launch} (hl : l.stackTraces = false) : cj_V1 l 14 8 (2, 1, 0, []) 9 := Or.inl ⟨by decide +kernel, ok_iload_n dm_14_8 rfl⟩
set_option maxRecDepth 100000 in
theorem vv_14_9 {l : Launch} (hl : l.stackTraces = false) : cj_V1 l 14 9 (0, 4, 0, []) 10 := Or.inl ⟨by decide +kernel, ok_iconst dm_14_9 (by decide +kernel)⟩
set_option maxRecDepth 100000 in
theorem vv_14_10 {l : Launch} (hl : l.stackTraces = false) : cj_V1 l 14 10 (39, 17, 0, []) 13 := Or.inl ⟨by decide +kernel, ok_icmp_lt dm_14_10 (by decide +kernel)⟩
set_option maxRecDepth 100000 in
theorem vv_14_13 {l : Launch} (hl : l.stackTraces = false) : cj_V1 l 14 13 (0, 0, 0, []) 14 := Or.inl ⟨by decide +kernel, ok_iconst dm_14_13 (by decide +kernel)⟩
set_option maxRecDepth 100000 in
theorem vv_14_14 {l : Launch} (hl : l.stackTraces = false) : cj_V1 l 14 14 (30, 18, 0, []) 17 := Or.inl ⟨by decide +kernel, ok_goto dm_14_14 (by decide +kernel)⟩
set_option maxRecDepth 100000 in
theorem vv_14_17 {l : Launch} (hl : l.stackTraces = false) : cj_V1 l 14 17 (2, 1, 0, []) 18 := Or.inl ⟨by decide +kernel, ok_iload_n dm_14_17 rfl⟩
set_option maxRecDepth 100000 in
theorem vv_14_18 {l : Launch} (hl : l.stackTraces = false) : cj_V1 l 14 18 (54, 3, 0, []) 19 := Or.inl ⟨by decide +kernel, ok_aaload (C := "CatalogueSet$Signs") dm_14_18 rfl⟩
set_option maxRecDepth 100000 in
theorem vv_14_19 {l : Launch} (hl : l.stackTraces = false) : cj_V1 l 14 19 (92, 0, 0, []) 20 := Or.inr (Or.inl ⟨by decide +kernel, Or.inl (Or.inr (Or.inr (Or.inl ⟨rfl, dm_14_19, _, rfl, Or.inl ⟨_, rfl⟩⟩)))⟩)
set_option maxRecDepth 100000 in
theorem vm_14 {l : Launch} (hl : l.stackTraces = false) : cj_Vm l 14 := cj_Vm_of (r := kc14_) rfl ⟨vv_14_0 hl, vv_14_1 hl, vv_14_4 hl, vv_14_5 hl, vv_14_8 hl, vv_14_9 hl, vv_14_10 hl, vv_14_13 hl, vv_14_14 hl, vv_14_17 hl, vv_14_18 hl, vv_14_19 hl, trivial⟩
set_option maxRecDepth 100000 in
theorem vv_15_0 {l : Launch} (hl : l.stackTraces = false) : cj_V1 l 15 0 (3, 0, 0, []) 1 := Or.inl ⟨by decide +kernel, ok_aload_n dm_15_0 rfl⟩
set_option maxRecDepth 100000 in
theorem vv_15_1 {l : Launch} (hl : l.stackTraces = false) : cj_V1 l 15 1 (3, 1, 0, []) 2 := Or.inl ⟨by decide +kernel, ok_aload_n dm_15_1 rfl⟩
set_option maxRecDepth 100000 in
theorem vv_15_2 {l : Launch} (hl : l.stackTraces = false) : cj_V1 l 15 2 (51, 2, 2, [2]) 5 := Or.inl ⟨by decide +kernel, ok_putfield (N := 4) (C := RK_2) (T := TK_2) (ty0 := tyK_2) dm_15_2 rfl inK_2 (by decide +kernel) wm_57 tyK_2_ok nmK_2 (Or.inl rfl) (Or.inr (Or.inr (Or.inl ⟨rfl, Or.inl ⟨_, rfl⟩⟩)))⟩
set_option maxRecDepth 100000 in
theorem vv_15_5 {l : Launch} (hl : l.stackTraces = false) : cj_V1 l 15 5 (91, 0, 0, []) 6 := Or.inr (Or.inl ⟨by decide +kernel, Or.inl (Or.inr (Or.inl ⟨rfl, dm_15_5, rfl⟩))⟩)
set_option maxRecDepth 100000 in
theorem vm_15 {l : Launch} (hl : l.stackTraces = false) : cj_Vm l 15 := cj_Vm_of (r := kc15_) rfl ⟨vv_15_0 hl, vv_15_1 hl, vv_15_2 hl, vv_15_5 hl, trivial⟩
set_option maxRecDepth 100000 in
theorem vv_16_0 {l : Launch} (hl : l.stackTraces = false) : cj_V1 l 16 0 (3, 0, 0, []) 1 := Or.inl ⟨by decide +kernel, ok_aload_n dm_16_0 rfl⟩
set_option maxRecDepth 100000 in
theorem vv_16_1 {l : Launch} (hl : l.stackTraces = false) : cj_V1 l 16 1 (83, 0, 0, []) 4 := Or.inl ⟨by decide +kernel, ok_objInit dm_16_1 wm_82 wm_22 wm_23 (by decide +kernel) (by decide +kernel)⟩
set_option maxRecDepth 100000 in
theorem vv_16_4 {l : Launch} (hl : l.stackTraces = false) : cj_V1 l 16 4 (3, 0, 0, []) 5 := Or.inl ⟨by decide +kernel, ok_aload_n dm_16_4 rfl⟩
set_option maxRecDepth 100000 in
theorem vv_16_5 {l : Launch} (hl : l.stackTraces = false) : cj_V1 l 16 5 (0, 848, 0, []) 8 := Or.inl ⟨by decide +kernel, ok_sipush dm_16_5 (by decide +kernel)⟩
set_option maxRecDepth 100000 in
theorem vv_16_8 {l : Launch} (hl : l.stackTraces = false) : cj_V1 l 16 8 (71, 0, 0, []) 10 := Or.inl ⟨by decide +kernel, ok_newarray (ty := .int) (x := (.inl (fun _ => 0))) dm_16_8 rfl rfl wm_68 (fun _ _ => rfl) (fun _ _ => trivial) (by decide +kernel) rfl (fun _ _ _ _ => rfl)⟩
set_option maxRecDepth 100000 in
theorem vv_16_10 {l : Launch} (hl : l.stackTraces = false) : cj_V1 l 16 10 (51, 3, 0, [2]) 13 := Or.inl ⟨by decide +kernel, ok_putfield (N := 6) (C := RK_3) (T := TK_3) (ty0 := tyK_3) dm_16_10 rfl inK_3 (by decide +kernel) wm_83 tyK_3_ok nmK_3 (Or.inr ⟨rfl, rfl, rfl⟩) (Or.inr (Or.inr (Or.inl ⟨rfl, Or.inr ⟨_, rfl⟩⟩)))⟩
set_option maxRecDepth 100000 in
theorem vv_16_13 {l : Launch} (hl : l.stackTraces = false) : cj_V1 l 16 13 (3, 0, 0, []) 14 := Or.inl ⟨by decide +kernel, ok_aload_n dm_16_13 rfl⟩
set_option maxRecDepth 100000 in
theorem vv_16_14 {l : Launch} (hl : l.stackTraces = false) : cj_V1 l 16 14 (0, 849, 0, []) 17 := Or.inl ⟨by decide +kernel, ok_sipush dm_16_14 (by decide +kernel)⟩
set_option maxRecDepth 100000 in
theorem vv_16_17 {l : Launch} (hl : l.stackTraces = false) : cj_V1 l 16 17 (71, 0, 0, []) 19 := Or.inl ⟨by decide +kernel, ok_newarray (ty := .int) (x := (.inl (fun _ => 0))) dm_16_17 rfl rfl wm_68 (fun _ _ => rfl) (fun _ _ => trivial) (by decide +kernel) rfl (fun _ _ _ _ => rfl)⟩
set_option maxRecDepth 100000 in
theorem vv_16_19 {l : Launch} (hl : l.stackTraces = false) : cj_V1 l 16 19 (51, 3, 1, [2]) 22 := Or.inl ⟨by decide +kernel, ok_putfield (N := 6) (C := RK_3) (T := TK_3) (ty0 := tyK_3) dm_16_19 rfl inK_3 (by decide +kernel) wm_84 tyK_3_ok nmK_3 (Or.inr ⟨rfl, rfl, rfl⟩) (Or.inr (Or.inr (Or.inl ⟨rfl, Or.inr ⟨_, rfl⟩⟩)))⟩
set_option maxRecDepth 100000 in
theorem vv_16_22 {l : Launch} (hl : l.stackTraces = false) : cj_V1 l 16 22 (3, 0, 0, []) 23 := Or.inl ⟨by decide +kernel, ok_aload_n dm_16_22 rfl⟩
set_option maxRecDepth 100000 in
theorem vv_16_23 {l : Launch} (hl : l.stackTraces = false) : cj_V1 l 16 23 (0, 848, 0, []) 26 := Or.inl ⟨by decide +kernel, ok_sipush dm_16_23 (by decide +kernel)⟩
set_option maxRecDepth 100000 in
theorem vv_16_26 {l : Launch} (hl : l.stackTraces = false) : cj_V1 l 16 26 (71, 0, 0, []) 28 := Or.inl ⟨by decide +kernel, ok_newarray (ty := .int) (x := (.inl (fun _ => 0))) dm_16_26 rfl rfl wm_68 (fun _ _ => rfl) (fun _ _ => trivial) (by decide +kernel) rfl (fun _ _ _ _ => rfl)⟩
set_option maxRecDepth 100000 in
theorem vv_16_28 {l : Launch} (hl : l.stackTraces = false) : cj_V1 l 16 28 (51, 3, 2, [2]) 31 := Or.inl ⟨by decide +kernel, ok_putfield (N := 6) (C := RK_3) (T := TK_3) (ty0 := tyK_3) dm_16_28 rfl inK_3 (by decide +kernel) wm_85 tyK_3_ok nmK_3 (Or.inr ⟨rfl, rfl, rfl⟩) (Or.inr (Or.inr (Or.inl ⟨rfl, Or.inr ⟨_, rfl⟩⟩)))⟩
set_option maxRecDepth 100000 in
theorem vv_16_31 {l : Launch} (hl : l.stackTraces = false) : cj_V1 l 16 31 (91, 0, 0, []) 32 := Or.inr (Or.inl ⟨by decide +kernel, Or.inl (Or.inr (Or.inl ⟨rfl, dm_16_31, rfl⟩))⟩)
set_option maxRecDepth 100000 in
theorem vm_16 {l : Launch} (hl : l.stackTraces = false) : cj_Vm l 16 := cj_Vm_of (r := kc16_) rfl ⟨vv_16_0 hl, vv_16_1 hl, vv_16_4 hl, vv_16_5 hl, vv_16_8 hl, vv_16_10 hl, vv_16_13 hl, vv_16_14 hl, vv_16_17 hl, vv_16_19 hl, vv_16_22 hl, vv_16_23 hl, vv_16_26 hl, vv_16_28 hl, vv_16_31 hl, trivial⟩
set_option maxRecDepth 100000 in
theorem vv_17_0 {l : Launch} (hl : l.stackTraces = false) : cj_V1 l 17 0 (3, 0, 0, []) 1 := Or.inl ⟨by decide +kernel, ok_aload_n dm_17_0 rfl⟩
set_option maxRecDepth 100000 in
theorem vv_17_1 {l : Launch} (hl : l.stackTraces = false) : cj_V1 l 17 1 (50, 3, 3, []) 4 := Or.inl ⟨by decide +kernel, ok_getfield (N := 6) (C := RK_3) (T := TK_3) dm_17_1 rfl inK_3 (by decide +kernel) wm_86⟩
set_option maxRecDepth 100000 in
theorem vv_17_4 {l : Launch} (hl : l.stackTraces = false) : cj_V1 l 17 4 (0, 848, 0, []) 7 := Or.inl ⟨by decide +kernel, ok_sipush dm_17_4 (by decide +kernel)⟩
set_option maxRecDepth 100000 in
theorem vv_17_7 {l : Launch} (hl : l.stackTraces = false) : cj_V1 l 17 7 (40, 30, 0, []) 10 := Or.inl ⟨by decide +kernel, ok_icmp_ge dm_17_7 (by decide +kernel)⟩
set_option maxRecDepth 100000 in
theorem vv_17_10 {l : Launch} (hl : l.stackTraces = false) : cj_V1 l 17 10 (3, 0, 0, []) 11 := Or.inl ⟨by decide +kernel, ok_aload_n dm_17_10 rfl⟩
set_option maxRecDepth 100000 in
theorem vv_17_11 {l : Launch} (hl : l.stackTraces = false) : cj_V1 l 17 11 (50, 3, 0, []) 14 := Or.inl ⟨by decide +kernel, ok_getfield (N := 6) (C := RK_3) (T := TK_3) dm_17_11 rfl inK_3 (by decide +kernel) wm_83⟩
set_option maxRecDepth 100000 in
theorem vv_17_14 {l : Launch} (hl : l.stackTraces = false) : cj_V1 l 17 14 (3, 0, 0, []) 15 := Or.inl ⟨by decide +kernel, ok_aload_n dm_17_14 rfl⟩
set_option maxRecDepth 100000 in
theorem vv_17_15 {l : Launch} (hl : l.stackTraces = false) : cj_V1 l 17 15 (50, 3, 3, []) 18 := Or.inl ⟨by decide +kernel, ok_getfield (N := 6) (C := RK_3) (T := TK_3) dm_17_15 rfl inK_3 (by decide +kernel) wm_86⟩
set_option maxRecDepth 100000 in
theorem vv_17_18 {l : Launch} (hl : l.stackTraces = false) : cj_V1 l 17 18 (2, 1, 0, []) 19 := Or.inl ⟨by decide +kernel, ok_iload_n dm_17_18 rfl⟩
set_option maxRecDepth 100000 in
theorem vv_17_19 {l : Launch} (hl : l.stackTraces = false) : cj_V1 l 17 19 (56, 0, 0, []) 20 := Or.inl ⟨by decide +kernel, ok_iastore dm_17_19 rfl⟩
set_option maxRecDepth 100000 in
theorem vv_17_20 {l : Launch} (hl : l.stackTraces = false) : cj_V1 l 17 20 (3, 0, 0, []) 21 := Or.inl ⟨by decide +kernel, ok_aload_n dm_17_20 rfl⟩
set_option maxRecDepth 100000 in
theorem vv_17_21 {l : Launch} (hl : l.stackTraces = false) : cj_V1 l 17 21 (25, 0, 0, []) 22 := Or.inl ⟨by decide +kernel, ok_dup dm_17_21⟩
set_option maxRecDepth 100000 in
theorem vv_17_22 {l : Launch} (hl : l.stackTraces = false) : cj_V1 l 17 22 (50, 3, 3, []) 25 := Or.inl ⟨by decide +kernel, ok_getfield (N := 6) (C := RK_3) (T := TK_3) dm_17_22 rfl inK_3 (by decide +kernel) wm_86⟩
set_option maxRecDepth 100000 in
theorem vv_17_25 {l : Launch} (hl : l.stackTraces = false) : cj_V1 l 17 25 (0, 1, 0, []) 26 := Or.inl ⟨by decide +kernel, ok_iconst dm_17_25 (by decide +kernel)⟩
set_option maxRecDepth 100000 in
theorem vv_17_26 {l : Launch} (hl : l.stackTraces = false) : cj_V1 l 17 26 (10, 0, 0, []) 27 := Or.inl ⟨by decide +kernel, ok_iadd dm_17_26⟩
set_option maxRecDepth 100000 in
theorem vv_17_27 {l : Launch} (hl : l.stackTraces = false) : cj_V1 l 17 27 (51, 3, 3, [0]) 30 := Or.inl ⟨by decide +kernel, ok_putfield (N := 6) (C := RK_3) (T := TK_3) (ty0 := tyK_3) dm_17_27 rfl inK_3 (by decide +kernel) wm_86 tyK_3_ok nmK_3 (Or.inl rfl) (Or.inl ⟨rfl, rfl⟩)⟩
set_option maxRecDepth 100000 in
theorem vv_17_30 {l : Launch} (hl : l.stackTraces = false) : cj_V1 l 17 30 (91, 0, 0, []) 31 := Or.inr (Or.inl ⟨by decide +kernel, Or.inl (Or.inr (Or.inl ⟨rfl, dm_17_30, rfl⟩))⟩)
set_option maxRecDepth 100000 in
theorem vm_17 {l : Launch} (hl : l.stackTraces = false) : cj_Vm l 17 := cj_Vm_of (r := kc17_) rfl ⟨vv_17_0 hl, vv_17_1 hl, vv_17_4 hl, vv_17_7 hl, vv_17_10 hl, vv_17_11 hl, vv_17_14 hl, vv_17_15 hl, vv_17_18 hl, vv_17_19 hl, vv_17_20 hl, vv_17_21 hl, vv_17_22 hl, vv_17_25 hl, vv_17_26 hl, vv_17_27 hl, vv_17_30 hl, trivial⟩
set_option maxRecDepth 100000 in
theorem vv_18_0 {l : Launch} (hl : l.stackTraces = false) : cj_V1 l 18 0 (2, 1, 0, []) 1 := Or.inl ⟨by decide +kernel, ok_iload_n dm_18_0 rfl⟩
set_option maxRecDepth 100000 in
theorem vv_18_1 {l : Launch} (hl : l.stackTraces = false) : cj_V1 l 18 1 (33, 21, 0, []) 4 := Or.inl ⟨by decide +kernel, ok_if_lt dm_18_1 (by decide +kernel)⟩
set_option maxRecDepth 100000 in
theorem vv_18_4 {l : Launch} (hl : l.stackTraces = false) : cj_V1 l 18 4 (2, 1, 0, []) 5 := Or.inl ⟨by decide +kernel, ok_iload_n dm_18_4 rfl⟩
set_option maxRecDepth 100000 in
theorem vv_18_5 {l : Launch} (hl : l.stackTraces = false) : cj_V1 l 18 5 (3, 0, 0, []) 6 := Or.inl ⟨by decide +kernel, ok_aload_n dm_18_5 rfl⟩
set_option maxRecDepth 100000 in
theorem vv_18_6 {l : Launch} (hl : l.stackTraces = false) : cj_V1 l 18 6 (50, 3, 3, []) 9 := Or.inl ⟨by decide +kernel, ok_getfield (N := 6) (C := RK_3) (T := TK_3) dm_18_6 rfl inK_3 (by decide +kernel) wm_86⟩
set_option maxRecDepth 100000 in
theorem vv_18_9 {l : Launch} (hl : l.stackTraces = false) : cj_V1 l 18 9 (40, 21, 0, []) 12 := Or.inl ⟨by decide +kernel, ok_icmp_ge dm_18_9 (by decide +kernel)⟩
set_option maxRecDepth 100000 in
theorem vv_18_12 {l : Launch} (hl : l.stackTraces = false) : cj_V1 l 18 12 (3, 0, 0, []) 13 := Or.inl ⟨by decide +kernel, ok_aload_n dm_18_12 rfl⟩
set_option maxRecDepth 100000 in
theorem vv_18_13 {l : Launch} (hl : l.stackTraces = false) : cj_V1 l 18 13 (50, 3, 2, []) 16 := Or.inl ⟨by decide +kernel, ok_getfield (N := 6) (C := RK_3) (T := TK_3) dm_18_13 rfl inK_3 (by decide +kernel) wm_85⟩
set_option maxRecDepth 100000 in
theorem vv_18_16 {l : Launch} (hl : l.stackTraces = false) : cj_V1 l 18 16 (2, 1, 0, []) 17 := Or.inl ⟨by decide +kernel, ok_iload_n dm_18_16 rfl⟩
set_option maxRecDepth 100000 in
theorem vv_18_17 {l : Launch} (hl : l.stackTraces = false) : cj_V1 l 18 17 (54, 0, 0, []) 18 := Or.inl ⟨by decide +kernel, ok_iaload dm_18_17 rfl⟩
set_option maxRecDepth 100000 in
theorem vv_18_18 {l : Launch} (hl : l.stackTraces = false) : cj_V1 l 18 18 (30, 25, 0, []) 21 := Or.inl ⟨by decide +kernel, ok_goto dm_18_18 (by decide +kernel)⟩
set_option maxRecDepth 100000 in
theorem vv_18_21 {l : Launch} (hl : l.stackTraces = false) : cj_V1 l 18 21 (3, 0, 0, []) 22 := Or.inl ⟨by decide +kernel, ok_aload_n dm_18_21 rfl⟩
set_option maxRecDepth 100000 in
theorem vv_18_22 {l : Launch} (hl : l.stackTraces = false) : cj_V1 l 18 22 (50, 3, 3, []) 25 := Or.inl ⟨by decide +kernel, ok_getfield (N := 6) (C := RK_3) (T := TK_3) dm_18_22 rfl inK_3 (by decide +kernel) wm_86⟩
set_option maxRecDepth 100000 in
theorem vv_18_25 {l : Launch} (hl : l.stackTraces = false) : cj_V1 l 18 25 (90, 0, 0, []) 26 := Or.inr (Or.inl ⟨by decide +kernel, Or.inl (Or.inl ⟨rfl, dm_18_25, rfl⟩)⟩)
set_option maxRecDepth 100000 in
theorem vm_18 {l : Launch} (hl : l.stackTraces = false) : cj_Vm l 18 := cj_Vm_of (r := kc18_) rfl ⟨vv_18_0 hl, vv_18_1 hl, vv_18_4 hl, vv_18_5 hl, vv_18_6 hl, vv_18_9 hl, vv_18_12 hl, vv_18_13 hl, vv_18_16 hl, vv_18_17 hl, vv_18_18 hl, vv_18_21 hl, vv_18_22 hl, vv_18_25 hl, trivial⟩
set_option maxRecDepth 100000 in
theorem vv_19_0 {l : Launch} (hl : l.stackTraces = false) : cj_V1 l 19 0 (0, 0, 0, []) 1 := Or.inl ⟨by decide +kernel, ok_iconst dm_19_0 (by decide +kernel)⟩
set_option maxRecDepth 100000 in
theorem vv_19_1 {l : Launch} (hl : l.stackTraces = false) : cj_V1 l 19 1 (4, 1, 0, []) 2 := Or.inl ⟨by decide +kernel, ok_istore_n dm_19_1 rfl⟩
set_option maxRecDepth 100000 in
theorem vv_19_2 {l : Launch} (hl : l.stackTraces = false) : cj_V1 l 19 2 (2, 1, 0, []) 3 := Or.inl ⟨by decide +kernel, ok_iload_n dm_19_2 rfl⟩
set_option maxRecDepth 100000 in
theorem vv_19_3 {l : Launch} (hl : l.stackTraces = false) : cj_V1 l 19 3 (3, 0, 0, []) 4 := Or.inl ⟨by decide +kernel, ok_aload_n dm_19_3 rfl⟩
set_option maxRecDepth 100000 in
theorem vv_19_4 {l : Launch} (hl : l.stackTraces = false) : cj_V1 l 19 4 (50, 3, 3, []) 7 := Or.inl ⟨by decide +kernel, ok_getfield (N := 6) (C := RK_3) (T := TK_3) dm_19_4 rfl inK_3 (by decide +kernel) wm_86⟩
set_option maxRecDepth 100000 in
theorem vv_19_7 {l : Launch} (hl : l.stackTraces = false) : cj_V1 l 19 7 (40, 31, 0, []) 10 := Or.inl ⟨by decide +kernel, ok_icmp_ge dm_19_7 (by decide +kernel)⟩
set_option maxRecDepth 100000 in
theorem vv_19_10 {l : Launch} (hl : l.stackTraces = false) : cj_V1 l 19 10 (3, 0, 0, []) 11 := Or.inl ⟨by decide +kernel, ok_aload_n dm_19_10 rfl⟩
set_option maxRecDepth 100000 in
theorem vv_19_11 {l : Launch} (hl : l.stackTraces = false) : cj_V1 l 19 11 (50, 3, 0, []) 14 := Or.inl ⟨by decide +kernel, ok_getfield (N := 6) (C := RK_3) (T := TK_3) dm_19_11 rfl inK_3 (by decide +kernel) wm_83⟩
set_option maxRecDepth 100000 in
theorem vv_19_14 {l : Launch} (hl : l.stackTraces = false) : cj_V1 l 19 14 (2, 1, 0, []) 15 := Or.inl ⟨by decide +kernel, ok_iload_n dm_19_14 rfl⟩
set_option maxRecDepth 100000 in
theorem vv_19_15 {l : Launch} (hl : l.stackTraces = false) : cj_V1 l 19 15 (54, 0, 0, []) 16 := Or.inl ⟨by decide +kernel, ok_iaload dm_19_15 rfl⟩
set_option maxRecDepth 100000 in
theorem vv_19_16 {l : Launch} (hl : l.stackTraces = false) : cj_V1 l 19 16 (3, 0, 0, []) 17 := Or.inl ⟨by decide +kernel, ok_aload_n dm_19_16 rfl⟩
set_option maxRecDepth 100000 in
theorem vv_19_17 {l : Launch} (hl : l.stackTraces = false) : cj_V1 l 19 17 (50, 3, 4, []) 20 := Or.inl ⟨by decide +kernel, ok_getfield (N := 6) (C := RK_3) (T := TK_3) dm_19_17 rfl inK_3 (by decide +kernel) wm_87⟩
set_option maxRecDepth 100000 in
theorem vv_19_20 {l : Launch} (hl : l.stackTraces = false) : cj_V1 l 19 20 (42, 25, 0, []) 23 := Or.inl ⟨by decide +kernel, ok_icmp_le dm_19_20 (by decide +kernel)⟩
set_option maxRecDepth 100000 in
theorem vv_19_23 {l : Launch} (hl : l.stackTraces = false) : cj_V1 l 19 23 (0, 0, 0, []) 24 := Or.inl ⟨by decide +kernel, ok_iconst dm_19_23 (by decide +kernel)⟩
set_option maxRecDepth 100000 in
theorem vv_19_24 {l : Launch} (hl : l.stackTraces = false) : cj_V1 l 19 24 (93, 0, 0, []) 25 := Or.inr (Or.inl ⟨by decide +kernel, Or.inl (Or.inr (Or.inr (Or.inr ⟨rfl, dm_19_24, rfl⟩)))⟩)
set_option maxRecDepth 100000 in
theorem vv_19_25 {l : Launch} (hl : l.stackTraces = false) : cj_V1 l 19 25 (6, 1, 1, []) 28 := Or.inl ⟨by decide +kernel, ok_iinc6 dm_19_25 (by decide +kernel)⟩
set_option maxRecDepth 100000 in
theorem vv_19_28 {l : Launch} (hl : l.stackTraces = false) : cj_V1 l 19 28 (30, 2, 0, []) 31 := Or.inl ⟨by decide +kernel, ok_goto dm_19_28 (by decide +kernel)⟩
set_option maxRecDepth 100000 in
theorem vv_19_31 {l : Launch} (hl : l.stackTraces = false) : cj_V1 l 19 31 (0, 1, 0, []) 32 := Or.inl ⟨by decide +kernel, ok_iconst dm_19_31 (by decide +kernel)⟩
set_option maxRecDepth 100000 in
theorem vv_19_32 {l : Launch} (hl : l.stackTraces = false) : cj_V1 l 19 32 (93, 0, 0, []) 33 := Or.inr (Or.inl ⟨by decide +kernel, Or.inl (Or.inr (Or.inr (Or.inr ⟨rfl, dm_19_32, rfl⟩)))⟩)
set_option maxRecDepth 100000 in
theorem vm_19 {l : Launch} (hl : l.stackTraces = false) : cj_Vm l 19 := cj_Vm_of (r := kc19_) rfl ⟨vv_19_0 hl, vv_19_1 hl, vv_19_2 hl, vv_19_3 hl, vv_19_4 hl, vv_19_7 hl, vv_19_10 hl, vv_19_11 hl, vv_19_14 hl, vv_19_15 hl, vv_19_16 hl, vv_19_17 hl, vv_19_20 hl, vv_19_23 hl, vv_19_24 hl, vv_19_25 hl, vv_19_28 hl, vv_19_31 hl, vv_19_32 hl, trivial⟩
set_option maxRecDepth 100000 in
theorem vv_20_0 {l : Launch} (hl : l.stackTraces = false) : cj_V1 l 20 0 (3, 0, 0, []) 1 := Or.inl ⟨by decide +kernel, ok_aload_n dm_20_0 rfl⟩
set_option maxRecDepth 100000 in
theorem vv_20_1 {l : Launch} (hl : l.stackTraces = false) : cj_V1 l 20 1 (50, 3, 3, []) 4 := Or.inl ⟨by decide +kernel, ok_getfield (N := 6) (C := RK_3) (T := TK_3) dm_20_1 rfl inK_3 (by decide +kernel) wm_86⟩
set_option maxRecDepth 100000 in
theorem vv_20_4 {l : Launch} (hl : l.stackTraces = false) : cj_V1 l 20 4 (90, 0, 0, []) 5 := Or.inr (Or.inl ⟨by decide +kernel, Or.inl (Or.inl ⟨rfl, dm_20_4, rfl⟩)⟩)
set_option maxRecDepth 100000 in
theorem vm_20 {l : Launch} (hl : l.stackTraces = false) : cj_Vm l 20 := cj_Vm_of (r := kc20_) rfl ⟨vv_20_0 hl, vv_20_1 hl, vv_20_4 hl, trivial⟩
set_option maxRecDepth 100000 in
theorem vv_21_0 {l : Launch} (hl : l.stackTraces = false) : cj_V1 l 21 0 (3, 0, 0, []) 1 := Or.inl ⟨by decide +kernel, ok_aload_n dm_21_0 rfl⟩
set_option maxRecDepth 100000 in
theorem vv_21_1 {l : Launch} (hl : l.stackTraces = false) : cj_V1 l 21 1 (50, 3, 1, []) 4 := Or.inl ⟨by decide +kernel, ok_getfield (N := 6) (C := RK_3) (T := TK_3) dm_21_1 rfl inK_3 (by decide +kernel) wm_84⟩
set_option maxRecDepth 100000 in
theorem vv_21_4 {l : Launch} (hl : l.stackTraces = false) : cj_V1 l 21 4 (0, 0, 0, []) 5 := Or.inl ⟨by decide +kernel, ok_iconst dm_21_4 (by decide +kernel)⟩
set_option maxRecDepth 100000 in
theorem vv_21_5 {l : Launch} (hl : l.stackTraces = false) : cj_V1 l 21 5 (54, 0, 0, []) 6 := Or.inl ⟨by decide +kernel, ok_iaload dm_21_5 rfl⟩
set_option maxRecDepth 100000 in
theorem vv_21_6 {l : Launch} (hl : l.stackTraces = false) : cj_V1 l 21 6 (90, 0, 0, []) 7 := Or.inr (Or.inl ⟨by decide +kernel, Or.inl (Or.inl ⟨rfl, dm_21_6, rfl⟩)⟩)
set_option maxRecDepth 100000 in
theorem vm_21 {l : Launch} (hl : l.stackTraces = false) : cj_Vm l 21 := cj_Vm_of (r := kc21_) rfl ⟨vv_21_0 hl, vv_21_1 hl, vv_21_4 hl, vv_21_5 hl, vv_21_6 hl, trivial⟩
set_option maxRecDepth 100000 in
theorem vv_22_0 {l : Launch} (hl : l.stackTraces = false) : cj_V1 l 22 0 (2, 1, 0, []) 1 := Or.inl ⟨by decide +kernel, ok_iload_n dm_22_0 rfl⟩
set_option maxRecDepth 100000 in
theorem vv_22_1 {l : Launch} (hl : l.stackTraces = false) : cj_V1 l 22 1 (33, 21, 0, []) 4 := Or.inl ⟨by decide +kernel, ok_if_lt dm_22_1 (by decide +kernel)⟩
set_option maxRecDepth 100000 in
theorem vv_22_4 {l : Launch} (hl : l.stackTraces = false) : cj_V1 l 22 4 (2, 1, 0, []) 5 := Or.inl ⟨by decide +kernel, ok_iload_n dm_22_4 rfl⟩
set_option maxRecDepth 100000 in
theorem vv_22_5 {l : Launch} (hl : l.stackTraces = false) : cj_V1 l 22 5 (3, 0, 0, []) 6 := Or.inl ⟨by decide +kernel, ok_aload_n dm_22_5 rfl⟩
set_option maxRecDepth 100000 in
theorem vv_22_6 {l : Launch} (hl : l.stackTraces = false) : cj_V1 l 22 6 (50, 3, 3, []) 9 := Or.inl ⟨by decide +kernel, ok_getfield (N := 6) (C := RK_3) (T := TK_3) dm_22_6 rfl inK_3 (by decide +kernel) wm_86⟩
set_option maxRecDepth 100000 in
theorem vv_22_9 {l : Launch} (hl : l.stackTraces = false) : cj_V1 l 22 9 (40, 21, 0, []) 12 := Or.inl ⟨by decide +kernel, ok_icmp_ge dm_22_9 (by decide +kernel)⟩
set_option maxRecDepth 100000 in
theorem vv_22_12 {l : Launch} (hl : l.stackTraces = false) : cj_V1 l 22 12 (3, 0, 0, []) 13 := Or.inl ⟨by decide +kernel, ok_aload_n dm_22_12 rfl⟩
set_option maxRecDepth 100000 in
theorem vv_22_13 {l : Launch} (hl : l.stackTraces = false) : cj_V1 l 22 13 (50, 3, 0, []) 16 := Or.inl ⟨by decide +kernel, ok_getfield (N := 6) (C := RK_3) (T := TK_3) dm_22_13 rfl inK_3 (by decide +kernel) wm_83⟩
set_option maxRecDepth 100000 in
theorem vv_22_16 {l : Launch} (hl : l.stackTraces = false) : cj_V1 l 22 16 (2, 1, 0, []) 17 := Or.inl ⟨by decide +kernel, ok_iload_n dm_22_16 rfl⟩
set_option maxRecDepth 100000 in
theorem vv_22_17 {l : Launch} (hl : l.stackTraces = false) : cj_V1 l 22 17 (54, 0, 0, []) 18 := Or.inl ⟨by decide +kernel, ok_iaload dm_22_17 rfl⟩
set_option maxRecDepth 100000 in
theorem vv_22_18 {l : Launch} (hl : l.stackTraces = false) : cj_V1 l 22 18 (30, 22, 0, []) 21 := Or.inl ⟨by decide +kernel, ok_goto dm_22_18 (by decide +kernel)⟩
set_option maxRecDepth 100000 in
theorem vv_22_21 {l : Launch} (hl : l.stackTraces = false) : cj_V1 l 22 21 (0, 0, 0, []) 22 := Or.inl ⟨by decide +kernel, ok_iconst dm_22_21 (by decide +kernel)⟩
set_option maxRecDepth 100000 in
theorem vv_22_22 {l : Launch} (hl : l.stackTraces = false) : cj_V1 l 22 22 (90, 0, 0, []) 23 := Or.inr (Or.inl ⟨by decide +kernel, Or.inl (Or.inl ⟨rfl, dm_22_22, rfl⟩)⟩)
set_option maxRecDepth 100000 in
theorem vm_22 {l : Launch} (hl : l.stackTraces = false) : cj_Vm l 22 := cj_Vm_of (r := kc22_) rfl ⟨vv_22_0 hl, vv_22_1 hl, vv_22_4 hl, vv_22_5 hl, vv_22_6 hl, vv_22_9 hl, vv_22_12 hl, vv_22_13 hl, vv_22_16 hl, vv_22_17 hl, vv_22_18 hl, vv_22_21 hl, vv_22_22 hl, trivial⟩
set_option maxRecDepth 100000 in
theorem vv_23_0 {l : Launch} (hl : l.stackTraces = false) : cj_V1 l 23 0 (3, 0, 0, []) 1 := Or.inl ⟨by decide +kernel, ok_aload_n dm_23_0 rfl⟩
set_option maxRecDepth 100000 in
theorem vv_23_1 {l : Launch} (hl : l.stackTraces = false) : cj_V1 l 23 1 (2, 1, 0, []) 2 := Or.inl ⟨by decide +kernel, ok_iload_n dm_23_1 rfl⟩
set_option maxRecDepth 100000 in
theorem vv_23_2 {l : Launch} (hl : l.stackTraces = false) : cj_V1 l 23 2 (51, 3, 4, [0]) 5 := Or.inl ⟨by decide +kernel, ok_putfield (N := 6) (C := RK_3) (T := TK_3) (ty0 := tyK_3) dm_23_2 rfl inK_3 (by decide +kernel) wm_87 tyK_3_ok nmK_3 (Or.inl rfl) (Or.inl ⟨rfl, rfl⟩)⟩
set_option maxRecDepth 100000 in
theorem vv_23_5 {l : Launch} (hl : l.stackTraces = false) : cj_V1 l 23 5 (3, 0, 0, []) 6 := Or.inl ⟨by decide +kernel, ok_aload_n dm_23_5 rfl⟩
set_option maxRecDepth 100000 in
theorem vv_23_6 {l : Launch} (hl : l.stackTraces = false) : cj_V1 l 23 6 (2, 2, 0, []) 7 := Or.inl ⟨by decide +kernel, ok_iload_n dm_23_6 rfl⟩
set_option maxRecDepth 100000 in
theorem vv_23_7 {l : Launch} (hl : l.stackTraces = false) : cj_V1 l 23 7 (51, 3, 5, [0]) 10 := Or.inl ⟨by decide +kernel, ok_putfield (N := 6) (C := RK_3) (T := TK_3) (ty0 := tyK_3) dm_23_7 rfl inK_3 (by decide +kernel) wm_88 tyK_3_ok nmK_3 (Or.inl rfl) (Or.inl ⟨rfl, rfl⟩)⟩
set_option maxRecDepth 100000 in
theorem vv_23_10 {l : Launch} (hl : l.stackTraces = false) : cj_V1 l 23 10 (3, 0, 0, []) 11 := Or.inl ⟨by decide +kernel, ok_aload_n dm_23_10 rfl⟩
set_option maxRecDepth 100000 in
theorem vv_23_11 {l : Launch} (hl : l.stackTraces = false) : cj_V1 l 23 11 (0, 0, 0, []) 12 := Or.inl ⟨by decide +kernel, ok_iconst dm_23_11 (by decide +kernel)⟩
set_option maxRecDepth 100000 in
theorem vv_23_12 {l : Launch} (hl : l.stackTraces = false) : cj_V1 l 23 12 (51, 3, 3, [0]) 15 := Or.inl ⟨by decide +kernel, ok_putfield (N := 6) (C := RK_3) (T := TK_3) (ty0 := tyK_3) dm_23_12 rfl inK_3 (by decide +kernel) wm_86 tyK_3_ok nmK_3 (Or.inl rfl) (Or.inl ⟨rfl, rfl⟩)⟩
set_option maxRecDepth 100000 in
theorem vv_23_15 {l : Launch} (hl : l.stackTraces = false) : cj_V1 l 23 15 (91, 0, 0, []) 16 := Or.inr (Or.inl ⟨by decide +kernel, Or.inl (Or.inr (Or.inl ⟨rfl, dm_23_15, rfl⟩))⟩)
set_option maxRecDepth 100000 in
theorem vm_23 {l : Launch} (hl : l.stackTraces = false) : cj_Vm l 23 := cj_Vm_of (r := kc23_) rfl ⟨vv_23_0 hl, vv_23_1 hl, vv_23_2 hl, vv_23_5 hl, vv_23_6 hl, vv_23_7 hl, vv_23_10 hl, vv_23_11 hl, vv_23_12 hl, vv_23_15 hl, trivial⟩
set_option maxRecDepth 100000 in
theorem vv_24_0 {l : Launch} (hl : l.stackTraces = false) : cj_V1 l 24 0 (3, 0, 0, []) 1 := Or.inl ⟨by decide +kernel, ok_aload_n dm_24_0 rfl⟩
set_option maxRecDepth 100000 in
theorem vv_24_1 {l : Launch} (hl : l.stackTraces = false) : cj_V1 l 24 1 (25, 0, 0, []) 2 := Or.inl ⟨by decide +kernel, ok_dup dm_24_1⟩
set_option maxRecDepth 100000 in
theorem vv_24_2 {l : Launch} (hl : l.stackTraces = false) : cj_V1 l 24 2 (50, 5, 8, []) 5 := Or.inl ⟨by decide +kernel, ok_getfield (N := 10) (C := RK_5) (T := TK_5) dm_24_2 rfl inK_5 (by decide +kernel) wm_154⟩
set_option maxRecDepth 100000 in
theorem vv_24_5 {l : Launch} (hl : l.stackTraces = false) : cj_V1 l 24 5 (2, 1, 0, []) 6 := Or.inl ⟨by decide +kernel, ok_iload_n dm_24_5 rfl⟩
set_option maxRecDepth 100000 in
theorem vv_24_6 {l : Launch} (hl : l.stackTraces = false) : cj_V1 l 24 6 (10, 0, 0, []) 7 := Or.inl ⟨by decide +kernel, ok_iadd dm_24_6⟩
set_option maxRecDepth 100000 in
theorem vv_24_7 {l : Launch} (hl : l.stackTraces = false) : cj_V1 l 24 7 (51, 5, 8, [0]) 10 := Or.inl ⟨by decide +kernel, ok_putfield (N := 10) (C := RK_5) (T := TK_5) (ty0 := tyK_5) dm_24_7 rfl inK_5 (by decide +kernel) wm_154 tyK_5_ok nmK_5 (Or.inl rfl) (Or.inl ⟨rfl, rfl⟩)⟩
set_option maxRecDepth 100000 in
theorem vv_24_10 {l : Launch} (hl : l.stackTraces = false) : cj_V1 l 24 10 (91, 0, 0, []) 11 := Or.inr (Or.inl ⟨by decide +kernel, Or.inl (Or.inr (Or.inl ⟨rfl, dm_24_10, rfl⟩))⟩)
set_option maxRecDepth 100000 in
theorem vm_24 {l : Launch} (hl : l.stackTraces = false) : cj_Vm l 24 := cj_Vm_of (r := kc24_) rfl ⟨vv_24_0 hl, vv_24_1 hl, vv_24_2 hl, vv_24_5 hl, vv_24_6 hl, vv_24_7 hl, vv_24_10 hl, trivial⟩
set_option maxRecDepth 100000 in
theorem vv_25_0 {l : Launch} (hl : l.stackTraces = false) : cj_V1 l 25 0 (3, 0, 0, []) 1 := Or.inl ⟨by decide +kernel, ok_aload_n dm_25_0 rfl⟩
set_option maxRecDepth 100000 in
theorem vv_25_1 {l : Launch} (hl : l.stackTraces = false) : cj_V1 l 25 1 (50, 5, 0, []) 4 := Or.inl ⟨by decide +kernel, ok_getfield (N := 10) (C := RK_5) (T := TK_5) dm_25_1 rfl inK_5 (by decide +kernel) wm_146⟩
set_option maxRecDepth 100000 in
theorem vv_25_4 {l : Launch} (hl : l.stackTraces = false) : cj_V1 l 25 4 (2, 1, 0, []) 5 := Or.inl ⟨by decide +kernel, ok_iload_n dm_25_4 rfl⟩
set_option maxRecDepth 100000 in
theorem vv_25_5 {l : Launch} (hl : l.stackTraces = false) : cj_V1 l 25 5 (33, 14, 0, []) 8 := Or.inl ⟨by decide +kernel, ok_if_lt dm_25_5 (by decide +kernel)⟩
set_option maxRecDepth 100000 in
theorem vv_25_8 {l : Launch} (hl : l.stackTraces = false) : cj_V1 l 25 8 (2, 1, 0, []) 9 := Or.inl ⟨by decide +kernel, ok_iload_n dm_25_8 rfl⟩
set_option maxRecDepth 100000 in
theorem vv_25_9 {l : Launch} (hl : l.stackTraces = false) : cj_V1 l 25 9 (0, 8, 0, []) 11 := Or.inl ⟨by decide +kernel, ok_bipush dm_25_9 (by decide +kernel)⟩
set_option maxRecDepth 100000 in
theorem vv_25_11 {l : Launch} (hl : l.stackTraces = false) : cj_V1 l 25 11 (39, 18, 0, []) 14 := Or.inl ⟨by decide +kernel, ok_icmp_lt dm_25_11 (by decide +kernel)⟩
set_option maxRecDepth 100000 in
theorem vv_25_14 {l : Launch} (hl : l.stackTraces = false) : cj_V1 l 25 14 (0, 0, 0, []) 15 := Or.inl ⟨by decide +kernel, ok_iconst dm_25_14 (by decide +kernel)⟩
set_option maxRecDepth 100000 in
theorem vv_25_15 {l : Launch} (hl : l.stackTraces = false) : cj_V1 l 25 15 (30, 19, 0, []) 18 := Or.inl ⟨by decide +kernel, ok_goto dm_25_15 (by decide +kernel)⟩
set_option maxRecDepth 100000 in
theorem vv_25_18 {l : Launch} (hl : l.stackTraces = false) : cj_V1 l 25 18 (2, 1, 0, []) 19 := Or.inl ⟨by decide +kernel, ok_iload_n dm_25_18 rfl⟩
set_option maxRecDepth 100000 in
theorem vv_25_19 {l : Launch} (hl : l.stackTraces = false) : cj_V1 l 25 19 (54, 5, 0, []) 20 := Or.inl ⟨by decide +kernel, ok_aaload (C := "CatalogueSet$Block") dm_25_19 rfl⟩
set_option maxRecDepth 100000 in
theorem vv_25_20 {l : Launch} (hl : l.stackTraces = false) : cj_V1 l 25 20 (92, 0, 0, []) 21 := Or.inr (Or.inl ⟨by decide +kernel, Or.inl (Or.inr (Or.inr (Or.inl ⟨rfl, dm_25_20, _, rfl, Or.inl ⟨_, rfl⟩⟩)))⟩)
set_option maxRecDepth 100000 in
theorem vm_25 {l : Launch} (hl : l.stackTraces = false) : cj_Vm l 25 := cj_Vm_of (r := kc25_) rfl ⟨vv_25_0 hl, vv_25_1 hl, vv_25_4 hl, vv_25_5 hl, vv_25_8 hl, vv_25_9 hl, vv_25_11 hl, vv_25_14 hl, vv_25_15 hl, vv_25_18 hl, vv_25_19 hl, vv_25_20 hl, trivial⟩
set_option maxRecDepth 100000 in
theorem vv_26_0 {l : Launch} (hl : l.stackTraces = false) : cj_V1 l 26 0 (0, 0, 0, []) 1 := Or.inl ⟨by decide +kernel, ok_iconst dm_26_0 (by decide +kernel)⟩
set_option maxRecDepth 100000 in
theorem vv_26_1 {l : Launch} (hl : l.stackTraces = false) : cj_V1 l 26 1 (4, 2, 0, []) 2 := Or.inl ⟨by decide +kernel, ok_istore_n dm_26_1 rfl⟩
set_option maxRecDepth 100000 in
theorem vv_26_2 {l : Launch} (hl : l.stackTraces = false) : cj_V1 l 26 2 (2, 2, 0, []) 3 := Or.inl ⟨by decide +kernel, ok_iload_n dm_26_2 rfl⟩
set_option maxRecDepth 100000 in
theorem vv_26_3 {l : Launch} (hl : l.stackTraces = false) : cj_V1 l 26 3 (3, 0, 0, []) 4 := Or.inl ⟨by decide +kernel, ok_aload_n dm_26_3 rfl⟩
set_option maxRecDepth 100000 in
theorem vv_26_4 {l : Launch} (hl : l.stackTraces = false) : cj_V1 l 26 4 (50, 5, 4, []) 7 := Or.inl ⟨by decide +kernel, ok_getfield (N := 10) (C := RK_5) (T := TK_5) dm_26_4 rfl inK_5 (by decide +kernel) wm_150⟩
set_option maxRecDepth 100000 in
theorem vv_26_7 {l : Launch} (hl : l.stackTraces = false) : cj_V1 l 26 7 (40, 30, 0, []) 10 := Or.inl ⟨by decide +kernel, ok_icmp_ge dm_26_7 (by decide +kernel)⟩
set_option maxRecDepth 100000 in
theorem vv_26_10 {l : Launch} (hl : l.stackTraces = false) : cj_V1 l 26 10 (2, 1, 0, []) 11 := Or.inl ⟨by decide +kernel, ok_iload_n dm_26_10 rfl⟩
set_option maxRecDepth 100000 in
theorem vv_26_11 {l : Launch} (hl : l.stackTraces = false) : cj_V1 l 26 11 (3, 0, 0, []) 12 := Or.inl ⟨by decide +kernel, ok_aload_n dm_26_11 rfl⟩
set_option maxRecDepth 100000 in
theorem vv_26_12 {l : Launch} (hl : l.stackTraces = false) : cj_V1 l 26 12 (50, 5, 1, []) 15 := Or.inl ⟨by decide +kernel, ok_getfield (N := 10) (C := RK_5) (T := TK_5) dm_26_12 rfl inK_5 (by decide +kernel) wm_147⟩
set_option maxRecDepth 100000 in
theorem vv_26_15 {l : Launch} (hl : l.stackTraces = false) : cj_V1 l 26 15 (2, 2, 0, []) 16 := Or.inl ⟨by decide +kernel, ok_iload_n dm_26_15 rfl⟩
set_option maxRecDepth 100000 in
theorem vv_26_16 {l : Launch} (hl : l.stackTraces = false) : cj_V1 l 26 16 (0, 1, 0, []) 17 := Or.inl ⟨by decide +kernel, ok_iconst dm_26_16 (by decide +kernel)⟩
set_option maxRecDepth 100000 in
theorem vv_26_17 {l : Launch} (hl : l.stackTraces = false) : cj_V1 l 26 17 (10, 0, 0, []) 18 := Or.inl ⟨by decide +kernel, ok_iadd dm_26_17⟩
set_option maxRecDepth 100000 in
theorem vv_26_18 {l : Launch} (hl : l.stackTraces = false) : cj_V1 l 26 18 (54, 0, 0, []) 19 := Or.inl ⟨by decide +kernel, ok_iaload dm_26_18 rfl⟩
set_option maxRecDepth 100000 in
theorem vv_26_19 {l : Launch} (hl : l.stackTraces = false) : cj_V1 l 26 19 (40, 24, 0, []) 22 := Or.inl ⟨by decide +kernel, ok_icmp_ge dm_26_19 (by decide +kernel)⟩
set_option maxRecDepth 100000 in
theorem vv_26_22 {l : Launch} (hl : l.stackTraces = false) : cj_V1 l 26 22 (2, 2, 0, []) 23 := Or.inl ⟨by decide +kernel, ok_iload_n dm_26_22 rfl⟩
set_option maxRecDepth 100000 in
theorem vv_26_23 {l : Launch} (hl : l.stackTraces = false) : cj_V1 l 26 23 (90, 0, 0, []) 24 := Or.inr (Or.inl ⟨by decide +kernel, Or.inl (Or.inl ⟨rfl, dm_26_23, rfl⟩)⟩)
set_option maxRecDepth 100000 in
theorem vv_26_24 {l : Launch} (hl : l.stackTraces = false) : cj_V1 l 26 24 (6, 2, 1, []) 27 := Or.inl ⟨by decide +kernel, ok_iinc6 dm_26_24 (by decide +kernel)⟩
set_option maxRecDepth 100000 in
theorem vv_26_27 {l : Launch} (hl : l.stackTraces = false) : cj_V1 l 26 27 (30, 2, 0, []) 30 := Or.inl ⟨by decide +kernel, ok_goto dm_26_27 (by decide +kernel)⟩
set_option maxRecDepth 100000 in
theorem vv_26_30 {l : Launch} (hl : l.stackTraces = false) : cj_V1 l 26 30 (0, 0, 0, []) 31 := Or.inl ⟨by decide +kernel, ok_iconst dm_26_30 (by decide +kernel)⟩
set_option maxRecDepth 100000 in
theorem vv_26_31 {l : Launch} (hl : l.stackTraces = false) : cj_V1 l 26 31 (90, 0, 0, []) 32 := Or.inr (Or.inl ⟨by decide +kernel, Or.inl (Or.inl ⟨rfl, dm_26_31, rfl⟩)⟩)
set_option maxRecDepth 100000 in
theorem vm_26 {l : Launch} (hl : l.stackTraces = false) : cj_Vm l 26 := cj_Vm_of (r := kc26_) rfl ⟨vv_26_0 hl, vv_26_1 hl, vv_26_2 hl, vv_26_3 hl, vv_26_4 hl, vv_26_7 hl, vv_26_10 hl, vv_26_11 hl, vv_26_12 hl, vv_26_15 hl, vv_26_16 hl, vv_26_17 hl, vv_26_18 hl, vv_26_19 hl, vv_26_22 hl, vv_26_23 hl, vv_26_24 hl, vv_26_27 hl, vv_26_30 hl, vv_26_31 hl, trivial⟩
set_option maxRecDepth 100000 in
theorem vv_27_0 {l : Launch} (hl : l.stackTraces = false) : cj_V1 l 27 0 (2, 1, 0, []) 1 := Or.inl ⟨by decide +kernel, ok_iload_n dm_27_0 rfl⟩
set_option maxRecDepth 100000 in
theorem vv_27_1 {l : Launch} (hl : l.stackTraces = false) : cj_V1 l 27 1 (45, 0, 60, [32, 37, 42, 55]) 32 := Or.inl ⟨by decide +kernel, ok_tableswitch dm_27_1 (by decide +kernel) (by decide +kernel) (by decide +kernel) (by decide +kernel)⟩
set_option maxRecDepth 100000 in
theorem vv_27_32 {l : Launch} (hl : l.stackTraces = false) : cj_V1 l 27 32 (3, 0, 0, []) 33 := Or.inl ⟨by decide +kernel, ok_aload_n dm_27_32 rfl⟩
set_option maxRecDepth 100000 in
theorem vv_27_33 {l : Launch} (hl : l.stackTraces = false) : cj_V1 l 27 33 (50, 5, 5, []) 36 := Or.inl ⟨by decide +kernel, ok_getfield (N := 10) (C := RK_5) (T := TK_5) dm_27_33 rfl inK_5 (by decide +kernel) wm_151⟩
set_option maxRecDepth 100000 in
theorem vv_27_36 {l : Launch} (hl : l.stackTraces = false) : cj_V1 l 27 36 (90, 0, 0, []) 37 := Or.inr (Or.inl ⟨by decide +kernel, Or.inl (Or.inl ⟨rfl, dm_27_36, rfl⟩)⟩)
set_option maxRecDepth 100000 in
theorem vv_27_37 {l : Launch} (hl : l.stackTraces = false) : cj_V1 l 27 37 (3, 0, 0, []) 38 := Or.inl ⟨by decide +kernel, ok_aload_n dm_27_37 rfl⟩
set_option maxRecDepth 100000 in
theorem vv_27_38 {l : Launch} (hl : l.stackTraces = false) : cj_V1 l 27 38 (50, 5, 6, []) 41 := Or.inl ⟨by decide +kernel, ok_getfield (N := 10) (C := RK_5) (T := TK_5) dm_27_38 rfl inK_5 (by decide +kernel) wm_152⟩
set_option maxRecDepth 100000 in
theorem vv_27_41 {l : Launch} (hl : l.stackTraces = false) : cj_V1 l 27 41 (90, 0, 0, []) 42 := Or.inr (Or.inl ⟨by decide +kernel, Or.inl (Or.inl ⟨rfl, dm_27_41, rfl⟩)⟩)
set_option maxRecDepth 100000 in
theorem vv_27_42 {l : Launch} (hl : l.stackTraces = false) : cj_V1 l 27 42 (3, 0, 0, []) 43 := Or.inl ⟨by decide +kernel, ok_aload_n dm_27_42 rfl⟩
set_option maxRecDepth 100000 in
theorem vv_27_43 {l : Launch} (hl : l.stackTraces = false) : cj_V1 l 27 43 (50, 5, 7, []) 46 := Or.inl ⟨by decide +kernel, ok_getfield (N := 10) (C := RK_5) (T := TK_5) dm_27_43 rfl inK_5 (by decide +kernel) wm_153⟩
set_option maxRecDepth 100000 in
theorem vv_27_46 {l : Launch} (hl : l.stackTraces = false) : cj_V1 l 27 46 (31, 53, 0, []) 49 := Or.inl ⟨by decide +kernel, ok_if_eq dm_27_46 (by decide +kernel)⟩
set_option maxRecDepth 100000 in
theorem vv_27_49 {l : Launch} (hl : l.stackTraces = false) : cj_V1 l 27 49 (0, 1, 0, []) 50 := Or.inl ⟨by decide +kernel, ok_iconst dm_27_49 (by decide +kernel)⟩
set_option maxRecDepth 100000 in
theorem vv_27_50 {l : Launch} (hl : l.stackTraces = false) : cj_V1 l 27 50 (30, 54, 0, []) 53 := Or.inl ⟨by decide +kernel, ok_goto dm_27_50 (by decide +kernel)⟩
set_option maxRecDepth 100000 in
theorem vv_27_53 {l : Launch} (hl : l.stackTraces = false) : cj_V1 l 27 53 (0, 0, 0, []) 54 := Or.inl ⟨by decide +kernel, ok_iconst dm_27_53 (by decide +kernel)⟩
set_option maxRecDepth 100000 in
theorem vv_27_54 {l : Launch} (hl : l.stackTraces = false) : cj_V1 l 27 54 (90, 0, 0, []) 55 := Or.inr (Or.inl ⟨by decide +kernel, Or.inl (Or.inl ⟨rfl, dm_27_54, rfl⟩)⟩)
set_option maxRecDepth 100000 in
theorem vv_27_55 {l : Launch} (hl : l.stackTraces = false) : cj_V1 l 27 55 (3, 0, 0, []) 56 := Or.inl ⟨by decide +kernel, ok_aload_n dm_27_55 rfl⟩
set_option maxRecDepth 100000 in
theorem vv_27_56 {l : Launch} (hl : l.stackTraces = false) : cj_V1 l 27 56 (50, 5, 8, []) 59 := Or.inl ⟨by decide +kernel, ok_getfield (N := 10) (C := RK_5) (T := TK_5) dm_27_56 rfl inK_5 (by decide +kernel) wm_154⟩
set_option maxRecDepth 100000 in
theorem vv_27_59 {l : Launch} (hl : l.stackTraces = false) : cj_V1 l 27 59 (90, 0, 0, []) 60 := Or.inr (Or.inl ⟨by decide +kernel, Or.inl (Or.inl ⟨rfl, dm_27_59, rfl⟩)⟩)
set_option maxRecDepth 100000 in
theorem vv_27_60 {l : Launch} (hl : l.stackTraces = false) : cj_V1 l 27 60 (3, 0, 0, []) 61 := Or.inl ⟨by decide +kernel, ok_aload_n dm_27_60 rfl⟩
set_option maxRecDepth 100000 in
theorem vv_27_61 {l : Launch} (hl : l.stackTraces = false) : cj_V1 l 27 61 (50, 5, 9, []) 64 := Or.inl ⟨by decide +kernel, ok_getfield (N := 10) (C := RK_5) (T := TK_5) dm_27_61 rfl inK_5 (by decide +kernel) wm_155⟩
set_option maxRecDepth 100000 in
theorem vv_27_64 {l : Launch} (hl : l.stackTraces = false) : cj_V1 l 27 64 (90, 0, 0, []) 65 := Or.inr (Or.inl ⟨by decide +kernel, Or.inl (Or.inl ⟨rfl, dm_27_64, rfl⟩)⟩)
set_option maxRecDepth 100000 in
theorem vm_27 {l : Launch} (hl : l.stackTraces = false) : cj_Vm l 27 := cj_Vm_of (r := kc27_) rfl ⟨vv_27_0 hl, vv_27_1 hl, vv_27_32 hl, vv_27_33 hl, vv_27_36 hl, vv_27_37 hl, vv_27_38 hl, vv_27_41 hl, vv_27_42 hl, vv_27_43 hl, vv_27_46 hl, vv_27_49 hl, vv_27_50 hl, vv_27_53 hl, vv_27_54 hl, vv_27_55 hl, vv_27_56 hl, vv_27_59 hl, vv_27_60 hl, vv_27_61 hl, vv_27_64 hl, trivial⟩
set_option maxRecDepth 100000 in
theorem vv_28_0 {l : Launch} (hl : l.stackTraces = false) : cj_V1 l 28 0 (2, 1, 0, []) 1 := Or.inl ⟨by decide +kernel, ok_iload_n dm_28_0 rfl⟩
set_option maxRecDepth 100000 in
theorem vv_28_1 {l : Launch} (hl : l.stackTraces = false) : cj_V1 l 28 1 (33, 16, 0, []) 4 := Or.inl ⟨by decide +kernel, ok_if_lt dm_28_1 (by decide +kernel)⟩
set_option maxRecDepth 100000 in
theorem vv_28_4 {l : Launch} (hl : l.stackTraces = false) : cj_V1 l 28 4 (2, 1, 0, []) 5 := Or.inl ⟨by decide +kernel, ok_iload_n dm_28_4 rfl⟩
set_option maxRecDepth 100000 in
theorem vv_28_5 {l : Launch} (hl : l.stackTraces = false) : cj_V1 l 28 5 (3, 0, 0, []) 6 := Or.inl ⟨by decide +kernel, ok_aload_n dm_28_5 rfl⟩
set_option maxRecDepth 100000 in
theorem vv_28_6 {l : Launch} (hl : l.stackTraces = false) : cj_V1 l 28 6 (50, 5, 4, []) 9 := Or.inl ⟨by decide +kernel, ok_getfield (N := 10) (C := RK_5) (T := TK_5) dm_28_6 rfl inK_5 (by decide +kernel) wm_150⟩
set_option maxRecDepth 100000 in
theorem vv_28_9 {l : Launch} (hl : l.stackTraces = false) : cj_V1 l 28 9 (40, 16, 0, []) 12 := Or.inl ⟨by decide +kernel, ok_icmp_ge dm_28_9 (by decide +kernel)⟩
set_option maxRecDepth 100000 in
theorem vv_28_12 {l : Launch} (hl : l.stackTraces = false) : cj_V1 l 28 12 (0, 1, 0, []) 13 := Or.inl ⟨by decide +kernel, ok_iconst dm_28_12 (by decide +kernel)⟩
set_option maxRecDepth 100000 in
theorem vv_28_13 {l : Launch} (hl : l.stackTraces = false) : cj_V1 l 28 13 (30, 17, 0, []) 16 := Or.inl ⟨by decide +kernel, ok_goto dm_28_13 (by decide +kernel)⟩
set_option maxRecDepth 100000 in
theorem vv_28_16 {l : Launch} (hl : l.stackTraces = false) : cj_V1 l 28 16 (0, 0, 0, []) 17 := Or.inl ⟨by decide +kernel, ok_iconst dm_28_16 (by decide +kernel)⟩
set_option maxRecDepth 100000 in
theorem vv_28_17 {l : Launch} (hl : l.stackTraces = false) : cj_V1 l 28 17 (93, 0, 0, []) 18 := Or.inr (Or.inl ⟨by decide +kernel, Or.inl (Or.inr (Or.inr (Or.inr ⟨rfl, dm_28_17, rfl⟩)))⟩)
set_option maxRecDepth 100000 in
theorem vm_28 {l : Launch} (hl : l.stackTraces = false) : cj_Vm l 28 := cj_Vm_of (r := kc28_) rfl ⟨vv_28_0 hl, vv_28_1 hl, vv_28_4 hl, vv_28_5 hl, vv_28_6 hl, vv_28_9 hl, vv_28_12 hl, vv_28_13 hl, vv_28_16 hl, vv_28_17 hl, trivial⟩
set_option maxRecDepth 100000 in
theorem vv_29_0 {l : Launch} (hl : l.stackTraces = false) : cj_V1 l 29 0 (0, 1, 0, []) 1 := Or.inl ⟨by decide +kernel, ok_iconst dm_29_0 (by decide +kernel)⟩
set_option maxRecDepth 100000 in
theorem vv_29_1 {l : Launch} (hl : l.stackTraces = false) : cj_V1 l 29 1 (4, 2, 0, []) 2 := Or.inl ⟨by decide +kernel, ok_istore_n dm_29_1 rfl⟩
set_option maxRecDepth 100000 in
theorem vv_29_2 {l : Launch} (hl : l.stackTraces = false) : cj_V1 l 29 2 (2, 2, 0, []) 3 := Or.inl ⟨by decide +kernel, ok_iload_n dm_29_2 rfl⟩
set_option maxRecDepth 100000 in
theorem vv_29_3 {l : Launch} (hl : l.stackTraces = false) : cj_V1 l 29 3 (3, 0, 0, []) 4 := Or.inl ⟨by decide +kernel, ok_aload_n dm_29_3 rfl⟩
set_option maxRecDepth 100000 in
theorem vv_29_4 {l : Launch} (hl : l.stackTraces = false) : cj_V1 l 29 4 (50, 5, 5, []) 7 := Or.inl ⟨by decide +kernel, ok_getfield (N := 10) (C := RK_5) (T := TK_5) dm_29_4 rfl inK_5 (by decide +kernel) wm_151⟩
set_option maxRecDepth 100000 in
theorem vv_29_7 {l : Launch} (hl : l.stackTraces = false) : cj_V1 l 29 7 (41, 28, 0, []) 10 := Or.inl ⟨by decide +kernel, ok_icmp_gt dm_29_7 (by decide +kernel)⟩
set_option maxRecDepth 100000 in
theorem vv_29_10 {l : Launch} (hl : l.stackTraces = false) : cj_V1 l 29 10 (2, 1, 0, []) 11 := Or.inl ⟨by decide +kernel, ok_iload_n dm_29_10 rfl⟩
set_option maxRecDepth 100000 in
theorem vv_29_11 {l : Launch} (hl : l.stackTraces = false) : cj_V1 l 29 11 (3, 0, 0, []) 12 := Or.inl ⟨by decide +kernel, ok_aload_n dm_29_11 rfl⟩
set_option maxRecDepth 100000 in
theorem vv_29_12 {l : Launch} (hl : l.stackTraces = false) : cj_V1 l 29 12 (50, 5, 2, []) 15 := Or.inl ⟨by decide +kernel, ok_getfield (N := 10) (C := RK_5) (T := TK_5) dm_29_12 rfl inK_5 (by decide +kernel) wm_148⟩
set_option maxRecDepth 100000 in
theorem vv_29_15 {l : Launch} (hl : l.stackTraces = false) : cj_V1 l 29 15 (2, 2, 0, []) 16 := Or.inl ⟨by decide +kernel, ok_iload_n dm_29_15 rfl⟩
set_option maxRecDepth 100000 in
theorem vv_29_16 {l : Launch} (hl : l.stackTraces = false) : cj_V1 l 29 16 (54, 0, 0, []) 17 := Or.inl ⟨by decide +kernel, ok_iaload dm_29_16 rfl⟩
set_option maxRecDepth 100000 in
theorem vv_29_17 {l : Launch} (hl : l.stackTraces = false) : cj_V1 l 29 17 (40, 22, 0, []) 20 := Or.inl ⟨by decide +kernel, ok_icmp_ge dm_29_17 (by decide +kernel)⟩
set_option maxRecDepth 100000 in
theorem vv_29_20 {l : Launch} (hl : l.stackTraces = false) : cj_V1 l 29 20 (2, 2, 0, []) 21 := Or.inl ⟨by decide +kernel, ok_iload_n dm_29_20 rfl⟩
set_option maxRecDepth 100000 in
theorem vv_29_21 {l : Launch} (hl : l.stackTraces = false) : cj_V1 l 29 21 (90, 0, 0, []) 22 := Or.inr (Or.inl ⟨by decide +kernel, Or.inl (Or.inl ⟨rfl, dm_29_21, rfl⟩)⟩)
set_option maxRecDepth 100000 in
theorem vv_29_22 {l : Launch} (hl : l.stackTraces = false) : cj_V1 l 29 22 (6, 2, 1, []) 25 := Or.inl ⟨by decide +kernel, ok_iinc6 dm_29_22 (by decide +kernel)⟩
set_option maxRecDepth 100000 in
theorem vv_29_25 {l : Launch} (hl : l.stackTraces = false) : cj_V1 l 29 25 (30, 2, 0, []) 28 := Or.inl ⟨by decide +kernel, ok_goto dm_29_25 (by decide +kernel)⟩
set_option maxRecDepth 100000 in
theorem vv_29_28 {l : Launch} (hl : l.stackTraces = false) : cj_V1 l 29 28 (0, 0, 0, []) 29 := Or.inl ⟨by decide +kernel, ok_iconst dm_29_28 (by decide +kernel)⟩
set_option maxRecDepth 100000 in
theorem vv_29_29 {l : Launch} (hl : l.stackTraces = false) : cj_V1 l 29 29 (90, 0, 0, []) 30 := Or.inr (Or.inl ⟨by decide +kernel, Or.inl (Or.inl ⟨rfl, dm_29_29, rfl⟩)⟩)
set_option maxRecDepth 100000 in
theorem vm_29 {l : Launch} (hl : l.stackTraces = false) : cj_Vm l 29 := cj_Vm_of (r := kc29_) rfl ⟨vv_29_0 hl, vv_29_1 hl, vv_29_2 hl, vv_29_3 hl, vv_29_4 hl, vv_29_7 hl, vv_29_10 hl, vv_29_11 hl, vv_29_12 hl, vv_29_15 hl, vv_29_16 hl, vv_29_17 hl, vv_29_20 hl, vv_29_21 hl, vv_29_22 hl, vv_29_25 hl, vv_29_28 hl, vv_29_29 hl, trivial⟩
set_option maxRecDepth 100000 in
theorem vv_30_0 {l : Launch} (hl : l.stackTraces = false) : cj_V1 l 30 0 (3, 0, 0, []) 1 := Or.inl ⟨by decide +kernel, ok_aload_n dm_30_0 rfl⟩
set_option maxRecDepth 100000 in
theorem vv_30_1 {l : Launch} (hl : l.stackTraces = false) : cj_V1 l 30 1 (50, 5, 5, []) 4 := Or.inl ⟨by decide +kernel, ok_getfield (N := 10) (C := RK_5) (T := TK_5) dm_30_1 rfl inK_5 (by decide +kernel) wm_151⟩
set_option maxRecDepth 100000 in
theorem vv_30_4 {l : Launch} (hl : l.stackTraces = false) : cj_V1 l 30 4 (90, 0, 0, []) 5 := Or.inr (Or.inl ⟨by decide +kernel, Or.inl (Or.inl ⟨rfl, dm_30_4, rfl⟩)⟩)
set_option maxRecDepth 100000 in
theorem vm_30 {l : Launch} (hl : l.stackTraces = false) : cj_Vm l 30 := cj_Vm_of (r := kc30_) rfl ⟨vv_30_0 hl, vv_30_1 hl, vv_30_4 hl, trivial⟩
set_option maxRecDepth 100000 in
theorem vv_31_0 {l : Launch} (hl : l.stackTraces = false) : cj_V1 l 31 0 (3, 0, 0, []) 1 := Or.inl ⟨by decide +kernel, ok_aload_n dm_31_0 rfl⟩
set_option maxRecDepth 100000 in
theorem vv_31_1 {l : Launch} (hl : l.stackTraces = false) : cj_V1 l 31 1 (0, 1, 0, []) 2 := Or.inl ⟨by decide +kernel, ok_iconst dm_31_1 (by decide +kernel)⟩
set_option maxRecDepth 100000 in
theorem vv_31_2 {l : Launch} (hl : l.stackTraces = false) : cj_V1 l 31 2 (51, 5, 7, [1]) 5 := Or.inl ⟨by decide +kernel, ok_putfield (N := 10) (C := RK_5) (T := TK_5) (ty0 := tyK_5) dm_31_2 rfl inK_5 (by decide +kernel) wm_153 tyK_5_ok nmK_5 (Or.inl rfl) (Or.inr (Or.inl ⟨rfl, rfl⟩))⟩
set_option maxRecDepth 100000 in
theorem vv_31_5 {l : Launch} (hl : l.stackTraces = false) : cj_V1 l 31 5 (0, 0, 0, []) 6 := Or.inl ⟨by decide +kernel, ok_iconst dm_31_5 (by decide +kernel)⟩
set_option maxRecDepth 100000 in
theorem vv_31_6 {l : Launch} (hl : l.stackTraces = false) : cj_V1 l 31 6 (4, 2, 0, []) 7 := Or.inl ⟨by decide +kernel, ok_istore_n dm_31_6 rfl⟩
set_option maxRecDepth 100000 in
theorem vv_31_7 {l : Launch} (hl : l.stackTraces = false) : cj_V1 l 31 7 (2, 2, 0, []) 8 := Or.inl ⟨by decide +kernel, ok_iload_n dm_31_7 rfl⟩
set_option maxRecDepth 100000 in
theorem vv_31_8 {l : Launch} (hl : l.stackTraces = false) : cj_V1 l 31 8 (3, 0, 0, []) 9 := Or.inl ⟨by decide +kernel, ok_aload_n dm_31_8 rfl⟩
set_option maxRecDepth 100000 in
theorem vv_31_9 {l : Launch} (hl : l.stackTraces = false) : cj_V1 l 31 9 (50, 5, 4, []) 12 := Or.inl ⟨by decide +kernel, ok_getfield (N := 10) (C := RK_5) (T := TK_5) dm_31_9 rfl inK_5 (by decide +kernel) wm_150⟩
set_option maxRecDepth 100000 in
theorem vv_31_12 {l : Launch} (hl : l.stackTraces = false) : cj_V1 l 31 12 (40, 44, 0, []) 15 := Or.inl ⟨by decide +kernel, ok_icmp_ge dm_31_12 (by decide +kernel)⟩
set_option maxRecDepth 100000 in
theorem vv_31_15 {l : Launch} (hl : l.stackTraces = false) : cj_V1 l 31 15 (2, 2, 0, []) 16 := Or.inl ⟨by decide +kernel, ok_iload_n dm_31_15 rfl⟩
set_option maxRecDepth 100000 in
theorem vv_31_16 {l : Launch} (hl : l.stackTraces = false) : cj_V1 l 31 16 (3, 1, 0, []) 17 := Or.inl ⟨by decide +kernel, ok_aload_n dm_31_16 rfl⟩
set_option maxRecDepth 100000 in
theorem vv_31_17 {l : Launch} (hl : l.stackTraces = false) : cj_V1 l 31 17 (53, 0, 0, []) 18 := Or.inl ⟨by decide +kernel, ok_arraylength dm_31_17⟩
set_option maxRecDepth 100000 in
theorem vv_31_18 {l : Launch} (hl : l.stackTraces = false) : cj_V1 l 31 18 (40, 44, 0, []) 21 := Or.inl ⟨by decide +kernel, ok_icmp_ge dm_31_18 (by decide +kernel)⟩
set_option maxRecDepth 100000 in
theorem vv_31_21 {l : Launch} (hl : l.stackTraces = false) : cj_V1 l 31 21 (3, 0, 0, []) 22 := Or.inl ⟨by decide +kernel, ok_aload_n dm_31_21 rfl⟩
set_option maxRecDepth 100000 in
theorem vv_31_22 {l : Launch} (hl : l.stackTraces = false) : cj_V1 l 31 22 (50, 5, 3, []) 25 := Or.inl ⟨by decide +kernel, ok_getfield (N := 10) (C := RK_5) (T := TK_5) dm_31_22 rfl inK_5 (by decide +kernel) wm_149⟩
set_option maxRecDepth 100000 in
theorem vv_31_25 {l : Launch} (hl : l.stackTraces = false) : cj_V1 l 31 25 (2, 2, 0, []) 26 := Or.inl ⟨by decide +kernel, ok_iload_n dm_31_25 rfl⟩
set_option maxRecDepth 100000 in
theorem vv_31_26 {l : Launch} (hl : l.stackTraces = false) : cj_V1 l 31 26 (54, 0, 0, []) 27 := Or.inl ⟨by decide +kernel, ok_iaload dm_31_26 rfl⟩
set_option maxRecDepth 100000 in
theorem vv_31_27 {l : Launch} (hl : l.stackTraces = false) : cj_V1 l 31 27 (3, 1, 0, []) 28 := Or.inl ⟨by decide +kernel, ok_aload_n dm_31_27 rfl⟩
set_option maxRecDepth 100000 in
theorem vv_31_28 {l : Launch} (hl : l.stackTraces = false) : cj_V1 l 31 28 (2, 2, 0, []) 29 := Or.inl ⟨by decide +kernel, ok_iload_n dm_31_28 rfl⟩
set_option maxRecDepth 100000 in
theorem vv_31_29 {l : Launch} (hl : l.stackTraces = false) : cj_V1 l 31 29 (54, 0, 0, []) 30 := Or.inl ⟨by decide +kernel, ok_iaload dm_31_29 rfl⟩
set_option maxRecDepth 100000 in
theorem vv_31_30 {l : Launch} (hl : l.stackTraces = false) : cj_V1 l 31 30 (37, 38, 0, []) 33 := Or.inl ⟨by decide +kernel, ok_icmp_eq dm_31_30 (by decide +kernel)⟩
set_option maxRecDepth 100000 in
theorem vv_31_33 {l : Launch} (hl : l.stackTraces = false) : cj_V1 l 31 33 (3, 0, 0, []) 34 := Or.inl ⟨by decide +kernel, ok_aload_n dm_31_33 rfl⟩
set_option maxRecDepth 100000 in
theorem vv_31_34 {l : Launch} (hl : l.stackTraces = false) : cj_V1 l 31 34 (0, 0, 0, []) 35 := Or.inl ⟨by decide +kernel, ok_iconst dm_31_34 (by decide +kernel)⟩
set_option maxRecDepth 100000 in
theorem vv_31_35 {l : Launch} (hl : l.stackTraces = false) : cj_V1 l 31 35 (51, 5, 7, [1]) 38 := Or.inl ⟨by decide +kernel, ok_putfield (N := 10) (C := RK_5) (T := TK_5) (ty0 := tyK_5) dm_31_35 rfl inK_5 (by decide +kernel) wm_153 tyK_5_ok nmK_5 (Or.inl rfl) (Or.inr (Or.inl ⟨rfl, rfl⟩))⟩
set_option maxRecDepth 100000 in
theorem vv_31_38 {l : Launch} (hl : l.stackTraces = false) : cj_V1 l 31 38 (6, 2, 1, []) 41 := Or.inl ⟨by decide +kernel, ok_iinc6 dm_31_38 (by decide +kernel)⟩
set_option maxRecDepth 100000 in
theorem vv_31_41 {l : Launch} (hl : l.stackTraces = false) : cj_V1 l 31 41 (30, 7, 0, []) 44 := Or.inl ⟨by decide +kernel, ok_goto dm_31_41 (by decide +kernel)⟩
set_option maxRecDepth 100000 in
theorem vv_31_44 {l : Launch} (hl : l.stackTraces = false) : cj_V1 l 31 44 (3, 0, 0, []) 45 := Or.inl ⟨by decide +kernel, ok_aload_n dm_31_44 rfl⟩
set_option maxRecDepth 100000 in
theorem vv_31_45 {l : Launch} (hl : l.stackTraces = false) : cj_V1 l 31 45 (50, 5, 7, []) 48 := Or.inl ⟨by decide +kernel, ok_getfield (N := 10) (C := RK_5) (T := TK_5) dm_31_45 rfl inK_5 (by decide +kernel) wm_153⟩
set_option maxRecDepth 100000 in
theorem vv_31_48 {l : Launch} (hl : l.stackTraces = false) : cj_V1 l 31 48 (93, 0, 0, []) 49 := Or.inr (Or.inl ⟨by decide +kernel, Or.inl (Or.inr (Or.inr (Or.inr ⟨rfl, dm_31_48, rfl⟩)))⟩)
set_option maxRecDepth 100000 in
theorem vm_31 {l : Launch} (hl : l.stackTraces = false) : cj_Vm l 31 := cj_Vm_of (r := kc31_) rfl ⟨vv_31_0 hl, vv_31_1 hl, vv_31_2 hl, vv_31_5 hl, vv_31_6 hl, vv_31_7 hl, vv_31_8 hl, vv_31_9 hl, vv_31_12 hl, vv_31_15 hl, vv_31_16 hl, vv_31_17 hl, vv_31_18 hl, vv_31_21 hl, vv_31_22 hl, vv_31_25 hl, vv_31_26 hl, vv_31_27 hl, vv_31_28 hl, vv_31_29 hl, vv_31_30 hl, vv_31_33 hl, vv_31_34 hl, vv_31_35 hl, vv_31_38 hl, vv_31_41 hl, vv_31_44 hl, vv_31_45 hl, vv_31_48 hl, trivial⟩
set_option maxRecDepth 100000 in
theorem vv_32_0 {l : Launch} (hl : l.stackTraces = false) : cj_V1 l 32 0 (3, 0, 0, []) 1 := Or.inl ⟨by decide +kernel, ok_aload_n dm_32_0 rfl⟩
set_option maxRecDepth 100000 in
theorem vv_32_1 {l : Launch} (hl : l.stackTraces = false) : cj_V1 l 32 1 (2, 1, 0, []) 2 := Or.inl ⟨by decide +kernel, ok_iload_n dm_32_1 rfl⟩
set_option maxRecDepth 100000 in
theorem vv_32_2 {l : Launch} (hl : l.stackTraces = false) : cj_V1 l 32 2 (0, 8, 0, []) 4 := Or.inl ⟨by decide +kernel, ok_bipush dm_32_2 (by decide +kernel)⟩
set_option maxRecDepth 100000 in
theorem vv_32_4 {l : Launch} (hl : l.stackTraces = false) : cj_V1 l 32 4 (85, 0, 0, []) 7 := Or.inl ⟨by decide +kernel, ok_min dm_32_4 wm_231 wm_25 wm_2 wm_26 (by decide +kernel) (by decide +kernel)⟩
set_option maxRecDepth 100000 in
theorem vv_32_7 {l : Launch} (hl : l.stackTraces = false) : cj_V1 l 32 7 (51, 5, 4, [0]) 10 := Or.inl ⟨by decide +kernel, ok_putfield (N := 10) (C := RK_5) (T := TK_5) (ty0 := tyK_5) dm_32_7 rfl inK_5 (by decide +kernel) wm_150 tyK_5_ok nmK_5 (Or.inl rfl) (Or.inl ⟨rfl, rfl⟩)⟩
set_option maxRecDepth 100000 in
theorem vv_32_10 {l : Launch} (hl : l.stackTraces = false) : cj_V1 l 32 10 (3, 0, 0, []) 11 := Or.inl ⟨by decide +kernel, ok_aload_n dm_32_10 rfl⟩
set_option maxRecDepth 100000 in
theorem vv_32_11 {l : Launch} (hl : l.stackTraces = false) : cj_V1 l 32 11 (2, 2, 0, []) 12 := Or.inl ⟨by decide +kernel, ok_iload_n dm_32_11 rfl⟩
set_option maxRecDepth 100000 in
theorem vv_32_12 {l : Launch} (hl : l.stackTraces = false) : cj_V1 l 32 12 (51, 5, 6, [0]) 15 := Or.inl ⟨by decide +kernel, ok_putfield (N := 10) (C := RK_5) (T := TK_5) (ty0 := tyK_5) dm_32_12 rfl inK_5 (by decide +kernel) wm_152 tyK_5_ok nmK_5 (Or.inl rfl) (Or.inl ⟨rfl, rfl⟩)⟩
set_option maxRecDepth 100000 in
theorem vv_32_15 {l : Launch} (hl : l.stackTraces = false) : cj_V1 l 32 15 (3, 0, 0, []) 16 := Or.inl ⟨by decide +kernel, ok_aload_n dm_32_15 rfl⟩
set_option maxRecDepth 100000 in
theorem vv_32_16 {l : Launch} (hl : l.stackTraces = false) : cj_V1 l 32 16 (0, 0, 0, []) 17 := Or.inl ⟨by decide +kernel, ok_iconst dm_32_16 (by decide +kernel)⟩
set_option maxRecDepth 100000 in
theorem vv_32_17 {l : Launch} (hl : l.stackTraces = false) : cj_V1 l 32 17 (51, 5, 8, [0]) 20 := Or.inl ⟨by decide +kernel, ok_putfield (N := 10) (C := RK_5) (T := TK_5) (ty0 := tyK_5) dm_32_17 rfl inK_5 (by decide +kernel) wm_154 tyK_5_ok nmK_5 (Or.inl rfl) (Or.inl ⟨rfl, rfl⟩)⟩
set_option maxRecDepth 100000 in
theorem vv_32_20 {l : Launch} (hl : l.stackTraces = false) : cj_V1 l 32 20 (91, 0, 0, []) 21 := Or.inr (Or.inl ⟨by decide +kernel, Or.inl (Or.inr (Or.inl ⟨rfl, dm_32_20, rfl⟩))⟩)
set_option maxRecDepth 100000 in
theorem vm_32 {l : Launch} (hl : l.stackTraces = false) : cj_Vm l 32 := cj_Vm_of (r := kc32_) rfl ⟨vv_32_0 hl, vv_32_1 hl, vv_32_2 hl, vv_32_4 hl, vv_32_7 hl, vv_32_10 hl, vv_32_11 hl, vv_32_12 hl, vv_32_15 hl, vv_32_16 hl, vv_32_17 hl, vv_32_20 hl, trivial⟩
set_option maxRecDepth 100000 in
theorem vv_33_0 {l : Launch} (hl : l.stackTraces = false) : cj_V1 l 33 0 (0, 0, 0, []) 1 := Or.inl ⟨by decide +kernel, ok_iconst dm_33_0 (by decide +kernel)⟩
set_option maxRecDepth 100000 in
theorem vv_33_1 {l : Launch} (hl : l.stackTraces = false) : cj_V1 l 33 1 (4, 2, 0, []) 2 := Or.inl ⟨by decide +kernel, ok_istore_n dm_33_1 rfl⟩
set_option maxRecDepth 100000 in
theorem vv_33_2 {l : Launch} (hl : l.stackTraces = false) : cj_V1 l 33 2 (2, 2, 0, []) 3 := Or.inl ⟨by decide +kernel, ok_iload_n dm_33_2 rfl⟩
set_option maxRecDepth 100000 in
theorem vv_33_3 {l : Launch} (hl : l.stackTraces = false) : cj_V1 l 33 3 (3, 0, 0, []) 4 := Or.inl ⟨by decide +kernel, ok_aload_n dm_33_3 rfl⟩
set_option maxRecDepth 100000 in
theorem vv_33_4 {l : Launch} (hl : l.stackTraces = false) : cj_V1 l 33 4 (50, 5, 4, []) 7 := Or.inl ⟨by decide +kernel, ok_getfield (N := 10) (C := RK_5) (T := TK_5) dm_33_4 rfl inK_5 (by decide +kernel) wm_150⟩
set_option maxRecDepth 100000 in
theorem vv_33_7 {l : Launch} (hl : l.stackTraces = false) : cj_V1 l 33 7 (40, 31, 0, []) 10 := Or.inl ⟨by decide +kernel, ok_icmp_ge dm_33_7 (by decide +kernel)⟩
set_option maxRecDepth 100000 in
theorem vv_33_10 {l : Launch} (hl : l.stackTraces = false) : cj_V1 l 33 10 (2, 2, 0, []) 11 := Or.inl ⟨by decide +kernel, ok_iload_n dm_33_10 rfl⟩
set_option maxRecDepth 100000 in
theorem vv_33_11 {l : Launch} (hl : l.stackTraces = false) : cj_V1 l 33 11 (3, 1, 0, []) 12 := Or.inl ⟨by decide +kernel, ok_aload_n dm_33_11 rfl⟩
set_option maxRecDepth 100000 in
theorem vv_33_12 {l : Launch} (hl : l.stackTraces = false) : cj_V1 l 33 12 (53, 0, 0, []) 13 := Or.inl ⟨by decide +kernel, ok_arraylength dm_33_12⟩
set_option maxRecDepth 100000 in
theorem vv_33_13 {l : Launch} (hl : l.stackTraces = false) : cj_V1 l 33 13 (40, 31, 0, []) 16 := Or.inl ⟨by decide +kernel, ok_icmp_ge dm_33_13 (by decide +kernel)⟩
set_option maxRecDepth 100000 in
theorem vv_33_16 {l : Launch} (hl : l.stackTraces = false) : cj_V1 l 33 16 (3, 1, 0, []) 17 := Or.inl ⟨by decide +kernel, ok_aload_n dm_33_16 rfl⟩
set_option maxRecDepth 100000 in
theorem vv_33_17 {l : Launch} (hl : l.stackTraces = false) : cj_V1 l 33 17 (2, 2, 0, []) 18 := Or.inl ⟨by decide +kernel, ok_iload_n dm_33_17 rfl⟩
set_option maxRecDepth 100000 in
theorem vv_33_18 {l : Launch} (hl : l.stackTraces = false) : cj_V1 l 33 18 (3, 0, 0, []) 19 := Or.inl ⟨by decide +kernel, ok_aload_n dm_33_18 rfl⟩
set_option maxRecDepth 100000 in
theorem vv_33_19 {l : Launch} (hl : l.stackTraces = false) : cj_V1 l 33 19 (50, 5, 3, []) 22 := Or.inl ⟨by decide +kernel, ok_getfield (N := 10) (C := RK_5) (T := TK_5) dm_33_19 rfl inK_5 (by decide +kernel) wm_149⟩
set_option maxRecDepth 100000 in
theorem vv_33_22 {l : Launch} (hl : l.stackTraces = false) : cj_V1 l 33 22 (2, 2, 0, []) 23 := Or.inl ⟨by decide +kernel, ok_iload_n dm_33_22 rfl⟩
set_option maxRecDepth 100000 in
theorem vv_33_23 {l : Launch} (hl : l.stackTraces = false) : cj_V1 l 33 23 (54, 0, 0, []) 24 := Or.inl ⟨by decide +kernel, ok_iaload dm_33_23 rfl⟩
set_option maxRecDepth 100000 in
theorem vv_33_24 {l : Launch} (hl : l.stackTraces = false) : cj_V1 l 33 24 (56, 0, 0, []) 25 := Or.inl ⟨by decide +kernel, ok_iastore dm_33_24 rfl⟩
set_option maxRecDepth 100000 in
theorem vv_33_25 {l : Launch} (hl : l.stackTraces = false) : cj_V1 l 33 25 (6, 2, 1, []) 28 := Or.inl ⟨by decide +kernel, ok_iinc6 dm_33_25 (by decide +kernel)⟩
set_option maxRecDepth 100000 in
theorem vv_33_28 {l : Launch} (hl : l.stackTraces = false) : cj_V1 l 33 28 (30, 2, 0, []) 31 := Or.inl ⟨by decide +kernel, ok_goto dm_33_28 (by decide +kernel)⟩
set_option maxRecDepth 100000 in
theorem vv_33_31 {l : Launch} (hl : l.stackTraces = false) : cj_V1 l 33 31 (91, 0, 0, []) 32 := Or.inr (Or.inl ⟨by decide +kernel, Or.inl (Or.inr (Or.inl ⟨rfl, dm_33_31, rfl⟩))⟩)
set_option maxRecDepth 100000 in
theorem vm_33 {l : Launch} (hl : l.stackTraces = false) : cj_Vm l 33 := cj_Vm_of (r := kc33_) rfl ⟨vv_33_0 hl, vv_33_1 hl, vv_33_2 hl, vv_33_3 hl, vv_33_4 hl, vv_33_7 hl, vv_33_10 hl, vv_33_11 hl, vv_33_12 hl, vv_33_13 hl, vv_33_16 hl, vv_33_17 hl, vv_33_18 hl, vv_33_19 hl, vv_33_22 hl, vv_33_23 hl, vv_33_24 hl, vv_33_25 hl, vv_33_28 hl, vv_33_31 hl, trivial⟩
set_option maxRecDepth 100000 in
theorem vv_34_0 {l : Launch} (hl : l.stackTraces = false) : cj_V1 l 34 0 (3, 0, 0, []) 1 := Or.inl ⟨by decide +kernel, ok_aload_n dm_34_0 rfl⟩
set_option maxRecDepth 100000 in
theorem vv_34_1 {l : Launch} (hl : l.stackTraces = false) : cj_V1 l 34 1 (83, 0, 0, []) 4 := Or.inl ⟨by decide +kernel, ok_objInit dm_34_1 wm_35 wm_22 wm_23 (by decide +kernel) (by decide +kernel)⟩
set_option maxRecDepth 100000 in
theorem vv_34_4 {l : Launch} (hl : l.stackTraces = false) : cj_V1 l 34 4 (3, 0, 0, []) 5 := Or.inl ⟨by decide +kernel, ok_aload_n dm_34_4 rfl⟩
set_option maxRecDepth 100000 in
theorem vv_34_5 {l : Launch} (hl : l.stackTraces = false) : cj_V1 l 34 5 (0, 0, 0, []) 6 := Or.inl ⟨by decide +kernel, ok_iconst dm_34_5 (by decide +kernel)⟩
set_option maxRecDepth 100000 in
theorem vv_34_6 {l : Launch} (hl : l.stackTraces = false) : cj_V1 l 34 6 (2, 1, 0, []) 7 := Or.inl ⟨by decide +kernel, ok_iload_n dm_34_6 rfl⟩
set_option maxRecDepth 100000 in
theorem vv_34_7 {l : Launch} (hl : l.stackTraces = false) : cj_V1 l 34 7 (84, 0, 0, []) 10 := Or.inl ⟨by decide +kernel, ok_max dm_34_7 wm_36 wm_28 wm_2 wm_29 (by decide +kernel) (by decide +kernel)⟩
set_option maxRecDepth 100000 in
theorem vv_34_10 {l : Launch} (hl : l.stackTraces = false) : cj_V1 l 34 10 (71, 1, 0, []) 12 := Or.inl ⟨by decide +kernel, ok_newarray (ty := .char) (x := (.inl (fun _ => 0))) dm_34_10 rfl rfl wm_44 (fun _ _ => rfl) (fun _ _ => trivial) (by decide +kernel) rfl (fun _ _ _ _ => rfl)⟩
set_option maxRecDepth 100000 in
theorem vv_34_12 {l : Launch} (hl : l.stackTraces = false) : cj_V1 l 34 12 (51, 6, 0, [2]) 15 := Or.inl ⟨by decide +kernel, ok_putfield (N := 2) (C := RK_6) (T := TK_6) (ty0 := tyK_6) dm_34_12 rfl inK_6 (by decide +kernel) wm_37 tyK_6_ok nmK_6 (Or.inr ⟨rfl, rfl, rfl⟩) (Or.inr (Or.inr (Or.inl ⟨rfl, Or.inr ⟨_, rfl⟩⟩)))⟩
set_option maxRecDepth 100000 in
theorem vv_34_15 {l : Launch} (hl : l.stackTraces = false) : cj_V1 l 34 15 (91, 0, 0, []) 16 := Or.inr (Or.inl ⟨by decide +kernel, Or.inl (Or.inr (Or.inl ⟨rfl, dm_34_15, rfl⟩))⟩)
set_option maxRecDepth 100000 in
theorem vm_34 {l : Launch} (hl : l.stackTraces = false) : cj_Vm l 34 := cj_Vm_of (r := kc34_) rfl ⟨vv_34_0 hl, vv_34_1 hl, vv_34_4 hl, vv_34_5 hl, vv_34_6 hl, vv_34_7 hl, vv_34_10 hl, vv_34_12 hl, vv_34_15 hl, trivial⟩
set_option maxRecDepth 100000 in
theorem vv_35_0 {l : Launch} (hl : l.stackTraces = false) : cj_V1 l 35 0 (3, 0, 0, []) 1 := Or.inl ⟨by decide +kernel, ok_aload_n dm_35_0 rfl⟩
set_option maxRecDepth 100000 in
theorem vv_35_1 {l : Launch} (hl : l.stackTraces = false) : cj_V1 l 35 1 (50, 6, 1, []) 4 := Or.inl ⟨by decide +kernel, ok_getfield (N := 2) (C := RK_6) (T := TK_6) dm_35_1 rfl inK_6 (by decide +kernel) wm_38⟩
set_option maxRecDepth 100000 in
theorem vv_35_4 {l : Launch} (hl : l.stackTraces = false) : cj_V1 l 35 4 (3, 0, 0, []) 5 := Or.inl ⟨by decide +kernel, ok_aload_n dm_35_4 rfl⟩
set_option maxRecDepth 100000 in
theorem vv_35_5 {l : Launch} (hl : l.stackTraces = false) : cj_V1 l 35 5 (50, 6, 0, []) 8 := Or.inl ⟨by decide +kernel, ok_getfield (N := 2) (C := RK_6) (T := TK_6) dm_35_5 rfl inK_6 (by decide +kernel) wm_37⟩
set_option maxRecDepth 100000 in
theorem vv_35_8 {l : Launch} (hl : l.stackTraces = false) : cj_V1 l 35 8 (53, 0, 0, []) 9 := Or.inl ⟨by decide +kernel, ok_arraylength dm_35_8⟩
set_option maxRecDepth 100000 in
theorem vv_35_9 {l : Launch} (hl : l.stackTraces = false) : cj_V1 l 35 9 (40, 33, 0, []) 12 := Or.inl ⟨by decide +kernel, ok_icmp_ge dm_35_9 (by decide +kernel)⟩
set_option maxRecDepth 100000 in
theorem vv_35_12 {l : Launch} (hl : l.stackTraces = false) : cj_V1 l 35 12 (3, 0, 0, []) 13 := Or.inl ⟨by decide +kernel, ok_aload_n dm_35_12 rfl⟩
set_option maxRecDepth 100000 in
theorem vv_35_13 {l : Launch} (hl : l.stackTraces = false) : cj_V1 l 35 13 (50, 6, 0, []) 16 := Or.inl ⟨by decide +kernel, ok_getfield (N := 2) (C := RK_6) (T := TK_6) dm_35_13 rfl inK_6 (by decide +kernel) wm_37⟩
set_option maxRecDepth 100000 in
theorem vv_35_16 {l : Launch} (hl : l.stackTraces = false) : cj_V1 l 35 16 (3, 0, 0, []) 17 := Or.inl ⟨by decide +kernel, ok_aload_n dm_35_16 rfl⟩
set_option maxRecDepth 100000 in
theorem vv_35_17 {l : Launch} (hl : l.stackTraces = false) : cj_V1 l 35 17 (50, 6, 1, []) 20 := Or.inl ⟨by decide +kernel, ok_getfield (N := 2) (C := RK_6) (T := TK_6) dm_35_17 rfl inK_6 (by decide +kernel) wm_38⟩
set_option maxRecDepth 100000 in
theorem vv_35_20 {l : Launch} (hl : l.stackTraces = false) : cj_V1 l 35 20 (2, 1, 0, []) 21 := Or.inl ⟨by decide +kernel, ok_iload_n dm_35_20 rfl⟩
set_option maxRecDepth 100000 in
theorem vv_35_21 {l : Launch} (hl : l.stackTraces = false) : cj_V1 l 35 21 (22, 0, 0, []) 22 := Or.inl ⟨by decide +kernel, ok_i2c dm_35_21⟩
set_option maxRecDepth 100000 in
theorem vv_35_22 {l : Launch} (hl : l.stackTraces = false) : cj_V1 l 35 22 (57, 1, 0, []) 23 := Or.inl ⟨by decide +kernel, ok_castore dm_35_22 rfl⟩
set_option maxRecDepth 100000 in
theorem vv_35_23 {l : Launch} (hl : l.stackTraces = false) : cj_V1 l 35 23 (3, 0, 0, []) 24 := Or.inl ⟨by decide +kernel, ok_aload_n dm_35_23 rfl⟩
set_option maxRecDepth 100000 in
theorem vv_35_24 {l : Launch} (hl : l.stackTraces = false) : cj_V1 l 35 24 (25, 0, 0, []) 25 := Or.inl ⟨by decide +kernel, ok_dup dm_35_24⟩
set_option maxRecDepth 100000 in
theorem vv_35_25 {l : Launch} (hl : l.stackTraces = false) : cj_V1 l 35 25 (50, 6, 1, []) 28 := Or.inl ⟨by decide +kernel, ok_getfield (N := 2) (C := RK_6) (T := TK_6) dm_35_25 rfl inK_6 (by decide +kernel) wm_38⟩
set_option maxRecDepth 100000 in
theorem vv_35_28 {l : Launch} (hl : l.stackTraces = false) : cj_V1 l 35 28 (0, 1, 0, []) 29 := Or.inl ⟨by decide +kernel, ok_iconst dm_35_28 (by decide +kernel)⟩
set_option maxRecDepth 100000 in
theorem vv_35_29 {l : Launch} (hl : l.stackTraces = false) : cj_V1 l 35 29 (10, 0, 0, []) 30 := Or.inl ⟨by decide +kernel, ok_iadd dm_35_29⟩
set_option maxRecDepth 100000 in
theorem vv_35_30 {l : Launch} (hl : l.stackTraces = false) : cj_V1 l 35 30 (51, 6, 1, [0]) 33 := Or.inl ⟨by decide +kernel, ok_putfield (N := 2) (C := RK_6) (T := TK_6) (ty0 := tyK_6) dm_35_30 rfl inK_6 (by decide +kernel) wm_38 tyK_6_ok nmK_6 (Or.inl rfl) (Or.inl ⟨rfl, rfl⟩)⟩
set_option maxRecDepth 100000 in
theorem vv_35_33 {l : Launch} (hl : l.stackTraces = false) : cj_V1 l 35 33 (91, 0, 0, []) 34 := Or.inr (Or.inl ⟨by decide +kernel, Or.inl (Or.inr (Or.inl ⟨rfl, dm_35_33, rfl⟩))⟩)
set_option maxRecDepth 100000 in
theorem vm_35 {l : Launch} (hl : l.stackTraces = false) : cj_Vm l 35 := cj_Vm_of (r := kc35_) rfl ⟨vv_35_0 hl, vv_35_1 hl, vv_35_4 hl, vv_35_5 hl, vv_35_8 hl, vv_35_9 hl, vv_35_12 hl, vv_35_13 hl, vv_35_16 hl, vv_35_17 hl, vv_35_20 hl, vv_35_21 hl, vv_35_22 hl, vv_35_23 hl, vv_35_24 hl, vv_35_25 hl, vv_35_28 hl, vv_35_29 hl, vv_35_30 hl, vv_35_33 hl, trivial⟩
set_option maxRecDepth 100000 in
theorem vv_36_0 {l : Launch} (hl : l.stackTraces = false) : cj_V1 l 36 0 (2, 1, 0, []) 1 := Or.inl ⟨by decide +kernel, ok_iload_n dm_36_0 rfl⟩
set_option maxRecDepth 100000 in
theorem vv_36_1 {l : Launch} (hl : l.stackTraces = false) : cj_V1 l 36 1 (33, 21, 0, []) 4 := Or.inl ⟨by decide +kernel, ok_if_lt dm_36_1 (by decide +kernel)⟩
set_option maxRecDepth 100000 in
theorem vv_36_4 {l : Launch} (hl : l.stackTraces = false) : cj_V1 l 36 4 (2, 1, 0, []) 5 := Or.inl ⟨by decide +kernel, ok_iload_n dm_36_4 rfl⟩
set_option maxRecDepth 100000 in
theorem vv_36_5 {l : Launch} (hl : l.stackTraces = false) : cj_V1 l 36 5 (3, 0, 0, []) 6 := Or.inl ⟨by decide +kernel, ok_aload_n dm_36_5 rfl⟩
set_option maxRecDepth 100000 in
theorem vv_36_6 {l : Launch} (hl : l.stackTraces = false) : cj_V1 l 36 6 (50, 6, 1, []) 9 := Or.inl ⟨by decide +kernel, ok_getfield (N := 2) (C := RK_6) (T := TK_6) dm_36_6 rfl inK_6 (by decide +kernel) wm_38⟩
set_option maxRecDepth 100000 in
theorem vv_36_9 {l : Launch} (hl : l.stackTraces = false) : cj_V1 l 36 9 (40, 21, 0, []) 12 := Or.inl ⟨by decide +kernel, ok_icmp_ge dm_36_9 (by decide +kernel)⟩
set_option maxRecDepth 100000 in
theorem vv_36_12 {l : Launch} (hl : l.stackTraces = false) : cj_V1 l 36 12 (3, 0, 0, []) 13 := Or.inl ⟨by decide +kernel, ok_aload_n dm_36_12 rfl⟩
set_option maxRecDepth 100000 in
theorem vv_36_13 {l : Launch} (hl : l.stackTraces = false) : cj_V1 l 36 13 (50, 6, 0, []) 16 := Or.inl ⟨by decide +kernel, ok_getfield (N := 2) (C := RK_6) (T := TK_6) dm_36_13 rfl inK_6 (by decide +kernel) wm_37⟩
set_option maxRecDepth 100000 in
theorem vv_36_16 {l : Launch} (hl : l.stackTraces = false) : cj_V1 l 36 16 (2, 1, 0, []) 17 := Or.inl ⟨by decide +kernel, ok_iload_n dm_36_16 rfl⟩
set_option maxRecDepth 100000 in
theorem vv_36_17 {l : Launch} (hl : l.stackTraces = false) : cj_V1 l 36 17 (54, 1, 0, []) 18 := Or.inl ⟨by decide +kernel, ok_caload dm_36_17 rfl⟩
set_option maxRecDepth 100000 in
theorem vv_36_18 {l : Launch} (hl : l.stackTraces = false) : cj_V1 l 36 18 (30, 22, 0, []) 21 := Or.inl ⟨by decide +kernel, ok_goto dm_36_18 (by decide +kernel)⟩
set_option maxRecDepth 100000 in
theorem vv_36_21 {l : Launch} (hl : l.stackTraces = false) : cj_V1 l 36 21 (0, 0, 0, []) 22 := Or.inl ⟨by decide +kernel, ok_iconst dm_36_21 (by decide +kernel)⟩
set_option maxRecDepth 100000 in
theorem vv_36_22 {l : Launch} (hl : l.stackTraces = false) : cj_V1 l 36 22 (90, 0, 0, []) 23 := Or.inr (Or.inl ⟨by decide +kernel, Or.inl (Or.inl ⟨rfl, dm_36_22, rfl⟩)⟩)
set_option maxRecDepth 100000 in
theorem vm_36 {l : Launch} (hl : l.stackTraces = false) : cj_Vm l 36 := cj_Vm_of (r := kc36_) rfl ⟨vv_36_0 hl, vv_36_1 hl, vv_36_4 hl, vv_36_5 hl, vv_36_6 hl, vv_36_9 hl, vv_36_12 hl, vv_36_13 hl, vv_36_16 hl, vv_36_17 hl, vv_36_18 hl, vv_36_21 hl, vv_36_22 hl, trivial⟩
set_option maxRecDepth 100000 in
theorem vv_37_0 {l : Launch} (hl : l.stackTraces = false) : cj_V1 l 37 0 (3, 0, 0, []) 1 := Or.inl ⟨by decide +kernel, ok_aload_n dm_37_0 rfl⟩
set_option maxRecDepth 100000 in
theorem vv_37_1 {l : Launch} (hl : l.stackTraces = false) : cj_V1 l 37 1 (0, 0, 0, []) 2 := Or.inl ⟨by decide +kernel, ok_iconst dm_37_1 (by decide +kernel)⟩
set_option maxRecDepth 100000 in
theorem vv_37_2 {l : Launch} (hl : l.stackTraces = false) : cj_V1 l 37 2 (51, 6, 1, [0]) 5 := Or.inl ⟨by decide +kernel, ok_putfield (N := 2) (C := RK_6) (T := TK_6) (ty0 := tyK_6) dm_37_2 rfl inK_6 (by decide +kernel) wm_38 tyK_6_ok nmK_6 (Or.inl rfl) (Or.inl ⟨rfl, rfl⟩)⟩
set_option maxRecDepth 100000 in
theorem vv_37_5 {l : Launch} (hl : l.stackTraces = false) : cj_V1 l 37 5 (91, 0, 0, []) 6 := Or.inr (Or.inl ⟨by decide +kernel, Or.inl (Or.inr (Or.inl ⟨rfl, dm_37_5, rfl⟩))⟩)
set_option maxRecDepth 100000 in
theorem vm_37 {l : Launch} (hl : l.stackTraces = false) : cj_Vm l 37 := cj_Vm_of (r := kc37_) rfl ⟨vv_37_0 hl, vv_37_1 hl, vv_37_2 hl, vv_37_5 hl, trivial⟩
set_option maxRecDepth 100000 in
theorem vv_38_0 {l : Launch} (hl : l.stackTraces = false) : cj_V1 l 38 0 (0, 0, 0, []) 1 := Or.inl ⟨by decide +kernel, ok_iconst dm_38_0 (by decide +kernel)⟩
set_option maxRecDepth 100000 in
theorem vv_38_1 {l : Launch} (hl : l.stackTraces = false) : cj_V1 l 38 1 (4, 2, 0, []) 2 := Or.inl ⟨by decide +kernel, ok_istore_n dm_38_1 rfl⟩
set_option maxRecDepth 100000 in
theorem vv_38_2 {l : Launch} (hl : l.stackTraces = false) : cj_V1 l 38 2 (2, 2, 0, []) 3 := Or.inl ⟨by decide +kernel, ok_iload_n dm_38_2 rfl⟩
set_option maxRecDepth 100000 in
theorem vv_38_3 {l : Launch} (hl : l.stackTraces = false) : cj_V1 l 38 3 (3, 0, 0, []) 4 := Or.inl ⟨by decide +kernel, ok_aload_n dm_38_3 rfl⟩
set_option maxRecDepth 100000 in
theorem vv_38_4 {l : Launch} (hl : l.stackTraces = false) : cj_V1 l 38 4 (50, 6, 1, []) 7 := Or.inl ⟨by decide +kernel, ok_getfield (N := 2) (C := RK_6) (T := TK_6) dm_38_4 rfl inK_6 (by decide +kernel) wm_38⟩
set_option maxRecDepth 100000 in
theorem vv_38_7 {l : Launch} (hl : l.stackTraces = false) : cj_V1 l 38 7 (40, 28, 0, []) 10 := Or.inl ⟨by decide +kernel, ok_icmp_ge dm_38_7 (by decide +kernel)⟩
set_option maxRecDepth 100000 in
theorem vv_38_10 {l : Launch} (hl : l.stackTraces = false) : cj_V1 l 38 10 (3, 0, 0, []) 11 := Or.inl ⟨by decide +kernel, ok_aload_n dm_38_10 rfl⟩
set_option maxRecDepth 100000 in
theorem vv_38_11 {l : Launch} (hl : l.stackTraces = false) : cj_V1 l 38 11 (50, 6, 0, []) 14 := Or.inl ⟨by decide +kernel, ok_getfield (N := 2) (C := RK_6) (T := TK_6) dm_38_11 rfl inK_6 (by decide +kernel) wm_37⟩
set_option maxRecDepth 100000 in
theorem vv_38_14 {l : Launch} (hl : l.stackTraces = false) : cj_V1 l 38 14 (2, 2, 0, []) 15 := Or.inl ⟨by decide +kernel, ok_iload_n dm_38_14 rfl⟩
set_option maxRecDepth 100000 in
theorem vv_38_15 {l : Launch} (hl : l.stackTraces = false) : cj_V1 l 38 15 (54, 1, 0, []) 16 := Or.inl ⟨by decide +kernel, ok_caload dm_38_15 rfl⟩
set_option maxRecDepth 100000 in
theorem vv_38_16 {l : Launch} (hl : l.stackTraces = false) : cj_V1 l 38 16 (2, 1, 0, []) 17 := Or.inl ⟨by decide +kernel, ok_iload_n dm_38_16 rfl⟩
set_option maxRecDepth 100000 in
theorem vv_38_17 {l : Launch} (hl : l.stackTraces = false) : cj_V1 l 38 17 (38, 22, 0, []) 20 := Or.inl ⟨by decide +kernel, ok_icmp_ne dm_38_17 (by decide +kernel)⟩
set_option maxRecDepth 100000 in
theorem vv_38_20 {l : Launch} (hl : l.stackTraces = false) : cj_V1 l 38 20 (2, 2, 0, []) 21 := Or.inl ⟨by decide +kernel, ok_iload_n dm_38_20 rfl⟩
set_option maxRecDepth 100000 in
theorem vv_38_21 {l : Launch} (hl : l.stackTraces = false) : cj_V1 l 38 21 (90, 0, 0, []) 22 := Or.inr (Or.inl ⟨by decide +kernel, Or.inl (Or.inl ⟨rfl, dm_38_21, rfl⟩)⟩)
set_option maxRecDepth 100000 in
theorem vv_38_22 {l : Launch} (hl : l.stackTraces = false) : cj_V1 l 38 22 (6, 2, 1, []) 25 := Or.inl ⟨by decide +kernel, ok_iinc6 dm_38_22 (by decide +kernel)⟩
set_option maxRecDepth 100000 in
theorem vv_38_25 {l : Launch} (hl : l.stackTraces = false) : cj_V1 l 38 25 (30, 2, 0, []) 28 := Or.inl ⟨by decide +kernel, ok_goto dm_38_25 (by decide +kernel)⟩
set_option maxRecDepth 100000 in
theorem vv_38_28 {l : Launch} (hl : l.stackTraces = false) : cj_V1 l 38 28 (1, 1, 0, []) 29 := Or.inl ⟨by decide +kernel, ok_iconst_m dm_38_28 (by decide +kernel)⟩
set_option maxRecDepth 100000 in
theorem vv_38_29 {l : Launch} (hl : l.stackTraces = false) : cj_V1 l 38 29 (90, 0, 0, []) 30 := Or.inr (Or.inl ⟨by decide +kernel, Or.inl (Or.inl ⟨rfl, dm_38_29, rfl⟩)⟩)
set_option maxRecDepth 100000 in
theorem vm_38 {l : Launch} (hl : l.stackTraces = false) : cj_Vm l 38 := cj_Vm_of (r := kc38_) rfl ⟨vv_38_0 hl, vv_38_1 hl, vv_38_2 hl, vv_38_3 hl, vv_38_4 hl, vv_38_7 hl, vv_38_10 hl, vv_38_11 hl, vv_38_14 hl, vv_38_15 hl, vv_38_16 hl, vv_38_17 hl, vv_38_20 hl, vv_38_21 hl, vv_38_22 hl, vv_38_25 hl, vv_38_28 hl, vv_38_29 hl, trivial⟩
set_option maxRecDepth 100000 in
theorem vv_39_0 {l : Launch} (hl : l.stackTraces = false) : cj_V1 l 39 0 (3, 0, 0, []) 1 := Or.inl ⟨by decide +kernel, ok_aload_n dm_39_0 rfl⟩
set_option maxRecDepth 100000 in
theorem vv_39_1 {l : Launch} (hl : l.stackTraces = false) : cj_V1 l 39 1 (50, 6, 1, []) 4 := Or.inl ⟨by decide +kernel, ok_getfield (N := 2) (C := RK_6) (T := TK_6) dm_39_1 rfl inK_6 (by decide +kernel) wm_38⟩
set_option maxRecDepth 100000 in
theorem vv_39_4 {l : Launch} (hl : l.stackTraces = false) : cj_V1 l 39 4 (90, 0, 0, []) 5 := Or.inr (Or.inl ⟨by decide +kernel, Or.inl (Or.inl ⟨rfl, dm_39_4, rfl⟩)⟩)
set_option maxRecDepth 100000 in
theorem vm_39 {l : Launch} (hl : l.stackTraces = false) : cj_Vm l 39 := cj_Vm_of (r := kc39_) rfl ⟨vv_39_0 hl, vv_39_1 hl, vv_39_4 hl, trivial⟩
set_option maxRecDepth 100000 in
theorem vv_40_0 {l : Launch} (hl : l.stackTraces = false) : cj_V1 l 40 0 (2, 1, 0, []) 1 := Or.inl ⟨by decide +kernel, ok_iload_n dm_40_0 rfl⟩
set_option maxRecDepth 100000 in
theorem vv_40_1 {l : Launch} (hl : l.stackTraces = false) : cj_V1 l 40 1 (3, 0, 0, []) 2 := Or.inl ⟨by decide +kernel, ok_aload_n dm_40_1 rfl⟩
set_option maxRecDepth 100000 in
theorem vv_40_2 {l : Launch} (hl : l.stackTraces = false) : cj_V1 l 40 2 (53, 0, 0, []) 3 := Or.inl ⟨by decide +kernel, ok_arraylength dm_40_2⟩
set_option maxRecDepth 100000 in
theorem vv_40_3 {l : Launch} (hl : l.stackTraces = false) : cj_V1 l 40 3 (40, 12, 0, []) 6 := Or.inl ⟨by decide +kernel, ok_icmp_ge dm_40_3 (by decide +kernel)⟩
set_option maxRecDepth 100000 in
theorem vv_40_6 {l : Launch} (hl : l.stackTraces = false) : cj_V1 l 40 6 (3, 0, 0, []) 7 := Or.inl ⟨by decide +kernel, ok_aload_n dm_40_6 rfl⟩
set_option maxRecDepth 100000 in
theorem vv_40_7 {l : Launch} (hl : l.stackTraces = false) : cj_V1 l 40 7 (2, 1, 0, []) 8 := Or.inl ⟨by decide +kernel, ok_iload_n dm_40_7 rfl⟩
set_option maxRecDepth 100000 in
theorem vv_40_8 {l : Launch} (hl : l.stackTraces = false) : cj_V1 l 40 8 (54, 0, 0, []) 9 := Or.inl ⟨by decide +kernel, ok_iaload dm_40_8 rfl⟩
set_option maxRecDepth 100000 in
theorem vv_40_9 {l : Launch} (hl : l.stackTraces = false) : cj_V1 l 40 9 (30, 13, 0, []) 12 := Or.inl ⟨by decide +kernel, ok_goto dm_40_9 (by decide +kernel)⟩
set_option maxRecDepth 100000 in
theorem vv_40_12 {l : Launch} (hl : l.stackTraces = false) : cj_V1 l 40 12 (0, 0, 0, []) 13 := Or.inl ⟨by decide +kernel, ok_iconst dm_40_12 (by decide +kernel)⟩
set_option maxRecDepth 100000 in
theorem vv_40_13 {l : Launch} (hl : l.stackTraces = false) : cj_V1 l 40 13 (90, 0, 0, []) 14 := Or.inr (Or.inl ⟨by decide +kernel, Or.inl (Or.inl ⟨rfl, dm_40_13, rfl⟩)⟩)
set_option maxRecDepth 100000 in
theorem vm_40 {l : Launch} (hl : l.stackTraces = false) : cj_Vm l 40 := cj_Vm_of (r := kc40_) rfl ⟨vv_40_0 hl, vv_40_1 hl, vv_40_2 hl, vv_40_3 hl, vv_40_6 hl, vv_40_7 hl, vv_40_8 hl, vv_40_9 hl, vv_40_12 hl, vv_40_13 hl, trivial⟩
set_option maxRecDepth 100000 in
theorem vv_41_0 {l : Launch} (hl : l.stackTraces = false) : cj_V1 l 41 0 (3, 0, 0, []) 1 := Or.inl ⟨by decide +kernel, ok_aload_n dm_41_0 rfl⟩
set_option maxRecDepth 100000 in
theorem vv_41_1 {l : Launch} (hl : l.stackTraces = false) : cj_V1 l 41 1 (83, 0, 0, []) 4 := Or.inl ⟨by decide +kernel, ok_objInit dm_41_1 wm_732 wm_22 wm_23 (by decide +kernel) (by decide +kernel)⟩
set_option maxRecDepth 100000 in
theorem vv_41_4 {l : Launch} (hl : l.stackTraces = false) : cj_V1 l 41 4 (3, 0, 0, []) 5 := Or.inl ⟨by decide +kernel, ok_aload_n dm_41_4 rfl⟩
set_option maxRecDepth 100000 in
theorem vv_41_5 {l : Launch} (hl : l.stackTraces = false) : cj_V1 l 41 5 (0, 32, 0, []) 7 := Or.inl ⟨by decide +kernel, ok_bipush dm_41_5 (by decide +kernel)⟩
set_option maxRecDepth 100000 in
theorem vv_41_7 {l : Launch} (hl : l.stackTraces = false) : cj_V1 l 41 7 (71, 0, 0, []) 9 := Or.inl ⟨by decide +kernel, ok_newarray (ty := .int) (x := (.inl (fun _ => 0))) dm_41_7 rfl rfl wm_68 (fun _ _ => rfl) (fun _ _ => trivial) (by decide +kernel) rfl (fun _ _ _ _ => rfl)⟩
set_option maxRecDepth 100000 in
theorem vv_41_9 {l : Launch} (hl : l.stackTraces = false) : cj_V1 l 41 9 (51, 7, 4, [2]) 12 := Or.inl ⟨by decide +kernel, ok_putfield (N := 39) (C := RK_7) (T := TK_7) (ty0 := tyK_7) dm_41_9 rfl inK_7 (by decide +kernel) wm_737 tyK_7_ok nmK_7 (Or.inr ⟨rfl, rfl, rfl⟩) (Or.inr (Or.inr (Or.inl ⟨rfl, Or.inr ⟨_, rfl⟩⟩)))⟩
set_option maxRecDepth 100000 in
theorem vv_41_12 {l : Launch} (hl : l.stackTraces = false) : cj_V1 l 41 12 (3, 0, 0, []) 13 := Or.inl ⟨by decide +kernel, ok_aload_n dm_41_12 rfl⟩
set_option maxRecDepth 100000 in
theorem vv_41_13 {l : Launch} (hl : l.stackTraces = false) : cj_V1 l 41 13 (0, 6, 0, []) 15 := Or.inl ⟨by decide +kernel, ok_bipush dm_41_13 (by decide +kernel)⟩
set_option maxRecDepth 100000 in
theorem vv_41_15 {l : Launch} (hl : l.stackTraces = false) : cj_V1 l 41 15 (71, 0, 0, []) 17 := Or.inl ⟨by decide +kernel, ok_newarray (ty := .int) (x := (.inl (fun _ => 0))) dm_41_15 rfl rfl wm_68 (fun _ _ => rfl) (fun _ _ => trivial) (by decide +kernel) rfl (fun _ _ _ _ => rfl)⟩
set_option maxRecDepth 100000 in
theorem vv_41_17 {l : Launch} (hl : l.stackTraces = false) : cj_V1 l 41 17 (51, 7, 6, [2]) 20 := Or.inl ⟨by decide +kernel, ok_putfield (N := 39) (C := RK_7) (T := TK_7) (ty0 := tyK_7) dm_41_17 rfl inK_7 (by decide +kernel) wm_739 tyK_7_ok nmK_7 (Or.inr ⟨rfl, rfl, rfl⟩) (Or.inr (Or.inr (Or.inl ⟨rfl, Or.inr ⟨_, rfl⟩⟩)))⟩
set_option maxRecDepth 100000 in
theorem vv_41_20 {l : Launch} (hl : l.stackTraces = false) : cj_V1 l 41 20 (3, 0, 0, []) 21 := Or.inl ⟨by decide +kernel, ok_aload_n dm_41_20 rfl⟩
set_option maxRecDepth 100000 in
theorem vv_41_21 {l : Launch} (hl : l.stackTraces = false) : cj_V1 l 41 21 (0, 192, 0, []) 24 := Or.inl ⟨by decide +kernel, ok_sipush dm_41_21 (by decide +kernel)⟩
set_option maxRecDepth 100000 in
theorem vv_41_24 {l : Launch} (hl : l.stackTraces = false) : cj_V1 l 41 24 (71, 0, 0, []) 26 := Or.inl ⟨by decide +kernel, ok_newarray (ty := .int) (x := (.inl (fun _ => 0))) dm_41_24 rfl rfl wm_68 (fun _ _ => rfl) (fun _ _ => trivial) (by decide +kernel) rfl (fun _ _ _ _ => rfl)⟩
set_option maxRecDepth 100000 in
theorem vv_41_26 {l : Launch} (hl : l.stackTraces = false) : cj_V1 l 41 26 (51, 7, 7, [2]) 29 := Or.inl ⟨by decide +kernel, ok_putfield (N := 39) (C := RK_7) (T := TK_7) (ty0 := tyK_7) dm_41_26 rfl inK_7 (by decide +kernel) wm_740 tyK_7_ok nmK_7 (Or.inr ⟨rfl, rfl, rfl⟩) (Or.inr (Or.inr (Or.inl ⟨rfl, Or.inr ⟨_, rfl⟩⟩)))⟩
set_option maxRecDepth 100000 in
theorem vv_41_29 {l : Launch} (hl : l.stackTraces = false) : cj_V1 l 41 29 (3, 0, 0, []) 30 := Or.inl ⟨by decide +kernel, ok_aload_n dm_41_29 rfl⟩
set_option maxRecDepth 100000 in
theorem vv_41_30 {l : Launch} (hl : l.stackTraces = false) : cj_V1 l 41 30 (0, 8, 0, []) 32 := Or.inl ⟨by decide +kernel, ok_bipush dm_41_30 (by decide +kernel)⟩
set_option maxRecDepth 100000 in
theorem vv_41_32 {l : Launch} (hl : l.stackTraces = false) : cj_V1 l 41 32 (71, 0, 0, []) 34 := Or.inl ⟨by decide +kernel, ok_newarray (ty := .int) (x := (.inl (fun _ => 0))) dm_41_32 rfl rfl wm_68 (fun _ _ => rfl) (fun _ _ => trivial) (by decide +kernel) rfl (fun _ _ _ _ => rfl)⟩
set_option maxRecDepth 100000 in
theorem vv_41_34 {l : Launch} (hl : l.stackTraces = false) : cj_V1 l 41 34 (51, 7, 9, [2]) 37 := Or.inl ⟨by decide +kernel, ok_putfield (N := 39) (C := RK_7) (T := TK_7) (ty0 := tyK_7) dm_41_34 rfl inK_7 (by decide +kernel) wm_742 tyK_7_ok nmK_7 (Or.inr ⟨rfl, rfl, rfl⟩) (Or.inr (Or.inr (Or.inl ⟨rfl, Or.inr ⟨_, rfl⟩⟩)))⟩
set_option maxRecDepth 100000 in
theorem vv_41_37 {l : Launch} (hl : l.stackTraces = false) : cj_V1 l 41 37 (3, 0, 0, []) 38 := Or.inl ⟨by decide +kernel, ok_aload_n dm_41_37 rfl⟩
set_option maxRecDepth 100000 in
theorem vv_41_38 {l : Launch} (hl : l.stackTraces = false) : cj_V1 l 41 38 (0, 32, 0, []) 40 := Or.inl ⟨by decide +kernel, ok_bipush dm_41_38 (by decide +kernel)⟩
set_option maxRecDepth 100000 in
theorem vv_41_40 {l : Launch} (hl : l.stackTraces = false) : cj_V1 l 41 40 (71, 0, 0, []) 42 := Or.inl ⟨by decide +kernel, ok_newarray (ty := .int) (x := (.inl (fun _ => 0))) dm_41_40 rfl rfl wm_68 (fun _ _ => rfl) (fun _ _ => trivial) (by decide +kernel) rfl (fun _ _ _ _ => rfl)⟩
set_option maxRecDepth 100000 in
theorem vv_41_42 {l : Launch} (hl : l.stackTraces = false) : cj_V1 l 41 42 (51, 7, 10, [2]) 45 := Or.inl ⟨by decide +kernel, ok_putfield (N := 39) (C := RK_7) (T := TK_7) (ty0 := tyK_7) dm_41_42 rfl inK_7 (by decide +kernel) wm_743 tyK_7_ok nmK_7 (Or.inr ⟨rfl, rfl, rfl⟩) (Or.inr (Or.inr (Or.inl ⟨rfl, Or.inr ⟨_, rfl⟩⟩)))⟩
set_option maxRecDepth 100000 in
theorem vv_41_45 {l : Launch} (hl : l.stackTraces = false) : cj_V1 l 41 45 (3, 0, 0, []) 46 := Or.inl ⟨by decide +kernel, ok_aload_n dm_41_45 rfl⟩
set_option maxRecDepth 100000 in
theorem vv_41_46 {l : Launch} (hl : l.stackTraces = false) : cj_V1 l 41 46 (0, 1024, 0, []) 49 := Or.inl ⟨by decide +kernel, ok_sipush dm_41_46 (by decide +kernel)⟩
set_option maxRecDepth 100000 in
theorem vv_41_49 {l : Launch} (hl : l.stackTraces = false) : cj_V1 l 41 49 (71, 0, 0, []) 51 := Or.inl ⟨by decide +kernel, ok_newarray (ty := .int) (x := (.inl (fun _ => 0))) dm_41_49 rfl rfl wm_68 (fun _ _ => rfl) (fun _ _ => trivial) (by decide +kernel) rfl (fun _ _ _ _ => rfl)⟩
set_option maxRecDepth 100000 in
theorem vv_41_51 {l : Launch} (hl : l.stackTraces = false) : cj_V1 l 41 51 (51, 7, 11, [2]) 54 := Or.inl ⟨by decide +kernel, ok_putfield (N := 39) (C := RK_7) (T := TK_7) (ty0 := tyK_7) dm_41_51 rfl inK_7 (by decide +kernel) wm_744 tyK_7_ok nmK_7 (Or.inr ⟨rfl, rfl, rfl⟩) (Or.inr (Or.inr (Or.inl ⟨rfl, Or.inr ⟨_, rfl⟩⟩)))⟩
set_option maxRecDepth 100000 in
theorem vv_41_54 {l : Launch} (hl : l.stackTraces = false) : cj_V1 l 41 54 (3, 0, 0, []) 55 := Or.inl ⟨by decide +kernel, ok_aload_n dm_41_54 rfl⟩
set_option maxRecDepth 100000 in
theorem vv_41_55 {l : Launch} (hl : l.stackTraces = false) : cj_V1 l 41 55 (0, 8, 0, []) 57 := Or.inl ⟨by decide +kernel, ok_bipush dm_41_55 (by decide +kernel)⟩
set_option maxRecDepth 100000 in
theorem vv_41_57 {l : Launch} (hl : l.stackTraces = false) : cj_V1 l 41 57 (71, 0, 0, []) 59 := Or.inl ⟨by decide +kernel, ok_newarray (ty := .int) (x := (.inl (fun _ => 0))) dm_41_57 rfl rfl wm_68 (fun _ _ => rfl) (fun _ _ => trivial) (by decide +kernel) rfl (fun _ _ _ _ => rfl)⟩
set_option maxRecDepth 100000 in
theorem vv_41_59 {l : Launch} (hl : l.stackTraces = false) : cj_V1 l 41 59 (51, 7, 12, [2]) 62 := Or.inl ⟨by decide +kernel, ok_putfield (N := 39) (C := RK_7) (T := TK_7) (ty0 := tyK_7) dm_41_59 rfl inK_7 (by decide +kernel) wm_745 tyK_7_ok nmK_7 (Or.inr ⟨rfl, rfl, rfl⟩) (Or.inr (Or.inr (Or.inl ⟨rfl, Or.inr ⟨_, rfl⟩⟩)))⟩
set_option maxRecDepth 100000 in
theorem vv_41_62 {l : Launch} (hl : l.stackTraces = false) : cj_V1 l 41 62 (3, 0, 0, []) 63 := Or.inl ⟨by decide +kernel, ok_aload_n dm_41_62 rfl⟩
set_option maxRecDepth 100000 in
theorem vv_41_63 {l : Launch} (hl : l.stackTraces = false) : cj_V1 l 41 63 (0, 32, 0, []) 65 := Or.inl ⟨by decide +kernel, ok_bipush dm_41_63 (by decide +kernel)⟩
set_option maxRecDepth 100000 in
theorem vv_41_65 {l : Launch} (hl : l.stackTraces = false) : cj_V1 l 41 65 (71, 0, 0, []) 67 := Or.inl ⟨by decide +kernel, ok_newarray (ty := .int) (x := (.inl (fun _ => 0))) dm_41_65 rfl rfl wm_68 (fun _ _ => rfl) (fun _ _ => trivial) (by decide +kernel) rfl (fun _ _ _ _ => rfl)⟩
set_option maxRecDepth 100000 in
theorem vv_41_67 {l : Launch} (hl : l.stackTraces = false) : cj_V1 l 41 67 (51, 7, 13, [2]) 70 := Or.inl ⟨by decide +kernel, ok_putfield (N := 39) (C := RK_7) (T := TK_7) (ty0 := tyK_7) dm_41_67 rfl inK_7 (by decide +kernel) wm_746 tyK_7_ok nmK_7 (Or.inr ⟨rfl, rfl, rfl⟩) (Or.inr (Or.inr (Or.inl ⟨rfl, Or.inr ⟨_, rfl⟩⟩)))⟩
set_option maxRecDepth 100000 in
theorem vv_41_70 {l : Launch} (hl : l.stackTraces = false) : cj_V1 l 41 70 (3, 0, 0, []) 71 := Or.inl ⟨by decide +kernel, ok_aload_n dm_41_70 rfl⟩
set_option maxRecDepth 100000 in
theorem vv_41_71 {l : Launch} (hl : l.stackTraces = false) : cj_V1 l 41 71 (0, 26, 0, []) 73 := Or.inl ⟨by decide +kernel, ok_bipush dm_41_71 (by decide +kernel)⟩
set_option maxRecDepth 100000 in
theorem vv_41_73 {l : Launch} (hl : l.stackTraces = false) : cj_V1 l 41 73 (71, 0, 0, []) 75 := Or.inl ⟨by decide +kernel, ok_newarray (ty := .int) (x := (.inl (fun _ => 0))) dm_41_73 rfl rfl wm_68 (fun _ _ => rfl) (fun _ _ => trivial) (by decide +kernel) rfl (fun _ _ _ _ => rfl)⟩
set_option maxRecDepth 100000 in
theorem vv_41_75 {l : Launch} (hl : l.stackTraces = false) : cj_V1 l 41 75 (51, 7, 15, [2]) 78 := Or.inl ⟨by decide +kernel, ok_putfield (N := 39) (C := RK_7) (T := TK_7) (ty0 := tyK_7) dm_41_75 rfl inK_7 (by decide +kernel) wm_748 tyK_7_ok nmK_7 (Or.inr ⟨rfl, rfl, rfl⟩) (Or.inr (Or.inr (Or.inl ⟨rfl, Or.inr ⟨_, rfl⟩⟩)))⟩
set_option maxRecDepth 100000 in
theorem vv_41_78 {l : Launch} (hl : l.stackTraces = false) : cj_V1 l 41 78 (3, 0, 0, []) 79 := Or.inl ⟨by decide +kernel, ok_aload_n dm_41_78 rfl⟩
set_option maxRecDepth 100000 in
theorem vv_41_79 {l : Launch} (hl : l.stackTraces = false) : cj_V1 l 41 79 (0, 256, 0, []) 82 := Or.inl ⟨by decide +kernel, ok_sipush dm_41_79 (by decide +kernel)⟩
set_option maxRecDepth 100000 in
theorem vv_41_82 {l : Launch} (hl : l.stackTraces = false) : cj_V1 l 41 82 (71, 0, 0, []) 84 := Or.inl ⟨by decide +kernel, ok_newarray (ty := .int) (x := (.inl (fun _ => 0))) dm_41_82 rfl rfl wm_68 (fun _ _ => rfl) (fun _ _ => trivial) (by decide +kernel) rfl (fun _ _ _ _ => rfl)⟩
set_option maxRecDepth 100000 in
theorem vv_41_84 {l : Launch} (hl : l.stackTraces = false) : cj_V1 l 41 84 (51, 7, 17, [2]) 87 := Or.inl ⟨by decide +kernel, ok_putfield (N := 39) (C := RK_7) (T := TK_7) (ty0 := tyK_7) dm_41_84 rfl inK_7 (by decide +kernel) wm_750 tyK_7_ok nmK_7 (Or.inr ⟨rfl, rfl, rfl⟩) (Or.inr (Or.inr (Or.inl ⟨rfl, Or.inr ⟨_, rfl⟩⟩)))⟩
set_option maxRecDepth 100000 in
theorem vv_41_87 {l : Launch} (hl : l.stackTraces = false) : cj_V1 l 41 87 (3, 0, 0, []) 88 := Or.inl ⟨by decide +kernel, ok_aload_n dm_41_87 rfl⟩
set_option maxRecDepth 100000 in
theorem vv_41_88 {l : Launch} (hl : l.stackTraces = false) : cj_V1 l 41 88 (0, 130, 0, []) 91 := Or.inl ⟨by decide +kernel, ok_sipush dm_41_88 (by decide +kernel)⟩
set_option maxRecDepth 100000 in
theorem vv_41_91 {l : Launch} (hl : l.stackTraces = false) : cj_V1 l 41 91 (71, 0, 0, []) 93 := Or.inl ⟨by decide +kernel, ok_newarray (ty := .int) (x := (.inl (fun _ => 0))) dm_41_91 rfl rfl wm_68 (fun _ _ => rfl) (fun _ _ => trivial) (by decide +kernel) rfl (fun _ _ _ _ => rfl)⟩
set_option maxRecDepth 100000 in
theorem vv_41_93 {l : Launch} (hl : l.stackTraces = false) : cj_V1 l 41 93 (51, 7, 19, [2]) 96 := Or.inl ⟨by decide +kernel, ok_putfield (N := 39) (C := RK_7) (T := TK_7) (ty0 := tyK_7) dm_41_93 rfl inK_7 (by decide +kernel) wm_752 tyK_7_ok nmK_7 (Or.inr ⟨rfl, rfl, rfl⟩) (Or.inr (Or.inr (Or.inl ⟨rfl, Or.inr ⟨_, rfl⟩⟩)))⟩
set_option maxRecDepth 100000 in
theorem vv_41_96 {l : Launch} (hl : l.stackTraces = false) : cj_V1 l 41 96 (3, 0, 0, []) 97 := Or.inl ⟨by decide +kernel, ok_aload_n dm_41_96 rfl⟩
set_option maxRecDepth 100000 in
theorem vv_41_97 {l : Launch} (hl : l.stackTraces = false) : cj_V1 l 41 97 (0, 130, 0, []) 100 := Or.inl ⟨by decide +kernel, ok_sipush dm_41_97 (by decide +kernel)⟩
set_option maxRecDepth 100000 in
theorem vv_41_100 {l : Launch} (hl : l.stackTraces = false) : cj_V1 l 41 100 (71, 0, 0, []) 102 := Or.inl ⟨by decide +kernel, ok_newarray (ty := .int) (x := (.inl (fun _ => 0))) dm_41_100 rfl rfl wm_68 (fun _ _ => rfl) (fun _ _ => trivial) (by decide +kernel) rfl (fun _ _ _ _ => rfl)⟩
set_option maxRecDepth 100000 in
theorem vv_41_102 {l : Launch} (hl : l.stackTraces = false) : cj_V1 l 41 102 (51, 7, 20, [2]) 105 := Or.inl ⟨by decide +kernel, ok_putfield (N := 39) (C := RK_7) (T := TK_7) (ty0 := tyK_7) dm_41_102 rfl inK_7 (by decide +kernel) wm_753 tyK_7_ok nmK_7 (Or.inr ⟨rfl, rfl, rfl⟩) (Or.inr (Or.inr (Or.inl ⟨rfl, Or.inr ⟨_, rfl⟩⟩)))⟩
set_option maxRecDepth 100000 in
theorem vv_41_105 {l : Launch} (hl : l.stackTraces = false) : cj_V1 l 41 105 (3, 0, 0, []) 106 := Or.inl ⟨by decide +kernel, ok_aload_n dm_41_105 rfl⟩
set_option maxRecDepth 100000 in
theorem vv_41_106 {l : Launch} (hl : l.stackTraces = false) : cj_V1 l 41 106 (0, 901, 0, []) 109 := Or.inl ⟨by decide +kernel, ok_sipush dm_41_106 (by decide +kernel)⟩
set_option maxRecDepth 100000 in
theorem vv_41_109 {l : Launch} (hl : l.stackTraces = false) : cj_V1 l 41 109 (71, 0, 0, []) 111 := Or.inl ⟨by decide +kernel, ok_newarray (ty := .int) (x := (.inl (fun _ => 0))) dm_41_109 rfl rfl wm_68 (fun _ _ => rfl) (fun _ _ => trivial) (by decide +kernel) rfl (fun _ _ _ _ => rfl)⟩
set_option maxRecDepth 100000 in
theorem vv_41_111 {l : Launch} (hl : l.stackTraces = false) : cj_V1 l 41 111 (51, 7, 21, [2]) 114 := Or.inl ⟨by decide +kernel, ok_putfield (N := 39) (C := RK_7) (T := TK_7) (ty0 := tyK_7) dm_41_111 rfl inK_7 (by decide +kernel) wm_754 tyK_7_ok nmK_7 (Or.inr ⟨rfl, rfl, rfl⟩) (Or.inr (Or.inr (Or.inl ⟨rfl, Or.inr ⟨_, rfl⟩⟩)))⟩
set_option maxRecDepth 100000 in
theorem vv_41_114 {l : Launch} (hl : l.stackTraces = false) : cj_V1 l 41 114 (3, 0, 0, []) 115 := Or.inl ⟨by decide +kernel, ok_aload_n dm_41_114 rfl⟩
set_option maxRecDepth 100000 in
theorem vv_41_115 {l : Launch} (hl : l.stackTraces = false) : cj_V1 l 41 115 (0, 901, 0, []) 118 := Or.inl ⟨by decide +kernel, ok_sipush dm_41_115 (by decide +kernel)⟩
set_option maxRecDepth 100000 in
theorem vv_41_118 {l : Launch} (hl : l.stackTraces = false) : cj_V1 l 41 118 (71, 0, 0, []) 120 := Or.inl ⟨by decide +kernel, ok_newarray (ty := .int) (x := (.inl (fun _ => 0))) dm_41_118 rfl rfl wm_68 (fun _ _ => rfl) (fun _ _ => trivial) (by decide +kernel) rfl (fun _ _ _ _ => rfl)⟩
set_option maxRecDepth 100000 in
theorem vv_41_120 {l : Launch} (hl : l.stackTraces = false) : cj_V1 l 41 120 (51, 7, 22, [2]) 123 := Or.inl ⟨by decide +kernel, ok_putfield (N := 39) (C := RK_7) (T := TK_7) (ty0 := tyK_7) dm_41_120 rfl inK_7 (by decide +kernel) wm_755 tyK_7_ok nmK_7 (Or.inr ⟨rfl, rfl, rfl⟩) (Or.inr (Or.inr (Or.inl ⟨rfl, Or.inr ⟨_, rfl⟩⟩)))⟩
set_option maxRecDepth 100000 in
theorem vv_41_123 {l : Launch} (hl : l.stackTraces = false) : cj_V1 l 41 123 (3, 0, 0, []) 124 := Or.inl ⟨by decide +kernel, ok_aload_n dm_41_123 rfl⟩
set_option maxRecDepth 100000 in
theorem vv_41_124 {l : Launch} (hl : l.stackTraces = false) : cj_V1 l 41 124 (1, 1, 0, []) 125 := Or.inl ⟨by decide +kernel, ok_iconst_m dm_41_124 (by decide +kernel)⟩
set_option maxRecDepth 100000 in
theorem vv_41_125 {l : Launch} (hl : l.stackTraces = false) : cj_V1 l 41 125 (51, 7, 23, [0]) 128 := Or.inl ⟨by decide +kernel, ok_putfield (N := 39) (C := RK_7) (T := TK_7) (ty0 := tyK_7) dm_41_125 rfl inK_7 (by decide +kernel) wm_756 tyK_7_ok nmK_7 (Or.inl rfl) (Or.inl ⟨rfl, rfl⟩)⟩
set_option maxRecDepth 100000 in
theorem vv_41_128 {l : Launch} (hl : l.stackTraces = false) : cj_V1 l 41 128 (3, 0, 0, []) 129 := Or.inl ⟨by decide +kernel, ok_aload_n dm_41_128 rfl⟩
set_option maxRecDepth 100000 in
theorem vv_41_129 {l : Launch} (hl : l.stackTraces = false) : cj_V1 l 41 129 (0, 2, 0, []) 130 := Or.inl ⟨by decide +kernel, ok_iconst dm_41_129 (by decide +kernel)⟩
set_option maxRecDepth 100000 in
theorem vv_41_130 {l : Launch} (hl : l.stackTraces = false) : cj_V1 l 41 130 (71, 0, 0, []) 132 := Or.inl ⟨by decide +kernel, ok_newarray (ty := .int) (x := (.inl (fun _ => 0))) dm_41_130 rfl rfl wm_68 (fun _ _ => rfl) (fun _ _ => trivial) (by decide +kernel) rfl (fun _ _ _ _ => rfl)⟩
set_option maxRecDepth 100000 in
theorem vv_41_132 {l : Launch} (hl : l.stackTraces = false) : cj_V1 l 41 132 (51, 7, 24, [2]) 135 := Or.inl ⟨by decide +kernel, ok_putfield (N := 39) (C := RK_7) (T := TK_7) (ty0 := tyK_7) dm_41_132 rfl inK_7 (by decide +kernel) wm_757 tyK_7_ok nmK_7 (Or.inr ⟨rfl, rfl, rfl⟩) (Or.inr (Or.inr (Or.inl ⟨rfl, Or.inr ⟨_, rfl⟩⟩)))⟩
set_option maxRecDepth 100000 in
theorem vv_41_135 {l : Launch} (hl : l.stackTraces = false) : cj_V1 l 41 135 (3, 0, 0, []) 136 := Or.inl ⟨by decide +kernel, ok_aload_n dm_41_135 rfl⟩
set_option maxRecDepth 100000 in
theorem vv_41_136 {l : Launch} (hl : l.stackTraces = false) : cj_V1 l 41 136 (0, 10, 0, []) 138 := Or.inl ⟨by decide +kernel, ok_bipush dm_41_136 (by decide +kernel)⟩
set_option maxRecDepth 100000 in
theorem vv_41_138 {l : Launch} (hl : l.stackTraces = false) : cj_V1 l 41 138 (71, 0, 0, []) 140 := Or.inl ⟨by decide +kernel, ok_newarray (ty := .int) (x := (.inl (fun _ => 0))) dm_41_138 rfl rfl wm_68 (fun _ _ => rfl) (fun _ _ => trivial) (by decide +kernel) rfl (fun _ _ _ _ => rfl)⟩
set_option maxRecDepth 100000 in
theorem vv_41_140 {l : Launch} (hl : l.stackTraces = false) : cj_V1 l 41 140 (51, 7, 25, [2]) 143 := Or.inl ⟨by decide +kernel, ok_putfield (N := 39) (C := RK_7) (T := TK_7) (ty0 := tyK_7) dm_41_140 rfl inK_7 (by decide +kernel) wm_758 tyK_7_ok nmK_7 (Or.inr ⟨rfl, rfl, rfl⟩) (Or.inr (Or.inr (Or.inl ⟨rfl, Or.inr ⟨_, rfl⟩⟩)))⟩
set_option maxRecDepth 100000 in
theorem vv_41_143 {l : Launch} (hl : l.stackTraces = false) : cj_V1 l 41 143 (3, 0, 0, []) 144 := Or.inl ⟨by decide +kernel, ok_aload_n dm_41_143 rfl⟩
set_option maxRecDepth 100000 in
theorem vv_41_144 {l : Launch} (hl : l.stackTraces = false) : cj_V1 l 41 144 (0, 16, 0, []) 146 := Or.inl ⟨by decide +kernel, ok_bipush dm_41_144 (by decide +kernel)⟩
set_option maxRecDepth 100000 in
theorem vv_41_146 {l : Launch} (hl : l.stackTraces = false) : cj_V1 l 41 146 (71, 0, 0, []) 148 := Or.inl ⟨by decide +kernel, ok_newarray (ty := .int) (x := (.inl (fun _ => 0))) dm_41_146 rfl rfl wm_68 (fun _ _ => rfl) (fun _ _ => trivial) (by decide +kernel) rfl (fun _ _ _ _ => rfl)⟩
set_option maxRecDepth 100000 in
theorem vv_41_148 {l : Launch} (hl : l.stackTraces = false) : cj_V1 l 41 148 (51, 7, 26, [2]) 151 := Or.inl ⟨by decide +kernel, ok_putfield (N := 39) (C := RK_7) (T := TK_7) (ty0 := tyK_7) dm_41_148 rfl inK_7 (by decide +kernel) wm_759 tyK_7_ok nmK_7 (Or.inr ⟨rfl, rfl, rfl⟩) (Or.inr (Or.inr (Or.inl ⟨rfl, Or.inr ⟨_, rfl⟩⟩)))⟩
set_option maxRecDepth 100000 in
theorem vv_41_151 {l : Launch} (hl : l.stackTraces = false) : cj_V1 l 41 151 (3, 0, 0, []) 152 := Or.inl ⟨by decide +kernel, ok_aload_n dm_41_151 rfl⟩
set_option maxRecDepth 100000 in
theorem vv_41_152 {l : Launch} (hl : l.stackTraces = false) : cj_V1 l 41 152 (0, 8, 0, []) 154 := Or.inl ⟨by decide +kernel, ok_bipush dm_41_152 (by decide +kernel)⟩
set_option maxRecDepth 100000 in
theorem vv_41_154 {l : Launch} (hl : l.stackTraces = false) : cj_V1 l 41 154 (71, 0, 0, []) 156 := Or.inl ⟨by decide +kernel, ok_newarray (ty := .int) (x := (.inl (fun _ => 0))) dm_41_154 rfl rfl wm_68 (fun _ _ => rfl) (fun _ _ => trivial) (by decide +kernel) rfl (fun _ _ _ _ => rfl)⟩
set_option maxRecDepth 100000 in
theorem vv_41_156 {l : Launch} (hl : l.stackTraces = false) : cj_V1 l 41 156 (51, 7, 27, [2]) 159 := Or.inl ⟨by decide +kernel, ok_putfield (N := 39) (C := RK_7) (T := TK_7) (ty0 := tyK_7) dm_41_156 rfl inK_7 (by decide +kernel) wm_760 tyK_7_ok nmK_7 (Or.inr ⟨rfl, rfl, rfl⟩) (Or.inr (Or.inr (Or.inl ⟨rfl, Or.inr ⟨_, rfl⟩⟩)))⟩
set_option maxRecDepth 100000 in
theorem vv_41_159 {l : Launch} (hl : l.stackTraces = false) : cj_V1 l 41 159 (3, 0, 0, []) 160 := Or.inl ⟨by decide +kernel, ok_aload_n dm_41_159 rfl⟩
set_option maxRecDepth 100000 in
theorem vv_41_160 {l : Launch} (hl : l.stackTraces = false) : cj_V1 l 41 160 (0, 16, 0, []) 162 := Or.inl ⟨by decide +kernel, ok_bipush dm_41_160 (by decide +kernel)⟩
set_option maxRecDepth 100000 in
theorem vv_41_162 {l : Launch} (hl : l.stackTraces = false) : cj_V1 l 41 162 (71, 0, 0, []) 164 := Or.inl ⟨by decide +kernel, ok_newarray (ty := .int) (x := (.inl (fun _ => 0))) dm_41_162 rfl rfl wm_68 (fun _ _ => rfl) (fun _ _ => trivial) (by decide +kernel) rfl (fun _ _ _ _ => rfl)⟩
set_option maxRecDepth 100000 in
theorem vv_41_164 {l : Launch} (hl : l.stackTraces = false) : cj_V1 l 41 164 (51, 7, 28, [2]) 167 := Or.inl ⟨by decide +kernel, ok_putfield (N := 39) (C := RK_7) (T := TK_7) (ty0 := tyK_7) dm_41_164 rfl inK_7 (by decide +kernel) wm_761 tyK_7_ok nmK_7 (Or.inr ⟨rfl, rfl, rfl⟩) (Or.inr (Or.inr (Or.inl ⟨rfl, Or.inr ⟨_, rfl⟩⟩)))⟩
set_option maxRecDepth 100000 in
theorem vv_41_167 {l : Launch} (hl : l.stackTraces = false) : cj_V1 l 41 167 (3, 0, 0, []) 168 := Or.inl ⟨by decide +kernel, ok_aload_n dm_41_167 rfl⟩
set_option maxRecDepth 100000 in
theorem vv_41_168 {l : Launch} (hl : l.stackTraces = false) : cj_V1 l 41 168 (0, 1792, 0, []) 171 := Or.inl ⟨by decide +kernel, ok_sipush dm_41_168 (by decide +kernel)⟩
set_option maxRecDepth 100000 in
theorem vv_41_171 {l : Launch} (hl : l.stackTraces = false) : cj_V1 l 41 171 (71, 0, 0, []) 173 := Or.inl ⟨by decide +kernel, ok_newarray (ty := .int) (x := (.inl (fun _ => 0))) dm_41_171 rfl rfl wm_68 (fun _ _ => rfl) (fun _ _ => trivial) (by decide +kernel) rfl (fun _ _ _ _ => rfl)⟩
set_option maxRecDepth 100000 in
theorem vv_41_173 {l : Launch} (hl : l.stackTraces = false) : cj_V1 l 41 173 (51, 7, 29, [2]) 176 := Or.inl ⟨by decide +kernel, ok_putfield (N := 39) (C := RK_7) (T := TK_7) (ty0 := tyK_7) dm_41_173 rfl inK_7 (by decide +kernel) wm_762 tyK_7_ok nmK_7 (Or.inr ⟨rfl, rfl, rfl⟩) (Or.inr (Or.inr (Or.inl ⟨rfl, Or.inr ⟨_, rfl⟩⟩)))⟩
set_option maxRecDepth 100000 in
theorem vv_41_176 {l : Launch} (hl : l.stackTraces = false) : cj_V1 l 41 176 (3, 0, 0, []) 177 := Or.inl ⟨by decide +kernel, ok_aload_n dm_41_176 rfl⟩
set_option maxRecDepth 100000 in
theorem vv_41_177 {l : Launch} (hl : l.stackTraces = false) : cj_V1 l 41 177 (0, 1792, 0, []) 180 := Or.inl ⟨by decide +kernel, ok_sipush dm_41_177 (by decide +kernel)⟩
set_option maxRecDepth 100000 in
theorem vv_41_180 {l : Launch} (hl : l.stackTraces = false) : cj_V1 l 41 180 (71, 0, 0, []) 182 := Or.inl ⟨by decide +kernel, ok_newarray (ty := .int) (x := (.inl (fun _ => 0))) dm_41_180 rfl rfl wm_68 (fun _ _ => rfl) (fun _ _ => trivial) (by decide +kernel) rfl (fun _ _ _ _ => rfl)⟩
set_option maxRecDepth 100000 in
theorem vv_41_182 {l : Launch} (hl : l.stackTraces = false) : cj_V1 l 41 182 (51, 7, 30, [2]) 185 := Or.inl ⟨by decide +kernel, ok_putfield (N := 39) (C := RK_7) (T := TK_7) (ty0 := tyK_7) dm_41_182 rfl inK_7 (by decide +kernel) wm_763 tyK_7_ok nmK_7 (Or.inr ⟨rfl, rfl, rfl⟩) (Or.inr (Or.inr (Or.inl ⟨rfl, Or.inr ⟨_, rfl⟩⟩)))⟩
set_option maxRecDepth 100000 in
theorem vv_41_185 {l : Launch} (hl : l.stackTraces = false) : cj_V1 l 41 185 (3, 0, 0, []) 186 := Or.inl ⟨by decide +kernel, ok_aload_n dm_41_185 rfl⟩
set_option maxRecDepth 100000 in
theorem vv_41_186 {l : Launch} (hl : l.stackTraces = false) : cj_V1 l 41 186 (0, 3840, 0, []) 189 := Or.inl ⟨by decide +kernel, ok_sipush dm_41_186 (by decide +kernel)⟩
set_option maxRecDepth 100000 in
theorem vv_41_189 {l : Launch} (hl : l.stackTraces = false) : cj_V1 l 41 189 (71, 0, 0, []) 191 := Or.inl ⟨by decide +kernel, ok_newarray (ty := .int) (x := (.inl (fun _ => 0))) dm_41_189 rfl rfl wm_68 (fun _ _ => rfl) (fun _ _ => trivial) (by decide +kernel) rfl (fun _ _ _ _ => rfl)⟩
set_option maxRecDepth 100000 in
theorem vv_41_191 {l : Launch} (hl : l.stackTraces = false) : cj_V1 l 41 191 (51, 7, 31, [2]) 194 := Or.inl ⟨by decide +kernel, ok_putfield (N := 39) (C := RK_7) (T := TK_7) (ty0 := tyK_7) dm_41_191 rfl inK_7 (by decide +kernel) wm_764 tyK_7_ok nmK_7 (Or.inr ⟨rfl, rfl, rfl⟩) (Or.inr (Or.inr (Or.inl ⟨rfl, Or.inr ⟨_, rfl⟩⟩)))⟩
set_option maxRecDepth 100000 in
theorem vv_41_194 {l : Launch} (hl : l.stackTraces = false) : cj_V1 l 41 194 (3, 0, 0, []) 195 := Or.inl ⟨by decide +kernel, ok_aload_n dm_41_194 rfl⟩
set_option maxRecDepth 100000 in
theorem vv_41_195 {l : Launch} (hl : l.stackTraces = false) : cj_V1 l 41 195 (0, 2, 0, []) 196 := Or.inl ⟨by decide +kernel, ok_iconst dm_41_195 (by decide +kernel)⟩
set_option maxRecDepth 100000 in
theorem vv_41_196 {l : Launch} (hl : l.stackTraces = false) : cj_V1 l 41 196 (71, 0, 0, []) 198 := Or.inl ⟨by decide +kernel, ok_newarray (ty := .int) (x := (.inl (fun _ => 0))) dm_41_196 rfl rfl wm_68 (fun _ _ => rfl) (fun _ _ => trivial) (by decide +kernel) rfl (fun _ _ _ _ => rfl)⟩
set_option maxRecDepth 100000 in
theorem vv_41_198 {l : Launch} (hl : l.stackTraces = false) : cj_V1 l 41 198 (51, 7, 32, [2]) 201 := Or.inl ⟨by decide +kernel, ok_putfield (N := 39) (C := RK_7) (T := TK_7) (ty0 := tyK_7) dm_41_198 rfl inK_7 (by decide +kernel) wm_765 tyK_7_ok nmK_7 (Or.inr ⟨rfl, rfl, rfl⟩) (Or.inr (Or.inr (Or.inl ⟨rfl, Or.inr ⟨_, rfl⟩⟩)))⟩
set_option maxRecDepth 100000 in
theorem vv_41_201 {l : Launch} (hl : l.stackTraces = false) : cj_V1 l 41 201 (3, 0, 0, []) 202 := Or.inl ⟨by decide +kernel, ok_aload_n dm_41_201 rfl⟩
set_option maxRecDepth 100000 in
theorem vv_41_202 {l : Launch} (hl : l.stackTraces = false) : cj_V1 l 41 202 (0, 1800, 0, []) 205 := Or.inl ⟨by decide +kernel, ok_sipush dm_41_202 (by decide +kernel)⟩
set_option maxRecDepth 100000 in
theorem vv_41_205 {l : Launch} (hl : l.stackTraces = false) : cj_V1 l 41 205 (71, 0, 0, []) 207 := Or.inl ⟨by decide +kernel, ok_newarray (ty := .int) (x := (.inl (fun _ => 0))) dm_41_205 rfl rfl wm_68 (fun _ _ => rfl) (fun _ _ => trivial) (by decide +kernel) rfl (fun _ _ _ _ => rfl)⟩
set_option maxRecDepth 100000 in
theorem vv_41_207 {l : Launch} (hl : l.stackTraces = false) : cj_V1 l 41 207 (51, 7, 33, [2]) 210 := Or.inl ⟨by decide +kernel, ok_putfield (N := 39) (C := RK_7) (T := TK_7) (ty0 := tyK_7) dm_41_207 rfl inK_7 (by decide +kernel) wm_766 tyK_7_ok nmK_7 (Or.inr ⟨rfl, rfl, rfl⟩) (Or.inr (Or.inr (Or.inl ⟨rfl, Or.inr ⟨_, rfl⟩⟩)))⟩
set_option maxRecDepth 100000 in
theorem vv_41_210 {l : Launch} (hl : l.stackTraces = false) : cj_V1 l 41 210 (3, 0, 0, []) 211 := Or.inl ⟨by decide +kernel, ok_aload_n dm_41_210 rfl⟩
set_option maxRecDepth 100000 in
theorem vv_41_211 {l : Launch} (hl : l.stackTraces = false) : cj_V1 l 41 211 (0, 1800, 0, []) 214 := Or.inl ⟨by decide +kernel, ok_sipush dm_41_211 (by decide +kernel)⟩
set_option maxRecDepth 100000 in
theorem vv_41_214 {l : Launch} (hl : l.stackTraces = false) : cj_V1 l 41 214 (71, 0, 0, []) 216 := Or.inl ⟨by decide +kernel, ok_newarray (ty := .int) (x := (.inl (fun _ => 0))) dm_41_214 rfl rfl wm_68 (fun _ _ => rfl) (fun _ _ => trivial) (by decide +kernel) rfl (fun _ _ _ _ => rfl)⟩
set_option maxRecDepth 100000 in
theorem vv_41_216 {l : Launch} (hl : l.stackTraces = false) : cj_V1 l 41 216 (51, 7, 34, [2]) 219 := Or.inl ⟨by decide +kernel, ok_putfield (N := 39) (C := RK_7) (T := TK_7) (ty0 := tyK_7) dm_41_216 rfl inK_7 (by decide +kernel) wm_767 tyK_7_ok nmK_7 (Or.inr ⟨rfl, rfl, rfl⟩) (Or.inr (Or.inr (Or.inl ⟨rfl, Or.inr ⟨_, rfl⟩⟩)))⟩
set_option maxRecDepth 100000 in
theorem vv_41_219 {l : Launch} (hl : l.stackTraces = false) : cj_V1 l 41 219 (3, 0, 0, []) 220 := Or.inl ⟨by decide +kernel, ok_aload_n dm_41_219 rfl⟩
set_option maxRecDepth 100000 in
theorem vv_41_220 {l : Launch} (hl : l.stackTraces = false) : cj_V1 l 41 220 (0, 1800, 0, []) 223 := Or.inl ⟨by decide +kernel, ok_sipush dm_41_220 (by decide +kernel)⟩
set_option maxRecDepth 100000 in
theorem vv_41_223 {l : Launch} (hl : l.stackTraces = false) : cj_V1 l 41 223 (71, 0, 0, []) 225 := Or.inl ⟨by decide +kernel, ok_newarray (ty := .int) (x := (.inl (fun _ => 0))) dm_41_223 rfl rfl wm_68 (fun _ _ => rfl) (fun _ _ => trivial) (by decide +kernel) rfl (fun _ _ _ _ => rfl)⟩
set_option maxRecDepth 100000 in
theorem vv_41_225 {l : Launch} (hl : l.stackTraces = false) : cj_V1 l 41 225 (51, 7, 35, [2]) 228 := Or.inl ⟨by decide +kernel, ok_putfield (N := 39) (C := RK_7) (T := TK_7) (ty0 := tyK_7) dm_41_225 rfl inK_7 (by decide +kernel) wm_768 tyK_7_ok nmK_7 (Or.inr ⟨rfl, rfl, rfl⟩) (Or.inr (Or.inr (Or.inl ⟨rfl, Or.inr ⟨_, rfl⟩⟩)))⟩
set_option maxRecDepth 100000 in
theorem vv_41_228 {l : Launch} (hl : l.stackTraces = false) : cj_V1 l 41 228 (3, 0, 0, []) 229 := Or.inl ⟨by decide +kernel, ok_aload_n dm_41_228 rfl⟩
set_option maxRecDepth 100000 in
theorem vv_41_229 {l : Launch} (hl : l.stackTraces = false) : cj_V1 l 41 229 (0, 1800, 0, []) 232 := Or.inl ⟨by decide +kernel, ok_sipush dm_41_229 (by decide +kernel)⟩
set_option maxRecDepth 100000 in
theorem vv_41_232 {l : Launch} (hl : l.stackTraces = false) : cj_V1 l 41 232 (71, 0, 0, []) 234 := Or.inl ⟨by decide +kernel, ok_newarray (ty := .int) (x := (.inl (fun _ => 0))) dm_41_232 rfl rfl wm_68 (fun _ _ => rfl) (fun _ _ => trivial) (by decide +kernel) rfl (fun _ _ _ _ => rfl)⟩
set_option maxRecDepth 100000 in
theorem vv_41_234 {l : Launch} (hl : l.stackTraces = false) : cj_V1 l 41 234 (51, 7, 36, [2]) 237 := Or.inl ⟨by decide +kernel, ok_putfield (N := 39) (C := RK_7) (T := TK_7) (ty0 := tyK_7) dm_41_234 rfl inK_7 (by decide +kernel) wm_769 tyK_7_ok nmK_7 (Or.inr ⟨rfl, rfl, rfl⟩) (Or.inr (Or.inr (Or.inl ⟨rfl, Or.inr ⟨_, rfl⟩⟩)))⟩
set_option maxRecDepth 100000 in
theorem vv_41_237 {l : Launch} (hl : l.stackTraces = false) : cj_V1 l 41 237 (3, 0, 0, []) 238 := Or.inl ⟨by decide +kernel, ok_aload_n dm_41_237 rfl⟩
set_option maxRecDepth 100000 in
theorem vv_41_238 {l : Launch} (hl : l.stackTraces = false) : cj_V1 l 41 238 (0, 1800, 0, []) 241 := Or.inl ⟨by decide +kernel, ok_sipush dm_41_238 (by decide +kernel)⟩
set_option maxRecDepth 100000 in
theorem vv_41_241 {l : Launch} (hl : l.stackTraces = false) : cj_V1 l 41 241 (71, 0, 0, []) 243 := Or.inl ⟨by decide +kernel, ok_newarray (ty := .int) (x := (.inl (fun _ => 0))) dm_41_241 rfl rfl wm_68 (fun _ _ => rfl) (fun _ _ => trivial) (by decide +kernel) rfl (fun _ _ _ _ => rfl)⟩
set_option maxRecDepth 100000 in
theorem vv_41_243 {l : Launch} (hl : l.stackTraces = false) : cj_V1 l 41 243 (51, 7, 37, [2]) 246 := Or.inl ⟨by decide +kernel, ok_putfield (N := 39) (C := RK_7) (T := TK_7) (ty0 := tyK_7) dm_41_243 rfl inK_7 (by decide +kernel) wm_770 tyK_7_ok nmK_7 (Or.inr ⟨rfl, rfl, rfl⟩) (Or.inr (Or.inr (Or.inl ⟨rfl, Or.inr ⟨_, rfl⟩⟩)))⟩
set_option maxRecDepth 100000 in
theorem vv_41_246 {l : Launch} (hl : l.stackTraces = false) : cj_V1 l 41 246 (3, 0, 0, []) 247 := Or.inl ⟨by decide +kernel, ok_aload_n dm_41_246 rfl⟩
set_option maxRecDepth 100000 in
theorem vv_41_247 {l : Launch} (hl : l.stackTraces = false) : cj_V1 l 41 247 (0, 1800, 0, []) 250 := Or.inl ⟨by decide +kernel, ok_sipush dm_41_247 (by decide +kernel)⟩
set_option maxRecDepth 100000 in
theorem vv_41_250 {l : Launch} (hl : l.stackTraces = false) : cj_V1 l 41 250 (71, 0, 0, []) 252 := Or.inl ⟨by decide +kernel, ok_newarray (ty := .int) (x := (.inl (fun _ => 0))) dm_41_250 rfl rfl wm_68 (fun _ _ => rfl) (fun _ _ => trivial) (by decide +kernel) rfl (fun _ _ _ _ => rfl)⟩
set_option maxRecDepth 100000 in
theorem vv_41_252 {l : Launch} (hl : l.stackTraces = false) : cj_V1 l 41 252 (51, 7, 38, [2]) 255 := Or.inl ⟨by decide +kernel, ok_putfield (N := 39) (C := RK_7) (T := TK_7) (ty0 := tyK_7) dm_41_252 rfl inK_7 (by decide +kernel) wm_771 tyK_7_ok nmK_7 (Or.inr ⟨rfl, rfl, rfl⟩) (Or.inr (Or.inr (Or.inl ⟨rfl, Or.inr ⟨_, rfl⟩⟩)))⟩
set_option maxRecDepth 100000 in
theorem vv_41_255 {l : Launch} (hl : l.stackTraces = false) : cj_V1 l 41 255 (3, 0, 0, []) 256 := Or.inl ⟨by decide +kernel, ok_aload_n dm_41_255 rfl⟩
set_option maxRecDepth 100000 in
theorem vv_41_256 {l : Launch} (hl : l.stackTraces = false) : cj_V1 l 41 256 (2, 1, 0, []) 257 := Or.inl ⟨by decide +kernel, ok_iload_n dm_41_256 rfl⟩
set_option maxRecDepth 100000 in
theorem vv_41_257 {l : Launch} (hl : l.stackTraces = false) : cj_V1 l 41 257 (0, 6, 0, []) 259 := Or.inl ⟨by decide +kernel, ok_bipush dm_41_257 (by decide +kernel)⟩
set_option maxRecDepth 100000 in
theorem vv_41_259 {l : Launch} (hl : l.stackTraces = false) : cj_V1 l 41 259 (40, 267, 0, []) 262 := Or.inl ⟨by decide +kernel, ok_icmp_ge dm_41_259 (by decide +kernel)⟩
set_option maxRecDepth 100000 in
theorem vv_41_262 {l : Launch} (hl : l.stackTraces = false) : cj_V1 l 41 262 (0, 6, 0, []) 264 := Or.inl ⟨by decide +kernel, ok_bipush dm_41_262 (by decide +kernel)⟩
set_option maxRecDepth 100000 in
theorem vv_41_264 {l : Launch} (hl : l.stackTraces = false) : cj_V1 l 41 264 (30, 279, 0, []) 267 := Or.inl ⟨by decide +kernel, ok_goto dm_41_264 (by decide +kernel)⟩
set_option maxRecDepth 100000 in
theorem vv_41_267 {l : Launch} (hl : l.stackTraces = false) : cj_V1 l 41 267 (2, 1, 0, []) 268 := Or.inl ⟨by decide +kernel, ok_iload_n dm_41_267 rfl⟩
set_option maxRecDepth 100000 in
theorem vv_41_268 {l : Launch} (hl : l.stackTraces = false) : cj_V1 l 41 268 (0, 40, 0, []) 270 := Or.inl ⟨by decide +kernel, ok_bipush dm_41_268 (by decide +kernel)⟩
set_option maxRecDepth 100000 in
theorem vv_41_270 {l : Launch} (hl : l.stackTraces = false) : cj_V1 l 41 270 (42, 278, 0, []) 273 := Or.inl ⟨by decide +kernel, ok_icmp_le dm_41_270 (by decide +kernel)⟩
set_option maxRecDepth 100000 in
theorem vv_41_273 {l : Launch} (hl : l.stackTraces = false) : cj_V1 l 41 273 (0, 40, 0, []) 275 := Or.inl ⟨by decide +kernel, ok_bipush dm_41_273 (by decide +kernel)⟩
set_option maxRecDepth 100000 in
theorem vv_41_275 {l : Launch} (hl : l.stackTraces = false) : cj_V1 l 41 275 (30, 279, 0, []) 278 := Or.inl ⟨by decide +kernel, ok_goto dm_41_275 (by decide +kernel)⟩
set_option maxRecDepth 100000 in
theorem vv_41_278 {l : Launch} (hl : l.stackTraces = false) : cj_V1 l 41 278 (2, 1, 0, []) 279 := Or.inl ⟨by decide +kernel, ok_iload_n dm_41_278 rfl⟩
set_option maxRecDepth 100000 in
theorem vv_41_279 {l : Launch} (hl : l.stackTraces = false) : cj_V1 l 41 279 (51, 7, 0, [0]) 282 := Or.inl ⟨by decide +kernel, ok_putfield (N := 39) (C := RK_7) (T := TK_7) (ty0 := tyK_7) dm_41_279 rfl inK_7 (by decide +kernel) wm_733 tyK_7_ok nmK_7 (Or.inr ⟨rfl, rfl, rfl⟩) (Or.inl ⟨rfl, rfl⟩)⟩
set_option maxRecDepth 100000 in
theorem vv_41_282 {l : Launch} (hl : l.stackTraces = false) : cj_V1 l 41 282 (3, 0, 0, []) 283 := Or.inl ⟨by decide +kernel, ok_aload_n dm_41_282 rfl⟩
set_option maxRecDepth 100000 in
theorem vv_41_283 {l : Launch} (hl : l.stackTraces = false) : cj_V1 l 41 283 (2, 2, 0, []) 284 := Or.inl ⟨by decide +kernel, ok_iload_n dm_41_283 rfl⟩
set_option maxRecDepth 100000 in
theorem vv_41_284 {l : Launch} (hl : l.stackTraces = false) : cj_V1 l 41 284 (0, 3, 0, []) 285 := Or.inl ⟨by decide +kernel, ok_iconst dm_41_284 (by decide +kernel)⟩
set_option maxRecDepth 100000 in
theorem vv_41_285 {l : Launch} (hl : l.stackTraces = false) : cj_V1 l 41 285 (40, 292, 0, []) 288 := Or.inl ⟨by decide +kernel, ok_icmp_ge dm_41_285 (by decide +kernel)⟩
set_option maxRecDepth 100000 in
theorem vv_41_288 {l : Launch} (hl : l.stackTraces = false) : cj_V1 l 41 288 (0, 3, 0, []) 289 := Or.inl ⟨by decide +kernel, ok_iconst dm_41_288 (by decide +kernel)⟩
set_option maxRecDepth 100000 in
theorem vv_41_289 {l : Launch} (hl : l.stackTraces = false) : cj_V1 l 41 289 (30, 304, 0, []) 292 := Or.inl ⟨by decide +kernel, ok_goto dm_41_289 (by decide +kernel)⟩
set_option maxRecDepth 100000 in
theorem vv_41_292 {l : Launch} (hl : l.stackTraces = false) : cj_V1 l 41 292 (2, 2, 0, []) 293 := Or.inl ⟨by decide +kernel, ok_iload_n dm_41_292 rfl⟩
set_option maxRecDepth 100000 in
theorem vv_41_293 {l : Launch} (hl : l.stackTraces = false) : cj_V1 l 41 293 (0, 30, 0, []) 295 := Or.inl ⟨by decide +kernel, ok_bipush dm_41_293 (by decide +kernel)⟩
set_option maxRecDepth 100000 in
theorem vv_41_295 {l : Launch} (hl : l.stackTraces = false) : cj_V1 l 41 295 (42, 303, 0, []) 298 := Or.inl ⟨by decide +kernel, ok_icmp_le dm_41_295 (by decide +kernel)⟩
set_option maxRecDepth 100000 in
theorem vv_41_298 {l : Launch} (hl : l.stackTraces = false) : cj_V1 l 41 298 (0, 30, 0, []) 300 := Or.inl ⟨by decide +kernel, ok_bipush dm_41_298 (by decide +kernel)⟩
set_option maxRecDepth 100000 in
theorem vv_41_300 {l : Launch} (hl : l.stackTraces = false) : cj_V1 l 41 300 (30, 304, 0, []) 303 := Or.inl ⟨by decide +kernel, ok_goto dm_41_300 (by decide +kernel)⟩
set_option maxRecDepth 100000 in
theorem vv_41_303 {l : Launch} (hl : l.stackTraces = false) : cj_V1 l 41 303 (2, 2, 0, []) 304 := Or.inl ⟨by decide +kernel, ok_iload_n dm_41_303 rfl⟩
set_option maxRecDepth 100000 in
theorem vv_41_304 {l : Launch} (hl : l.stackTraces = false) : cj_V1 l 41 304 (51, 7, 1, [0]) 307 := Or.inl ⟨by decide +kernel, ok_putfield (N := 39) (C := RK_7) (T := TK_7) (ty0 := tyK_7) dm_41_304 rfl inK_7 (by decide +kernel) wm_734 tyK_7_ok nmK_7 (Or.inr ⟨rfl, rfl, rfl⟩) (Or.inl ⟨rfl, rfl⟩)⟩
set_option maxRecDepth 100000 in
theorem vv_41_307 {l : Launch} (hl : l.stackTraces = false) : cj_V1 l 41 307 (0, 0, 0, []) 308 := Or.inl ⟨by decide +kernel, ok_iconst dm_41_307 (by decide +kernel)⟩
set_option maxRecDepth 100000 in
theorem vv_41_308 {l : Launch} (hl : l.stackTraces = false) : cj_V1 l 41 308 (4, 3, 0, []) 309 := Or.inl ⟨by decide +kernel, ok_istore_n dm_41_308 rfl⟩
set_option maxRecDepth 100000 in
theorem vv_41_309 {l : Launch} (hl : l.stackTraces = false) : cj_V1 l 41 309 (2, 3, 0, []) 310 := Or.inl ⟨by decide +kernel, ok_iload_n dm_41_309 rfl⟩
set_option maxRecDepth 100000 in
theorem vv_41_310 {l : Launch} (hl : l.stackTraces = false) : cj_V1 l 41 310 (0, 32, 0, []) 312 := Or.inl ⟨by decide +kernel, ok_bipush dm_41_310 (by decide +kernel)⟩
set_option maxRecDepth 100000 in
theorem vv_41_312 {l : Launch} (hl : l.stackTraces = false) : cj_V1 l 41 312 (40, 328, 0, []) 315 := Or.inl ⟨by decide +kernel, ok_icmp_ge dm_41_312 (by decide +kernel)⟩
set_option maxRecDepth 100000 in
theorem vv_41_315 {l : Launch} (hl : l.stackTraces = false) : cj_V1 l 41 315 (3, 0, 0, []) 316 := Or.inl ⟨by decide +kernel, ok_aload_n dm_41_315 rfl⟩
set_option maxRecDepth 100000 in
theorem vv_41_316 {l : Launch} (hl : l.stackTraces = false) : cj_V1 l 41 316 (50, 7, 13, []) 319 := Or.inl ⟨by decide +kernel, ok_getfield (N := 39) (C := RK_7) (T := TK_7) dm_41_316 rfl inK_7 (by decide +kernel) wm_746⟩
set_option maxRecDepth 100000 in
theorem vv_41_319 {l : Launch} (hl : l.stackTraces = false) : cj_V1 l 41 319 (2, 3, 0, []) 320 := Or.inl ⟨by decide +kernel, ok_iload_n dm_41_319 rfl⟩
set_option maxRecDepth 100000 in
theorem vv_41_320 {l : Launch} (hl : l.stackTraces = false) : cj_V1 l 41 320 (1, 1, 0, []) 321 := Or.inl ⟨by decide +kernel, ok_iconst_m dm_41_320 (by decide +kernel)⟩
set_option maxRecDepth 100000 in
theorem vv_41_321 {l : Launch} (hl : l.stackTraces = false) : cj_V1 l 41 321 (56, 0, 0, []) 322 := Or.inl ⟨by decide +kernel, ok_iastore dm_41_321 rfl⟩
set_option maxRecDepth 100000 in
theorem vv_41_322 {l : Launch} (hl : l.stackTraces = false) : cj_V1 l 41 322 (6, 3, 1, []) 325 := Or.inl ⟨by decide +kernel, ok_iinc6 dm_41_322 (by decide +kernel)⟩
set_option maxRecDepth 100000 in
theorem vv_41_325 {l : Launch} (hl : l.stackTraces = false) : cj_V1 l 41 325 (30, 309, 0, []) 328 := Or.inl ⟨by decide +kernel, ok_goto dm_41_325 (by decide +kernel)⟩
set_option maxRecDepth 100000 in
theorem vv_41_328 {l : Launch} (hl : l.stackTraces = false) : cj_V1 l 41 328 (91, 0, 0, []) 329 := Or.inr (Or.inl ⟨by decide +kernel, Or.inl (Or.inr (Or.inl ⟨rfl, dm_41_328, rfl⟩))⟩)
set_option maxRecDepth 100000 in
theorem vm_41 {l : Launch} (hl : l.stackTraces = false) : cj_Vm l 41 := cj_Vm_of (r := kc41_) rfl ⟨vv_41_0 hl, vv_41_1 hl, vv_41_4 hl, vv_41_5 hl, vv_41_7 hl, vv_41_9 hl, vv_41_12 hl, vv_41_13 hl, vv_41_15 hl, vv_41_17 hl, vv_41_20 hl, vv_41_21 hl, vv_41_24 hl, vv_41_26 hl, vv_41_29 hl, vv_41_30 hl, vv_41_32 hl, vv_41_34 hl, vv_41_37 hl, vv_41_38 hl, vv_41_40 hl, vv_41_42 hl, vv_41_45 hl, vv_41_46 hl, vv_41_49 hl, vv_41_51 hl, vv_41_54 hl, vv_41_55 hl, vv_41_57 hl, vv_41_59 hl, vv_41_62 hl, vv_41_63 hl, vv_41_65 hl, vv_41_67 hl, vv_41_70 hl, vv_41_71 hl, vv_41_73 hl, vv_41_75 hl, vv_41_78 hl, vv_41_79 hl, vv_41_82 hl, vv_41_84 hl, vv_41_87 hl, vv_41_88 hl, vv_41_91 hl, vv_41_93 hl, vv_41_96 hl, vv_41_97 hl, vv_41_100 hl, vv_41_102 hl, vv_41_105 hl, vv_41_106 hl, vv_41_109 hl, vv_41_111 hl, vv_41_114 hl, vv_41_115 hl, vv_41_118 hl, vv_41_120 hl, vv_41_123 hl, vv_41_124 hl, vv_41_125 hl, vv_41_128 hl, vv_41_129 hl, vv_41_130 hl, vv_41_132 hl, vv_41_135 hl, vv_41_136 hl, vv_41_138 hl, vv_41_140 hl, vv_41_143 hl, vv_41_144 hl, vv_41_146 hl, vv_41_148 hl, vv_41_151 hl, vv_41_152 hl, vv_41_154 hl, vv_41_156 hl, vv_41_159 hl, vv_41_160 hl, vv_41_162 hl, vv_41_164 hl, vv_41_167 hl, vv_41_168 hl, vv_41_171 hl, vv_41_173 hl, vv_41_176 hl, vv_41_177 hl, vv_41_180 hl, vv_41_182 hl, vv_41_185 hl, vv_41_186 hl, vv_41_189 hl, vv_41_191 hl, vv_41_194 hl, vv_41_195 hl, vv_41_196 hl, vv_41_198 hl, vv_41_201 hl, vv_41_202 hl, vv_41_205 hl, vv_41_207 hl, vv_41_210 hl, vv_41_211 hl, vv_41_214 hl, vv_41_216 hl, vv_41_219 hl, vv_41_220 hl, vv_41_223 hl, vv_41_225 hl, vv_41_228 hl, vv_41_229 hl, vv_41_232 hl, vv_41_234 hl, vv_41_237 hl, vv_41_238 hl, vv_41_241 hl, vv_41_243 hl, vv_41_246 hl, vv_41_247 hl, vv_41_250 hl, vv_41_252 hl, vv_41_255 hl, vv_41_256 hl, vv_41_257 hl, vv_41_259 hl, vv_41_262 hl, vv_41_264 hl, vv_41_267 hl, vv_41_268 hl, vv_41_270 hl, vv_41_273 hl, vv_41_275 hl, vv_41_278 hl, vv_41_279 hl, vv_41_282 hl, vv_41_283 hl, vv_41_284 hl, vv_41_285 hl, vv_41_288 hl, vv_41_289 hl, vv_41_292 hl, vv_41_293 hl, vv_41_295 hl, vv_41_298 hl, vv_41_300 hl, vv_41_303 hl, vv_41_304 hl, vv_41_307 hl, vv_41_308 hl, vv_41_309 hl, vv_41_310 hl, vv_41_312 hl, vv_41_315 hl, vv_41_316 hl, vv_41_319 hl, vv_41_320 hl, vv_41_321 hl, vv_41_322 hl, vv_41_325 hl, vv_41_328 hl, trivial⟩
