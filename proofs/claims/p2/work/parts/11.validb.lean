set_option maxRecDepth 100000 in
theorem vv_42_0 {l : Launch} (hl : l.stackTraces = false) : cj_V1 l 42 0 (0, 900, 0, []) 3 := Or.inl ⟨by decide +kernel, ok_sipush dm_42_0 (by decide +kernel)⟩
set_option maxRecDepth 100000 in
theorem vv_42_3 {l : Launch} (hl : l.stackTraces = false) : cj_V1 l 42 3 (2, 1, 0, []) 4 := Or.inl ⟨by decide +kernel, ok_iload_n dm_42_3 rfl⟩
set_option maxRecDepth 100000 in
theorem vv_42_4 {l : Launch} (hl : l.stackTraces = false) : cj_V1 l 42 4 (12, 0, 0, []) 5 := Or.inl ⟨by decide +kernel, ok_imul dm_42_4⟩
set_option maxRecDepth 100000 in
theorem vv_42_5 {l : Launch} (hl : l.stackTraces = false) : cj_V1 l 42 5 (3, 0, 0, []) 6 := Or.inl ⟨by decide +kernel, ok_aload_n dm_42_5 rfl⟩
set_option maxRecDepth 100000 in
theorem vv_42_6 {l : Launch} (hl : l.stackTraces = false) : cj_V1 l 42 6 (50, 7, 32, []) 9 := Or.inl ⟨by decide +kernel, ok_getfield (N := 39) (C := RK_7) (T := TK_7) dm_42_6 rfl inK_7 (by decide +kernel) wm_765⟩
set_option maxRecDepth 100000 in
theorem vv_42_9 {l : Launch} (hl : l.stackTraces = false) : cj_V1 l 42 9 (2, 1, 0, []) 10 := Or.inl ⟨by decide +kernel, ok_iload_n dm_42_9 rfl⟩
set_option maxRecDepth 100000 in
theorem vv_42_10 {l : Launch} (hl : l.stackTraces = false) : cj_V1 l 42 10 (54, 0, 0, []) 11 := Or.inl ⟨by decide +kernel, ok_iaload dm_42_10 rfl⟩
set_option maxRecDepth 100000 in
theorem vv_42_11 {l : Launch} (hl : l.stackTraces = false) : cj_V1 l 42 11 (10, 0, 0, []) 12 := Or.inl ⟨by decide +kernel, ok_iadd dm_42_11⟩
set_option maxRecDepth 100000 in
theorem vv_42_12 {l : Launch} (hl : l.stackTraces = false) : cj_V1 l 42 12 (4, 6, 0, []) 14 := Or.inl ⟨by decide +kernel, ok_istore dm_42_12⟩
set_option maxRecDepth 100000 in
theorem vv_42_14 {l : Launch} (hl : l.stackTraces = false) : cj_V1 l 42 14 (3, 0, 0, []) 15 := Or.inl ⟨by decide +kernel, ok_aload_n dm_42_14 rfl⟩
set_option maxRecDepth 100000 in
theorem vv_42_15 {l : Launch} (hl : l.stackTraces = false) : cj_V1 l 42 15 (50, 7, 33, []) 18 := Or.inl ⟨by decide +kernel, ok_getfield (N := 39) (C := RK_7) (T := TK_7) dm_42_15 rfl inK_7 (by decide +kernel) wm_766⟩
set_option maxRecDepth 100000 in
theorem vv_42_18 {l : Launch} (hl : l.stackTraces = false) : cj_V1 l 42 18 (2, 6, 0, []) 20 := Or.inl ⟨by decide +kernel, ok_iload dm_42_18⟩
set_option maxRecDepth 100000 in
theorem vv_42_20 {l : Launch} (hl : l.stackTraces = false) : cj_V1 l 42 20 (2, 2, 0, []) 21 := Or.inl ⟨by decide +kernel, ok_iload_n dm_42_20 rfl⟩
set_option maxRecDepth 100000 in
theorem vv_42_21 {l : Launch} (hl : l.stackTraces = false) : cj_V1 l 42 21 (56, 0, 0, []) 22 := Or.inl ⟨by decide +kernel, ok_iastore dm_42_21 rfl⟩
set_option maxRecDepth 100000 in
theorem vv_42_22 {l : Launch} (hl : l.stackTraces = false) : cj_V1 l 42 22 (3, 0, 0, []) 23 := Or.inl ⟨by decide +kernel, ok_aload_n dm_42_22 rfl⟩
set_option maxRecDepth 100000 in
theorem vv_42_23 {l : Launch} (hl : l.stackTraces = false) : cj_V1 l 42 23 (50, 7, 34, []) 26 := Or.inl ⟨by decide +kernel, ok_getfield (N := 39) (C := RK_7) (T := TK_7) dm_42_23 rfl inK_7 (by decide +kernel) wm_767⟩
set_option maxRecDepth 100000 in
theorem vv_42_26 {l : Launch} (hl : l.stackTraces = false) : cj_V1 l 42 26 (2, 6, 0, []) 28 := Or.inl ⟨by decide +kernel, ok_iload dm_42_26⟩
set_option maxRecDepth 100000 in
theorem vv_42_28 {l : Launch} (hl : l.stackTraces = false) : cj_V1 l 42 28 (2, 3, 0, []) 29 := Or.inl ⟨by decide +kernel, ok_iload_n dm_42_28 rfl⟩
set_option maxRecDepth 100000 in
theorem vv_42_29 {l : Launch} (hl : l.stackTraces = false) : cj_V1 l 42 29 (56, 0, 0, []) 30 := Or.inl ⟨by decide +kernel, ok_iastore dm_42_29 rfl⟩
set_option maxRecDepth 100000 in
theorem vv_42_30 {l : Launch} (hl : l.stackTraces = false) : cj_V1 l 42 30 (3, 0, 0, []) 31 := Or.inl ⟨by decide +kernel, ok_aload_n dm_42_30 rfl⟩
set_option maxRecDepth 100000 in
theorem vv_42_31 {l : Launch} (hl : l.stackTraces = false) : cj_V1 l 42 31 (50, 7, 35, []) 34 := Or.inl ⟨by decide +kernel, ok_getfield (N := 39) (C := RK_7) (T := TK_7) dm_42_31 rfl inK_7 (by decide +kernel) wm_768⟩
set_option maxRecDepth 100000 in
theorem vv_42_34 {l : Launch} (hl : l.stackTraces = false) : cj_V1 l 42 34 (2, 6, 0, []) 36 := Or.inl ⟨by decide +kernel, ok_iload dm_42_34⟩
set_option maxRecDepth 100000 in
theorem vv_42_36 {l : Launch} (hl : l.stackTraces = false) : cj_V1 l 42 36 (2, 4, 0, []) 38 := Or.inl ⟨by decide +kernel, ok_iload dm_42_36⟩
set_option maxRecDepth 100000 in
theorem vv_42_38 {l : Launch} (hl : l.stackTraces = false) : cj_V1 l 42 38 (56, 0, 0, []) 39 := Or.inl ⟨by decide +kernel, ok_iastore dm_42_38 rfl⟩
set_option maxRecDepth 100000 in
theorem vv_42_39 {l : Launch} (hl : l.stackTraces = false) : cj_V1 l 42 39 (3, 0, 0, []) 40 := Or.inl ⟨by decide +kernel, ok_aload_n dm_42_39 rfl⟩
set_option maxRecDepth 100000 in
theorem vv_42_40 {l : Launch} (hl : l.stackTraces = false) : cj_V1 l 42 40 (50, 7, 36, []) 43 := Or.inl ⟨by decide +kernel, ok_getfield (N := 39) (C := RK_7) (T := TK_7) dm_42_40 rfl inK_7 (by decide +kernel) wm_769⟩
set_option maxRecDepth 100000 in
theorem vv_42_43 {l : Launch} (hl : l.stackTraces = false) : cj_V1 l 42 43 (2, 6, 0, []) 45 := Or.inl ⟨by decide +kernel, ok_iload dm_42_43⟩
set_option maxRecDepth 100000 in
theorem vv_42_45 {l : Launch} (hl : l.stackTraces = false) : cj_V1 l 42 45 (2, 5, 0, []) 47 := Or.inl ⟨by decide +kernel, ok_iload dm_42_45⟩
set_option maxRecDepth 100000 in
theorem vv_42_47 {l : Launch} (hl : l.stackTraces = false) : cj_V1 l 42 47 (56, 0, 0, []) 48 := Or.inl ⟨by decide +kernel, ok_iastore dm_42_47 rfl⟩
set_option maxRecDepth 100000 in
theorem vv_42_48 {l : Launch} (hl : l.stackTraces = false) : cj_V1 l 42 48 (3, 0, 0, []) 49 := Or.inl ⟨by decide +kernel, ok_aload_n dm_42_48 rfl⟩
set_option maxRecDepth 100000 in
theorem vv_42_49 {l : Launch} (hl : l.stackTraces = false) : cj_V1 l 42 49 (50, 7, 32, []) 52 := Or.inl ⟨by decide +kernel, ok_getfield (N := 39) (C := RK_7) (T := TK_7) dm_42_49 rfl inK_7 (by decide +kernel) wm_765⟩
set_option maxRecDepth 100000 in
theorem vv_42_52 {l : Launch} (hl : l.stackTraces = false) : cj_V1 l 42 52 (2, 1, 0, []) 53 := Or.inl ⟨by decide +kernel, ok_iload_n dm_42_52 rfl⟩
set_option maxRecDepth 100000 in
theorem vv_42_53 {l : Launch} (hl : l.stackTraces = false) : cj_V1 l 42 53 (28, 0, 0, []) 54 := Or.inl ⟨by decide +kernel, ok_dup2 dm_42_53⟩
set_option maxRecDepth 100000 in
theorem vv_42_54 {l : Launch} (hl : l.stackTraces = false) : cj_V1 l 42 54 (54, 0, 0, []) 55 := Or.inl ⟨by decide +kernel, ok_iaload dm_42_54 rfl⟩
set_option maxRecDepth 100000 in
theorem vv_42_55 {l : Launch} (hl : l.stackTraces = false) : cj_V1 l 42 55 (0, 1, 0, []) 56 := Or.inl ⟨by decide +kernel, ok_iconst dm_42_55 (by decide +kernel)⟩
set_option maxRecDepth 100000 in
theorem vv_42_56 {l : Launch} (hl : l.stackTraces = false) : cj_V1 l 42 56 (10, 0, 0, []) 57 := Or.inl ⟨by decide +kernel, ok_iadd dm_42_56⟩
set_option maxRecDepth 100000 in
theorem vv_42_57 {l : Launch} (hl : l.stackTraces = false) : cj_V1 l 42 57 (56, 0, 0, []) 58 := Or.inl ⟨by decide +kernel, ok_iastore dm_42_57 rfl⟩
set_option maxRecDepth 100000 in
theorem vv_42_58 {l : Launch} (hl : l.stackTraces = false) : cj_V1 l 42 58 (91, 0, 0, []) 59 := Or.inr (Or.inl ⟨by decide +kernel, Or.inl (Or.inr (Or.inl ⟨rfl, dm_42_58, rfl⟩))⟩)
set_option maxRecDepth 100000 in
theorem vm_42 {l : Launch} (hl : l.stackTraces = false) : cj_Vm l 42 := cj_Vm_of (r := kc42_) rfl ⟨vv_42_0 hl, vv_42_3 hl, vv_42_4 hl, vv_42_5 hl, vv_42_6 hl, vv_42_9 hl, vv_42_10 hl, vv_42_11 hl, vv_42_12 hl, vv_42_14 hl, vv_42_15 hl, vv_42_18 hl, vv_42_20 hl, vv_42_21 hl, vv_42_22 hl, vv_42_23 hl, vv_42_26 hl, vv_42_28 hl, vv_42_29 hl, vv_42_30 hl, vv_42_31 hl, vv_42_34 hl, vv_42_36 hl, vv_42_38 hl, vv_42_39 hl, vv_42_40 hl, vv_42_43 hl, vv_42_45 hl, vv_42_47 hl, vv_42_48 hl, vv_42_49 hl, vv_42_52 hl, vv_42_53 hl, vv_42_54 hl, vv_42_55 hl, vv_42_56 hl, vv_42_57 hl, vv_42_58 hl, trivial⟩
set_option maxRecDepth 100000 in
theorem vv_43_0 {l : Launch} (hl : l.stackTraces = false) : cj_V1 l 43 0 (0, 1, 0, []) 1 := Or.inl ⟨by decide +kernel, ok_iconst dm_43_0 (by decide +kernel)⟩
set_option maxRecDepth 100000 in
theorem vv_43_1 {l : Launch} (hl : l.stackTraces = false) : cj_V1 l 43 1 (4, 1, 0, []) 2 := Or.inl ⟨by decide +kernel, ok_istore_n dm_43_1 rfl⟩
set_option maxRecDepth 100000 in
theorem vv_43_2 {l : Launch} (hl : l.stackTraces = false) : cj_V1 l 43 2 (0, 0, 0, []) 3 := Or.inl ⟨by decide +kernel, ok_iconst dm_43_2 (by decide +kernel)⟩
set_option maxRecDepth 100000 in
theorem vv_43_3 {l : Launch} (hl : l.stackTraces = false) : cj_V1 l 43 3 (4, 2, 0, []) 4 := Or.inl ⟨by decide +kernel, ok_istore_n dm_43_3 rfl⟩
set_option maxRecDepth 100000 in
theorem vv_43_4 {l : Launch} (hl : l.stackTraces = false) : cj_V1 l 43 4 (2, 2, 0, []) 5 := Or.inl ⟨by decide +kernel, ok_iload_n dm_43_4 rfl⟩
set_option maxRecDepth 100000 in
theorem vv_43_5 {l : Launch} (hl : l.stackTraces = false) : cj_V1 l 43 5 (0, 4, 0, []) 6 := Or.inl ⟨by decide +kernel, ok_iconst dm_43_5 (by decide +kernel)⟩
set_option maxRecDepth 100000 in
theorem vv_43_6 {l : Launch} (hl : l.stackTraces = false) : cj_V1 l 43 6 (40, 52, 0, []) 9 := Or.inl ⟨by decide +kernel, ok_icmp_ge dm_43_6 (by decide +kernel)⟩
set_option maxRecDepth 100000 in
theorem vv_43_9 {l : Launch} (hl : l.stackTraces = false) : cj_V1 l 43 9 (2, 0, 0, []) 10 := Or.inl ⟨by decide +kernel, ok_iload_n dm_43_9 rfl⟩
set_option maxRecDepth 100000 in
theorem vv_43_10 {l : Launch} (hl : l.stackTraces = false) : cj_V1 l 43 10 (0, 8, 0, []) 12 := Or.inl ⟨by decide +kernel, ok_bipush dm_43_10 (by decide +kernel)⟩
set_option maxRecDepth 100000 in
theorem vv_43_12 {l : Launch} (hl : l.stackTraces = false) : cj_V1 l 43 12 (2, 2, 0, []) 13 := Or.inl ⟨by decide +kernel, ok_iload_n dm_43_12 rfl⟩
set_option maxRecDepth 100000 in
theorem vv_43_13 {l : Launch} (hl : l.stackTraces = false) : cj_V1 l 43 13 (12, 0, 0, []) 14 := Or.inl ⟨by decide +kernel, ok_imul dm_43_13⟩
set_option maxRecDepth 100000 in
theorem vv_43_14 {l : Launch} (hl : l.stackTraces = false) : cj_V1 l 43 14 (18, 0, 0, []) 15 := Or.inl ⟨by decide +kernel, ok_iushr dm_43_14⟩
set_option maxRecDepth 100000 in
theorem vv_43_15 {l : Launch} (hl : l.stackTraces = false) : cj_V1 l 43 15 (0, 255, 0, []) 18 := Or.inl ⟨by decide +kernel, ok_sipush dm_43_15 (by decide +kernel)⟩
set_option maxRecDepth 100000 in
theorem vv_43_18 {l : Launch} (hl : l.stackTraces = false) : cj_V1 l 43 18 (19, 0, 0, []) 19 := Or.inl ⟨by decide +kernel, ok_iand dm_43_18⟩
set_option maxRecDepth 100000 in
theorem vv_43_19 {l : Launch} (hl : l.stackTraces = false) : cj_V1 l 43 19 (4, 3, 0, []) 20 := Or.inl ⟨by decide +kernel, ok_istore_n dm_43_19 rfl⟩
set_option maxRecDepth 100000 in
theorem vv_43_20 {l : Launch} (hl : l.stackTraces = false) : cj_V1 l 43 20 (2, 1, 0, []) 21 := Or.inl ⟨by decide +kernel, ok_iload_n dm_43_20 rfl⟩
set_option maxRecDepth 100000 in
theorem vv_43_21 {l : Launch} (hl : l.stackTraces = false) : cj_V1 l 43 21 (31, 44, 0, []) 24 := Or.inl ⟨by decide +kernel, ok_if_eq dm_43_21 (by decide +kernel)⟩
set_option maxRecDepth 100000 in
theorem vv_43_24 {l : Launch} (hl : l.stackTraces = false) : cj_V1 l 43 24 (2, 3, 0, []) 25 := Or.inl ⟨by decide +kernel, ok_iload_n dm_43_24 rfl⟩
set_option maxRecDepth 100000 in
theorem vv_43_25 {l : Launch} (hl : l.stackTraces = false) : cj_V1 l 43 25 (31, 40, 0, []) 28 := Or.inl ⟨by decide +kernel, ok_if_eq dm_43_25 (by decide +kernel)⟩
set_option maxRecDepth 100000 in
theorem vv_43_28 {l : Launch} (hl : l.stackTraces = false) : cj_V1 l 43 28 (2, 3, 0, []) 29 := Or.inl ⟨by decide +kernel, ok_iload_n dm_43_28 rfl⟩
set_option maxRecDepth 100000 in
theorem vv_43_29 {l : Launch} (hl : l.stackTraces = false) : cj_V1 l 43 29 (0, 32, 0, []) 31 := Or.inl ⟨by decide +kernel, ok_bipush dm_43_29 (by decide +kernel)⟩
set_option maxRecDepth 100000 in
theorem vv_43_31 {l : Launch} (hl : l.stackTraces = false) : cj_V1 l 43 31 (39, 44, 0, []) 34 := Or.inl ⟨by decide +kernel, ok_icmp_lt dm_43_31 (by decide +kernel)⟩
set_option maxRecDepth 100000 in
theorem vv_43_34 {l : Launch} (hl : l.stackTraces = false) : cj_V1 l 43 34 (2, 3, 0, []) 35 := Or.inl ⟨by decide +kernel, ok_iload_n dm_43_34 rfl⟩
set_option maxRecDepth 100000 in
theorem vv_43_35 {l : Launch} (hl : l.stackTraces = false) : cj_V1 l 43 35 (0, 126, 0, []) 37 := Or.inl ⟨by decide +kernel, ok_bipush dm_43_35 (by decide +kernel)⟩
set_option maxRecDepth 100000 in
theorem vv_43_37 {l : Launch} (hl : l.stackTraces = false) : cj_V1 l 43 37 (41, 44, 0, []) 40 := Or.inl ⟨by decide +kernel, ok_icmp_gt dm_43_37 (by decide +kernel)⟩
set_option maxRecDepth 100000 in
theorem vv_43_40 {l : Launch} (hl : l.stackTraces = false) : cj_V1 l 43 40 (0, 1, 0, []) 41 := Or.inl ⟨by decide +kernel, ok_iconst dm_43_40 (by decide +kernel)⟩
set_option maxRecDepth 100000 in
theorem vv_43_41 {l : Launch} (hl : l.stackTraces = false) : cj_V1 l 43 41 (30, 45, 0, []) 44 := Or.inl ⟨by decide +kernel, ok_goto dm_43_41 (by decide +kernel)⟩
set_option maxRecDepth 100000 in
theorem vv_43_44 {l : Launch} (hl : l.stackTraces = false) : cj_V1 l 43 44 (0, 0, 0, []) 45 := Or.inl ⟨by decide +kernel, ok_iconst dm_43_44 (by decide +kernel)⟩
set_option maxRecDepth 100000 in
theorem vv_43_45 {l : Launch} (hl : l.stackTraces = false) : cj_V1 l 43 45 (4, 1, 0, []) 46 := Or.inl ⟨by decide +kernel, ok_istore_n dm_43_45 rfl⟩
set_option maxRecDepth 100000 in
theorem vv_43_46 {l : Launch} (hl : l.stackTraces = false) : cj_V1 l 43 46 (6, 2, 1, []) 49 := Or.inl ⟨by decide +kernel, ok_iinc6 dm_43_46 (by decide +kernel)⟩
set_option maxRecDepth 100000 in
theorem vv_43_49 {l : Launch} (hl : l.stackTraces = false) : cj_V1 l 43 49 (30, 4, 0, []) 52 := Or.inl ⟨by decide +kernel, ok_goto dm_43_49 (by decide +kernel)⟩
set_option maxRecDepth 100000 in
theorem vv_43_52 {l : Launch} (hl : l.stackTraces = false) : cj_V1 l 43 52 (2, 1, 0, []) 53 := Or.inl ⟨by decide +kernel, ok_iload_n dm_43_52 rfl⟩
set_option maxRecDepth 100000 in
theorem vv_43_53 {l : Launch} (hl : l.stackTraces = false) : cj_V1 l 43 53 (93, 0, 0, []) 54 := Or.inr (Or.inl ⟨by decide +kernel, Or.inl (Or.inr (Or.inr (Or.inr ⟨rfl, dm_43_53, rfl⟩)))⟩)
set_option maxRecDepth 100000 in
theorem vm_43 {l : Launch} (hl : l.stackTraces = false) : cj_Vm l 43 := cj_Vm_of (r := kc43_) rfl ⟨vv_43_0 hl, vv_43_1 hl, vv_43_2 hl, vv_43_3 hl, vv_43_4 hl, vv_43_5 hl, vv_43_6 hl, vv_43_9 hl, vv_43_10 hl, vv_43_12 hl, vv_43_13 hl, vv_43_14 hl, vv_43_15 hl, vv_43_18 hl, vv_43_19 hl, vv_43_20 hl, vv_43_21 hl, vv_43_24 hl, vv_43_25 hl, vv_43_28 hl, vv_43_29 hl, vv_43_31 hl, vv_43_34 hl, vv_43_35 hl, vv_43_37 hl, vv_43_40 hl, vv_43_41 hl, vv_43_44 hl, vv_43_45 hl, vv_43_46 hl, vv_43_49 hl, vv_43_52 hl, vv_43_53 hl, trivial⟩
set_option maxRecDepth 100000 in
theorem vv_44_0 {l : Launch} (hl : l.stackTraces = false) : cj_V1 l 44 0 (2, 0, 0, []) 1 := Or.inl ⟨by decide +kernel, ok_iload_n dm_44_0 rfl⟩
set_option maxRecDepth 100000 in
theorem vv_44_1 {l : Launch} (hl : l.stackTraces = false) : cj_V1 l 44 1 (33, 13, 0, []) 4 := Or.inl ⟨by decide +kernel, ok_if_lt dm_44_1 (by decide +kernel)⟩
set_option maxRecDepth 100000 in
theorem vv_44_4 {l : Launch} (hl : l.stackTraces = false) : cj_V1 l 44 4 (2, 0, 0, []) 5 := Or.inl ⟨by decide +kernel, ok_iload_n dm_44_4 rfl⟩
set_option maxRecDepth 100000 in
theorem vv_44_5 {l : Launch} (hl : l.stackTraces = false) : cj_V1 l 44 5 (2, 1, 0, []) 6 := Or.inl ⟨by decide +kernel, ok_iload_n dm_44_5 rfl⟩
set_option maxRecDepth 100000 in
theorem vv_44_6 {l : Launch} (hl : l.stackTraces = false) : cj_V1 l 44 6 (40, 13, 0, []) 9 := Or.inl ⟨by decide +kernel, ok_icmp_ge dm_44_6 (by decide +kernel)⟩
set_option maxRecDepth 100000 in
theorem vv_44_9 {l : Launch} (hl : l.stackTraces = false) : cj_V1 l 44 9 (0, 1, 0, []) 10 := Or.inl ⟨by decide +kernel, ok_iconst dm_44_9 (by decide +kernel)⟩
set_option maxRecDepth 100000 in
theorem vv_44_10 {l : Launch} (hl : l.stackTraces = false) : cj_V1 l 44 10 (30, 14, 0, []) 13 := Or.inl ⟨by decide +kernel, ok_goto dm_44_10 (by decide +kernel)⟩
set_option maxRecDepth 100000 in
theorem vv_44_13 {l : Launch} (hl : l.stackTraces = false) : cj_V1 l 44 13 (0, 0, 0, []) 14 := Or.inl ⟨by decide +kernel, ok_iconst dm_44_13 (by decide +kernel)⟩
set_option maxRecDepth 100000 in
theorem vv_44_14 {l : Launch} (hl : l.stackTraces = false) : cj_V1 l 44 14 (93, 0, 0, []) 15 := Or.inr (Or.inl ⟨by decide +kernel, Or.inl (Or.inr (Or.inr (Or.inr ⟨rfl, dm_44_14, rfl⟩)))⟩)
set_option maxRecDepth 100000 in
theorem vm_44 {l : Launch} (hl : l.stackTraces = false) : cj_Vm l 44 := cj_Vm_of (r := kc44_) rfl ⟨vv_44_0 hl, vv_44_1 hl, vv_44_4 hl, vv_44_5 hl, vv_44_6 hl, vv_44_9 hl, vv_44_10 hl, vv_44_13 hl, vv_44_14 hl, trivial⟩
set_option maxRecDepth 100000 in
theorem vv_45_0 {l : Launch} (hl : l.stackTraces = false) : cj_V1 l 45 0 (2, 2, 0, []) 1 := Or.inl ⟨by decide +kernel, ok_iload_n dm_45_0 rfl⟩
set_option maxRecDepth 100000 in
theorem vv_45_1 {l : Launch} (hl : l.stackTraces = false) : cj_V1 l 45 1 (4, 3, 0, []) 2 := Or.inl ⟨by decide +kernel, ok_istore_n dm_45_1 rfl⟩
set_option maxRecDepth 100000 in
theorem vv_45_2 {l : Launch} (hl : l.stackTraces = false) : cj_V1 l 45 2 (3, 0, 0, []) 3 := Or.inl ⟨by decide +kernel, ok_aload_n dm_45_2 rfl⟩
set_option maxRecDepth 100000 in
theorem vv_45_3 {l : Launch} (hl : l.stackTraces = false) : cj_V1 l 45 3 (50, 7, 7, []) 6 := Or.inl ⟨by decide +kernel, ok_getfield (N := 39) (C := RK_7) (T := TK_7) dm_45_3 rfl inK_7 (by decide +kernel) wm_740⟩
set_option maxRecDepth 100000 in
theorem vv_45_6 {l : Launch} (hl : l.stackTraces = false) : cj_V1 l 45 6 (0, 32, 0, []) 8 := Or.inl ⟨by decide +kernel, ok_bipush dm_45_6 (by decide +kernel)⟩
set_option maxRecDepth 100000 in
theorem vv_45_8 {l : Launch} (hl : l.stackTraces = false) : cj_V1 l 45 8 (2, 1, 0, []) 9 := Or.inl ⟨by decide +kernel, ok_iload_n dm_45_8 rfl⟩
set_option maxRecDepth 100000 in
theorem vv_45_9 {l : Launch} (hl : l.stackTraces = false) : cj_V1 l 45 9 (12, 0, 0, []) 10 := Or.inl ⟨by decide +kernel, ok_imul dm_45_9⟩
set_option maxRecDepth 100000 in
theorem vv_45_10 {l : Launch} (hl : l.stackTraces = false) : cj_V1 l 45 10 (2, 3, 0, []) 11 := Or.inl ⟨by decide +kernel, ok_iload_n dm_45_10 rfl⟩
set_option maxRecDepth 100000 in
theorem vv_45_11 {l : Launch} (hl : l.stackTraces = false) : cj_V1 l 45 11 (10, 0, 0, []) 12 := Or.inl ⟨by decide +kernel, ok_iadd dm_45_11⟩
set_option maxRecDepth 100000 in
theorem vv_45_12 {l : Launch} (hl : l.stackTraces = false) : cj_V1 l 45 12 (54, 0, 0, []) 13 := Or.inl ⟨by decide +kernel, ok_iaload dm_45_12 rfl⟩
set_option maxRecDepth 100000 in
theorem vv_45_13 {l : Launch} (hl : l.stackTraces = false) : cj_V1 l 45 13 (0, 93, 0, []) 15 := Or.inl ⟨by decide +kernel, ok_bipush dm_45_13 (by decide +kernel)⟩
set_option maxRecDepth 100000 in
theorem vv_45_15 {l : Launch} (hl : l.stackTraces = false) : cj_V1 l 45 15 (37, 24, 0, []) 18 := Or.inl ⟨by decide +kernel, ok_icmp_eq dm_45_15 (by decide +kernel)⟩
set_option maxRecDepth 100000 in
theorem vv_45_18 {l : Launch} (hl : l.stackTraces = false) : cj_V1 l 45 18 (6, 3, 1, []) 21 := Or.inl ⟨by decide +kernel, ok_iinc6 dm_45_18 (by decide +kernel)⟩
set_option maxRecDepth 100000 in
theorem vv_45_21 {l : Launch} (hl : l.stackTraces = false) : cj_V1 l 45 21 (30, 2, 0, []) 24 := Or.inl ⟨by decide +kernel, ok_goto dm_45_21 (by decide +kernel)⟩
set_option maxRecDepth 100000 in
theorem vv_45_24 {l : Launch} (hl : l.stackTraces = false) : cj_V1 l 45 24 (2, 3, 0, []) 25 := Or.inl ⟨by decide +kernel, ok_iload_n dm_45_24 rfl⟩
set_option maxRecDepth 100000 in
theorem vv_45_25 {l : Launch} (hl : l.stackTraces = false) : cj_V1 l 45 25 (90, 0, 0, []) 26 := Or.inr (Or.inl ⟨by decide +kernel, Or.inl (Or.inl ⟨rfl, dm_45_25, rfl⟩)⟩)
set_option maxRecDepth 100000 in
theorem vm_45 {l : Launch} (hl : l.stackTraces = false) : cj_Vm l 45 := cj_Vm_of (r := kc45_) rfl ⟨vv_45_0 hl, vv_45_1 hl, vv_45_2 hl, vv_45_3 hl, vv_45_6 hl, vv_45_8 hl, vv_45_9 hl, vv_45_10 hl, vv_45_11 hl, vv_45_12 hl, vv_45_13 hl, vv_45_15 hl, vv_45_18 hl, vv_45_21 hl, vv_45_24 hl, vv_45_25 hl, trivial⟩
set_option maxRecDepth 100000 in
theorem vv_46_0 {l : Launch} (hl : l.stackTraces = false) : cj_V1 l 46 0 (3, 0, 0, []) 1 := Or.inl ⟨by decide +kernel, ok_aload_n dm_46_0 rfl⟩
set_option maxRecDepth 100000 in
theorem vv_46_1 {l : Launch} (hl : l.stackTraces = false) : cj_V1 l 46 1 (2, 1, 0, []) 2 := Or.inl ⟨by decide +kernel, ok_iload_n dm_46_1 rfl⟩
set_option maxRecDepth 100000 in
theorem vv_46_2 {l : Launch} (hl : l.stackTraces = false) : cj_V1 l 46 2 (32, 9, 0, []) 5 := Or.inl ⟨by decide +kernel, ok_if_ne dm_46_2 (by decide +kernel)⟩
set_option maxRecDepth 100000 in
theorem vv_46_5 {l : Launch} (hl : l.stackTraces = false) : cj_V1 l 46 5 (0, 1, 0, []) 6 := Or.inl ⟨by decide +kernel, ok_iconst dm_46_5 (by decide +kernel)⟩
set_option maxRecDepth 100000 in
theorem vv_46_6 {l : Launch} (hl : l.stackTraces = false) : cj_V1 l 46 6 (30, 18, 0, []) 9 := Or.inl ⟨by decide +kernel, ok_goto dm_46_6 (by decide +kernel)⟩
set_option maxRecDepth 100000 in
theorem vv_46_9 {l : Launch} (hl : l.stackTraces = false) : cj_V1 l 46 9 (2, 2, 0, []) 10 := Or.inl ⟨by decide +kernel, ok_iload_n dm_46_9 rfl⟩
set_option maxRecDepth 100000 in
theorem vv_46_10 {l : Launch} (hl : l.stackTraces = false) : cj_V1 l 46 10 (32, 17, 0, []) 13 := Or.inl ⟨by decide +kernel, ok_if_ne dm_46_10 (by decide +kernel)⟩
set_option maxRecDepth 100000 in
theorem vv_46_13 {l : Launch} (hl : l.stackTraces = false) : cj_V1 l 46 13 (0, 2, 0, []) 14 := Or.inl ⟨by decide +kernel, ok_iconst dm_46_13 (by decide +kernel)⟩
set_option maxRecDepth 100000 in
theorem vv_46_14 {l : Launch} (hl : l.stackTraces = false) : cj_V1 l 46 14 (30, 18, 0, []) 17 := Or.inl ⟨by decide +kernel, ok_goto dm_46_14 (by decide +kernel)⟩
set_option maxRecDepth 100000 in
theorem vv_46_17 {l : Launch} (hl : l.stackTraces = false) : cj_V1 l 46 17 (0, 0, 0, []) 18 := Or.inl ⟨by decide +kernel, ok_iconst dm_46_17 (by decide +kernel)⟩
set_option maxRecDepth 100000 in
theorem vv_46_18 {l : Launch} (hl : l.stackTraces = false) : cj_V1 l 46 18 (51, 7, 2, [0]) 21 := Or.inl ⟨by decide +kernel, ok_putfield (N := 39) (C := RK_7) (T := TK_7) (ty0 := tyK_7) dm_46_18 rfl inK_7 (by decide +kernel) wm_735 tyK_7_ok nmK_7 (Or.inl rfl) (Or.inl ⟨rfl, rfl⟩)⟩
set_option maxRecDepth 100000 in
theorem vv_46_21 {l : Launch} (hl : l.stackTraces = false) : cj_V1 l 46 21 (3, 0, 0, []) 22 := Or.inl ⟨by decide +kernel, ok_aload_n dm_46_21 rfl⟩
set_option maxRecDepth 100000 in
theorem vv_46_22 {l : Launch} (hl : l.stackTraces = false) : cj_V1 l 46 22 (50, 7, 2, []) 25 := Or.inl ⟨by decide +kernel, ok_getfield (N := 39) (C := RK_7) (T := TK_7) dm_46_22 rfl inK_7 (by decide +kernel) wm_735⟩
set_option maxRecDepth 100000 in
theorem vv_46_25 {l : Launch} (hl : l.stackTraces = false) : cj_V1 l 46 25 (32, 32, 0, []) 28 := Or.inl ⟨by decide +kernel, ok_if_ne dm_46_25 (by decide +kernel)⟩
set_option maxRecDepth 100000 in
theorem vv_46_28 {l : Launch} (hl : l.stackTraces = false) : cj_V1 l 46 28 (0, 1, 0, []) 29 := Or.inl ⟨by decide +kernel, ok_iconst dm_46_28 (by decide +kernel)⟩
set_option maxRecDepth 100000 in
theorem vv_46_29 {l : Launch} (hl : l.stackTraces = false) : cj_V1 l 46 29 (30, 33, 0, []) 32 := Or.inl ⟨by decide +kernel, ok_goto dm_46_29 (by decide +kernel)⟩
set_option maxRecDepth 100000 in
theorem vv_46_32 {l : Launch} (hl : l.stackTraces = false) : cj_V1 l 46 32 (0, 0, 0, []) 33 := Or.inl ⟨by decide +kernel, ok_iconst dm_46_32 (by decide +kernel)⟩
set_option maxRecDepth 100000 in
theorem vv_46_33 {l : Launch} (hl : l.stackTraces = false) : cj_V1 l 46 33 (93, 0, 0, []) 34 := Or.inr (Or.inl ⟨by decide +kernel, Or.inl (Or.inr (Or.inr (Or.inr ⟨rfl, dm_46_33, rfl⟩)))⟩)
set_option maxRecDepth 100000 in
theorem vm_46 {l : Launch} (hl : l.stackTraces = false) : cj_Vm l 46 := cj_Vm_of (r := kc46_) rfl ⟨vv_46_0 hl, vv_46_1 hl, vv_46_2 hl, vv_46_5 hl, vv_46_6 hl, vv_46_9 hl, vv_46_10 hl, vv_46_13 hl, vv_46_14 hl, vv_46_17 hl, vv_46_18 hl, vv_46_21 hl, vv_46_22 hl, vv_46_25 hl, vv_46_28 hl, vv_46_29 hl, vv_46_32 hl, vv_46_33 hl, trivial⟩
set_option maxRecDepth 100000 in
theorem vv_47_0 {l : Launch} (hl : l.stackTraces = false) : cj_V1 l 47 0 (0, 0, 0, []) 1 := Or.inl ⟨by decide +kernel, ok_iconst dm_47_0 (by decide +kernel)⟩
set_option maxRecDepth 100000 in
theorem vv_47_1 {l : Launch} (hl : l.stackTraces = false) : cj_V1 l 47 1 (4, 5, 0, []) 3 := Or.inl ⟨by decide +kernel, ok_istore dm_47_1⟩
set_option maxRecDepth 100000 in
theorem vv_47_3 {l : Launch} (hl : l.stackTraces = false) : cj_V1 l 47 3 (2, 3, 0, []) 4 := Or.inl ⟨by decide +kernel, ok_iload_n dm_47_3 rfl⟩
set_option maxRecDepth 100000 in
theorem vv_47_4 {l : Launch} (hl : l.stackTraces = false) : cj_V1 l 47 4 (4, 6, 0, []) 6 := Or.inl ⟨by decide +kernel, ok_istore dm_47_4⟩
set_option maxRecDepth 100000 in
theorem vv_47_6 {l : Launch} (hl : l.stackTraces = false) : cj_V1 l 47 6 (2, 6, 0, []) 8 := Or.inl ⟨by decide +kernel, ok_iload dm_47_6⟩
set_option maxRecDepth 100000 in
theorem vv_47_8 {l : Launch} (hl : l.stackTraces = false) : cj_V1 l 47 8 (2, 4, 0, []) 10 := Or.inl ⟨by decide +kernel, ok_iload dm_47_8⟩
set_option maxRecDepth 100000 in
theorem vv_47_10 {l : Launch} (hl : l.stackTraces = false) : cj_V1 l 47 10 (40, 77, 0, []) 13 := Or.inl ⟨by decide +kernel, ok_icmp_ge dm_47_10 (by decide +kernel)⟩
set_option maxRecDepth 100000 in
theorem vv_47_13 {l : Launch} (hl : l.stackTraces = false) : cj_V1 l 47 13 (2, 5, 0, []) 15 := Or.inl ⟨by decide +kernel, ok_iload dm_47_13⟩
set_option maxRecDepth 100000 in
theorem vv_47_15 {l : Launch} (hl : l.stackTraces = false) : cj_V1 l 47 15 (32, 64, 0, []) 18 := Or.inl ⟨by decide +kernel, ok_if_ne dm_47_15 (by decide +kernel)⟩
set_option maxRecDepth 100000 in
theorem vv_47_18 {l : Launch} (hl : l.stackTraces = false) : cj_V1 l 47 18 (3, 0, 0, []) 19 := Or.inl ⟨by decide +kernel, ok_aload_n dm_47_18 rfl⟩
set_option maxRecDepth 100000 in
theorem vv_47_19 {l : Launch} (hl : l.stackTraces = false) : cj_V1 l 47 19 (50, 7, 7, []) 22 := Or.inl ⟨by decide +kernel, ok_getfield (N := 39) (C := RK_7) (T := TK_7) dm_47_19 rfl inK_7 (by decide +kernel) wm_740⟩
set_option maxRecDepth 100000 in
theorem vv_47_22 {l : Launch} (hl : l.stackTraces = false) : cj_V1 l 47 22 (0, 32, 0, []) 24 := Or.inl ⟨by decide +kernel, ok_bipush dm_47_22 (by decide +kernel)⟩
set_option maxRecDepth 100000 in
theorem vv_47_24 {l : Launch} (hl : l.stackTraces = false) : cj_V1 l 47 24 (2, 2, 0, []) 25 := Or.inl ⟨by decide +kernel, ok_iload_n dm_47_24 rfl⟩
set_option maxRecDepth 100000 in
theorem vv_47_25 {l : Launch} (hl : l.stackTraces = false) : cj_V1 l 47 25 (12, 0, 0, []) 26 := Or.inl ⟨by decide +kernel, ok_imul dm_47_25⟩
set_option maxRecDepth 100000 in
theorem vv_47_26 {l : Launch} (hl : l.stackTraces = false) : cj_V1 l 47 26 (2, 6, 0, []) 28 := Or.inl ⟨by decide +kernel, ok_iload dm_47_26⟩
set_option maxRecDepth 100000 in
theorem vv_47_28 {l : Launch} (hl : l.stackTraces = false) : cj_V1 l 47 28 (10, 0, 0, []) 29 := Or.inl ⟨by decide +kernel, ok_iadd dm_47_28⟩
set_option maxRecDepth 100000 in
theorem vv_47_29 {l : Launch} (hl : l.stackTraces = false) : cj_V1 l 47 29 (54, 0, 0, []) 30 := Or.inl ⟨by decide +kernel, ok_iaload dm_47_29 rfl⟩
set_option maxRecDepth 100000 in
theorem vv_47_30 {l : Launch} (hl : l.stackTraces = false) : cj_V1 l 47 30 (0, 35, 0, []) 32 := Or.inl ⟨by decide +kernel, ok_bipush dm_47_30 (by decide +kernel)⟩
set_option maxRecDepth 100000 in
theorem vv_47_32 {l : Launch} (hl : l.stackTraces = false) : cj_V1 l 47 32 (38, 68, 0, []) 35 := Or.inl ⟨by decide +kernel, ok_icmp_ne dm_47_32 (by decide +kernel)⟩
set_option maxRecDepth 100000 in
theorem vv_47_35 {l : Launch} (hl : l.stackTraces = false) : cj_V1 l 47 35 (3, 0, 0, []) 36 := Or.inl ⟨by decide +kernel, ok_aload_n dm_47_35 rfl⟩
set_option maxRecDepth 100000 in
theorem vv_47_36 {l : Launch} (hl : l.stackTraces = false) : cj_V1 l 47 36 (50, 7, 10, []) 39 := Or.inl ⟨by decide +kernel, ok_getfield (N := 39) (C := RK_7) (T := TK_7) dm_47_36 rfl inK_7 (by decide +kernel) wm_743⟩
set_option maxRecDepth 100000 in
theorem vv_47_39 {l : Launch} (hl : l.stackTraces = false) : cj_V1 l 47 39 (0, 4, 0, []) 40 := Or.inl ⟨by decide +kernel, ok_iconst dm_47_39 (by decide +kernel)⟩
set_option maxRecDepth 100000 in
theorem vv_47_40 {l : Launch} (hl : l.stackTraces = false) : cj_V1 l 47 40 (2, 1, 0, []) 41 := Or.inl ⟨by decide +kernel, ok_iload_n dm_47_40 rfl⟩
set_option maxRecDepth 100000 in
theorem vv_47_41 {l : Launch} (hl : l.stackTraces = false) : cj_V1 l 47 41 (12, 0, 0, []) 42 := Or.inl ⟨by decide +kernel, ok_imul dm_47_41⟩
set_option maxRecDepth 100000 in
theorem vv_47_42 {l : Launch} (hl : l.stackTraces = false) : cj_V1 l 47 42 (3, 0, 0, []) 43 := Or.inl ⟨by decide +kernel, ok_aload_n dm_47_42 rfl⟩
set_option maxRecDepth 100000 in
theorem vv_47_43 {l : Launch} (hl : l.stackTraces = false) : cj_V1 l 47 43 (50, 7, 7, []) 46 := Or.inl ⟨by decide +kernel, ok_getfield (N := 39) (C := RK_7) (T := TK_7) dm_47_43 rfl inK_7 (by decide +kernel) wm_740⟩
set_option maxRecDepth 100000 in
theorem vv_47_46 {l : Launch} (hl : l.stackTraces = false) : cj_V1 l 47 46 (0, 32, 0, []) 48 := Or.inl ⟨by decide +kernel, ok_bipush dm_47_46 (by decide +kernel)⟩
set_option maxRecDepth 100000 in
theorem vv_47_48 {l : Launch} (hl : l.stackTraces = false) : cj_V1 l 47 48 (2, 2, 0, []) 49 := Or.inl ⟨by decide +kernel, ok_iload_n dm_47_48 rfl⟩
set_option maxRecDepth 100000 in
theorem vv_47_49 {l : Launch} (hl : l.stackTraces = false) : cj_V1 l 47 49 (12, 0, 0, []) 50 := Or.inl ⟨by decide +kernel, ok_imul dm_47_49⟩
set_option maxRecDepth 100000 in
theorem vv_47_50 {l : Launch} (hl : l.stackTraces = false) : cj_V1 l 47 50 (2, 6, 0, []) 52 := Or.inl ⟨by decide +kernel, ok_iload dm_47_50⟩
set_option maxRecDepth 100000 in
theorem vv_47_52 {l : Launch} (hl : l.stackTraces = false) : cj_V1 l 47 52 (10, 0, 0, []) 53 := Or.inl ⟨by decide +kernel, ok_iadd dm_47_52⟩
set_option maxRecDepth 100000 in
theorem vv_47_53 {l : Launch} (hl : l.stackTraces = false) : cj_V1 l 47 53 (0, 1, 0, []) 54 := Or.inl ⟨by decide +kernel, ok_iconst dm_47_53 (by decide +kernel)⟩
set_option maxRecDepth 100000 in
theorem vv_47_54 {l : Launch} (hl : l.stackTraces = false) : cj_V1 l 47 54 (10, 0, 0, []) 55 := Or.inl ⟨by decide +kernel, ok_iadd dm_47_54⟩
set_option maxRecDepth 100000 in
theorem vv_47_55 {l : Launch} (hl : l.stackTraces = false) : cj_V1 l 47 55 (54, 0, 0, []) 56 := Or.inl ⟨by decide +kernel, ok_iaload dm_47_55 rfl⟩
set_option maxRecDepth 100000 in
theorem vv_47_56 {l : Launch} (hl : l.stackTraces = false) : cj_V1 l 47 56 (10, 0, 0, []) 57 := Or.inl ⟨by decide +kernel, ok_iadd dm_47_56⟩
set_option maxRecDepth 100000 in
theorem vv_47_57 {l : Launch} (hl : l.stackTraces = false) : cj_V1 l 47 57 (0, 48, 0, []) 59 := Or.inl ⟨by decide +kernel, ok_bipush dm_47_57 (by decide +kernel)⟩
set_option maxRecDepth 100000 in
theorem vv_47_59 {l : Launch} (hl : l.stackTraces = false) : cj_V1 l 47 59 (11, 0, 0, []) 60 := Or.inl ⟨by decide +kernel, ok_isub dm_47_59⟩
set_option maxRecDepth 100000 in
theorem vv_47_60 {l : Launch} (hl : l.stackTraces = false) : cj_V1 l 47 60 (54, 0, 0, []) 61 := Or.inl ⟨by decide +kernel, ok_iaload dm_47_60 rfl⟩
set_option maxRecDepth 100000 in
theorem vv_47_61 {l : Launch} (hl : l.stackTraces = false) : cj_V1 l 47 61 (32, 68, 0, []) 64 := Or.inl ⟨by decide +kernel, ok_if_ne dm_47_61 (by decide +kernel)⟩
set_option maxRecDepth 100000 in
theorem vv_47_64 {l : Launch} (hl : l.stackTraces = false) : cj_V1 l 47 64 (0, 1, 0, []) 65 := Or.inl ⟨by decide +kernel, ok_iconst dm_47_64 (by decide +kernel)⟩
set_option maxRecDepth 100000 in
theorem vv_47_65 {l : Launch} (hl : l.stackTraces = false) : cj_V1 l 47 65 (30, 69, 0, []) 68 := Or.inl ⟨by decide +kernel, ok_goto dm_47_65 (by decide +kernel)⟩
set_option maxRecDepth 100000 in
theorem vv_47_68 {l : Launch} (hl : l.stackTraces = false) : cj_V1 l 47 68 (0, 0, 0, []) 69 := Or.inl ⟨by decide +kernel, ok_iconst dm_47_68 (by decide +kernel)⟩
set_option maxRecDepth 100000 in
theorem vv_47_69 {l : Launch} (hl : l.stackTraces = false) : cj_V1 l 47 69 (4, 5, 0, []) 71 := Or.inl ⟨by decide +kernel, ok_istore dm_47_69⟩
set_option maxRecDepth 100000 in
theorem vv_47_71 {l : Launch} (hl : l.stackTraces = false) : cj_V1 l 47 71 (6, 6, 1, []) 74 := Or.inl ⟨by decide +kernel, ok_iinc6 dm_47_71 (by decide +kernel)⟩
set_option maxRecDepth 100000 in
theorem vv_47_74 {l : Launch} (hl : l.stackTraces = false) : cj_V1 l 47 74 (30, 6, 0, []) 77 := Or.inl ⟨by decide +kernel, ok_goto dm_47_74 (by decide +kernel)⟩
set_option maxRecDepth 100000 in
theorem vv_47_77 {l : Launch} (hl : l.stackTraces = false) : cj_V1 l 47 77 (2, 5, 0, []) 79 := Or.inl ⟨by decide +kernel, ok_iload dm_47_77⟩
set_option maxRecDepth 100000 in
theorem vv_47_79 {l : Launch} (hl : l.stackTraces = false) : cj_V1 l 47 79 (93, 0, 0, []) 80 := Or.inr (Or.inl ⟨by decide +kernel, Or.inl (Or.inr (Or.inr (Or.inr ⟨rfl, dm_47_79, rfl⟩)))⟩)
set_option maxRecDepth 100000 in
theorem vm_47 {l : Launch} (hl : l.stackTraces = false) : cj_Vm l 47 := cj_Vm_of (r := kc47_) rfl ⟨vv_47_0 hl, vv_47_1 hl, vv_47_3 hl, vv_47_4 hl, vv_47_6 hl, vv_47_8 hl, vv_47_10 hl, vv_47_13 hl, vv_47_15 hl, vv_47_18 hl, vv_47_19 hl, vv_47_22 hl, vv_47_24 hl, vv_47_25 hl, vv_47_26 hl, vv_47_28 hl, vv_47_29 hl, vv_47_30 hl, vv_47_32 hl, vv_47_35 hl, vv_47_36 hl, vv_47_39 hl, vv_47_40 hl, vv_47_41 hl, vv_47_42 hl, vv_47_43 hl, vv_47_46 hl, vv_47_48 hl, vv_47_49 hl, vv_47_50 hl, vv_47_52 hl, vv_47_53 hl, vv_47_54 hl, vv_47_55 hl, vv_47_56 hl, vv_47_57 hl, vv_47_59 hl, vv_47_60 hl, vv_47_61 hl, vv_47_64 hl, vv_47_65 hl, vv_47_68 hl, vv_47_69 hl, vv_47_71 hl, vv_47_74 hl, vv_47_77 hl, vv_47_79 hl, trivial⟩
set_option maxRecDepth 100000 in
theorem vv_48_0 {l : Launch} (hl : l.stackTraces = false) : cj_V1 l 48 0 (3, 0, 0, []) 1 := Or.inl ⟨by decide +kernel, ok_aload_n dm_48_0 rfl⟩
set_option maxRecDepth 100000 in
theorem vv_48_1 {l : Launch} (hl : l.stackTraces = false) : cj_V1 l 48 1 (50, 7, 34, []) 4 := Or.inl ⟨by decide +kernel, ok_getfield (N := 39) (C := RK_7) (T := TK_7) dm_48_1 rfl inK_7 (by decide +kernel) wm_767⟩
set_option maxRecDepth 100000 in
theorem vv_48_4 {l : Launch} (hl : l.stackTraces = false) : cj_V1 l 48 4 (2, 1, 0, []) 5 := Or.inl ⟨by decide +kernel, ok_iload_n dm_48_4 rfl⟩
set_option maxRecDepth 100000 in
theorem vv_48_5 {l : Launch} (hl : l.stackTraces = false) : cj_V1 l 48 5 (54, 0, 0, []) 6 := Or.inl ⟨by decide +kernel, ok_iaload dm_48_5 rfl⟩
set_option maxRecDepth 100000 in
theorem vv_48_6 {l : Launch} (hl : l.stackTraces = false) : cj_V1 l 48 6 (3, 0, 0, []) 7 := Or.inl ⟨by decide +kernel, ok_aload_n dm_48_6 rfl⟩
set_option maxRecDepth 100000 in
theorem vv_48_7 {l : Launch} (hl : l.stackTraces = false) : cj_V1 l 48 7 (50, 7, 36, []) 10 := Or.inl ⟨by decide +kernel, ok_getfield (N := 39) (C := RK_7) (T := TK_7) dm_48_7 rfl inK_7 (by decide +kernel) wm_769⟩
set_option maxRecDepth 100000 in
theorem vv_48_10 {l : Launch} (hl : l.stackTraces = false) : cj_V1 l 48 10 (2, 1, 0, []) 11 := Or.inl ⟨by decide +kernel, ok_iload_n dm_48_10 rfl⟩
set_option maxRecDepth 100000 in
theorem vv_48_11 {l : Launch} (hl : l.stackTraces = false) : cj_V1 l 48 11 (54, 0, 0, []) 12 := Or.inl ⟨by decide +kernel, ok_iaload dm_48_11 rfl⟩
set_option maxRecDepth 100000 in
theorem vv_48_12 {l : Launch} (hl : l.stackTraces = false) : cj_V1 l 48 12 (10, 0, 0, []) 13 := Or.inl ⟨by decide +kernel, ok_iadd dm_48_12⟩
set_option maxRecDepth 100000 in
theorem vv_48_13 {l : Launch} (hl : l.stackTraces = false) : cj_V1 l 48 13 (90, 0, 0, []) 14 := Or.inr (Or.inl ⟨by decide +kernel, Or.inl (Or.inl ⟨rfl, dm_48_13, rfl⟩)⟩)
set_option maxRecDepth 100000 in
theorem vm_48 {l : Launch} (hl : l.stackTraces = false) : cj_Vm l 48 := cj_Vm_of (r := kc48_) rfl ⟨vv_48_0 hl, vv_48_1 hl, vv_48_4 hl, vv_48_5 hl, vv_48_6 hl, vv_48_7 hl, vv_48_10 hl, vv_48_11 hl, vv_48_12 hl, vv_48_13 hl, trivial⟩
set_option maxRecDepth 100000 in
theorem vv_49_0 {l : Launch} (hl : l.stackTraces = false) : cj_V1 l 49 0 (2, 0, 0, []) 1 := Or.inl ⟨by decide +kernel, ok_iload_n dm_49_0 rfl⟩
set_option maxRecDepth 100000 in
theorem vv_49_1 {l : Launch} (hl : l.stackTraces = false) : cj_V1 l 49 1 (0, 97, 0, []) 3 := Or.inl ⟨by decide +kernel, ok_bipush dm_49_1 (by decide +kernel)⟩
set_option maxRecDepth 100000 in
theorem vv_49_3 {l : Launch} (hl : l.stackTraces = false) : cj_V1 l 49 3 (39, 16, 0, []) 6 := Or.inl ⟨by decide +kernel, ok_icmp_lt dm_49_3 (by decide +kernel)⟩
set_option maxRecDepth 100000 in
theorem vv_49_6 {l : Launch} (hl : l.stackTraces = false) : cj_V1 l 49 6 (2, 0, 0, []) 7 := Or.inl ⟨by decide +kernel, ok_iload_n dm_49_6 rfl⟩
set_option maxRecDepth 100000 in
theorem vv_49_7 {l : Launch} (hl : l.stackTraces = false) : cj_V1 l 49 7 (0, 122, 0, []) 9 := Or.inl ⟨by decide +kernel, ok_bipush dm_49_7 (by decide +kernel)⟩
set_option maxRecDepth 100000 in
theorem vv_49_9 {l : Launch} (hl : l.stackTraces = false) : cj_V1 l 49 9 (41, 16, 0, []) 12 := Or.inl ⟨by decide +kernel, ok_icmp_gt dm_49_9 (by decide +kernel)⟩
set_option maxRecDepth 100000 in
theorem vv_49_12 {l : Launch} (hl : l.stackTraces = false) : cj_V1 l 49 12 (0, 1, 0, []) 13 := Or.inl ⟨by decide +kernel, ok_iconst dm_49_12 (by decide +kernel)⟩
set_option maxRecDepth 100000 in
theorem vv_49_13 {l : Launch} (hl : l.stackTraces = false) : cj_V1 l 49 13 (30, 17, 0, []) 16 := Or.inl ⟨by decide +kernel, ok_goto dm_49_13 (by decide +kernel)⟩
set_option maxRecDepth 100000 in
theorem vv_49_16 {l : Launch} (hl : l.stackTraces = false) : cj_V1 l 49 16 (0, 0, 0, []) 17 := Or.inl ⟨by decide +kernel, ok_iconst dm_49_16 (by decide +kernel)⟩
set_option maxRecDepth 100000 in
theorem vv_49_17 {l : Launch} (hl : l.stackTraces = false) : cj_V1 l 49 17 (93, 0, 0, []) 18 := Or.inr (Or.inl ⟨by decide +kernel, Or.inl (Or.inr (Or.inr (Or.inr ⟨rfl, dm_49_17, rfl⟩)))⟩)
set_option maxRecDepth 100000 in
theorem vm_49 {l : Launch} (hl : l.stackTraces = false) : cj_Vm l 49 := cj_Vm_of (r := kc49_) rfl ⟨vv_49_0 hl, vv_49_1 hl, vv_49_3 hl, vv_49_6 hl, vv_49_7 hl, vv_49_9 hl, vv_49_12 hl, vv_49_13 hl, vv_49_16 hl, vv_49_17 hl, trivial⟩
set_option maxRecDepth 100000 in
theorem vv_50_0 {l : Launch} (hl : l.stackTraces = false) : cj_V1 l 50 0 (3, 0, 0, []) 1 := Or.inl ⟨by decide +kernel, ok_aload_n dm_50_0 rfl⟩
set_option maxRecDepth 100000 in
theorem vv_50_1 {l : Launch} (hl : l.stackTraces = false) : cj_V1 l 50 1 (50, 7, 17, []) 4 := Or.inl ⟨by decide +kernel, ok_getfield (N := 39) (C := RK_7) (T := TK_7) dm_50_1 rfl inK_7 (by decide +kernel) wm_750⟩
set_option maxRecDepth 100000 in
theorem vv_50_4 {l : Launch} (hl : l.stackTraces = false) : cj_V1 l 50 4 (3, 0, 0, []) 5 := Or.inl ⟨by decide +kernel, ok_aload_n dm_50_4 rfl⟩
set_option maxRecDepth 100000 in
theorem vv_50_5 {l : Launch} (hl : l.stackTraces = false) : cj_V1 l 50 5 (50, 7, 16, []) 8 := Or.inl ⟨by decide +kernel, ok_getfield (N := 39) (C := RK_7) (T := TK_7) dm_50_5 rfl inK_7 (by decide +kernel) wm_749⟩
set_option maxRecDepth 100000 in
theorem vv_50_8 {l : Launch} (hl : l.stackTraces = false) : cj_V1 l 50 8 (2, 1, 0, []) 9 := Or.inl ⟨by decide +kernel, ok_iload_n dm_50_8 rfl⟩
set_option maxRecDepth 100000 in
theorem vv_50_9 {l : Launch} (hl : l.stackTraces = false) : cj_V1 l 50 9 (56, 0, 0, []) 10 := Or.inl ⟨by decide +kernel, ok_iastore dm_50_9 rfl⟩
set_option maxRecDepth 100000 in
theorem vv_50_10 {l : Launch} (hl : l.stackTraces = false) : cj_V1 l 50 10 (3, 0, 0, []) 11 := Or.inl ⟨by decide +kernel, ok_aload_n dm_50_10 rfl⟩
set_option maxRecDepth 100000 in
theorem vv_50_11 {l : Launch} (hl : l.stackTraces = false) : cj_V1 l 50 11 (25, 0, 0, []) 12 := Or.inl ⟨by decide +kernel, ok_dup dm_50_11⟩
set_option maxRecDepth 100000 in
theorem vv_50_12 {l : Launch} (hl : l.stackTraces = false) : cj_V1 l 50 12 (50, 7, 16, []) 15 := Or.inl ⟨by decide +kernel, ok_getfield (N := 39) (C := RK_7) (T := TK_7) dm_50_12 rfl inK_7 (by decide +kernel) wm_749⟩
set_option maxRecDepth 100000 in
theorem vv_50_15 {l : Launch} (hl : l.stackTraces = false) : cj_V1 l 50 15 (0, 1, 0, []) 16 := Or.inl ⟨by decide +kernel, ok_iconst dm_50_15 (by decide +kernel)⟩
set_option maxRecDepth 100000 in
theorem vv_50_16 {l : Launch} (hl : l.stackTraces = false) : cj_V1 l 50 16 (10, 0, 0, []) 17 := Or.inl ⟨by decide +kernel, ok_iadd dm_50_16⟩
set_option maxRecDepth 100000 in
theorem vv_50_17 {l : Launch} (hl : l.stackTraces = false) : cj_V1 l 50 17 (51, 7, 16, [0]) 20 := Or.inl ⟨by decide +kernel, ok_putfield (N := 39) (C := RK_7) (T := TK_7) (ty0 := tyK_7) dm_50_17 rfl inK_7 (by decide +kernel) wm_749 tyK_7_ok nmK_7 (Or.inl rfl) (Or.inl ⟨rfl, rfl⟩)⟩
set_option maxRecDepth 100000 in
theorem vv_50_20 {l : Launch} (hl : l.stackTraces = false) : cj_V1 l 50 20 (91, 0, 0, []) 21 := Or.inr (Or.inl ⟨by decide +kernel, Or.inl (Or.inr (Or.inl ⟨rfl, dm_50_20, rfl⟩))⟩)
set_option maxRecDepth 100000 in
theorem vm_50 {l : Launch} (hl : l.stackTraces = false) : cj_Vm l 50 := cj_Vm_of (r := kc50_) rfl ⟨vv_50_0 hl, vv_50_1 hl, vv_50_4 hl, vv_50_5 hl, vv_50_8 hl, vv_50_9 hl, vv_50_10 hl, vv_50_11 hl, vv_50_12 hl, vv_50_15 hl, vv_50_16 hl, vv_50_17 hl, vv_50_20 hl, trivial⟩
set_option maxRecDepth 100000 in
theorem vv_51_0 {l : Launch} (hl : l.stackTraces = false) : cj_V1 l 51 0 (2, 1, 0, []) 1 := Or.inl ⟨by decide +kernel, ok_iload_n dm_51_0 rfl⟩
set_option maxRecDepth 100000 in
theorem vv_51_1 {l : Launch} (hl : l.stackTraces = false) : cj_V1 l 51 1 (0, 32, 0, []) 3 := Or.inl ⟨by decide +kernel, ok_bipush dm_51_1 (by decide +kernel)⟩
set_option maxRecDepth 100000 in
theorem vv_51_3 {l : Launch} (hl : l.stackTraces = false) : cj_V1 l 51 3 (38, 10, 0, []) 6 := Or.inl ⟨by decide +kernel, ok_icmp_ne dm_51_3 (by decide +kernel)⟩
set_option maxRecDepth 100000 in
theorem vv_51_6 {l : Launch} (hl : l.stackTraces = false) : cj_V1 l 51 6 (0, 0, 0, []) 7 := Or.inl ⟨by decide +kernel, ok_iconst dm_51_6 (by decide +kernel)⟩
set_option maxRecDepth 100000 in
theorem vv_51_7 {l : Launch} (hl : l.stackTraces = false) : cj_V1 l 51 7 (30, 17, 0, []) 10 := Or.inl ⟨by decide +kernel, ok_goto dm_51_7 (by decide +kernel)⟩
set_option maxRecDepth 100000 in
theorem vv_51_10 {l : Launch} (hl : l.stackTraces = false) : cj_V1 l 51 10 (0, 27, 0, []) 12 := Or.inl ⟨by decide +kernel, ok_bipush dm_51_10 (by decide +kernel)⟩
set_option maxRecDepth 100000 in
theorem vv_51_12 {l : Launch} (hl : l.stackTraces = false) : cj_V1 l 51 12 (2, 1, 0, []) 13 := Or.inl ⟨by decide +kernel, ok_iload_n dm_51_12 rfl⟩
set_option maxRecDepth 100000 in
theorem vv_51_13 {l : Launch} (hl : l.stackTraces = false) : cj_V1 l 51 13 (10, 0, 0, []) 14 := Or.inl ⟨by decide +kernel, ok_iadd dm_51_13⟩
set_option maxRecDepth 100000 in
theorem vv_51_14 {l : Launch} (hl : l.stackTraces = false) : cj_V1 l 51 14 (0, 97, 0, []) 16 := Or.inl ⟨by decide +kernel, ok_bipush dm_51_14 (by decide +kernel)⟩
set_option maxRecDepth 100000 in
theorem vv_51_16 {l : Launch} (hl : l.stackTraces = false) : cj_V1 l 51 16 (11, 0, 0, []) 17 := Or.inl ⟨by decide +kernel, ok_isub dm_51_16⟩
set_option maxRecDepth 100000 in
theorem vv_51_17 {l : Launch} (hl : l.stackTraces = false) : cj_V1 l 51 17 (4, 2, 0, []) 18 := Or.inl ⟨by decide +kernel, ok_istore_n dm_51_17 rfl⟩
set_option maxRecDepth 100000 in
theorem vv_51_18 {l : Launch} (hl : l.stackTraces = false) : cj_V1 l 51 18 (0, 0, 0, []) 19 := Or.inl ⟨by decide +kernel, ok_iconst dm_51_18 (by decide +kernel)⟩
set_option maxRecDepth 100000 in
theorem vv_51_19 {l : Launch} (hl : l.stackTraces = false) : cj_V1 l 51 19 (4, 3, 0, []) 20 := Or.inl ⟨by decide +kernel, ok_istore_n dm_51_19 rfl⟩
set_option maxRecDepth 100000 in
theorem vv_51_20 {l : Launch} (hl : l.stackTraces = false) : cj_V1 l 51 20 (2, 3, 0, []) 21 := Or.inl ⟨by decide +kernel, ok_iload_n dm_51_20 rfl⟩
set_option maxRecDepth 100000 in
theorem vv_51_21 {l : Launch} (hl : l.stackTraces = false) : cj_V1 l 51 21 (3, 0, 0, []) 22 := Or.inl ⟨by decide +kernel, ok_aload_n dm_51_21 rfl⟩
set_option maxRecDepth 100000 in
theorem vv_51_22 {l : Launch} (hl : l.stackTraces = false) : cj_V1 l 51 22 (50, 7, 14, []) 25 := Or.inl ⟨by decide +kernel, ok_getfield (N := 39) (C := RK_7) (T := TK_7) dm_51_22 rfl inK_7 (by decide +kernel) wm_747⟩
set_option maxRecDepth 100000 in
theorem vv_51_25 {l : Launch} (hl : l.stackTraces = false) : cj_V1 l 51 25 (40, 52, 0, []) 28 := Or.inl ⟨by decide +kernel, ok_icmp_ge dm_51_25 (by decide +kernel)⟩
set_option maxRecDepth 100000 in
theorem vv_51_28 {l : Launch} (hl : l.stackTraces = false) : cj_V1 l 51 28 (3, 0, 0, []) 29 := Or.inl ⟨by decide +kernel, ok_aload_n dm_51_28 rfl⟩
set_option maxRecDepth 100000 in
theorem vv_51_29 {l : Launch} (hl : l.stackTraces = false) : cj_V1 l 51 29 (50, 7, 15, []) 32 := Or.inl ⟨by decide +kernel, ok_getfield (N := 39) (C := RK_7) (T := TK_7) dm_51_29 rfl inK_7 (by decide +kernel) wm_748⟩
set_option maxRecDepth 100000 in
theorem vv_51_32 {l : Launch} (hl : l.stackTraces = false) : cj_V1 l 51 32 (2, 3, 0, []) 33 := Or.inl ⟨by decide +kernel, ok_iload_n dm_51_32 rfl⟩
set_option maxRecDepth 100000 in
theorem vv_51_33 {l : Launch} (hl : l.stackTraces = false) : cj_V1 l 51 33 (54, 0, 0, []) 34 := Or.inl ⟨by decide +kernel, ok_iaload dm_51_33 rfl⟩
set_option maxRecDepth 100000 in
theorem vv_51_34 {l : Launch} (hl : l.stackTraces = false) : cj_V1 l 51 34 (2, 1, 0, []) 35 := Or.inl ⟨by decide +kernel, ok_iload_n dm_51_34 rfl⟩
set_option maxRecDepth 100000 in
theorem vv_51_35 {l : Launch} (hl : l.stackTraces = false) : cj_V1 l 51 35 (38, 44, 0, []) 38 := Or.inl ⟨by decide +kernel, ok_icmp_ne dm_51_35 (by decide +kernel)⟩
set_option maxRecDepth 100000 in
theorem vv_51_38 {l : Launch} (hl : l.stackTraces = false) : cj_V1 l 51 38 (0, 1, 0, []) 39 := Or.inl ⟨by decide +kernel, ok_iconst dm_51_38 (by decide +kernel)⟩
set_option maxRecDepth 100000 in
theorem vv_51_39 {l : Launch} (hl : l.stackTraces = false) : cj_V1 l 51 39 (2, 3, 0, []) 40 := Or.inl ⟨by decide +kernel, ok_iload_n dm_51_39 rfl⟩
set_option maxRecDepth 100000 in
theorem vv_51_40 {l : Launch} (hl : l.stackTraces = false) : cj_V1 l 51 40 (10, 0, 0, []) 41 := Or.inl ⟨by decide +kernel, ok_iadd dm_51_40⟩
set_option maxRecDepth 100000 in
theorem vv_51_41 {l : Launch} (hl : l.stackTraces = false) : cj_V1 l 51 41 (30, 45, 0, []) 44 := Or.inl ⟨by decide +kernel, ok_goto dm_51_41 (by decide +kernel)⟩
set_option maxRecDepth 100000 in
theorem vv_51_44 {l : Launch} (hl : l.stackTraces = false) : cj_V1 l 51 44 (2, 2, 0, []) 45 := Or.inl ⟨by decide +kernel, ok_iload_n dm_51_44 rfl⟩
set_option maxRecDepth 100000 in
theorem vv_51_45 {l : Launch} (hl : l.stackTraces = false) : cj_V1 l 51 45 (4, 2, 0, []) 46 := Or.inl ⟨by decide +kernel, ok_istore_n dm_51_45 rfl⟩
set_option maxRecDepth 100000 in
theorem vv_51_46 {l : Launch} (hl : l.stackTraces = false) : cj_V1 l 51 46 (6, 3, 1, []) 49 := Or.inl ⟨by decide +kernel, ok_iinc6 dm_51_46 (by decide +kernel)⟩
set_option maxRecDepth 100000 in
theorem vv_51_49 {l : Launch} (hl : l.stackTraces = false) : cj_V1 l 51 49 (30, 20, 0, []) 52 := Or.inl ⟨by decide +kernel, ok_goto dm_51_49 (by decide +kernel)⟩
set_option maxRecDepth 100000 in
theorem vv_51_52 {l : Launch} (hl : l.stackTraces = false) : cj_V1 l 51 52 (2, 2, 0, []) 53 := Or.inl ⟨by decide +kernel, ok_iload_n dm_51_52 rfl⟩
set_option maxRecDepth 100000 in
theorem vv_51_53 {l : Launch} (hl : l.stackTraces = false) : cj_V1 l 51 53 (90, 0, 0, []) 54 := Or.inr (Or.inl ⟨by decide +kernel, Or.inl (Or.inl ⟨rfl, dm_51_53, rfl⟩)⟩)
set_option maxRecDepth 100000 in
theorem vm_51 {l : Launch} (hl : l.stackTraces = false) : cj_Vm l 51 := cj_Vm_of (r := kc51_) rfl ⟨vv_51_0 hl, vv_51_1 hl, vv_51_3 hl, vv_51_6 hl, vv_51_7 hl, vv_51_10 hl, vv_51_12 hl, vv_51_13 hl, vv_51_14 hl, vv_51_16 hl, vv_51_17 hl, vv_51_18 hl, vv_51_19 hl, vv_51_20 hl, vv_51_21 hl, vv_51_22 hl, vv_51_25 hl, vv_51_28 hl, vv_51_29 hl, vv_51_32 hl, vv_51_33 hl, vv_51_34 hl, vv_51_35 hl, vv_51_38 hl, vv_51_39 hl, vv_51_40 hl, vv_51_41 hl, vv_51_44 hl, vv_51_45 hl, vv_51_46 hl, vv_51_49 hl, vv_51_52 hl, vv_51_53 hl, trivial⟩
set_option maxRecDepth 100000 in
theorem vv_52_0 {l : Launch} (hl : l.stackTraces = false) : cj_V1 l 52 0 (0, 1, 0, []) 1 := Or.inl ⟨by decide +kernel, ok_iconst dm_52_0 (by decide +kernel)⟩
set_option maxRecDepth 100000 in
theorem vv_52_1 {l : Launch} (hl : l.stackTraces = false) : cj_V1 l 52 1 (4, 2, 0, []) 2 := Or.inl ⟨by decide +kernel, ok_istore_n dm_52_1 rfl⟩
set_option maxRecDepth 100000 in
theorem vv_52_2 {l : Launch} (hl : l.stackTraces = false) : cj_V1 l 52 2 (0, 0, 0, []) 3 := Or.inl ⟨by decide +kernel, ok_iconst dm_52_2 (by decide +kernel)⟩
set_option maxRecDepth 100000 in
theorem vv_52_3 {l : Launch} (hl : l.stackTraces = false) : cj_V1 l 52 3 (4, 3, 0, []) 4 := Or.inl ⟨by decide +kernel, ok_istore_n dm_52_3 rfl⟩
set_option maxRecDepth 100000 in
theorem vv_52_4 {l : Launch} (hl : l.stackTraces = false) : cj_V1 l 52 4 (2, 3, 0, []) 5 := Or.inl ⟨by decide +kernel, ok_iload_n dm_52_4 rfl⟩
set_option maxRecDepth 100000 in
theorem vv_52_5 {l : Launch} (hl : l.stackTraces = false) : cj_V1 l 52 5 (0, 8, 0, []) 7 := Or.inl ⟨by decide +kernel, ok_bipush dm_52_5 (by decide +kernel)⟩
set_option maxRecDepth 100000 in
theorem vv_52_7 {l : Launch} (hl : l.stackTraces = false) : cj_V1 l 52 7 (40, 77, 0, []) 10 := Or.inl ⟨by decide +kernel, ok_icmp_ge dm_52_7 (by decide +kernel)⟩
set_option maxRecDepth 100000 in
theorem vv_52_10 {l : Launch} (hl : l.stackTraces = false) : cj_V1 l 52 10 (3, 0, 0, []) 11 := Or.inl ⟨by decide +kernel, ok_aload_n dm_52_10 rfl⟩
set_option maxRecDepth 100000 in
theorem vv_52_11 {l : Launch} (hl : l.stackTraces = false) : cj_V1 l 52 11 (50, 7, 26, []) 14 := Or.inl ⟨by decide +kernel, ok_getfield (N := 39) (C := RK_7) (T := TK_7) dm_52_11 rfl inK_7 (by decide +kernel) wm_759⟩
set_option maxRecDepth 100000 in
theorem vv_52_14 {l : Launch} (hl : l.stackTraces = false) : cj_V1 l 52 14 (0, 8, 0, []) 16 := Or.inl ⟨by decide +kernel, ok_bipush dm_52_14 (by decide +kernel)⟩
set_option maxRecDepth 100000 in
theorem vv_52_16 {l : Launch} (hl : l.stackTraces = false) : cj_V1 l 52 16 (2, 1, 0, []) 17 := Or.inl ⟨by decide +kernel, ok_iload_n dm_52_16 rfl⟩
set_option maxRecDepth 100000 in
theorem vv_52_17 {l : Launch} (hl : l.stackTraces = false) : cj_V1 l 52 17 (12, 0, 0, []) 18 := Or.inl ⟨by decide +kernel, ok_imul dm_52_17⟩
set_option maxRecDepth 100000 in
theorem vv_52_18 {l : Launch} (hl : l.stackTraces = false) : cj_V1 l 52 18 (2, 3, 0, []) 19 := Or.inl ⟨by decide +kernel, ok_iload_n dm_52_18 rfl⟩
set_option maxRecDepth 100000 in
theorem vv_52_19 {l : Launch} (hl : l.stackTraces = false) : cj_V1 l 52 19 (10, 0, 0, []) 20 := Or.inl ⟨by decide +kernel, ok_iadd dm_52_19⟩
set_option maxRecDepth 100000 in
theorem vv_52_20 {l : Launch} (hl : l.stackTraces = false) : cj_V1 l 52 20 (54, 0, 0, []) 21 := Or.inl ⟨by decide +kernel, ok_iaload dm_52_20 rfl⟩
set_option maxRecDepth 100000 in
theorem vv_52_21 {l : Launch} (hl : l.stackTraces = false) : cj_V1 l 52 21 (1, 1, 0, []) 22 := Or.inl ⟨by decide +kernel, ok_iconst_m dm_52_21 (by decide +kernel)⟩
set_option maxRecDepth 100000 in
theorem vv_52_22 {l : Launch} (hl : l.stackTraces = false) : cj_V1 l 52 22 (38, 29, 0, []) 25 := Or.inl ⟨by decide +kernel, ok_icmp_ne dm_52_22 (by decide +kernel)⟩
set_option maxRecDepth 100000 in
theorem vv_52_25 {l : Launch} (hl : l.stackTraces = false) : cj_V1 l 52 25 (0, 0, 0, []) 26 := Or.inl ⟨by decide +kernel, ok_iconst dm_52_25 (by decide +kernel)⟩
set_option maxRecDepth 100000 in
theorem vv_52_26 {l : Launch} (hl : l.stackTraces = false) : cj_V1 l 52 26 (30, 40, 0, []) 29 := Or.inl ⟨by decide +kernel, ok_goto dm_52_26 (by decide +kernel)⟩
set_option maxRecDepth 100000 in
theorem vv_52_29 {l : Launch} (hl : l.stackTraces = false) : cj_V1 l 52 29 (3, 0, 0, []) 30 := Or.inl ⟨by decide +kernel, ok_aload_n dm_52_29 rfl⟩
set_option maxRecDepth 100000 in
theorem vv_52_30 {l : Launch} (hl : l.stackTraces = false) : cj_V1 l 52 30 (50, 7, 26, []) 33 := Or.inl ⟨by decide +kernel, ok_getfield (N := 39) (C := RK_7) (T := TK_7) dm_52_30 rfl inK_7 (by decide +kernel) wm_759⟩
set_option maxRecDepth 100000 in
theorem vv_52_33 {l : Launch} (hl : l.stackTraces = false) : cj_V1 l 52 33 (0, 8, 0, []) 35 := Or.inl ⟨by decide +kernel, ok_bipush dm_52_33 (by decide +kernel)⟩
set_option maxRecDepth 100000 in
theorem vv_52_35 {l : Launch} (hl : l.stackTraces = false) : cj_V1 l 52 35 (2, 1, 0, []) 36 := Or.inl ⟨by decide +kernel, ok_iload_n dm_52_35 rfl⟩
set_option maxRecDepth 100000 in
theorem vv_52_36 {l : Launch} (hl : l.stackTraces = false) : cj_V1 l 52 36 (12, 0, 0, []) 37 := Or.inl ⟨by decide +kernel, ok_imul dm_52_36⟩
set_option maxRecDepth 100000 in
theorem vv_52_37 {l : Launch} (hl : l.stackTraces = false) : cj_V1 l 52 37 (2, 3, 0, []) 38 := Or.inl ⟨by decide +kernel, ok_iload_n dm_52_37 rfl⟩
set_option maxRecDepth 100000 in
theorem vv_52_38 {l : Launch} (hl : l.stackTraces = false) : cj_V1 l 52 38 (10, 0, 0, []) 39 := Or.inl ⟨by decide +kernel, ok_iadd dm_52_38⟩
set_option maxRecDepth 100000 in
theorem vv_52_39 {l : Launch} (hl : l.stackTraces = false) : cj_V1 l 52 39 (54, 0, 0, []) 40 := Or.inl ⟨by decide +kernel, ok_iaload dm_52_39 rfl⟩
set_option maxRecDepth 100000 in
theorem vv_52_40 {l : Launch} (hl : l.stackTraces = false) : cj_V1 l 52 40 (4, 4, 0, []) 42 := Or.inl ⟨by decide +kernel, ok_istore dm_52_40⟩
set_option maxRecDepth 100000 in
theorem vv_52_42 {l : Launch} (hl : l.stackTraces = false) : cj_V1 l 52 42 (2, 2, 0, []) 43 := Or.inl ⟨by decide +kernel, ok_iload_n dm_52_42 rfl⟩
set_option maxRecDepth 100000 in
theorem vv_52_43 {l : Launch} (hl : l.stackTraces = false) : cj_V1 l 52 43 (31, 61, 0, []) 46 := Or.inl ⟨by decide +kernel, ok_if_eq dm_52_43 (by decide +kernel)⟩
set_option maxRecDepth 100000 in
theorem vv_52_46 {l : Launch} (hl : l.stackTraces = false) : cj_V1 l 52 46 (2, 4, 0, []) 48 := Or.inl ⟨by decide +kernel, ok_iload dm_52_46⟩
set_option maxRecDepth 100000 in
theorem vv_52_48 {l : Launch} (hl : l.stackTraces = false) : cj_V1 l 52 48 (3, 0, 0, []) 49 := Or.inl ⟨by decide +kernel, ok_aload_n dm_52_48 rfl⟩
set_option maxRecDepth 100000 in
theorem vv_52_49 {l : Launch} (hl : l.stackTraces = false) : cj_V1 l 52 49 (50, 7, 27, []) 52 := Or.inl ⟨by decide +kernel, ok_getfield (N := 39) (C := RK_7) (T := TK_7) dm_52_49 rfl inK_7 (by decide +kernel) wm_760⟩
set_option maxRecDepth 100000 in
theorem vv_52_52 {l : Launch} (hl : l.stackTraces = false) : cj_V1 l 52 52 (2, 3, 0, []) 53 := Or.inl ⟨by decide +kernel, ok_iload_n dm_52_52 rfl⟩
set_option maxRecDepth 100000 in
theorem vv_52_53 {l : Launch} (hl : l.stackTraces = false) : cj_V1 l 52 53 (54, 0, 0, []) 54 := Or.inl ⟨by decide +kernel, ok_iaload dm_52_53 rfl⟩
set_option maxRecDepth 100000 in
theorem vv_52_54 {l : Launch} (hl : l.stackTraces = false) : cj_V1 l 52 54 (38, 61, 0, []) 57 := Or.inl ⟨by decide +kernel, ok_icmp_ne dm_52_54 (by decide +kernel)⟩
set_option maxRecDepth 100000 in
theorem vv_52_57 {l : Launch} (hl : l.stackTraces = false) : cj_V1 l 52 57 (0, 1, 0, []) 58 := Or.inl ⟨by decide +kernel, ok_iconst dm_52_57 (by decide +kernel)⟩
set_option maxRecDepth 100000 in
theorem vv_52_58 {l : Launch} (hl : l.stackTraces = false) : cj_V1 l 52 58 (30, 62, 0, []) 61 := Or.inl ⟨by decide +kernel, ok_goto dm_52_58 (by decide +kernel)⟩
set_option maxRecDepth 100000 in
theorem vv_52_61 {l : Launch} (hl : l.stackTraces = false) : cj_V1 l 52 61 (0, 0, 0, []) 62 := Or.inl ⟨by decide +kernel, ok_iconst dm_52_61 (by decide +kernel)⟩
set_option maxRecDepth 100000 in
theorem vv_52_62 {l : Launch} (hl : l.stackTraces = false) : cj_V1 l 52 62 (4, 2, 0, []) 63 := Or.inl ⟨by decide +kernel, ok_istore_n dm_52_62 rfl⟩
set_option maxRecDepth 100000 in
theorem vv_52_63 {l : Launch} (hl : l.stackTraces = false) : cj_V1 l 52 63 (3, 0, 0, []) 64 := Or.inl ⟨by decide +kernel, ok_aload_n dm_52_63 rfl⟩
set_option maxRecDepth 100000 in
theorem vv_52_64 {l : Launch} (hl : l.stackTraces = false) : cj_V1 l 52 64 (50, 7, 27, []) 67 := Or.inl ⟨by decide +kernel, ok_getfield (N := 39) (C := RK_7) (T := TK_7) dm_52_64 rfl inK_7 (by decide +kernel) wm_760⟩
set_option maxRecDepth 100000 in
theorem vv_52_67 {l : Launch} (hl : l.stackTraces = false) : cj_V1 l 52 67 (2, 3, 0, []) 68 := Or.inl ⟨by decide +kernel, ok_iload_n dm_52_67 rfl⟩
set_option maxRecDepth 100000 in
theorem vv_52_68 {l : Launch} (hl : l.stackTraces = false) : cj_V1 l 52 68 (2, 4, 0, []) 70 := Or.inl ⟨by decide +kernel, ok_iload dm_52_68⟩
set_option maxRecDepth 100000 in
theorem vv_52_70 {l : Launch} (hl : l.stackTraces = false) : cj_V1 l 52 70 (56, 0, 0, []) 71 := Or.inl ⟨by decide +kernel, ok_iastore dm_52_70 rfl⟩
set_option maxRecDepth 100000 in
theorem vv_52_71 {l : Launch} (hl : l.stackTraces = false) : cj_V1 l 52 71 (6, 3, 1, []) 74 := Or.inl ⟨by decide +kernel, ok_iinc6 dm_52_71 (by decide +kernel)⟩
set_option maxRecDepth 100000 in
theorem vv_52_74 {l : Launch} (hl : l.stackTraces = false) : cj_V1 l 52 74 (30, 4, 0, []) 77 := Or.inl ⟨by decide +kernel, ok_goto dm_52_74 (by decide +kernel)⟩
set_option maxRecDepth 100000 in
theorem vv_52_77 {l : Launch} (hl : l.stackTraces = false) : cj_V1 l 52 77 (2, 2, 0, []) 78 := Or.inl ⟨by decide +kernel, ok_iload_n dm_52_77 rfl⟩
set_option maxRecDepth 100000 in
theorem vv_52_78 {l : Launch} (hl : l.stackTraces = false) : cj_V1 l 52 78 (93, 0, 0, []) 79 := Or.inr (Or.inl ⟨by decide +kernel, Or.inl (Or.inr (Or.inr (Or.inr ⟨rfl, dm_52_78, rfl⟩)))⟩)
set_option maxRecDepth 100000 in
theorem vm_52 {l : Launch} (hl : l.stackTraces = false) : cj_Vm l 52 := cj_Vm_of (r := kc52_) rfl ⟨vv_52_0 hl, vv_52_1 hl, vv_52_2 hl, vv_52_3 hl, vv_52_4 hl, vv_52_5 hl, vv_52_7 hl, vv_52_10 hl, vv_52_11 hl, vv_52_14 hl, vv_52_16 hl, vv_52_17 hl, vv_52_18 hl, vv_52_19 hl, vv_52_20 hl, vv_52_21 hl, vv_52_22 hl, vv_52_25 hl, vv_52_26 hl, vv_52_29 hl, vv_52_30 hl, vv_52_33 hl, vv_52_35 hl, vv_52_36 hl, vv_52_37 hl, vv_52_38 hl, vv_52_39 hl, vv_52_40 hl, vv_52_42 hl, vv_52_43 hl, vv_52_46 hl, vv_52_48 hl, vv_52_49 hl, vv_52_52 hl, vv_52_53 hl, vv_52_54 hl, vv_52_57 hl, vv_52_58 hl, vv_52_61 hl, vv_52_62 hl, vv_52_63 hl, vv_52_64 hl, vv_52_67 hl, vv_52_68 hl, vv_52_70 hl, vv_52_71 hl, vv_52_74 hl, vv_52_77 hl, vv_52_78 hl, trivial⟩
set_option maxRecDepth 100000 in
theorem vv_53_0 {l : Launch} (hl : l.stackTraces = false) : cj_V1 l 53 0 (0, 0, 0, []) 1 := Or.inl ⟨by decide +kernel, ok_iconst dm_53_0 (by decide +kernel)⟩
set_option maxRecDepth 100000 in
theorem vv_53_1 {l : Launch} (hl : l.stackTraces = false) : cj_V1 l 53 1 (4, 1, 0, []) 2 := Or.inl ⟨by decide +kernel, ok_istore_n dm_53_1 rfl⟩
set_option maxRecDepth 100000 in
theorem vv_53_2 {l : Launch} (hl : l.stackTraces = false) : cj_V1 l 53 2 (0, 0, 0, []) 3 := Or.inl ⟨by decide +kernel, ok_iconst dm_53_2 (by decide +kernel)⟩
set_option maxRecDepth 100000 in
theorem vv_53_3 {l : Launch} (hl : l.stackTraces = false) : cj_V1 l 53 3 (4, 2, 0, []) 4 := Or.inl ⟨by decide +kernel, ok_istore_n dm_53_3 rfl⟩
set_option maxRecDepth 100000 in
theorem vv_53_4 {l : Launch} (hl : l.stackTraces = false) : cj_V1 l 53 4 (2, 2, 0, []) 5 := Or.inl ⟨by decide +kernel, ok_iload_n dm_53_4 rfl⟩
set_option maxRecDepth 100000 in
theorem vv_53_5 {l : Launch} (hl : l.stackTraces = false) : cj_V1 l 53 5 (0, 4, 0, []) 6 := Or.inl ⟨by decide +kernel, ok_iconst dm_53_5 (by decide +kernel)⟩
set_option maxRecDepth 100000 in
theorem vv_53_6 {l : Launch} (hl : l.stackTraces = false) : cj_V1 l 53 6 (40, 36, 0, []) 9 := Or.inl ⟨by decide +kernel, ok_icmp_ge dm_53_6 (by decide +kernel)⟩
set_option maxRecDepth 100000 in
theorem vv_53_9 {l : Launch} (hl : l.stackTraces = false) : cj_V1 l 53 9 (2, 0, 0, []) 10 := Or.inl ⟨by decide +kernel, ok_iload_n dm_53_9 rfl⟩
set_option maxRecDepth 100000 in
theorem vv_53_10 {l : Launch} (hl : l.stackTraces = false) : cj_V1 l 53 10 (0, 8, 0, []) 12 := Or.inl ⟨by decide +kernel, ok_bipush dm_53_10 (by decide +kernel)⟩
set_option maxRecDepth 100000 in
theorem vv_53_12 {l : Launch} (hl : l.stackTraces = false) : cj_V1 l 53 12 (2, 2, 0, []) 13 := Or.inl ⟨by decide +kernel, ok_iload_n dm_53_12 rfl⟩
set_option maxRecDepth 100000 in
theorem vv_53_13 {l : Launch} (hl : l.stackTraces = false) : cj_V1 l 53 13 (12, 0, 0, []) 14 := Or.inl ⟨by decide +kernel, ok_imul dm_53_13⟩
set_option maxRecDepth 100000 in
theorem vv_53_14 {l : Launch} (hl : l.stackTraces = false) : cj_V1 l 53 14 (18, 0, 0, []) 15 := Or.inl ⟨by decide +kernel, ok_iushr dm_53_14⟩
set_option maxRecDepth 100000 in
theorem vv_53_15 {l : Launch} (hl : l.stackTraces = false) : cj_V1 l 53 15 (0, 255, 0, []) 18 := Or.inl ⟨by decide +kernel, ok_sipush dm_53_15 (by decide +kernel)⟩
set_option maxRecDepth 100000 in
theorem vv_53_18 {l : Launch} (hl : l.stackTraces = false) : cj_V1 l 53 18 (19, 0, 0, []) 19 := Or.inl ⟨by decide +kernel, ok_iand dm_53_18⟩
set_option maxRecDepth 100000 in
theorem vv_53_19 {l : Launch} (hl : l.stackTraces = false) : cj_V1 l 53 19 (32, 26, 0, []) 22 := Or.inl ⟨by decide +kernel, ok_if_ne dm_53_19 (by decide +kernel)⟩
set_option maxRecDepth 100000 in
theorem vv_53_22 {l : Launch} (hl : l.stackTraces = false) : cj_V1 l 53 22 (2, 1, 0, []) 23 := Or.inl ⟨by decide +kernel, ok_iload_n dm_53_22 rfl⟩
set_option maxRecDepth 100000 in
theorem vv_53_23 {l : Launch} (hl : l.stackTraces = false) : cj_V1 l 53 23 (30, 29, 0, []) 26 := Or.inl ⟨by decide +kernel, ok_goto dm_53_23 (by decide +kernel)⟩
set_option maxRecDepth 100000 in
theorem vv_53_26 {l : Launch} (hl : l.stackTraces = false) : cj_V1 l 53 26 (2, 1, 0, []) 27 := Or.inl ⟨by decide +kernel, ok_iload_n dm_53_26 rfl⟩
set_option maxRecDepth 100000 in
theorem vv_53_27 {l : Launch} (hl : l.stackTraces = false) : cj_V1 l 53 27 (0, 1, 0, []) 28 := Or.inl ⟨by decide +kernel, ok_iconst dm_53_27 (by decide +kernel)⟩
set_option maxRecDepth 100000 in
theorem vv_53_28 {l : Launch} (hl : l.stackTraces = false) : cj_V1 l 53 28 (10, 0, 0, []) 29 := Or.inl ⟨by decide +kernel, ok_iadd dm_53_28⟩
set_option maxRecDepth 100000 in
theorem vv_53_29 {l : Launch} (hl : l.stackTraces = false) : cj_V1 l 53 29 (4, 1, 0, []) 30 := Or.inl ⟨by decide +kernel, ok_istore_n dm_53_29 rfl⟩
set_option maxRecDepth 100000 in
theorem vv_53_30 {l : Launch} (hl : l.stackTraces = false) : cj_V1 l 53 30 (6, 2, 1, []) 33 := Or.inl ⟨by decide +kernel, ok_iinc6 dm_53_30 (by decide +kernel)⟩
set_option maxRecDepth 100000 in
theorem vv_53_33 {l : Launch} (hl : l.stackTraces = false) : cj_V1 l 53 33 (30, 4, 0, []) 36 := Or.inl ⟨by decide +kernel, ok_goto dm_53_33 (by decide +kernel)⟩
set_option maxRecDepth 100000 in
theorem vv_53_36 {l : Launch} (hl : l.stackTraces = false) : cj_V1 l 53 36 (2, 1, 0, []) 37 := Or.inl ⟨by decide +kernel, ok_iload_n dm_53_36 rfl⟩
set_option maxRecDepth 100000 in
theorem vv_53_37 {l : Launch} (hl : l.stackTraces = false) : cj_V1 l 53 37 (90, 0, 0, []) 38 := Or.inr (Or.inl ⟨by decide +kernel, Or.inl (Or.inl ⟨rfl, dm_53_37, rfl⟩)⟩)
set_option maxRecDepth 100000 in
theorem vm_53 {l : Launch} (hl : l.stackTraces = false) : cj_Vm l 53 := cj_Vm_of (r := kc53_) rfl ⟨vv_53_0 hl, vv_53_1 hl, vv_53_2 hl, vv_53_3 hl, vv_53_4 hl, vv_53_5 hl, vv_53_6 hl, vv_53_9 hl, vv_53_10 hl, vv_53_12 hl, vv_53_13 hl, vv_53_14 hl, vv_53_15 hl, vv_53_18 hl, vv_53_19 hl, vv_53_22 hl, vv_53_23 hl, vv_53_26 hl, vv_53_27 hl, vv_53_28 hl, vv_53_29 hl, vv_53_30 hl, vv_53_33 hl, vv_53_36 hl, vv_53_37 hl, trivial⟩
set_option maxRecDepth 100000 in
theorem vv_54_0 {l : Launch} (hl : l.stackTraces = false) : cj_V1 l 54 0 (3, 0, 0, []) 1 := Or.inl ⟨by decide +kernel, ok_aload_n dm_54_0 rfl⟩
set_option maxRecDepth 100000 in
theorem vv_54_1 {l : Launch} (hl : l.stackTraces = false) : cj_V1 l 54 1 (50, 7, 21, []) 4 := Or.inl ⟨by decide +kernel, ok_getfield (N := 39) (C := RK_7) (T := TK_7) dm_54_1 rfl inK_7 (by decide +kernel) wm_754⟩
set_option maxRecDepth 100000 in
theorem vv_54_4 {l : Launch} (hl : l.stackTraces = false) : cj_V1 l 54 4 (2, 1, 0, []) 5 := Or.inl ⟨by decide +kernel, ok_iload_n dm_54_4 rfl⟩
set_option maxRecDepth 100000 in
theorem vv_54_5 {l : Launch} (hl : l.stackTraces = false) : cj_V1 l 54 5 (1, 1, 0, []) 6 := Or.inl ⟨by decide +kernel, ok_iconst_m dm_54_5 (by decide +kernel)⟩
set_option maxRecDepth 100000 in
theorem vv_54_6 {l : Launch} (hl : l.stackTraces = false) : cj_V1 l 54 6 (56, 0, 0, []) 7 := Or.inl ⟨by decide +kernel, ok_iastore dm_54_6 rfl⟩
set_option maxRecDepth 100000 in
theorem vv_54_7 {l : Launch} (hl : l.stackTraces = false) : cj_V1 l 54 7 (0, 1, 0, []) 8 := Or.inl ⟨by decide +kernel, ok_iconst dm_54_7 (by decide +kernel)⟩
set_option maxRecDepth 100000 in
theorem vv_54_8 {l : Launch} (hl : l.stackTraces = false) : cj_V1 l 54 8 (4, 2, 0, []) 9 := Or.inl ⟨by decide +kernel, ok_istore_n dm_54_8 rfl⟩
set_option maxRecDepth 100000 in
theorem vv_54_9 {l : Launch} (hl : l.stackTraces = false) : cj_V1 l 54 9 (2, 1, 0, []) 10 := Or.inl ⟨by decide +kernel, ok_iload_n dm_54_9 rfl⟩
set_option maxRecDepth 100000 in
theorem vv_54_10 {l : Launch} (hl : l.stackTraces = false) : cj_V1 l 54 10 (2, 2, 0, []) 11 := Or.inl ⟨by decide +kernel, ok_iload_n dm_54_10 rfl⟩
set_option maxRecDepth 100000 in
theorem vv_54_11 {l : Launch} (hl : l.stackTraces = false) : cj_V1 l 54 11 (10, 0, 0, []) 12 := Or.inl ⟨by decide +kernel, ok_iadd dm_54_11⟩
set_option maxRecDepth 100000 in
theorem vv_54_12 {l : Launch} (hl : l.stackTraces = false) : cj_V1 l 54 12 (3, 0, 0, []) 13 := Or.inl ⟨by decide +kernel, ok_aload_n dm_54_12 rfl⟩
set_option maxRecDepth 100000 in
theorem vv_54_13 {l : Launch} (hl : l.stackTraces = false) : cj_V1 l 54 13 (50, 7, 18, []) 16 := Or.inl ⟨by decide +kernel, ok_getfield (N := 39) (C := RK_7) (T := TK_7) dm_54_13 rfl inK_7 (by decide +kernel) wm_751⟩
set_option maxRecDepth 100000 in
theorem vv_54_16 {l : Launch} (hl : l.stackTraces = false) : cj_V1 l 54 16 (41, 145, 0, []) 19 := Or.inl ⟨by decide +kernel, ok_icmp_gt dm_54_16 (by decide +kernel)⟩
set_option maxRecDepth 100000 in
theorem vv_54_19 {l : Launch} (hl : l.stackTraces = false) : cj_V1 l 54 19 (3, 0, 0, []) 20 := Or.inl ⟨by decide +kernel, ok_aload_n dm_54_19 rfl⟩
set_option maxRecDepth 100000 in
theorem vv_54_20 {l : Launch} (hl : l.stackTraces = false) : cj_V1 l 54 20 (50, 7, 0, []) 23 := Or.inl ⟨by decide +kernel, ok_getfield (N := 39) (C := RK_7) (T := TK_7) dm_54_20 rfl inK_7 (by decide +kernel) wm_733⟩
set_option maxRecDepth 100000 in
theorem vv_54_23 {l : Launch} (hl : l.stackTraces = false) : cj_V1 l 54 23 (3, 0, 0, []) 24 := Or.inl ⟨by decide +kernel, ok_aload_n dm_54_23 rfl⟩
set_option maxRecDepth 100000 in
theorem vv_54_24 {l : Launch} (hl : l.stackTraces = false) : cj_V1 l 54 24 (50, 7, 20, []) 27 := Or.inl ⟨by decide +kernel, ok_getfield (N := 39) (C := RK_7) (T := TK_7) dm_54_24 rfl inK_7 (by decide +kernel) wm_753⟩
set_option maxRecDepth 100000 in
theorem vv_54_27 {l : Launch} (hl : l.stackTraces = false) : cj_V1 l 54 27 (2, 1, 0, []) 28 := Or.inl ⟨by decide +kernel, ok_iload_n dm_54_27 rfl⟩
set_option maxRecDepth 100000 in
theorem vv_54_28 {l : Launch} (hl : l.stackTraces = false) : cj_V1 l 54 28 (2, 2, 0, []) 29 := Or.inl ⟨by decide +kernel, ok_iload_n dm_54_28 rfl⟩
set_option maxRecDepth 100000 in
theorem vv_54_29 {l : Launch} (hl : l.stackTraces = false) : cj_V1 l 54 29 (10, 0, 0, []) 30 := Or.inl ⟨by decide +kernel, ok_iadd dm_54_29⟩
set_option maxRecDepth 100000 in
theorem vv_54_30 {l : Launch} (hl : l.stackTraces = false) : cj_V1 l 54 30 (0, 1, 0, []) 31 := Or.inl ⟨by decide +kernel, ok_iconst dm_54_30 (by decide +kernel)⟩
set_option maxRecDepth 100000 in
theorem vv_54_31 {l : Launch} (hl : l.stackTraces = false) : cj_V1 l 54 31 (11, 0, 0, []) 32 := Or.inl ⟨by decide +kernel, ok_isub dm_54_31⟩
set_option maxRecDepth 100000 in
theorem vv_54_32 {l : Launch} (hl : l.stackTraces = false) : cj_V1 l 54 32 (54, 0, 0, []) 33 := Or.inl ⟨by decide +kernel, ok_iaload dm_54_32 rfl⟩
set_option maxRecDepth 100000 in
theorem vv_54_33 {l : Launch} (hl : l.stackTraces = false) : cj_V1 l 54 33 (3, 0, 0, []) 34 := Or.inl ⟨by decide +kernel, ok_aload_n dm_54_33 rfl⟩
set_option maxRecDepth 100000 in
theorem vv_54_34 {l : Launch} (hl : l.stackTraces = false) : cj_V1 l 54 34 (50, 7, 19, []) 37 := Or.inl ⟨by decide +kernel, ok_getfield (N := 39) (C := RK_7) (T := TK_7) dm_54_34 rfl inK_7 (by decide +kernel) wm_752⟩
set_option maxRecDepth 100000 in
theorem vv_54_37 {l : Launch} (hl : l.stackTraces = false) : cj_V1 l 54 37 (2, 1, 0, []) 38 := Or.inl ⟨by decide +kernel, ok_iload_n dm_54_37 rfl⟩
set_option maxRecDepth 100000 in
theorem vv_54_38 {l : Launch} (hl : l.stackTraces = false) : cj_V1 l 54 38 (54, 0, 0, []) 39 := Or.inl ⟨by decide +kernel, ok_iaload dm_54_38 rfl⟩
set_option maxRecDepth 100000 in
theorem vv_54_39 {l : Launch} (hl : l.stackTraces = false) : cj_V1 l 54 39 (11, 0, 0, []) 40 := Or.inl ⟨by decide +kernel, ok_isub dm_54_39⟩
set_option maxRecDepth 100000 in
theorem vv_54_40 {l : Launch} (hl : l.stackTraces = false) : cj_V1 l 54 40 (11, 0, 0, []) 41 := Or.inl ⟨by decide +kernel, ok_isub dm_54_40⟩
set_option maxRecDepth 100000 in
theorem vv_54_41 {l : Launch} (hl : l.stackTraces = false) : cj_V1 l 54 41 (4, 3, 0, []) 42 := Or.inl ⟨by decide +kernel, ok_istore_n dm_54_41 rfl⟩
set_option maxRecDepth 100000 in
theorem vv_54_42 {l : Launch} (hl : l.stackTraces = false) : cj_V1 l 54 42 (2, 1, 0, []) 43 := Or.inl ⟨by decide +kernel, ok_iload_n dm_54_42 rfl⟩
set_option maxRecDepth 100000 in
theorem vv_54_43 {l : Launch} (hl : l.stackTraces = false) : cj_V1 l 54 43 (2, 2, 0, []) 44 := Or.inl ⟨by decide +kernel, ok_iload_n dm_54_43 rfl⟩
set_option maxRecDepth 100000 in
theorem vv_54_44 {l : Launch} (hl : l.stackTraces = false) : cj_V1 l 54 44 (10, 0, 0, []) 45 := Or.inl ⟨by decide +kernel, ok_iadd dm_54_44⟩
set_option maxRecDepth 100000 in
theorem vv_54_45 {l : Launch} (hl : l.stackTraces = false) : cj_V1 l 54 45 (3, 0, 0, []) 46 := Or.inl ⟨by decide +kernel, ok_aload_n dm_54_45 rfl⟩
set_option maxRecDepth 100000 in
theorem vv_54_46 {l : Launch} (hl : l.stackTraces = false) : cj_V1 l 54 46 (50, 7, 18, []) 49 := Or.inl ⟨by decide +kernel, ok_getfield (N := 39) (C := RK_7) (T := TK_7) dm_54_46 rfl inK_7 (by decide +kernel) wm_751⟩
set_option maxRecDepth 100000 in
theorem vv_54_49 {l : Launch} (hl : l.stackTraces = false) : cj_V1 l 54 49 (38, 56, 0, []) 52 := Or.inl ⟨by decide +kernel, ok_icmp_ne dm_54_49 (by decide +kernel)⟩
set_option maxRecDepth 100000 in
theorem vv_54_52 {l : Launch} (hl : l.stackTraces = false) : cj_V1 l 54 52 (0, 1, 0, []) 53 := Or.inl ⟨by decide +kernel, ok_iconst dm_54_52 (by decide +kernel)⟩
set_option maxRecDepth 100000 in
theorem vv_54_53 {l : Launch} (hl : l.stackTraces = false) : cj_V1 l 54 53 (30, 57, 0, []) 56 := Or.inl ⟨by decide +kernel, ok_goto dm_54_53 (by decide +kernel)⟩
set_option maxRecDepth 100000 in
theorem vv_54_56 {l : Launch} (hl : l.stackTraces = false) : cj_V1 l 54 56 (0, 0, 0, []) 57 := Or.inl ⟨by decide +kernel, ok_iconst dm_54_56 (by decide +kernel)⟩
set_option maxRecDepth 100000 in
theorem vv_54_57 {l : Launch} (hl : l.stackTraces = false) : cj_V1 l 54 57 (4, 4, 0, []) 59 := Or.inl ⟨by decide +kernel, ok_istore dm_54_57⟩
set_option maxRecDepth 100000 in
theorem vv_54_59 {l : Launch} (hl : l.stackTraces = false) : cj_V1 l 54 59 (2, 4, 0, []) 61 := Or.inl ⟨by decide +kernel, ok_iload dm_54_59⟩
set_option maxRecDepth 100000 in
theorem vv_54_61 {l : Launch} (hl : l.stackTraces = false) : cj_V1 l 54 61 (31, 68, 0, []) 64 := Or.inl ⟨by decide +kernel, ok_if_eq dm_54_61 (by decide +kernel)⟩
set_option maxRecDepth 100000 in
theorem vv_54_64 {l : Launch} (hl : l.stackTraces = false) : cj_V1 l 54 64 (0, 0, 0, []) 65 := Or.inl ⟨by decide +kernel, ok_iconst dm_54_64 (by decide +kernel)⟩
set_option maxRecDepth 100000 in
theorem vv_54_65 {l : Launch} (hl : l.stackTraces = false) : cj_V1 l 54 65 (30, 80, 0, []) 68 := Or.inl ⟨by decide +kernel, ok_goto dm_54_65 (by decide +kernel)⟩
set_option maxRecDepth 100000 in
theorem vv_54_68 {l : Launch} (hl : l.stackTraces = false) : cj_V1 l 54 68 (2, 3, 0, []) 69 := Or.inl ⟨by decide +kernel, ok_iload_n dm_54_68 rfl⟩
set_option maxRecDepth 100000 in
theorem vv_54_69 {l : Launch} (hl : l.stackTraces = false) : cj_V1 l 54 69 (2, 3, 0, []) 70 := Or.inl ⟨by decide +kernel, ok_iload_n dm_54_69 rfl⟩
set_option maxRecDepth 100000 in
theorem vv_54_70 {l : Launch} (hl : l.stackTraces = false) : cj_V1 l 54 70 (12, 0, 0, []) 71 := Or.inl ⟨by decide +kernel, ok_imul dm_54_70⟩
set_option maxRecDepth 100000 in
theorem vv_54_71 {l : Launch} (hl : l.stackTraces = false) : cj_V1 l 54 71 (3, 0, 0, []) 72 := Or.inl ⟨by decide +kernel, ok_aload_n dm_54_71 rfl⟩
set_option maxRecDepth 100000 in
theorem vv_54_72 {l : Launch} (hl : l.stackTraces = false) : cj_V1 l 54 72 (50, 7, 21, []) 75 := Or.inl ⟨by decide +kernel, ok_getfield (N := 39) (C := RK_7) (T := TK_7) dm_54_72 rfl inK_7 (by decide +kernel) wm_754⟩
set_option maxRecDepth 100000 in
theorem vv_54_75 {l : Launch} (hl : l.stackTraces = false) : cj_V1 l 54 75 (2, 1, 0, []) 76 := Or.inl ⟨by decide +kernel, ok_iload_n dm_54_75 rfl⟩
set_option maxRecDepth 100000 in
theorem vv_54_76 {l : Launch} (hl : l.stackTraces = false) : cj_V1 l 54 76 (2, 2, 0, []) 77 := Or.inl ⟨by decide +kernel, ok_iload_n dm_54_76 rfl⟩
set_option maxRecDepth 100000 in
theorem vv_54_77 {l : Launch} (hl : l.stackTraces = false) : cj_V1 l 54 77 (10, 0, 0, []) 78 := Or.inl ⟨by decide +kernel, ok_iadd dm_54_77⟩
set_option maxRecDepth 100000 in
theorem vv_54_78 {l : Launch} (hl : l.stackTraces = false) : cj_V1 l 54 78 (54, 0, 0, []) 79 := Or.inl ⟨by decide +kernel, ok_iaload dm_54_78 rfl⟩
set_option maxRecDepth 100000 in
theorem vv_54_79 {l : Launch} (hl : l.stackTraces = false) : cj_V1 l 54 79 (10, 0, 0, []) 80 := Or.inl ⟨by decide +kernel, ok_iadd dm_54_79⟩
set_option maxRecDepth 100000 in
theorem vv_54_80 {l : Launch} (hl : l.stackTraces = false) : cj_V1 l 54 80 (4, 5, 0, []) 82 := Or.inl ⟨by decide +kernel, ok_istore dm_54_80⟩
set_option maxRecDepth 100000 in
theorem vv_54_82 {l : Launch} (hl : l.stackTraces = false) : cj_V1 l 54 82 (2, 3, 0, []) 83 := Or.inl ⟨by decide +kernel, ok_iload_n dm_54_82 rfl⟩
set_option maxRecDepth 100000 in
theorem vv_54_83 {l : Launch} (hl : l.stackTraces = false) : cj_V1 l 54 83 (33, 139, 0, []) 86 := Or.inl ⟨by decide +kernel, ok_if_lt dm_54_83 (by decide +kernel)⟩
set_option maxRecDepth 100000 in
theorem vv_54_86 {l : Launch} (hl : l.stackTraces = false) : cj_V1 l 54 86 (2, 4, 0, []) 88 := Or.inl ⟨by decide +kernel, ok_iload dm_54_86⟩
set_option maxRecDepth 100000 in
theorem vv_54_88 {l : Launch} (hl : l.stackTraces = false) : cj_V1 l 54 88 (32, 103, 0, []) 91 := Or.inl ⟨by decide +kernel, ok_if_ne dm_54_88 (by decide +kernel)⟩
set_option maxRecDepth 100000 in
theorem vv_54_91 {l : Launch} (hl : l.stackTraces = false) : cj_V1 l 54 91 (3, 0, 0, []) 92 := Or.inl ⟨by decide +kernel, ok_aload_n dm_54_91 rfl⟩
set_option maxRecDepth 100000 in
theorem vv_54_92 {l : Launch} (hl : l.stackTraces = false) : cj_V1 l 54 92 (50, 7, 21, []) 95 := Or.inl ⟨by decide +kernel, ok_getfield (N := 39) (C := RK_7) (T := TK_7) dm_54_92 rfl inK_7 (by decide +kernel) wm_754⟩
set_option maxRecDepth 100000 in
theorem vv_54_95 {l : Launch} (hl : l.stackTraces = false) : cj_V1 l 54 95 (2, 1, 0, []) 96 := Or.inl ⟨by decide +kernel, ok_iload_n dm_54_95 rfl⟩
set_option maxRecDepth 100000 in
theorem vv_54_96 {l : Launch} (hl : l.stackTraces = false) : cj_V1 l 54 96 (2, 2, 0, []) 97 := Or.inl ⟨by decide +kernel, ok_iload_n dm_54_96 rfl⟩
set_option maxRecDepth 100000 in
theorem vv_54_97 {l : Launch} (hl : l.stackTraces = false) : cj_V1 l 54 97 (10, 0, 0, []) 98 := Or.inl ⟨by decide +kernel, ok_iadd dm_54_97⟩
set_option maxRecDepth 100000 in
theorem vv_54_98 {l : Launch} (hl : l.stackTraces = false) : cj_V1 l 54 98 (54, 0, 0, []) 99 := Or.inl ⟨by decide +kernel, ok_iaload dm_54_98 rfl⟩
set_option maxRecDepth 100000 in
theorem vv_54_99 {l : Launch} (hl : l.stackTraces = false) : cj_V1 l 54 99 (1, 1, 0, []) 100 := Or.inl ⟨by decide +kernel, ok_iconst_m dm_54_99 (by decide +kernel)⟩
set_option maxRecDepth 100000 in
theorem vv_54_100 {l : Launch} (hl : l.stackTraces = false) : cj_V1 l 54 100 (37, 139, 0, []) 103 := Or.inl ⟨by decide +kernel, ok_icmp_eq dm_54_100 (by decide +kernel)⟩
set_option maxRecDepth 100000 in
theorem vv_54_103 {l : Launch} (hl : l.stackTraces = false) : cj_V1 l 54 103 (3, 0, 0, []) 104 := Or.inl ⟨by decide +kernel, ok_aload_n dm_54_103 rfl⟩
set_option maxRecDepth 100000 in
theorem vv_54_104 {l : Launch} (hl : l.stackTraces = false) : cj_V1 l 54 104 (50, 7, 21, []) 107 := Or.inl ⟨by decide +kernel, ok_getfield (N := 39) (C := RK_7) (T := TK_7) dm_54_104 rfl inK_7 (by decide +kernel) wm_754⟩
set_option maxRecDepth 100000 in
theorem vv_54_107 {l : Launch} (hl : l.stackTraces = false) : cj_V1 l 54 107 (2, 1, 0, []) 108 := Or.inl ⟨by decide +kernel, ok_iload_n dm_54_107 rfl⟩
set_option maxRecDepth 100000 in
theorem vv_54_108 {l : Launch} (hl : l.stackTraces = false) : cj_V1 l 54 108 (54, 0, 0, []) 109 := Or.inl ⟨by decide +kernel, ok_iaload dm_54_108 rfl⟩
set_option maxRecDepth 100000 in
theorem vv_54_109 {l : Launch} (hl : l.stackTraces = false) : cj_V1 l 54 109 (1, 1, 0, []) 110 := Or.inl ⟨by decide +kernel, ok_iconst_m dm_54_109 (by decide +kernel)⟩
set_option maxRecDepth 100000 in
theorem vv_54_110 {l : Launch} (hl : l.stackTraces = false) : cj_V1 l 54 110 (37, 124, 0, []) 113 := Or.inl ⟨by decide +kernel, ok_icmp_eq dm_54_110 (by decide +kernel)⟩
set_option maxRecDepth 100000 in
theorem vv_54_113 {l : Launch} (hl : l.stackTraces = false) : cj_V1 l 54 113 (2, 5, 0, []) 115 := Or.inl ⟨by decide +kernel, ok_iload dm_54_113⟩
set_option maxRecDepth 100000 in
theorem vv_54_115 {l : Launch} (hl : l.stackTraces = false) : cj_V1 l 54 115 (3, 0, 0, []) 116 := Or.inl ⟨by decide +kernel, ok_aload_n dm_54_115 rfl⟩
set_option maxRecDepth 100000 in
theorem vv_54_116 {l : Launch} (hl : l.stackTraces = false) : cj_V1 l 54 116 (50, 7, 21, []) 119 := Or.inl ⟨by decide +kernel, ok_getfield (N := 39) (C := RK_7) (T := TK_7) dm_54_116 rfl inK_7 (by decide +kernel) wm_754⟩
set_option maxRecDepth 100000 in
theorem vv_54_119 {l : Launch} (hl : l.stackTraces = false) : cj_V1 l 54 119 (2, 1, 0, []) 120 := Or.inl ⟨by decide +kernel, ok_iload_n dm_54_119 rfl⟩
set_option maxRecDepth 100000 in
theorem vv_54_120 {l : Launch} (hl : l.stackTraces = false) : cj_V1 l 54 120 (54, 0, 0, []) 121 := Or.inl ⟨by decide +kernel, ok_iaload dm_54_120 rfl⟩
set_option maxRecDepth 100000 in
theorem vv_54_121 {l : Launch} (hl : l.stackTraces = false) : cj_V1 l 54 121 (40, 139, 0, []) 124 := Or.inl ⟨by decide +kernel, ok_icmp_ge dm_54_121 (by decide +kernel)⟩
set_option maxRecDepth 100000 in
theorem vv_54_124 {l : Launch} (hl : l.stackTraces = false) : cj_V1 l 54 124 (3, 0, 0, []) 125 := Or.inl ⟨by decide +kernel, ok_aload_n dm_54_124 rfl⟩
set_option maxRecDepth 100000 in
theorem vv_54_125 {l : Launch} (hl : l.stackTraces = false) : cj_V1 l 54 125 (50, 7, 21, []) 128 := Or.inl ⟨by decide +kernel, ok_getfield (N := 39) (C := RK_7) (T := TK_7) dm_54_125 rfl inK_7 (by decide +kernel) wm_754⟩
set_option maxRecDepth 100000 in
theorem vv_54_128 {l : Launch} (hl : l.stackTraces = false) : cj_V1 l 54 128 (2, 1, 0, []) 129 := Or.inl ⟨by decide +kernel, ok_iload_n dm_54_128 rfl⟩
set_option maxRecDepth 100000 in
theorem vv_54_129 {l : Launch} (hl : l.stackTraces = false) : cj_V1 l 54 129 (2, 5, 0, []) 131 := Or.inl ⟨by decide +kernel, ok_iload dm_54_129⟩
set_option maxRecDepth 100000 in
theorem vv_54_131 {l : Launch} (hl : l.stackTraces = false) : cj_V1 l 54 131 (56, 0, 0, []) 132 := Or.inl ⟨by decide +kernel, ok_iastore dm_54_131 rfl⟩
set_option maxRecDepth 100000 in
theorem vv_54_132 {l : Launch} (hl : l.stackTraces = false) : cj_V1 l 54 132 (3, 0, 0, []) 133 := Or.inl ⟨by decide +kernel, ok_aload_n dm_54_132 rfl⟩
set_option maxRecDepth 100000 in
theorem vv_54_133 {l : Launch} (hl : l.stackTraces = false) : cj_V1 l 54 133 (50, 7, 22, []) 136 := Or.inl ⟨by decide +kernel, ok_getfield (N := 39) (C := RK_7) (T := TK_7) dm_54_133 rfl inK_7 (by decide +kernel) wm_755⟩
set_option maxRecDepth 100000 in
theorem vv_54_136 {l : Launch} (hl : l.stackTraces = false) : cj_V1 l 54 136 (2, 1, 0, []) 137 := Or.inl ⟨by decide +kernel, ok_iload_n dm_54_136 rfl⟩
set_option maxRecDepth 100000 in
theorem vv_54_137 {l : Launch} (hl : l.stackTraces = false) : cj_V1 l 54 137 (2, 2, 0, []) 138 := Or.inl ⟨by decide +kernel, ok_iload_n dm_54_137 rfl⟩
set_option maxRecDepth 100000 in
theorem vv_54_138 {l : Launch} (hl : l.stackTraces = false) : cj_V1 l 54 138 (56, 0, 0, []) 139 := Or.inl ⟨by decide +kernel, ok_iastore dm_54_138 rfl⟩
set_option maxRecDepth 100000 in
theorem vv_54_139 {l : Launch} (hl : l.stackTraces = false) : cj_V1 l 54 139 (6, 2, 1, []) 142 := Or.inl ⟨by decide +kernel, ok_iinc6 dm_54_139 (by decide +kernel)⟩
set_option maxRecDepth 100000 in
theorem vv_54_142 {l : Launch} (hl : l.stackTraces = false) : cj_V1 l 54 142 (30, 9, 0, []) 145 := Or.inl ⟨by decide +kernel, ok_goto dm_54_142 (by decide +kernel)⟩
set_option maxRecDepth 100000 in
theorem vv_54_145 {l : Launch} (hl : l.stackTraces = false) : cj_V1 l 54 145 (91, 0, 0, []) 146 := Or.inr (Or.inl ⟨by decide +kernel, Or.inl (Or.inr (Or.inl ⟨rfl, dm_54_145, rfl⟩))⟩)
set_option maxRecDepth 100000 in
theorem vm_54 {l : Launch} (hl : l.stackTraces = false) : cj_Vm l 54 := cj_Vm_of (r := kc54_) rfl ⟨vv_54_0 hl, vv_54_1 hl, vv_54_4 hl, vv_54_5 hl, vv_54_6 hl, vv_54_7 hl, vv_54_8 hl, vv_54_9 hl, vv_54_10 hl, vv_54_11 hl, vv_54_12 hl, vv_54_13 hl, vv_54_16 hl, vv_54_19 hl, vv_54_20 hl, vv_54_23 hl, vv_54_24 hl, vv_54_27 hl, vv_54_28 hl, vv_54_29 hl, vv_54_30 hl, vv_54_31 hl, vv_54_32 hl, vv_54_33 hl, vv_54_34 hl, vv_54_37 hl, vv_54_38 hl, vv_54_39 hl, vv_54_40 hl, vv_54_41 hl, vv_54_42 hl, vv_54_43 hl, vv_54_44 hl, vv_54_45 hl, vv_54_46 hl, vv_54_49 hl, vv_54_52 hl, vv_54_53 hl, vv_54_56 hl, vv_54_57 hl, vv_54_59 hl, vv_54_61 hl, vv_54_64 hl, vv_54_65 hl, vv_54_68 hl, vv_54_69 hl, vv_54_70 hl, vv_54_71 hl, vv_54_72 hl, vv_54_75 hl, vv_54_76 hl, vv_54_77 hl, vv_54_78 hl, vv_54_79 hl, vv_54_80 hl, vv_54_82 hl, vv_54_83 hl, vv_54_86 hl, vv_54_88 hl, vv_54_91 hl, vv_54_92 hl, vv_54_95 hl, vv_54_96 hl, vv_54_97 hl, vv_54_98 hl, vv_54_99 hl, vv_54_100 hl, vv_54_103 hl, vv_54_104 hl, vv_54_107 hl, vv_54_108 hl, vv_54_109 hl, vv_54_110 hl, vv_54_113 hl, vv_54_115 hl, vv_54_116 hl, vv_54_119 hl, vv_54_120 hl, vv_54_121 hl, vv_54_124 hl, vv_54_125 hl, vv_54_128 hl, vv_54_129 hl, vv_54_131 hl, vv_54_132 hl, vv_54_133 hl, vv_54_136 hl, vv_54_137 hl, vv_54_138 hl, vv_54_139 hl, vv_54_142 hl, vv_54_145 hl, trivial⟩
set_option maxRecDepth 100000 in
theorem vv_55_0 {l : Launch} (hl : l.stackTraces = false) : cj_V1 l 55 0 (0, 0, 0, []) 1 := Or.inl ⟨by decide +kernel, ok_iconst dm_55_0 (by decide +kernel)⟩
set_option maxRecDepth 100000 in
theorem vv_55_1 {l : Launch} (hl : l.stackTraces = false) : cj_V1 l 55 1 (4, 2, 0, []) 2 := Or.inl ⟨by decide +kernel, ok_istore_n dm_55_1 rfl⟩
set_option maxRecDepth 100000 in
theorem vv_55_2 {l : Launch} (hl : l.stackTraces = false) : cj_V1 l 55 2 (2, 2, 0, []) 3 := Or.inl ⟨by decide +kernel, ok_iload_n dm_55_2 rfl⟩
set_option maxRecDepth 100000 in
theorem vv_55_3 {l : Launch} (hl : l.stackTraces = false) : cj_V1 l 55 3 (0, 4, 0, []) 4 := Or.inl ⟨by decide +kernel, ok_iconst dm_55_3 (by decide +kernel)⟩
set_option maxRecDepth 100000 in
theorem vv_55_4 {l : Launch} (hl : l.stackTraces = false) : cj_V1 l 55 4 (40, 55, 0, []) 7 := Or.inl ⟨by decide +kernel, ok_icmp_ge dm_55_4 (by decide +kernel)⟩
set_option maxRecDepth 100000 in
theorem vv_55_7 {l : Launch} (hl : l.stackTraces = false) : cj_V1 l 55 7 (2, 1, 0, []) 8 := Or.inl ⟨by decide +kernel, ok_iload_n dm_55_7 rfl⟩
set_option maxRecDepth 100000 in
theorem vv_55_8 {l : Launch} (hl : l.stackTraces = false) : cj_V1 l 55 8 (0, 8, 0, []) 10 := Or.inl ⟨by decide +kernel, ok_bipush dm_55_8 (by decide +kernel)⟩
set_option maxRecDepth 100000 in
theorem vv_55_10 {l : Launch} (hl : l.stackTraces = false) : cj_V1 l 55 10 (2, 2, 0, []) 11 := Or.inl ⟨by decide +kernel, ok_iload_n dm_55_10 rfl⟩
set_option maxRecDepth 100000 in
theorem vv_55_11 {l : Launch} (hl : l.stackTraces = false) : cj_V1 l 55 11 (12, 0, 0, []) 12 := Or.inl ⟨by decide +kernel, ok_imul dm_55_11⟩
set_option maxRecDepth 100000 in
theorem vv_55_12 {l : Launch} (hl : l.stackTraces = false) : cj_V1 l 55 12 (18, 0, 0, []) 13 := Or.inl ⟨by decide +kernel, ok_iushr dm_55_12⟩
set_option maxRecDepth 100000 in
theorem vv_55_13 {l : Launch} (hl : l.stackTraces = false) : cj_V1 l 55 13 (0, 255, 0, []) 16 := Or.inl ⟨by decide +kernel, ok_sipush dm_55_13 (by decide +kernel)⟩
set_option maxRecDepth 100000 in
theorem vv_55_16 {l : Launch} (hl : l.stackTraces = false) : cj_V1 l 55 16 (19, 0, 0, []) 17 := Or.inl ⟨by decide +kernel, ok_iand dm_55_16⟩
set_option maxRecDepth 100000 in
theorem vv_55_17 {l : Launch} (hl : l.stackTraces = false) : cj_V1 l 55 17 (31, 49, 0, []) 20 := Or.inl ⟨by decide +kernel, ok_if_eq dm_55_17 (by decide +kernel)⟩
set_option maxRecDepth 100000 in
theorem vv_55_20 {l : Launch} (hl : l.stackTraces = false) : cj_V1 l 55 20 (3, 0, 0, []) 21 := Or.inl ⟨by decide +kernel, ok_aload_n dm_55_20 rfl⟩
set_option maxRecDepth 100000 in
theorem vv_55_21 {l : Launch} (hl : l.stackTraces = false) : cj_V1 l 55 21 (50, 7, 4, []) 24 := Or.inl ⟨by decide +kernel, ok_getfield (N := 39) (C := RK_7) (T := TK_7) dm_55_21 rfl inK_7 (by decide +kernel) wm_737⟩
set_option maxRecDepth 100000 in
theorem vv_55_24 {l : Launch} (hl : l.stackTraces = false) : cj_V1 l 55 24 (3, 0, 0, []) 25 := Or.inl ⟨by decide +kernel, ok_aload_n dm_55_24 rfl⟩
set_option maxRecDepth 100000 in
theorem vv_55_25 {l : Launch} (hl : l.stackTraces = false) : cj_V1 l 55 25 (50, 7, 3, []) 28 := Or.inl ⟨by decide +kernel, ok_getfield (N := 39) (C := RK_7) (T := TK_7) dm_55_25 rfl inK_7 (by decide +kernel) wm_736⟩
set_option maxRecDepth 100000 in
theorem vv_55_28 {l : Launch} (hl : l.stackTraces = false) : cj_V1 l 55 28 (2, 1, 0, []) 29 := Or.inl ⟨by decide +kernel, ok_iload_n dm_55_28 rfl⟩
set_option maxRecDepth 100000 in
theorem vv_55_29 {l : Launch} (hl : l.stackTraces = false) : cj_V1 l 55 29 (0, 8, 0, []) 31 := Or.inl ⟨by decide +kernel, ok_bipush dm_55_29 (by decide +kernel)⟩
set_option maxRecDepth 100000 in
theorem vv_55_31 {l : Launch} (hl : l.stackTraces = false) : cj_V1 l 55 31 (2, 2, 0, []) 32 := Or.inl ⟨by decide +kernel, ok_iload_n dm_55_31 rfl⟩
set_option maxRecDepth 100000 in
theorem vv_55_32 {l : Launch} (hl : l.stackTraces = false) : cj_V1 l 55 32 (12, 0, 0, []) 33 := Or.inl ⟨by decide +kernel, ok_imul dm_55_32⟩
set_option maxRecDepth 100000 in
theorem vv_55_33 {l : Launch} (hl : l.stackTraces = false) : cj_V1 l 55 33 (18, 0, 0, []) 34 := Or.inl ⟨by decide +kernel, ok_iushr dm_55_33⟩
set_option maxRecDepth 100000 in
theorem vv_55_34 {l : Launch} (hl : l.stackTraces = false) : cj_V1 l 55 34 (0, 255, 0, []) 37 := Or.inl ⟨by decide +kernel, ok_sipush dm_55_34 (by decide +kernel)⟩
set_option maxRecDepth 100000 in
theorem vv_55_37 {l : Launch} (hl : l.stackTraces = false) : cj_V1 l 55 37 (19, 0, 0, []) 38 := Or.inl ⟨by decide +kernel, ok_iand dm_55_37⟩
set_option maxRecDepth 100000 in
theorem vv_55_38 {l : Launch} (hl : l.stackTraces = false) : cj_V1 l 55 38 (56, 0, 0, []) 39 := Or.inl ⟨by decide +kernel, ok_iastore dm_55_38 rfl⟩
set_option maxRecDepth 100000 in
theorem vv_55_39 {l : Launch} (hl : l.stackTraces = false) : cj_V1 l 55 39 (3, 0, 0, []) 40 := Or.inl ⟨by decide +kernel, ok_aload_n dm_55_39 rfl⟩
set_option maxRecDepth 100000 in
theorem vv_55_40 {l : Launch} (hl : l.stackTraces = false) : cj_V1 l 55 40 (25, 0, 0, []) 41 := Or.inl ⟨by decide +kernel, ok_dup dm_55_40⟩
set_option maxRecDepth 100000 in
theorem vv_55_41 {l : Launch} (hl : l.stackTraces = false) : cj_V1 l 55 41 (50, 7, 3, []) 44 := Or.inl ⟨by decide +kernel, ok_getfield (N := 39) (C := RK_7) (T := TK_7) dm_55_41 rfl inK_7 (by decide +kernel) wm_736⟩
set_option maxRecDepth 100000 in
theorem vv_55_44 {l : Launch} (hl : l.stackTraces = false) : cj_V1 l 55 44 (0, 1, 0, []) 45 := Or.inl ⟨by decide +kernel, ok_iconst dm_55_44 (by decide +kernel)⟩
set_option maxRecDepth 100000 in
theorem vv_55_45 {l : Launch} (hl : l.stackTraces = false) : cj_V1 l 55 45 (10, 0, 0, []) 46 := Or.inl ⟨by decide +kernel, ok_iadd dm_55_45⟩
set_option maxRecDepth 100000 in
theorem vv_55_46 {l : Launch} (hl : l.stackTraces = false) : cj_V1 l 55 46 (51, 7, 3, [0]) 49 := Or.inl ⟨by decide +kernel, ok_putfield (N := 39) (C := RK_7) (T := TK_7) (ty0 := tyK_7) dm_55_46 rfl inK_7 (by decide +kernel) wm_736 tyK_7_ok nmK_7 (Or.inl rfl) (Or.inl ⟨rfl, rfl⟩)⟩
set_option maxRecDepth 100000 in
theorem vv_55_49 {l : Launch} (hl : l.stackTraces = false) : cj_V1 l 55 49 (6, 2, 1, []) 52 := Or.inl ⟨by decide +kernel, ok_iinc6 dm_55_49 (by decide +kernel)⟩
set_option maxRecDepth 100000 in
theorem vv_55_52 {l : Launch} (hl : l.stackTraces = false) : cj_V1 l 55 52 (30, 2, 0, []) 55 := Or.inl ⟨by decide +kernel, ok_goto dm_55_52 (by decide +kernel)⟩
set_option maxRecDepth 100000 in
theorem vv_55_55 {l : Launch} (hl : l.stackTraces = false) : cj_V1 l 55 55 (91, 0, 0, []) 56 := Or.inr (Or.inl ⟨by decide +kernel, Or.inl (Or.inr (Or.inl ⟨rfl, dm_55_55, rfl⟩))⟩)
set_option maxRecDepth 100000 in
theorem vm_55 {l : Launch} (hl : l.stackTraces = false) : cj_Vm l 55 := cj_Vm_of (r := kc55_) rfl ⟨vv_55_0 hl, vv_55_1 hl, vv_55_2 hl, vv_55_3 hl, vv_55_4 hl, vv_55_7 hl, vv_55_8 hl, vv_55_10 hl, vv_55_11 hl, vv_55_12 hl, vv_55_13 hl, vv_55_16 hl, vv_55_17 hl, vv_55_20 hl, vv_55_21 hl, vv_55_24 hl, vv_55_25 hl, vv_55_28 hl, vv_55_29 hl, vv_55_31 hl, vv_55_32 hl, vv_55_33 hl, vv_55_34 hl, vv_55_37 hl, vv_55_38 hl, vv_55_39 hl, vv_55_40 hl, vv_55_41 hl, vv_55_44 hl, vv_55_45 hl, vv_55_46 hl, vv_55_49 hl, vv_55_52 hl, vv_55_55 hl, trivial⟩
set_option maxRecDepth 100000 in
theorem vv_56_0 {l : Launch} (hl : l.stackTraces = false) : cj_V1 l 56 0 (3, 0, 0, []) 1 := Or.inl ⟨by decide +kernel, ok_aload_n dm_56_0 rfl⟩
set_option maxRecDepth 100000 in
theorem vv_56_1 {l : Launch} (hl : l.stackTraces = false) : cj_V1 l 56 1 (50, 7, 2, []) 4 := Or.inl ⟨by decide +kernel, ok_getfield (N := 39) (C := RK_7) (T := TK_7) dm_56_1 rfl inK_7 (by decide +kernel) wm_735⟩
set_option maxRecDepth 100000 in
theorem vv_56_4 {l : Launch} (hl : l.stackTraces = false) : cj_V1 l 56 4 (90, 0, 0, []) 5 := Or.inr (Or.inl ⟨by decide +kernel, Or.inl (Or.inl ⟨rfl, dm_56_4, rfl⟩)⟩)
set_option maxRecDepth 100000 in
theorem vm_56 {l : Launch} (hl : l.stackTraces = false) : cj_Vm l 56 := cj_Vm_of (r := kc56_) rfl ⟨vv_56_0 hl, vv_56_1 hl, vv_56_4 hl, trivial⟩
set_option maxRecDepth 100000 in
theorem vv_57_0 {l : Launch} (hl : l.stackTraces = false) : cj_V1 l 57 0 (2, 1, 0, []) 1 := Or.inl ⟨by decide +kernel, ok_iload_n dm_57_0 rfl⟩
set_option maxRecDepth 100000 in
theorem vv_57_1 {l : Launch} (hl : l.stackTraces = false) : cj_V1 l 57 1 (33, 9, 0, []) 4 := Or.inl ⟨by decide +kernel, ok_if_lt dm_57_1 (by decide +kernel)⟩
set_option maxRecDepth 100000 in
theorem vv_57_4 {l : Launch} (hl : l.stackTraces = false) : cj_V1 l 57 4 (2, 1, 0, []) 5 := Or.inl ⟨by decide +kernel, ok_iload_n dm_57_4 rfl⟩
set_option maxRecDepth 100000 in
theorem vv_57_5 {l : Launch} (hl : l.stackTraces = false) : cj_V1 l 57 5 (0, 4, 0, []) 6 := Or.inl ⟨by decide +kernel, ok_iconst dm_57_5 (by decide +kernel)⟩
set_option maxRecDepth 100000 in
theorem vv_57_6 {l : Launch} (hl : l.stackTraces = false) : cj_V1 l 57 6 (42, 19, 0, []) 9 := Or.inl ⟨by decide +kernel, ok_icmp_le dm_57_6 (by decide +kernel)⟩
set_option maxRecDepth 100000 in
theorem vv_57_9 {l : Launch} (hl : l.stackTraces = false) : cj_V1 l 57 9 (95, 2, 0, []) 12 := Or.inr (Or.inl ⟨by decide +kernel, Or.inr (vt_throw (y := ky_ 0) (X := "java/lang/IndexOutOfBoundsException") (tx := "nothing such is told about a run") (names := ["java/lang/RuntimeException", "java/lang/Exception"]) hl rfl dm_57_9 dm_57_12 dm_57_13 dm_57_15 dm_57_18 rfl wm_537 wm_538 wm_15 wm_626 xw_0 (by decide +kernel) (by decide +kernel) (by decide +kernel) (by decide +kernel))⟩)
set_option maxRecDepth 100000 in
theorem vv_57_19 {l : Launch} (hl : l.stackTraces = false) : cj_V1 l 57 19 (3, 0, 0, []) 20 := Or.inl ⟨by decide +kernel, ok_aload_n dm_57_19 rfl⟩
set_option maxRecDepth 100000 in
theorem vv_57_20 {l : Launch} (hl : l.stackTraces = false) : cj_V1 l 57 20 (50, 0, 8, []) 23 := Or.inl ⟨by decide +kernel, ok_getfield (N := 11) (C := RK_0) (T := TK_0) dm_57_20 rfl inK_0 (by decide +kernel) wm_185⟩
set_option maxRecDepth 100000 in
theorem vv_57_23 {l : Launch} (hl : l.stackTraces = false) : cj_V1 l 57 23 (32, 36, 0, []) 26 := Or.inl ⟨by decide +kernel, ok_if_ne dm_57_23 (by decide +kernel)⟩
set_option maxRecDepth 100000 in
theorem vv_57_26 {l : Launch} (hl : l.stackTraces = false) : cj_V1 l 57 26 (95, 0, 0, []) 29 := Or.inr (Or.inl ⟨by decide +kernel, Or.inr (vt_throw (y := ky_ 0) (X := "java/lang/IllegalStateException") (tx := "nothing was set") (names := ["java/lang/RuntimeException", "java/lang/Exception"]) hl rfl dm_57_26 dm_57_29 dm_57_30 dm_57_32 dm_57_35 rfl wm_416 wm_417 wm_13 wm_627 xw_1 (by decide +kernel) (by decide +kernel) (by decide +kernel) (by decide +kernel))⟩)
set_option maxRecDepth 100000 in
theorem vv_57_36 {l : Launch} (hl : l.stackTraces = false) : cj_V1 l 57 36 (3, 0, 0, []) 37 := Or.inl ⟨by decide +kernel, ok_aload_n dm_57_36 rfl⟩
set_option maxRecDepth 100000 in
theorem vv_57_37 {l : Launch} (hl : l.stackTraces = false) : cj_V1 l 57 37 (50, 0, 9, []) 40 := Or.inl ⟨by decide +kernel, ok_getfield (N := 11) (C := RK_0) (T := TK_0) dm_57_37 rfl inK_0 (by decide +kernel) wm_186⟩
set_option maxRecDepth 100000 in
theorem vv_57_40 {l : Launch} (hl : l.stackTraces = false) : cj_V1 l 57 40 (2, 1, 0, []) 41 := Or.inl ⟨by decide +kernel, ok_iload_n dm_57_40 rfl⟩
set_option maxRecDepth 100000 in
theorem vv_57_41 {l : Launch} (hl : l.stackTraces = false) : cj_V1 l 57 41 (80, 27, 2, [5]) 44 := Or.inr (Or.inr (Or.inl ⟨by decide +kernel, by decide +kernel, rfl, vc_virtual (n := 1) (q := (RK_5, TK_5, 10)) mi_27 dm_57_41 (Or.inl wm_628) wm_629 wm_630 rfl rfl (by decide +kernel) rfl (by decide +kernel) (by decide +kernel), (vx_none rfl)⟩))
set_option maxRecDepth 100000 in
theorem vv_57_44 {l : Launch} (hl : l.stackTraces = false) : cj_V1 l 57 44 (90, 0, 0, []) 45 := Or.inr (Or.inl ⟨by decide +kernel, Or.inl (Or.inl ⟨rfl, dm_57_44, rfl⟩)⟩)
set_option maxRecDepth 100000 in
theorem vm_57 {l : Launch} (hl : l.stackTraces = false) : cj_Vm l 57 := cj_Vm_of (r := kc57_) rfl ⟨vv_57_0 hl, vv_57_1 hl, vv_57_4 hl, vv_57_5 hl, vv_57_6 hl, vv_57_9 hl, vv_57_19 hl, vv_57_20 hl, vv_57_23 hl, vv_57_26 hl, vv_57_36 hl, vv_57_37 hl, vv_57_40 hl, vv_57_41 hl, vv_57_44 hl, trivial⟩
set_option maxRecDepth 100000 in
theorem vv_58_0 {l : Launch} (hl : l.stackTraces = false) : cj_V1 l 58 0 (0, 0, 0, []) 1 := Or.inl ⟨by decide +kernel, ok_iconst dm_58_0 (by decide +kernel)⟩
set_option maxRecDepth 100000 in
theorem vv_58_1 {l : Launch} (hl : l.stackTraces = false) : cj_V1 l 58 1 (4, 2, 0, []) 2 := Or.inl ⟨by decide +kernel, ok_istore_n dm_58_1 rfl⟩
set_option maxRecDepth 100000 in
theorem vv_58_2 {l : Launch} (hl : l.stackTraces = false) : cj_V1 l 58 2 (2, 2, 0, []) 3 := Or.inl ⟨by decide +kernel, ok_iload_n dm_58_2 rfl⟩
set_option maxRecDepth 100000 in
theorem vv_58_3 {l : Launch} (hl : l.stackTraces = false) : cj_V1 l 58 3 (0, 4, 0, []) 4 := Or.inl ⟨by decide +kernel, ok_iconst dm_58_3 (by decide +kernel)⟩
set_option maxRecDepth 100000 in
theorem vv_58_4 {l : Launch} (hl : l.stackTraces = false) : cj_V1 l 58 4 (40, 31, 0, []) 7 := Or.inl ⟨by decide +kernel, ok_icmp_ge dm_58_4 (by decide +kernel)⟩
set_option maxRecDepth 100000 in
theorem vv_58_7 {l : Launch} (hl : l.stackTraces = false) : cj_V1 l 58 7 (2, 1, 0, []) 8 := Or.inl ⟨by decide +kernel, ok_iload_n dm_58_7 rfl⟩
set_option maxRecDepth 100000 in
theorem vv_58_8 {l : Launch} (hl : l.stackTraces = false) : cj_V1 l 58 8 (2, 2, 0, []) 9 := Or.inl ⟨by decide +kernel, ok_iload_n dm_58_8 rfl⟩
set_option maxRecDepth 100000 in
theorem vv_58_9 {l : Launch} (hl : l.stackTraces = false) : cj_V1 l 58 9 (81, 0, 2, []) 12 := Or.inr (Or.inr (Or.inl ⟨by decide +kernel, by decide +kernel, rfl, vc_static mi_0 dm_58_9 (Or.inl wm_413) wm_414 (by decide +kernel) (by decide +kernel) (by decide +kernel), (vx_none rfl)⟩))
set_option maxRecDepth 100000 in
theorem vv_58_12 {l : Launch} (hl : l.stackTraces = false) : cj_V1 l 58 12 (4, 3, 0, []) 13 := Or.inl ⟨by decide +kernel, ok_istore_n dm_58_12 rfl⟩
set_option maxRecDepth 100000 in
theorem vv_58_13 {l : Launch} (hl : l.stackTraces = false) : cj_V1 l 58 13 (2, 3, 0, []) 14 := Or.inl ⟨by decide +kernel, ok_iload_n dm_58_13 rfl⟩
set_option maxRecDepth 100000 in
theorem vv_58_14 {l : Launch} (hl : l.stackTraces = false) : cj_V1 l 58 14 (31, 25, 0, []) 17 := Or.inl ⟨by decide +kernel, ok_if_eq dm_58_14 (by decide +kernel)⟩
set_option maxRecDepth 100000 in
theorem vv_58_17 {l : Launch} (hl : l.stackTraces = false) : cj_V1 l 58 17 (3, 0, 0, []) 18 := Or.inl ⟨by decide +kernel, ok_aload_n dm_58_17 rfl⟩
set_option maxRecDepth 100000 in
theorem vv_58_18 {l : Launch} (hl : l.stackTraces = false) : cj_V1 l 58 18 (50, 0, 1, []) 21 := Or.inl ⟨by decide +kernel, ok_getfield (N := 11) (C := RK_0) (T := TK_0) dm_58_18 rfl inK_0 (by decide +kernel) wm_178⟩
set_option maxRecDepth 100000 in
theorem vv_58_21 {l : Launch} (hl : l.stackTraces = false) : cj_V1 l 58 21 (2, 3, 0, []) 22 := Or.inl ⟨by decide +kernel, ok_iload_n dm_58_21 rfl⟩
set_option maxRecDepth 100000 in
theorem vv_58_22 {l : Launch} (hl : l.stackTraces = false) : cj_V1 l 58 22 (80, 35, 2, [6]) 25 := Or.inr (Or.inr (Or.inl ⟨by decide +kernel, by decide +kernel, rfl, vc_virtual (n := 1) (q := (RK_6, TK_6, 2)) mi_35 dm_58_22 (Or.inl wm_507) wm_279 wm_280 rfl rfl (by decide +kernel) rfl (by decide +kernel) (by decide +kernel), (vx_none rfl)⟩))
set_option maxRecDepth 100000 in
theorem vv_58_25 {l : Launch} (hl : l.stackTraces = false) : cj_V1 l 58 25 (6, 2, 1, []) 28 := Or.inl ⟨by decide +kernel, ok_iinc6 dm_58_25 (by decide +kernel)⟩
set_option maxRecDepth 100000 in
theorem vv_58_28 {l : Launch} (hl : l.stackTraces = false) : cj_V1 l 58 28 (30, 2, 0, []) 31 := Or.inl ⟨by decide +kernel, ok_goto dm_58_28 (by decide +kernel)⟩
set_option maxRecDepth 100000 in
theorem vv_58_31 {l : Launch} (hl : l.stackTraces = false) : cj_V1 l 58 31 (91, 0, 0, []) 32 := Or.inr (Or.inl ⟨by decide +kernel, Or.inl (Or.inr (Or.inl ⟨rfl, dm_58_31, rfl⟩))⟩)
set_option maxRecDepth 100000 in
theorem vm_58 {l : Launch} (hl : l.stackTraces = false) : cj_Vm l 58 := cj_Vm_of (r := kc58_) rfl ⟨vv_58_0 hl, vv_58_1 hl, vv_58_2 hl, vv_58_3 hl, vv_58_4 hl, vv_58_7 hl, vv_58_8 hl, vv_58_9 hl, vv_58_12 hl, vv_58_13 hl, vv_58_14 hl, vv_58_17 hl, vv_58_18 hl, vv_58_21 hl, vv_58_22 hl, vv_58_25 hl, vv_58_28 hl, vv_58_31 hl, trivial⟩
set_option maxRecDepth 100000 in
theorem vv_59_0 {l : Launch} (hl : l.stackTraces = false) : cj_V1 l 59 0 (3, 0, 0, []) 1 := Or.inl ⟨by decide +kernel, ok_aload_n dm_59_0 rfl⟩
set_option maxRecDepth 100000 in
theorem vv_59_1 {l : Launch} (hl : l.stackTraces = false) : cj_V1 l 59 1 (2, 1, 0, []) 2 := Or.inl ⟨by decide +kernel, ok_iload_n dm_59_1 rfl⟩
set_option maxRecDepth 100000 in
theorem vv_59_2 {l : Launch} (hl : l.stackTraces = false) : cj_V1 l 59 2 (80, 1, 2, [0]) 5 := Or.inr (Or.inr (Or.inl ⟨by decide +kernel, by decide +kernel, rfl, vc_virtual (n := 1) (q := (RK_0, TK_0, 11)) mi_1 dm_59_2 (Or.inl wm_565) wm_567 wm_p14 rfl rfl (by decide +kernel) rfl (by decide +kernel) (by decide +kernel), (vx_none rfl)⟩))
set_option maxRecDepth 100000 in
theorem vv_59_5 {l : Launch} (hl : l.stackTraces = false) : cj_V1 l 59 5 (31, 17, 0, []) 8 := Or.inl ⟨by decide +kernel, ok_if_eq dm_59_5 (by decide +kernel)⟩
set_option maxRecDepth 100000 in
theorem vv_59_8 {l : Launch} (hl : l.stackTraces = false) : cj_V1 l 59 8 (2, 2, 0, []) 9 := Or.inl ⟨by decide +kernel, ok_iload_n dm_59_8 rfl⟩
set_option maxRecDepth 100000 in
theorem vv_59_9 {l : Launch} (hl : l.stackTraces = false) : cj_V1 l 59 9 (33, 17, 0, []) 12 := Or.inl ⟨by decide +kernel, ok_if_lt dm_59_9 (by decide +kernel)⟩
set_option maxRecDepth 100000 in
theorem vv_59_12 {l : Launch} (hl : l.stackTraces = false) : cj_V1 l 59 12 (2, 2, 0, []) 13 := Or.inl ⟨by decide +kernel, ok_iload_n dm_59_12 rfl⟩
set_option maxRecDepth 100000 in
theorem vv_59_13 {l : Launch} (hl : l.stackTraces = false) : cj_V1 l 59 13 (0, 4, 0, []) 14 := Or.inl ⟨by decide +kernel, ok_iconst dm_59_13 (by decide +kernel)⟩
set_option maxRecDepth 100000 in
theorem vv_59_14 {l : Launch} (hl : l.stackTraces = false) : cj_V1 l 59 14 (39, 27, 0, []) 17 := Or.inl ⟨by decide +kernel, ok_icmp_lt dm_59_14 (by decide +kernel)⟩
set_option maxRecDepth 100000 in
theorem vv_59_17 {l : Launch} (hl : l.stackTraces = false) : cj_V1 l 59 17 (95, 2, 0, []) 20 := Or.inr (Or.inl ⟨by decide +kernel, Or.inr (vt_throw (y := ky_ 0) (X := "java/lang/IndexOutOfBoundsException") (tx := "no such entry or claim") (names := ["java/lang/RuntimeException", "java/lang/Exception"]) hl rfl dm_59_17 dm_59_20 dm_59_21 dm_59_23 dm_59_26 rfl wm_537 wm_538 wm_15 wm_585 xw_0 (by decide +kernel) (by decide +kernel) (by decide +kernel) (by decide +kernel))⟩)
set_option maxRecDepth 100000 in
theorem vv_59_27 {l : Launch} (hl : l.stackTraces = false) : cj_V1 l 59 27 (2, 3, 0, []) 28 := Or.inl ⟨by decide +kernel, ok_iload_n dm_59_27 rfl⟩
set_option maxRecDepth 100000 in
theorem vv_59_28 {l : Launch} (hl : l.stackTraces = false) : cj_V1 l 59 28 (1, 1, 0, []) 29 := Or.inl ⟨by decide +kernel, ok_iconst_m dm_59_28 (by decide +kernel)⟩
set_option maxRecDepth 100000 in
theorem vv_59_29 {l : Launch} (hl : l.stackTraces = false) : cj_V1 l 59 29 (37, 51, 0, []) 32 := Or.inl ⟨by decide +kernel, ok_icmp_eq dm_59_29 (by decide +kernel)⟩
set_option maxRecDepth 100000 in
theorem vv_59_32 {l : Launch} (hl : l.stackTraces = false) : cj_V1 l 59 32 (2, 3, 0, []) 33 := Or.inl ⟨by decide +kernel, ok_iload_n dm_59_32 rfl⟩
set_option maxRecDepth 100000 in
theorem vv_59_33 {l : Launch} (hl : l.stackTraces = false) : cj_V1 l 59 33 (31, 51, 0, []) 36 := Or.inl ⟨by decide +kernel, ok_if_eq dm_59_33 (by decide +kernel)⟩
set_option maxRecDepth 100000 in
theorem vv_59_36 {l : Launch} (hl : l.stackTraces = false) : cj_V1 l 59 36 (2, 3, 0, []) 37 := Or.inl ⟨by decide +kernel, ok_iload_n dm_59_36 rfl⟩
set_option maxRecDepth 100000 in
theorem vv_59_37 {l : Launch} (hl : l.stackTraces = false) : cj_V1 l 59 37 (0, 1, 0, []) 38 := Or.inl ⟨by decide +kernel, ok_iconst dm_59_37 (by decide +kernel)⟩
set_option maxRecDepth 100000 in
theorem vv_59_38 {l : Launch} (hl : l.stackTraces = false) : cj_V1 l 59 38 (37, 51, 0, []) 41 := Or.inl ⟨by decide +kernel, ok_icmp_eq dm_59_38 (by decide +kernel)⟩
set_option maxRecDepth 100000 in
theorem vv_59_41 {l : Launch} (hl : l.stackTraces = false) : cj_V1 l 59 41 (95, 1, 0, []) 44 := Or.inr (Or.inl ⟨by decide +kernel, Or.inr (vt_throw (y := ky_ 0) (X := "java/lang/IllegalArgumentException") (tx := "a source is 1, 0 or NONE") (names := ["java/lang/RuntimeException", "java/lang/Exception"]) hl rfl dm_59_41 dm_59_44 dm_59_45 dm_59_47 dm_59_50 rfl wm_487 wm_488 wm_14 wm_586 xw_2 (by decide +kernel) (by decide +kernel) (by decide +kernel) (by decide +kernel))⟩)
set_option maxRecDepth 100000 in
theorem vv_59_51 {l : Launch} (hl : l.stackTraces = false) : cj_V1 l 59 51 (3, 0, 0, []) 52 := Or.inl ⟨by decide +kernel, ok_aload_n dm_59_51 rfl⟩
set_option maxRecDepth 100000 in
theorem vv_59_52 {l : Launch} (hl : l.stackTraces = false) : cj_V1 l 59 52 (50, 0, 4, []) 55 := Or.inl ⟨by decide +kernel, ok_getfield (N := 11) (C := RK_0) (T := TK_0) dm_59_52 rfl inK_0 (by decide +kernel) wm_181⟩
set_option maxRecDepth 100000 in
theorem vv_59_55 {l : Launch} (hl : l.stackTraces = false) : cj_V1 l 59 55 (2, 1, 0, []) 56 := Or.inl ⟨by decide +kernel, ok_iload_n dm_59_55 rfl⟩
set_option maxRecDepth 100000 in
theorem vv_59_56 {l : Launch} (hl : l.stackTraces = false) : cj_V1 l 59 56 (54, 4, 0, []) 57 := Or.inl ⟨by decide +kernel, ok_aaload (C := "CatalogueSet$Entry") dm_59_56 rfl⟩
set_option maxRecDepth 100000 in
theorem vv_59_57 {l : Launch} (hl : l.stackTraces = false) : cj_V1 l 59 57 (2, 2, 0, []) 58 := Or.inl ⟨by decide +kernel, ok_iload_n dm_59_57 rfl⟩
set_option maxRecDepth 100000 in
theorem vv_59_58 {l : Launch} (hl : l.stackTraces = false) : cj_V1 l 59 58 (2, 3, 0, []) 59 := Or.inl ⟨by decide +kernel, ok_iload_n dm_59_58 rfl⟩
set_option maxRecDepth 100000 in
theorem vv_59_59 {l : Launch} (hl : l.stackTraces = false) : cj_V1 l 59 59 (80, 13, 3, [2]) 62 := Or.inr (Or.inr (Or.inl ⟨by decide +kernel, by decide +kernel, rfl, vc_virtual (n := 2) (q := (RK_2, TK_2, 4)) mi_13 dm_59_59 (Or.inl wm_587) wm_588 wm_589 rfl rfl (by decide +kernel) rfl (by decide +kernel) (by decide +kernel), (vx_none rfl)⟩))
set_option maxRecDepth 100000 in
theorem vv_59_62 {l : Launch} (hl : l.stackTraces = false) : cj_V1 l 59 62 (90, 0, 0, []) 63 := Or.inr (Or.inl ⟨by decide +kernel, Or.inl (Or.inl ⟨rfl, dm_59_62, rfl⟩)⟩)
set_option maxRecDepth 100000 in
theorem vm_59 {l : Launch} (hl : l.stackTraces = false) : cj_Vm l 59 := cj_Vm_of (r := kc59_) rfl ⟨vv_59_0 hl, vv_59_1 hl, vv_59_2 hl, vv_59_5 hl, vv_59_8 hl, vv_59_9 hl, vv_59_12 hl, vv_59_13 hl, vv_59_14 hl, vv_59_17 hl, vv_59_27 hl, vv_59_28 hl, vv_59_29 hl, vv_59_32 hl, vv_59_33 hl, vv_59_36 hl, vv_59_37 hl, vv_59_38 hl, vv_59_41 hl, vv_59_51 hl, vv_59_52 hl, vv_59_55 hl, vv_59_56 hl, vv_59_57 hl, vv_59_58 hl, vv_59_59 hl, vv_59_62 hl, trivial⟩
set_option maxRecDepth 100000 in
theorem vv_60_0 {l : Launch} (hl : l.stackTraces = false) : cj_V1 l 60 0 (2, 1, 0, []) 1 := Or.inl ⟨by decide +kernel, ok_iload_n dm_60_0 rfl⟩
set_option maxRecDepth 100000 in
theorem vv_60_1 {l : Launch} (hl : l.stackTraces = false) : cj_V1 l 60 1 (33, 9, 0, []) 4 := Or.inl ⟨by decide +kernel, ok_if_lt dm_60_1 (by decide +kernel)⟩
set_option maxRecDepth 100000 in
theorem vv_60_4 {l : Launch} (hl : l.stackTraces = false) : cj_V1 l 60 4 (2, 1, 0, []) 5 := Or.inl ⟨by decide +kernel, ok_iload_n dm_60_4 rfl⟩
set_option maxRecDepth 100000 in
theorem vv_60_5 {l : Launch} (hl : l.stackTraces = false) : cj_V1 l 60 5 (0, 2, 0, []) 6 := Or.inl ⟨by decide +kernel, ok_iconst dm_60_5 (by decide +kernel)⟩
set_option maxRecDepth 100000 in
theorem vv_60_6 {l : Launch} (hl : l.stackTraces = false) : cj_V1 l 60 6 (42, 19, 0, []) 9 := Or.inl ⟨by decide +kernel, ok_icmp_le dm_60_6 (by decide +kernel)⟩
set_option maxRecDepth 100000 in
theorem vv_60_9 {l : Launch} (hl : l.stackTraces = false) : cj_V1 l 60 9 (95, 2, 0, []) 12 := Or.inr (Or.inl ⟨by decide +kernel, Or.inr (vt_throw (y := ky_ 0) (X := "java/lang/IndexOutOfBoundsException") (tx := "nothing such is counted") (names := ["java/lang/RuntimeException", "java/lang/Exception"]) hl rfl dm_60_9 dm_60_12 dm_60_13 dm_60_15 dm_60_18 rfl wm_537 wm_538 wm_15 wm_726 xw_0 (by decide +kernel) (by decide +kernel) (by decide +kernel) (by decide +kernel))⟩)
set_option maxRecDepth 100000 in
theorem vv_60_19 {l : Launch} (hl : l.stackTraces = false) : cj_V1 l 60 19 (2, 1, 0, []) 20 := Or.inl ⟨by decide +kernel, ok_iload_n dm_60_19 rfl⟩
set_option maxRecDepth 100000 in
theorem vv_60_20 {l : Launch} (hl : l.stackTraces = false) : cj_V1 l 60 20 (32, 31, 0, []) 23 := Or.inl ⟨by decide +kernel, ok_if_ne dm_60_20 (by decide +kernel)⟩
set_option maxRecDepth 100000 in
theorem vv_60_23 {l : Launch} (hl : l.stackTraces = false) : cj_V1 l 60 23 (3, 0, 0, []) 24 := Or.inl ⟨by decide +kernel, ok_aload_n dm_60_23 rfl⟩
set_option maxRecDepth 100000 in
theorem vv_60_24 {l : Launch} (hl : l.stackTraces = false) : cj_V1 l 60 24 (50, 0, 1, []) 27 := Or.inl ⟨by decide +kernel, ok_getfield (N := 11) (C := RK_0) (T := TK_0) dm_60_24 rfl inK_0 (by decide +kernel) wm_178⟩
set_option maxRecDepth 100000 in
theorem vv_60_27 {l : Launch} (hl : l.stackTraces = false) : cj_V1 l 60 27 (80, 39, 1, [6]) 30 := Or.inr (Or.inr (Or.inl ⟨by decide +kernel, by decide +kernel, rfl, vc_virtual (n := 0) (q := (RK_6, TK_6, 2)) mi_39 dm_60_27 (Or.inl wm_409) wm_249 wm_250 rfl rfl (by decide +kernel) rfl (by decide +kernel) (by decide +kernel), (vx_none rfl)⟩))
set_option maxRecDepth 100000 in
theorem vv_60_30 {l : Launch} (hl : l.stackTraces = false) : cj_V1 l 60 30 (90, 0, 0, []) 31 := Or.inr (Or.inl ⟨by decide +kernel, Or.inl (Or.inl ⟨rfl, dm_60_30, rfl⟩)⟩)
set_option maxRecDepth 100000 in
theorem vv_60_31 {l : Launch} (hl : l.stackTraces = false) : cj_V1 l 60 31 (2, 1, 0, []) 32 := Or.inl ⟨by decide +kernel, ok_iload_n dm_60_31 rfl⟩
set_option maxRecDepth 100000 in
theorem vv_60_32 {l : Launch} (hl : l.stackTraces = false) : cj_V1 l 60 32 (0, 1, 0, []) 33 := Or.inl ⟨by decide +kernel, ok_iconst dm_60_32 (by decide +kernel)⟩
set_option maxRecDepth 100000 in
theorem vv_60_33 {l : Launch} (hl : l.stackTraces = false) : cj_V1 l 60 33 (38, 43, 0, []) 36 := Or.inl ⟨by decide +kernel, ok_icmp_ne dm_60_33 (by decide +kernel)⟩
set_option maxRecDepth 100000 in
theorem vv_60_36 {l : Launch} (hl : l.stackTraces = false) : cj_V1 l 60 36 (3, 0, 0, []) 37 := Or.inl ⟨by decide +kernel, ok_aload_n dm_60_36 rfl⟩
set_option maxRecDepth 100000 in
theorem vv_60_37 {l : Launch} (hl : l.stackTraces = false) : cj_V1 l 60 37 (50, 0, 6, []) 40 := Or.inl ⟨by decide +kernel, ok_getfield (N := 11) (C := RK_0) (T := TK_0) dm_60_37 rfl inK_0 (by decide +kernel) wm_183⟩
set_option maxRecDepth 100000 in
theorem vv_60_40 {l : Launch} (hl : l.stackTraces = false) : cj_V1 l 60 40 (30, 47, 0, []) 43 := Or.inl ⟨by decide +kernel, ok_goto dm_60_40 (by decide +kernel)⟩
set_option maxRecDepth 100000 in
theorem vv_60_43 {l : Launch} (hl : l.stackTraces = false) : cj_V1 l 60 43 (3, 0, 0, []) 44 := Or.inl ⟨by decide +kernel, ok_aload_n dm_60_43 rfl⟩
set_option maxRecDepth 100000 in
theorem vv_60_44 {l : Launch} (hl : l.stackTraces = false) : cj_V1 l 60 44 (50, 0, 7, []) 47 := Or.inl ⟨by decide +kernel, ok_getfield (N := 11) (C := RK_0) (T := TK_0) dm_60_44 rfl inK_0 (by decide +kernel) wm_184⟩
set_option maxRecDepth 100000 in
theorem vv_60_47 {l : Launch} (hl : l.stackTraces = false) : cj_V1 l 60 47 (90, 0, 0, []) 48 := Or.inr (Or.inl ⟨by decide +kernel, Or.inl (Or.inl ⟨rfl, dm_60_47, rfl⟩)⟩)
set_option maxRecDepth 100000 in
theorem vm_60 {l : Launch} (hl : l.stackTraces = false) : cj_Vm l 60 := cj_Vm_of (r := kc60_) rfl ⟨vv_60_0 hl, vv_60_1 hl, vv_60_4 hl, vv_60_5 hl, vv_60_6 hl, vv_60_9 hl, vv_60_19 hl, vv_60_20 hl, vv_60_23 hl, vv_60_24 hl, vv_60_27 hl, vv_60_30 hl, vv_60_31 hl, vv_60_32 hl, vv_60_33 hl, vv_60_36 hl, vv_60_37 hl, vv_60_40 hl, vv_60_43 hl, vv_60_44 hl, vv_60_47 hl, trivial⟩
