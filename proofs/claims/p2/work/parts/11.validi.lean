set_option maxRecDepth 100000 in
theorem vv_143_0 {l : Launch} (hl : l.stackTraces = false) : cj_V1 l 143 0 (0, 0, 0, []) 1 := Or.inl ⟨by decide +kernel, ok_iconst dm_143_0 (by decide +kernel)⟩
set_option maxRecDepth 100000 in
theorem vv_143_1 {l : Launch} (hl : l.stackTraces = false) : cj_V1 l 143 1 (4, 4, 0, []) 3 := Or.inl ⟨by decide +kernel, ok_istore dm_143_1⟩
set_option maxRecDepth 100000 in
theorem vv_143_3 {l : Launch} (hl : l.stackTraces = false) : cj_V1 l 143 3 (2, 4, 0, []) 5 := Or.inl ⟨by decide +kernel, ok_iload dm_143_3⟩
set_option maxRecDepth 100000 in
theorem vv_143_5 {l : Launch} (hl : l.stackTraces = false) : cj_V1 l 143 5 (0, 8, 0, []) 7 := Or.inl ⟨by decide +kernel, ok_bipush dm_143_5 (by decide +kernel)⟩
set_option maxRecDepth 100000 in
theorem vv_143_7 {l : Launch} (hl : l.stackTraces = false) : cj_V1 l 143 7 (40, 24, 0, []) 10 := Or.inl ⟨by decide +kernel, ok_icmp_ge dm_143_7 (by decide +kernel)⟩
set_option maxRecDepth 100000 in
theorem vv_143_10 {l : Launch} (hl : l.stackTraces = false) : cj_V1 l 143 10 (3, 0, 0, []) 11 := Or.inl ⟨by decide +kernel, ok_aload_n dm_143_10 rfl⟩
set_option maxRecDepth 100000 in
theorem vv_143_11 {l : Launch} (hl : l.stackTraces = false) : cj_V1 l 143 11 (50, 4, 4, []) 14 := Or.inl ⟨by decide +kernel, ok_getfield (N := 5) (C := RK_4) (T := TK_4) dm_143_11 rfl inK_4 (by decide +kernel) wm_106⟩
set_option maxRecDepth 100000 in
theorem vv_143_14 {l : Launch} (hl : l.stackTraces = false) : cj_V1 l 143 14 (2, 4, 0, []) 16 := Or.inl ⟨by decide +kernel, ok_iload dm_143_14⟩
set_option maxRecDepth 100000 in
theorem vv_143_16 {l : Launch} (hl : l.stackTraces = false) : cj_V1 l 143 16 (0, 0, 0, []) 17 := Or.inl ⟨by decide +kernel, ok_iconst dm_143_16 (by decide +kernel)⟩
set_option maxRecDepth 100000 in
theorem vv_143_17 {l : Launch} (hl : l.stackTraces = false) : cj_V1 l 143 17 (56, 0, 0, []) 18 := Or.inl ⟨by decide +kernel, ok_iastore dm_143_17 rfl⟩
set_option maxRecDepth 100000 in
theorem vv_143_18 {l : Launch} (hl : l.stackTraces = false) : cj_V1 l 143 18 (6, 4, 1, []) 21 := Or.inl ⟨by decide +kernel, ok_iinc6 dm_143_18 (by decide +kernel)⟩
set_option maxRecDepth 100000 in
theorem vv_143_21 {l : Launch} (hl : l.stackTraces = false) : cj_V1 l 143 21 (30, 3, 0, []) 24 := Or.inl ⟨by decide +kernel, ok_goto dm_143_21 (by decide +kernel)⟩
set_option maxRecDepth 100000 in
theorem vv_143_24 {l : Launch} (hl : l.stackTraces = false) : cj_V1 l 143 24 (0, 1, 0, []) 25 := Or.inl ⟨by decide +kernel, ok_iconst dm_143_24 (by decide +kernel)⟩
set_option maxRecDepth 100000 in
theorem vv_143_25 {l : Launch} (hl : l.stackTraces = false) : cj_V1 l 143 25 (4, 4, 0, []) 27 := Or.inl ⟨by decide +kernel, ok_istore dm_143_25⟩
set_option maxRecDepth 100000 in
theorem vv_143_27 {l : Launch} (hl : l.stackTraces = false) : cj_V1 l 143 27 (2, 4, 0, []) 29 := Or.inl ⟨by decide +kernel, ok_iload dm_143_27⟩
set_option maxRecDepth 100000 in
theorem vv_143_29 {l : Launch} (hl : l.stackTraces = false) : cj_V1 l 143 29 (0, 5, 0, []) 30 := Or.inl ⟨by decide +kernel, ok_iconst dm_143_29 (by decide +kernel)⟩
set_option maxRecDepth 100000 in
theorem vv_143_30 {l : Launch} (hl : l.stackTraces = false) : cj_V1 l 143 30 (41, 97, 0, []) 33 := Or.inl ⟨by decide +kernel, ok_icmp_gt dm_143_30 (by decide +kernel)⟩
set_option maxRecDepth 100000 in
theorem vv_143_33 {l : Launch} (hl : l.stackTraces = false) : cj_V1 l 143 33 (3, 3, 0, []) 34 := Or.inl ⟨by decide +kernel, ok_aload_n dm_143_33 rfl⟩
set_option maxRecDepth 100000 in
theorem vv_143_34 {l : Launch} (hl : l.stackTraces = false) : cj_V1 l 143 34 (2, 2, 0, []) 35 := Or.inl ⟨by decide +kernel, ok_iload_n dm_143_34 rfl⟩
set_option maxRecDepth 100000 in
theorem vv_143_35 {l : Launch} (hl : l.stackTraces = false) : cj_V1 l 143 35 (2, 4, 0, []) 37 := Or.inl ⟨by decide +kernel, ok_iload dm_143_35⟩
set_option maxRecDepth 100000 in
theorem vv_143_37 {l : Launch} (hl : l.stackTraces = false) : cj_V1 l 143 37 (80, 32, 3, [5]) 40 := Or.inr (Or.inr (Or.inl ⟨by decide +kernel, by decide +kernel, rfl, vc_virtual (n := 2) (q := (RK_5, TK_5, 10)) mi_32 dm_143_37 (Or.inl wm_227) wm_228 wm_229 rfl rfl (by decide +kernel) rfl (by decide +kernel) (by decide +kernel), (vx_none rfl)⟩))
set_option maxRecDepth 100000 in
theorem vv_143_40 {l : Launch} (hl : l.stackTraces = false) : cj_V1 l 143 40 (3, 0, 0, []) 41 := Or.inl ⟨by decide +kernel, ok_aload_n dm_143_40 rfl⟩
set_option maxRecDepth 100000 in
theorem vv_143_41 {l : Launch} (hl : l.stackTraces = false) : cj_V1 l 143 41 (3, 1, 0, []) 42 := Or.inl ⟨by decide +kernel, ok_aload_n dm_143_41 rfl⟩
set_option maxRecDepth 100000 in
theorem vv_143_42 {l : Launch} (hl : l.stackTraces = false) : cj_V1 l 143 42 (2, 2, 0, []) 43 := Or.inl ⟨by decide +kernel, ok_iload_n dm_143_42 rfl⟩
set_option maxRecDepth 100000 in
theorem vv_143_43 {l : Launch} (hl : l.stackTraces = false) : cj_V1 l 143 43 (3, 3, 0, []) 44 := Or.inl ⟨by decide +kernel, ok_aload_n dm_143_43 rfl⟩
set_option maxRecDepth 100000 in
theorem vv_143_44 {l : Launch} (hl : l.stackTraces = false) : cj_V1 l 143 44 (80, 138, 4, [4]) 47 := Or.inr (Or.inr (Or.inl ⟨by decide +kernel, by decide +kernel, rfl, vc_virtual (n := 3) (q := (RK_4, TK_4, 5)) mi_138 dm_143_44 (Or.inl wm_232) wm_234 wm_p1 rfl rfl (by decide +kernel) rfl (by decide +kernel) (by decide +kernel), (vx_none rfl)⟩))
set_option maxRecDepth 100000 in
theorem vv_143_47 {l : Launch} (hl : l.stackTraces = false) : cj_V1 l 143 47 (4, 5, 0, []) 49 := Or.inl ⟨by decide +kernel, ok_istore dm_143_47⟩
set_option maxRecDepth 100000 in
theorem vv_143_49 {l : Launch} (hl : l.stackTraces = false) : cj_V1 l 143 49 (2, 5, 0, []) 51 := Or.inl ⟨by decide +kernel, ok_iload dm_143_49⟩
set_option maxRecDepth 100000 in
theorem vv_143_51 {l : Launch} (hl : l.stackTraces = false) : cj_V1 l 143 51 (1, 1, 0, []) 52 := Or.inl ⟨by decide +kernel, ok_iconst_m dm_143_51 (by decide +kernel)⟩
set_option maxRecDepth 100000 in
theorem vv_143_52 {l : Launch} (hl : l.stackTraces = false) : cj_V1 l 143 52 (37, 58, 0, []) 55 := Or.inl ⟨by decide +kernel, ok_icmp_eq dm_143_52 (by decide +kernel)⟩
set_option maxRecDepth 100000 in
theorem vv_143_55 {l : Launch} (hl : l.stackTraces = false) : cj_V1 l 143 55 (2, 5, 0, []) 57 := Or.inl ⟨by decide +kernel, ok_iload dm_143_55⟩
set_option maxRecDepth 100000 in
theorem vv_143_57 {l : Launch} (hl : l.stackTraces = false) : cj_V1 l 143 57 (90, 0, 0, []) 58 := Or.inr (Or.inl ⟨by decide +kernel, Or.inl (Or.inl ⟨rfl, dm_143_57, rfl⟩)⟩)
set_option maxRecDepth 100000 in
theorem vv_143_58 {l : Launch} (hl : l.stackTraces = false) : cj_V1 l 143 58 (3, 3, 0, []) 59 := Or.inl ⟨by decide +kernel, ok_aload_n dm_143_58 rfl⟩
set_option maxRecDepth 100000 in
theorem vv_143_59 {l : Launch} (hl : l.stackTraces = false) : cj_V1 l 143 59 (3, 0, 0, []) 60 := Or.inl ⟨by decide +kernel, ok_aload_n dm_143_59 rfl⟩
set_option maxRecDepth 100000 in
theorem vv_143_60 {l : Launch} (hl : l.stackTraces = false) : cj_V1 l 143 60 (50, 4, 1, []) 63 := Or.inl ⟨by decide +kernel, ok_getfield (N := 5) (C := RK_4) (T := TK_4) dm_143_60 rfl inK_4 (by decide +kernel) wm_103⟩
set_option maxRecDepth 100000 in
theorem vv_143_63 {l : Launch} (hl : l.stackTraces = false) : cj_V1 l 143 63 (3, 0, 0, []) 64 := Or.inl ⟨by decide +kernel, ok_aload_n dm_143_63 rfl⟩
set_option maxRecDepth 100000 in
theorem vv_143_64 {l : Launch} (hl : l.stackTraces = false) : cj_V1 l 143 64 (50, 4, 3, []) 67 := Or.inl ⟨by decide +kernel, ok_getfield (N := 5) (C := RK_4) (T := TK_4) dm_143_64 rfl inK_4 (by decide +kernel) wm_105⟩
set_option maxRecDepth 100000 in
theorem vv_143_67 {l : Launch} (hl : l.stackTraces = false) : cj_V1 l 143 67 (80, 131, 3, [5]) 70 := Or.inr (Or.inr (Or.inl ⟨by decide +kernel, by decide +kernel, rfl, vc_virtual (n := 2) (q := (RK_5, TK_5, 10)) mi_131 dm_143_67 (Or.inl wm_357) wm_358 wm_359 rfl rfl (by decide +kernel) rfl (by decide +kernel) (by decide +kernel), (vx_none rfl)⟩))
set_option maxRecDepth 100000 in
theorem vv_143_70 {l : Launch} (hl : l.stackTraces = false) : cj_V1 l 143 70 (3, 3, 0, []) 71 := Or.inl ⟨by decide +kernel, ok_aload_n dm_143_70 rfl⟩
set_option maxRecDepth 100000 in
theorem vv_143_71 {l : Launch} (hl : l.stackTraces = false) : cj_V1 l 143 71 (3, 0, 0, []) 72 := Or.inl ⟨by decide +kernel, ok_aload_n dm_143_71 rfl⟩
set_option maxRecDepth 100000 in
theorem vv_143_72 {l : Launch} (hl : l.stackTraces = false) : cj_V1 l 143 72 (50, 4, 4, []) 75 := Or.inl ⟨by decide +kernel, ok_getfield (N := 5) (C := RK_4) (T := TK_4) dm_143_72 rfl inK_4 (by decide +kernel) wm_106⟩
set_option maxRecDepth 100000 in
theorem vv_143_75 {l : Launch} (hl : l.stackTraces = false) : cj_V1 l 143 75 (80, 31, 2, [5]) 78 := Or.inr (Or.inr (Or.inl ⟨by decide +kernel, by decide +kernel, rfl, vc_virtual (n := 1) (q := (RK_5, TK_5, 10)) mi_31 dm_143_75 (Or.inl wm_385) wm_386 wm_387 rfl rfl (by decide +kernel) rfl (by decide +kernel) (by decide +kernel), (vx_none rfl)⟩))
set_option maxRecDepth 100000 in
theorem vv_143_78 {l : Launch} (hl : l.stackTraces = false) : cj_V1 l 143 78 (31, 83, 0, []) 81 := Or.inl ⟨by decide +kernel, ok_if_eq dm_143_78 (by decide +kernel)⟩
set_option maxRecDepth 100000 in
theorem vv_143_81 {l : Launch} (hl : l.stackTraces = false) : cj_V1 l 143 81 (1, 1, 0, []) 82 := Or.inl ⟨by decide +kernel, ok_iconst_m dm_143_81 (by decide +kernel)⟩
set_option maxRecDepth 100000 in
theorem vv_143_82 {l : Launch} (hl : l.stackTraces = false) : cj_V1 l 143 82 (90, 0, 0, []) 83 := Or.inr (Or.inl ⟨by decide +kernel, Or.inl (Or.inl ⟨rfl, dm_143_82, rfl⟩)⟩)
set_option maxRecDepth 100000 in
theorem vv_143_83 {l : Launch} (hl : l.stackTraces = false) : cj_V1 l 143 83 (3, 3, 0, []) 84 := Or.inl ⟨by decide +kernel, ok_aload_n dm_143_83 rfl⟩
set_option maxRecDepth 100000 in
theorem vv_143_84 {l : Launch} (hl : l.stackTraces = false) : cj_V1 l 143 84 (3, 0, 0, []) 85 := Or.inl ⟨by decide +kernel, ok_aload_n dm_143_84 rfl⟩
set_option maxRecDepth 100000 in
theorem vv_143_85 {l : Launch} (hl : l.stackTraces = false) : cj_V1 l 143 85 (50, 4, 4, []) 88 := Or.inl ⟨by decide +kernel, ok_getfield (N := 5) (C := RK_4) (T := TK_4) dm_143_85 rfl inK_4 (by decide +kernel) wm_106⟩
set_option maxRecDepth 100000 in
theorem vv_143_88 {l : Launch} (hl : l.stackTraces = false) : cj_V1 l 143 88 (80, 33, 2, [5]) 91 := Or.inr (Or.inr (Or.inl ⟨by decide +kernel, by decide +kernel, rfl, vc_virtual (n := 1) (q := (RK_5, TK_5, 10)) mi_33 dm_143_88 (Or.inl wm_389) wm_390 wm_391 rfl rfl (by decide +kernel) rfl (by decide +kernel) (by decide +kernel), (vx_none rfl)⟩))
set_option maxRecDepth 100000 in
theorem vv_143_91 {l : Launch} (hl : l.stackTraces = false) : cj_V1 l 143 91 (6, 4, 1, []) 94 := Or.inl ⟨by decide +kernel, ok_iinc6 dm_143_91 (by decide +kernel)⟩
set_option maxRecDepth 100000 in
theorem vv_143_94 {l : Launch} (hl : l.stackTraces = false) : cj_V1 l 143 94 (30, 27, 0, []) 97 := Or.inl ⟨by decide +kernel, ok_goto dm_143_94 (by decide +kernel)⟩
set_option maxRecDepth 100000 in
theorem vv_143_97 {l : Launch} (hl : l.stackTraces = false) : cj_V1 l 143 97 (1, 1, 0, []) 98 := Or.inl ⟨by decide +kernel, ok_iconst_m dm_143_97 (by decide +kernel)⟩
set_option maxRecDepth 100000 in
theorem vv_143_98 {l : Launch} (hl : l.stackTraces = false) : cj_V1 l 143 98 (90, 0, 0, []) 99 := Or.inr (Or.inl ⟨by decide +kernel, Or.inl (Or.inl ⟨rfl, dm_143_98, rfl⟩)⟩)
set_option maxRecDepth 100000 in
theorem vm_143 {l : Launch} (hl : l.stackTraces = false) : cj_Vm l 143 := cj_Vm_of (r := kc143_) rfl ⟨vv_143_0 hl, vv_143_1 hl, vv_143_3 hl, vv_143_5 hl, vv_143_7 hl, vv_143_10 hl, vv_143_11 hl, vv_143_14 hl, vv_143_16 hl, vv_143_17 hl, vv_143_18 hl, vv_143_21 hl, vv_143_24 hl, vv_143_25 hl, vv_143_27 hl, vv_143_29 hl, vv_143_30 hl, vv_143_33 hl, vv_143_34 hl, vv_143_35 hl, vv_143_37 hl, vv_143_40 hl, vv_143_41 hl, vv_143_42 hl, vv_143_43 hl, vv_143_44 hl, vv_143_47 hl, vv_143_49 hl, vv_143_51 hl, vv_143_52 hl, vv_143_55 hl, vv_143_57 hl, vv_143_58 hl, vv_143_59 hl, vv_143_60 hl, vv_143_63 hl, vv_143_64 hl, vv_143_67 hl, vv_143_70 hl, vv_143_71 hl, vv_143_72 hl, vv_143_75 hl, vv_143_78 hl, vv_143_81 hl, vv_143_82 hl, vv_143_83 hl, vv_143_84 hl, vv_143_85 hl, vv_143_88 hl, vv_143_91 hl, vv_143_94 hl, vv_143_97 hl, vv_143_98 hl, trivial⟩
set_option maxRecDepth 100000 in
theorem vv_144_0 {l : Launch} (hl : l.stackTraces = false) : cj_V1 l 144 0 (3, 3, 0, []) 1 := Or.inl ⟨by decide +kernel, ok_aload_n dm_144_0 rfl⟩
set_option maxRecDepth 100000 in
theorem vv_144_1 {l : Launch} (hl : l.stackTraces = false) : cj_V1 l 144 1 (0, 0, 0, []) 2 := Or.inl ⟨by decide +kernel, ok_iconst dm_144_1 (by decide +kernel)⟩
set_option maxRecDepth 100000 in
theorem vv_144_2 {l : Launch} (hl : l.stackTraces = false) : cj_V1 l 144 2 (3, 0, 0, []) 3 := Or.inl ⟨by decide +kernel, ok_aload_n dm_144_2 rfl⟩
set_option maxRecDepth 100000 in
theorem vv_144_3 {l : Launch} (hl : l.stackTraces = false) : cj_V1 l 144 3 (2, 1, 0, []) 4 := Or.inl ⟨by decide +kernel, ok_iload_n dm_144_3 rfl⟩
set_option maxRecDepth 100000 in
theorem vv_144_4 {l : Launch} (hl : l.stackTraces = false) : cj_V1 l 144 4 (2, 2, 0, []) 5 := Or.inl ⟨by decide +kernel, ok_iload_n dm_144_4 rfl⟩
set_option maxRecDepth 100000 in
theorem vv_144_5 {l : Launch} (hl : l.stackTraces = false) : cj_V1 l 144 5 (80, 137, 3, [0]) 8 := Or.inr (Or.inr (Or.inl ⟨by decide +kernel, by decide +kernel, rfl, vc_virtual (n := 2) (q := (RK_0, TK_0, 11)) mi_137 dm_144_5 (Or.inl wm_702) wm_703 wm_704 rfl rfl (by decide +kernel) rfl (by decide +kernel) (by decide +kernel), (vx_some rfl ⟨⟨rfl, rfl, wm_532, wm_539, (by decide +kernel), (by decide +kernel), (Or.inl ⟨dm_144_13, rfl⟩)⟩, trivial⟩ (by decide +kernel) (vc_virtual (n := 2) (q := (RK_0, TK_0, 11)) mi_137 dm_144_5 (Or.inl wm_702) wm_703 wm_704 rfl rfl (by decide +kernel) rfl (by decide +kernel) (by decide +kernel)))⟩))
set_option maxRecDepth 100000 in
theorem vv_144_8 {l : Launch} (hl : l.stackTraces = false) : cj_V1 l 144 8 (23, 0, 0, []) 9 := Or.inl ⟨by decide +kernel, ok_i2l dm_144_8⟩
set_option maxRecDepth 100000 in
theorem vv_144_9 {l : Launch} (hl : l.stackTraces = false) : cj_V1 l 144 9 (59, 2, 0, []) 10 := Or.inl ⟨by decide +kernel, ok_lastore dm_144_9 rfl⟩
set_option maxRecDepth 100000 in
theorem vv_144_10 {l : Launch} (hl : l.stackTraces = false) : cj_V1 l 144 10 (30, 17, 0, []) 13 := Or.inl ⟨by decide +kernel, ok_goto dm_144_10 (by decide +kernel)⟩
set_option maxRecDepth 100000 in
theorem vv_144_13 {l : Launch} (hl : l.stackTraces = false) : cj_V1 l 144 13 (5, 4, 0, []) 15 := Or.inl ⟨by decide +kernel, ok_astore dm_144_13⟩
set_option maxRecDepth 100000 in
theorem vv_144_15 {l : Launch} (hl : l.stackTraces = false) : cj_V1 l 144 15 (0, 1, 0, []) 16 := Or.inl ⟨by decide +kernel, ok_iconst dm_144_15 (by decide +kernel)⟩
set_option maxRecDepth 100000 in
theorem vv_144_16 {l : Launch} (hl : l.stackTraces = false) : cj_V1 l 144 16 (90, 0, 0, []) 17 := Or.inr (Or.inl ⟨by decide +kernel, Or.inl (Or.inl ⟨rfl, dm_144_16, rfl⟩)⟩)
set_option maxRecDepth 100000 in
theorem vv_144_17 {l : Launch} (hl : l.stackTraces = false) : cj_V1 l 144 17 (0, 0, 0, []) 18 := Or.inl ⟨by decide +kernel, ok_iconst dm_144_17 (by decide +kernel)⟩
set_option maxRecDepth 100000 in
theorem vv_144_18 {l : Launch} (hl : l.stackTraces = false) : cj_V1 l 144 18 (90, 0, 0, []) 19 := Or.inr (Or.inl ⟨by decide +kernel, Or.inl (Or.inl ⟨rfl, dm_144_18, rfl⟩)⟩)
set_option maxRecDepth 100000 in
theorem vm_144 {l : Launch} (hl : l.stackTraces = false) : cj_Vm l 144 := cj_Vm_of (r := kc144_) rfl ⟨vv_144_0 hl, vv_144_1 hl, vv_144_2 hl, vv_144_3 hl, vv_144_4 hl, vv_144_5 hl, vv_144_8 hl, vv_144_9 hl, vv_144_10 hl, vv_144_13 hl, vv_144_15 hl, vv_144_16 hl, vv_144_17 hl, vv_144_18 hl, trivial⟩
set_option maxRecDepth 100000 in
theorem vv_145_0 {l : Launch} (hl : l.stackTraces = false) : cj_V1 l 145 0 (3, 0, 0, []) 1 := Or.inl ⟨by decide +kernel, ok_aload_n dm_145_0 rfl⟩
set_option maxRecDepth 100000 in
theorem vv_145_1 {l : Launch} (hl : l.stackTraces = false) : cj_V1 l 145 1 (80, 62, 1, [0]) 4 := Or.inr (Or.inr (Or.inl ⟨by decide +kernel, by decide +kernel, rfl, vc_virtual (n := 0) (q := (RK_0, TK_0, 11)) mi_62 dm_145_1 (Or.inl wm_215) wm_217 wm_p0 rfl rfl (by decide +kernel) rfl (by decide +kernel) (by decide +kernel), (vx_none rfl)⟩))
set_option maxRecDepth 100000 in
theorem vv_145_4 {l : Launch} (hl : l.stackTraces = false) : cj_V1 l 145 4 (4, 1, 0, []) 5 := Or.inl ⟨by decide +kernel, ok_istore_n dm_145_4 rfl⟩
set_option maxRecDepth 100000 in
theorem vv_145_5 {l : Launch} (hl : l.stackTraces = false) : cj_V1 l 145 5 (2, 1, 0, []) 6 := Or.inl ⟨by decide +kernel, ok_iload_n dm_145_5 rfl⟩
set_option maxRecDepth 100000 in
theorem vv_145_6 {l : Launch} (hl : l.stackTraces = false) : cj_V1 l 145 6 (1, 1, 0, []) 7 := Or.inl ⟨by decide +kernel, ok_iconst_m dm_145_6 (by decide +kernel)⟩
set_option maxRecDepth 100000 in
theorem vv_145_7 {l : Launch} (hl : l.stackTraces = false) : cj_V1 l 145 7 (37, 14, 0, []) 10 := Or.inl ⟨by decide +kernel, ok_icmp_eq dm_145_7 (by decide +kernel)⟩
set_option maxRecDepth 100000 in
theorem vv_145_10 {l : Launch} (hl : l.stackTraces = false) : cj_V1 l 145 10 (1, 1, 0, []) 11 := Or.inl ⟨by decide +kernel, ok_iconst_m dm_145_10 (by decide +kernel)⟩
set_option maxRecDepth 100000 in
theorem vv_145_11 {l : Launch} (hl : l.stackTraces = false) : cj_V1 l 145 11 (2, 1, 0, []) 12 := Or.inl ⟨by decide +kernel, ok_iload_n dm_145_11 rfl⟩
set_option maxRecDepth 100000 in
theorem vv_145_12 {l : Launch} (hl : l.stackTraces = false) : cj_V1 l 145 12 (11, 0, 0, []) 13 := Or.inl ⟨by decide +kernel, ok_isub dm_145_12⟩
set_option maxRecDepth 100000 in
theorem vv_145_13 {l : Launch} (hl : l.stackTraces = false) : cj_V1 l 145 13 (90, 0, 0, []) 14 := Or.inr (Or.inl ⟨by decide +kernel, Or.inl (Or.inl ⟨rfl, dm_145_13, rfl⟩)⟩)
set_option maxRecDepth 100000 in
theorem vv_145_14 {l : Launch} (hl : l.stackTraces = false) : cj_V1 l 145 14 (3, 0, 0, []) 15 := Or.inl ⟨by decide +kernel, ok_aload_n dm_145_14 rfl⟩
set_option maxRecDepth 100000 in
theorem vv_145_15 {l : Launch} (hl : l.stackTraces = false) : cj_V1 l 145 15 (50, 0, 5, []) 18 := Or.inl ⟨by decide +kernel, ok_getfield (N := 11) (C := RK_0) (T := TK_0) dm_145_15 rfl inK_0 (by decide +kernel) wm_182⟩
set_option maxRecDepth 100000 in
theorem vv_145_18 {l : Launch} (hl : l.stackTraces = false) : cj_V1 l 145 18 (3, 0, 0, []) 19 := Or.inl ⟨by decide +kernel, ok_aload_n dm_145_18 rfl⟩
set_option maxRecDepth 100000 in
theorem vv_145_19 {l : Launch} (hl : l.stackTraces = false) : cj_V1 l 145 19 (50, 0, 4, []) 22 := Or.inl ⟨by decide +kernel, ok_getfield (N := 11) (C := RK_0) (T := TK_0) dm_145_19 rfl inK_0 (by decide +kernel) wm_181⟩
set_option maxRecDepth 100000 in
theorem vv_145_22 {l : Launch} (hl : l.stackTraces = false) : cj_V1 l 145 22 (3, 0, 0, []) 23 := Or.inl ⟨by decide +kernel, ok_aload_n dm_145_22 rfl⟩
set_option maxRecDepth 100000 in
theorem vv_145_23 {l : Launch} (hl : l.stackTraces = false) : cj_V1 l 145 23 (50, 0, 7, []) 26 := Or.inl ⟨by decide +kernel, ok_getfield (N := 11) (C := RK_0) (T := TK_0) dm_145_23 rfl inK_0 (by decide +kernel) wm_184⟩
set_option maxRecDepth 100000 in
theorem vv_145_26 {l : Launch} (hl : l.stackTraces = false) : cj_V1 l 145 26 (3, 0, 0, []) 27 := Or.inl ⟨by decide +kernel, ok_aload_n dm_145_26 rfl⟩
set_option maxRecDepth 100000 in
theorem vv_145_27 {l : Launch} (hl : l.stackTraces = false) : cj_V1 l 145 27 (50, 0, 10, []) 30 := Or.inl ⟨by decide +kernel, ok_getfield (N := 11) (C := RK_0) (T := TK_0) dm_145_27 rfl inK_0 (by decide +kernel) wm_187⟩
set_option maxRecDepth 100000 in
theorem vv_145_30 {l : Launch} (hl : l.stackTraces = false) : cj_V1 l 145 30 (80, 143, 4, [4]) 33 := Or.inr (Or.inr (Or.inl ⟨by decide +kernel, by decide +kernel, rfl, vc_virtual (n := 3) (q := (RK_4, TK_4, 5)) mi_143 dm_145_30 (Or.inl wm_223) wm_224 wm_225 rfl rfl (by decide +kernel) rfl (by decide +kernel) (by decide +kernel), (vx_none rfl)⟩))
set_option maxRecDepth 100000 in
theorem vv_145_33 {l : Launch} (hl : l.stackTraces = false) : cj_V1 l 145 33 (4, 2, 0, []) 34 := Or.inl ⟨by decide +kernel, ok_istore_n dm_145_33 rfl⟩
set_option maxRecDepth 100000 in
theorem vv_145_34 {l : Launch} (hl : l.stackTraces = false) : cj_V1 l 145 34 (2, 2, 0, []) 35 := Or.inl ⟨by decide +kernel, ok_iload_n dm_145_34 rfl⟩
set_option maxRecDepth 100000 in
theorem vv_145_35 {l : Launch} (hl : l.stackTraces = false) : cj_V1 l 145 35 (1, 1, 0, []) 36 := Or.inl ⟨by decide +kernel, ok_iconst_m dm_145_35 (by decide +kernel)⟩
set_option maxRecDepth 100000 in
theorem vv_145_36 {l : Launch} (hl : l.stackTraces = false) : cj_V1 l 145 36 (37, 44, 0, []) 39 := Or.inl ⟨by decide +kernel, ok_icmp_eq dm_145_36 (by decide +kernel)⟩
set_option maxRecDepth 100000 in
theorem vv_145_39 {l : Launch} (hl : l.stackTraces = false) : cj_V1 l 145 39 (1, 101, 0, []) 41 := Or.inl ⟨by decide +kernel, ok_bipush_m dm_145_39 (by decide +kernel)⟩
set_option maxRecDepth 100000 in
theorem vv_145_41 {l : Launch} (hl : l.stackTraces = false) : cj_V1 l 145 41 (2, 2, 0, []) 42 := Or.inl ⟨by decide +kernel, ok_iload_n dm_145_41 rfl⟩
set_option maxRecDepth 100000 in
theorem vv_145_42 {l : Launch} (hl : l.stackTraces = false) : cj_V1 l 145 42 (11, 0, 0, []) 43 := Or.inl ⟨by decide +kernel, ok_isub dm_145_42⟩
set_option maxRecDepth 100000 in
theorem vv_145_43 {l : Launch} (hl : l.stackTraces = false) : cj_V1 l 145 43 (90, 0, 0, []) 44 := Or.inr (Or.inl ⟨by decide +kernel, Or.inl (Or.inl ⟨rfl, dm_145_43, rfl⟩)⟩)
set_option maxRecDepth 100000 in
theorem vv_145_44 {l : Launch} (hl : l.stackTraces = false) : cj_V1 l 145 44 (3, 0, 0, []) 45 := Or.inl ⟨by decide +kernel, ok_aload_n dm_145_44 rfl⟩
set_option maxRecDepth 100000 in
theorem vv_145_45 {l : Launch} (hl : l.stackTraces = false) : cj_V1 l 145 45 (50, 0, 9, []) 48 := Or.inl ⟨by decide +kernel, ok_getfield (N := 11) (C := RK_0) (T := TK_0) dm_145_45 rfl inK_0 (by decide +kernel) wm_186⟩
set_option maxRecDepth 100000 in
theorem vv_145_48 {l : Launch} (hl : l.stackTraces = false) : cj_V1 l 145 48 (5, 3, 0, []) 49 := Or.inl ⟨by decide +kernel, ok_astore_n dm_145_48 rfl⟩
set_option maxRecDepth 100000 in
theorem vv_145_49 {l : Launch} (hl : l.stackTraces = false) : cj_V1 l 145 49 (3, 0, 0, []) 50 := Or.inl ⟨by decide +kernel, ok_aload_n dm_145_49 rfl⟩
set_option maxRecDepth 100000 in
theorem vv_145_50 {l : Launch} (hl : l.stackTraces = false) : cj_V1 l 145 50 (3, 0, 0, []) 51 := Or.inl ⟨by decide +kernel, ok_aload_n dm_145_50 rfl⟩
set_option maxRecDepth 100000 in
theorem vv_145_51 {l : Launch} (hl : l.stackTraces = false) : cj_V1 l 145 51 (50, 0, 10, []) 54 := Or.inl ⟨by decide +kernel, ok_getfield (N := 11) (C := RK_0) (T := TK_0) dm_145_51 rfl inK_0 (by decide +kernel) wm_187⟩
set_option maxRecDepth 100000 in
theorem vv_145_54 {l : Launch} (hl : l.stackTraces = false) : cj_V1 l 145 54 (51, 0, 9, [2]) 57 := Or.inl ⟨by decide +kernel, ok_putfield (N := 11) (C := RK_0) (T := TK_0) (ty0 := tyK_0) dm_145_54 rfl inK_0 (by decide +kernel) wm_186 tyK_0_ok nmK_0 (Or.inl rfl) (Or.inr (Or.inr (Or.inl ⟨rfl, Or.inl ⟨_, rfl⟩⟩)))⟩
set_option maxRecDepth 100000 in
theorem vv_145_57 {l : Launch} (hl : l.stackTraces = false) : cj_V1 l 145 57 (3, 0, 0, []) 58 := Or.inl ⟨by decide +kernel, ok_aload_n dm_145_57 rfl⟩
set_option maxRecDepth 100000 in
theorem vv_145_58 {l : Launch} (hl : l.stackTraces = false) : cj_V1 l 145 58 (3, 3, 0, []) 59 := Or.inl ⟨by decide +kernel, ok_aload_n dm_145_58 rfl⟩
set_option maxRecDepth 100000 in
theorem vv_145_59 {l : Launch} (hl : l.stackTraces = false) : cj_V1 l 145 59 (51, 0, 10, [2]) 62 := Or.inl ⟨by decide +kernel, ok_putfield (N := 11) (C := RK_0) (T := TK_0) (ty0 := tyK_0) dm_145_59 rfl inK_0 (by decide +kernel) wm_187 tyK_0_ok nmK_0 (Or.inl rfl) (Or.inr (Or.inr (Or.inl ⟨rfl, Or.inl ⟨_, rfl⟩⟩)))⟩
set_option maxRecDepth 100000 in
theorem vv_145_62 {l : Launch} (hl : l.stackTraces = false) : cj_V1 l 145 62 (3, 0, 0, []) 63 := Or.inl ⟨by decide +kernel, ok_aload_n dm_145_62 rfl⟩
set_option maxRecDepth 100000 in
theorem vv_145_63 {l : Launch} (hl : l.stackTraces = false) : cj_V1 l 145 63 (0, 1, 0, []) 64 := Or.inl ⟨by decide +kernel, ok_iconst dm_145_63 (by decide +kernel)⟩
set_option maxRecDepth 100000 in
theorem vv_145_64 {l : Launch} (hl : l.stackTraces = false) : cj_V1 l 145 64 (51, 0, 8, [1]) 67 := Or.inl ⟨by decide +kernel, ok_putfield (N := 11) (C := RK_0) (T := TK_0) (ty0 := tyK_0) dm_145_64 rfl inK_0 (by decide +kernel) wm_185 tyK_0_ok nmK_0 (Or.inl rfl) (Or.inr (Or.inl ⟨rfl, rfl⟩))⟩
set_option maxRecDepth 100000 in
theorem vv_145_67 {l : Launch} (hl : l.stackTraces = false) : cj_V1 l 145 67 (3, 0, 0, []) 68 := Or.inl ⟨by decide +kernel, ok_aload_n dm_145_67 rfl⟩
set_option maxRecDepth 100000 in
theorem vv_145_68 {l : Launch} (hl : l.stackTraces = false) : cj_V1 l 145 68 (50, 0, 9, []) 71 := Or.inl ⟨by decide +kernel, ok_getfield (N := 11) (C := RK_0) (T := TK_0) dm_145_68 rfl inK_0 (by decide +kernel) wm_186⟩
set_option maxRecDepth 100000 in
theorem vv_145_71 {l : Launch} (hl : l.stackTraces = false) : cj_V1 l 145 71 (80, 30, 1, [5]) 74 := Or.inr (Or.inr (Or.inl ⟨by decide +kernel, by decide +kernel, rfl, vc_virtual (n := 0) (q := (RK_5, TK_5, 10)) mi_30 dm_145_71 (Or.inl wm_393) wm_394 wm_395 rfl rfl (by decide +kernel) rfl (by decide +kernel) (by decide +kernel), (vx_none rfl)⟩))
set_option maxRecDepth 100000 in
theorem vv_145_74 {l : Launch} (hl : l.stackTraces = false) : cj_V1 l 145 74 (90, 0, 0, []) 75 := Or.inr (Or.inl ⟨by decide +kernel, Or.inl (Or.inl ⟨rfl, dm_145_74, rfl⟩)⟩)
set_option maxRecDepth 100000 in
theorem vm_145 {l : Launch} (hl : l.stackTraces = false) : cj_Vm l 145 := cj_Vm_of (r := kc145_) rfl ⟨vv_145_0 hl, vv_145_1 hl, vv_145_4 hl, vv_145_5 hl, vv_145_6 hl, vv_145_7 hl, vv_145_10 hl, vv_145_11 hl, vv_145_12 hl, vv_145_13 hl, vv_145_14 hl, vv_145_15 hl, vv_145_18 hl, vv_145_19 hl, vv_145_22 hl, vv_145_23 hl, vv_145_26 hl, vv_145_27 hl, vv_145_30 hl, vv_145_33 hl, vv_145_34 hl, vv_145_35 hl, vv_145_36 hl, vv_145_39 hl, vv_145_41 hl, vv_145_42 hl, vv_145_43 hl, vv_145_44 hl, vv_145_45 hl, vv_145_48 hl, vv_145_49 hl, vv_145_50 hl, vv_145_51 hl, vv_145_54 hl, vv_145_57 hl, vv_145_58 hl, vv_145_59 hl, vv_145_62 hl, vv_145_63 hl, vv_145_64 hl, vv_145_67 hl, vv_145_68 hl, vv_145_71 hl, vv_145_74 hl, trivial⟩
set_option maxRecDepth 100000 in
theorem vv_146_0 {l : Launch} (hl : l.stackTraces = false) : cj_V1 l 146 0 (70, 0, 11, [0, 2, 2, 2, 2, 2, 0, 0, 1, 2, 2]) 3 := Or.inl ⟨by decide +kernel, ok_new (N := 11) (C := RK_0) (T := TK_0) (ty0 := tyK_0) dm_146_0 rfl inK_0 wm_16 wm_17 wm_1 rfl rfl tyK_0_ok (by decide +kernel)⟩
set_option maxRecDepth 100000 in
theorem vv_146_3 {l : Launch} (hl : l.stackTraces = false) : cj_V1 l 146 3 (25, 0, 0, []) 4 := Or.inl ⟨by decide +kernel, ok_dup dm_146_3⟩
set_option maxRecDepth 100000 in
theorem vv_146_4 {l : Launch} (hl : l.stackTraces = false) : cj_V1 l 146 4 (3, 0, 0, []) 5 := Or.inl ⟨by decide +kernel, ok_aload_n dm_146_4 rfl⟩
set_option maxRecDepth 100000 in
theorem vv_146_5 {l : Launch} (hl : l.stackTraces = false) : cj_V1 l 146 5 (0, 0, 0, []) 6 := Or.inl ⟨by decide +kernel, ok_iconst dm_146_5 (by decide +kernel)⟩
set_option maxRecDepth 100000 in
theorem vv_146_6 {l : Launch} (hl : l.stackTraces = false) : cj_V1 l 146 6 (81, 40, 2, []) 9 := Or.inr (Or.inr (Or.inl ⟨by decide +kernel, by decide +kernel, rfl, vc_static mi_40 dm_146_6 (Or.inl wm_397) wm_398 (by decide +kernel) (by decide +kernel) (by decide +kernel), (vx_none rfl)⟩))
set_option maxRecDepth 100000 in
theorem vv_146_9 {l : Launch} (hl : l.stackTraces = false) : cj_V1 l 146 9 (3, 0, 0, []) 10 := Or.inl ⟨by decide +kernel, ok_aload_n dm_146_9 rfl⟩
set_option maxRecDepth 100000 in
theorem vv_146_10 {l : Launch} (hl : l.stackTraces = false) : cj_V1 l 146 10 (0, 1, 0, []) 11 := Or.inl ⟨by decide +kernel, ok_iconst dm_146_10 (by decide +kernel)⟩
set_option maxRecDepth 100000 in
theorem vv_146_11 {l : Launch} (hl : l.stackTraces = false) : cj_V1 l 146 11 (81, 40, 2, []) 14 := Or.inr (Or.inr (Or.inl ⟨by decide +kernel, by decide +kernel, rfl, vc_static mi_40 dm_146_11 (Or.inl wm_397) wm_398 (by decide +kernel) (by decide +kernel) (by decide +kernel), (vx_none rfl)⟩))
set_option maxRecDepth 100000 in
theorem vv_146_14 {l : Launch} (hl : l.stackTraces = false) : cj_V1 l 146 14 (82, 124, 3, []) 17 := Or.inr (Or.inr (Or.inl ⟨by decide +kernel, by decide +kernel, rfl, vc_special (n := 2) mi_124 rfl rfl dm_146_14 (Or.inl wm_18) wm_19 (by decide +kernel) rfl (by decide +kernel) (by decide +kernel), (vx_none rfl)⟩))
set_option maxRecDepth 100000 in
theorem vv_146_17 {l : Launch} (hl : l.stackTraces = false) : cj_V1 l 146 17 (5, 1, 0, []) 18 := Or.inl ⟨by decide +kernel, ok_astore_n dm_146_17 rfl⟩
set_option maxRecDepth 100000 in
theorem vv_146_18 {l : Launch} (hl : l.stackTraces = false) : cj_V1 l 146 18 (70, 7, 39, [0, 0, 0, 0, 2, 0, 2, 2, 0, 2, 2, 2, 2, 2, 0, 2, 0, 2, 0, 2, 2, 2, 2, 0, 2, 2, 2, 2, 2, 2, 2, 2, 2, 2, 2, 2, 2, 2, 2]) 21 := Or.inl ⟨by decide +kernel, ok_new (N := 39) (C := RK_7) (T := TK_7) (ty0 := tyK_7) dm_146_18 rfl inK_7 wm_727 wm_728 wm_9 rfl rfl tyK_7_ok (by decide +kernel)⟩
set_option maxRecDepth 100000 in
theorem vv_146_21 {l : Launch} (hl : l.stackTraces = false) : cj_V1 l 146 21 (25, 0, 0, []) 22 := Or.inl ⟨by decide +kernel, ok_dup dm_146_21⟩
set_option maxRecDepth 100000 in
theorem vv_146_22 {l : Launch} (hl : l.stackTraces = false) : cj_V1 l 146 22 (3, 0, 0, []) 23 := Or.inl ⟨by decide +kernel, ok_aload_n dm_146_22 rfl⟩
set_option maxRecDepth 100000 in
theorem vv_146_23 {l : Launch} (hl : l.stackTraces = false) : cj_V1 l 146 23 (0, 0, 0, []) 24 := Or.inl ⟨by decide +kernel, ok_iconst dm_146_23 (by decide +kernel)⟩
set_option maxRecDepth 100000 in
theorem vv_146_24 {l : Launch} (hl : l.stackTraces = false) : cj_V1 l 146 24 (81, 40, 2, []) 27 := Or.inr (Or.inr (Or.inl ⟨by decide +kernel, by decide +kernel, rfl, vc_static mi_40 dm_146_24 (Or.inl wm_397) wm_398 (by decide +kernel) (by decide +kernel) (by decide +kernel), (vx_none rfl)⟩))
set_option maxRecDepth 100000 in
theorem vv_146_27 {l : Launch} (hl : l.stackTraces = false) : cj_V1 l 146 27 (3, 0, 0, []) 28 := Or.inl ⟨by decide +kernel, ok_aload_n dm_146_27 rfl⟩
set_option maxRecDepth 100000 in
theorem vv_146_28 {l : Launch} (hl : l.stackTraces = false) : cj_V1 l 146 28 (0, 1, 0, []) 29 := Or.inl ⟨by decide +kernel, ok_iconst dm_146_28 (by decide +kernel)⟩
set_option maxRecDepth 100000 in
theorem vv_146_29 {l : Launch} (hl : l.stackTraces = false) : cj_V1 l 146 29 (81, 40, 2, []) 32 := Or.inr (Or.inr (Or.inl ⟨by decide +kernel, by decide +kernel, rfl, vc_static mi_40 dm_146_29 (Or.inl wm_397) wm_398 (by decide +kernel) (by decide +kernel) (by decide +kernel), (vx_none rfl)⟩))
set_option maxRecDepth 100000 in
theorem vv_146_32 {l : Launch} (hl : l.stackTraces = false) : cj_V1 l 146 32 (82, 41, 3, []) 35 := Or.inr (Or.inr (Or.inl ⟨by decide +kernel, by decide +kernel, rfl, vc_special (n := 2) mi_41 rfl rfl dm_146_32 (Or.inl wm_729) wm_730 (by decide +kernel) rfl (by decide +kernel) (by decide +kernel), (vx_none rfl)⟩))
set_option maxRecDepth 100000 in
theorem vv_146_35 {l : Launch} (hl : l.stackTraces = false) : cj_V1 l 146 35 (5, 2, 0, []) 36 := Or.inl ⟨by decide +kernel, ok_astore_n dm_146_35 rfl⟩
set_option maxRecDepth 100000 in
theorem vv_146_36 {l : Launch} (hl : l.stackTraces = false) : cj_V1 l 146 36 (0, 1, 0, []) 37 := Or.inl ⟨by decide +kernel, ok_iconst dm_146_36 (by decide +kernel)⟩
set_option maxRecDepth 100000 in
theorem vv_146_37 {l : Launch} (hl : l.stackTraces = false) : cj_V1 l 146 37 (72, 2, 0, []) 39 := Or.inl ⟨by decide +kernel, ok_newarray (ty := .long) (x := (.inr (.inl (fun _ => 0)))) dm_146_37 rfl rfl wm_1011 (fun _ _ => rfl) (fun _ _ => trivial) (by decide +kernel) rfl (fun _ _ _ _ => rfl)⟩
set_option maxRecDepth 100000 in
theorem vv_146_39 {l : Launch} (hl : l.stackTraces = false) : cj_V1 l 146 39 (5, 3, 0, []) 40 := Or.inl ⟨by decide +kernel, ok_astore_n dm_146_39 rfl⟩
set_option maxRecDepth 100000 in
theorem vv_146_40 {l : Launch} (hl : l.stackTraces = false) : cj_V1 l 146 40 (0, 2, 0, []) 41 := Or.inl ⟨by decide +kernel, ok_iconst dm_146_40 (by decide +kernel)⟩
set_option maxRecDepth 100000 in
theorem vv_146_41 {l : Launch} (hl : l.stackTraces = false) : cj_V1 l 146 41 (4, 4, 0, []) 43 := Or.inl ⟨by decide +kernel, ok_istore dm_146_41⟩
set_option maxRecDepth 100000 in
theorem vv_146_43 {l : Launch} (hl : l.stackTraces = false) : cj_V1 l 146 43 (2, 4, 0, []) 45 := Or.inl ⟨by decide +kernel, ok_iload dm_146_43⟩
set_option maxRecDepth 100000 in
theorem vv_146_45 {l : Launch} (hl : l.stackTraces = false) : cj_V1 l 146 45 (3, 0, 0, []) 46 := Or.inl ⟨by decide +kernel, ok_aload_n dm_146_45 rfl⟩
set_option maxRecDepth 100000 in
theorem vv_146_46 {l : Launch} (hl : l.stackTraces = false) : cj_V1 l 146 46 (53, 0, 0, []) 47 := Or.inl ⟨by decide +kernel, ok_arraylength dm_146_46⟩
set_option maxRecDepth 100000 in
theorem vv_146_47 {l : Launch} (hl : l.stackTraces = false) : cj_V1 l 146 47 (0, 4, 0, []) 48 := Or.inl ⟨by decide +kernel, ok_iconst dm_146_47 (by decide +kernel)⟩
set_option maxRecDepth 100000 in
theorem vv_146_48 {l : Launch} (hl : l.stackTraces = false) : cj_V1 l 146 48 (11, 0, 0, []) 49 := Or.inl ⟨by decide +kernel, ok_isub dm_146_48⟩
set_option maxRecDepth 100000 in
theorem vv_146_49 {l : Launch} (hl : l.stackTraces = false) : cj_V1 l 146 49 (41, 635, 0, []) 52 := Or.inl ⟨by decide +kernel, ok_icmp_gt dm_146_49 (by decide +kernel)⟩
set_option maxRecDepth 100000 in
theorem vv_146_52 {l : Launch} (hl : l.stackTraces = false) : cj_V1 l 146 52 (3, 0, 0, []) 53 := Or.inl ⟨by decide +kernel, ok_aload_n dm_146_52 rfl⟩
set_option maxRecDepth 100000 in
theorem vv_146_53 {l : Launch} (hl : l.stackTraces = false) : cj_V1 l 146 53 (2, 4, 0, []) 55 := Or.inl ⟨by decide +kernel, ok_iload dm_146_53⟩
set_option maxRecDepth 100000 in
theorem vv_146_55 {l : Launch} (hl : l.stackTraces = false) : cj_V1 l 146 55 (54, 0, 0, []) 56 := Or.inl ⟨by decide +kernel, ok_iaload dm_146_55 rfl⟩
set_option maxRecDepth 100000 in
theorem vv_146_56 {l : Launch} (hl : l.stackTraces = false) : cj_V1 l 146 56 (0, 15, 0, []) 58 := Or.inl ⟨by decide +kernel, ok_bipush dm_146_56 (by decide +kernel)⟩
set_option maxRecDepth 100000 in
theorem vv_146_58 {l : Launch} (hl : l.stackTraces = false) : cj_V1 l 146 58 (19, 0, 0, []) 59 := Or.inl ⟨by decide +kernel, ok_iand dm_146_58⟩
set_option maxRecDepth 100000 in
theorem vv_146_59 {l : Launch} (hl : l.stackTraces = false) : cj_V1 l 146 59 (45, 0, 629, [128, 196, 212, 240, 280, 332, 372, 388, 401, 429, 457, 509, 561, 601]) 128 := Or.inl ⟨by decide +kernel, ok_tableswitch dm_146_59 (by decide +kernel) (by decide +kernel) (by decide +kernel) (by decide +kernel)⟩
set_option maxRecDepth 100000 in
theorem vv_146_128 {l : Launch} (hl : l.stackTraces = false) : cj_V1 l 146 128 (3, 1, 0, []) 129 := Or.inl ⟨by decide +kernel, ok_aload_n dm_146_128 rfl⟩
set_option maxRecDepth 100000 in
theorem vv_146_129 {l : Launch} (hl : l.stackTraces = false) : cj_V1 l 146 129 (3, 0, 0, []) 130 := Or.inl ⟨by decide +kernel, ok_aload_n dm_146_129 rfl⟩
set_option maxRecDepth 100000 in
theorem vv_146_130 {l : Launch} (hl : l.stackTraces = false) : cj_V1 l 146 130 (2, 4, 0, []) 132 := Or.inl ⟨by decide +kernel, ok_iload dm_146_130⟩
set_option maxRecDepth 100000 in
theorem vv_146_132 {l : Launch} (hl : l.stackTraces = false) : cj_V1 l 146 132 (0, 1, 0, []) 133 := Or.inl ⟨by decide +kernel, ok_iconst dm_146_132 (by decide +kernel)⟩
set_option maxRecDepth 100000 in
theorem vv_146_133 {l : Launch} (hl : l.stackTraces = false) : cj_V1 l 146 133 (10, 0, 0, []) 134 := Or.inl ⟨by decide +kernel, ok_iadd dm_146_133⟩
set_option maxRecDepth 100000 in
theorem vv_146_134 {l : Launch} (hl : l.stackTraces = false) : cj_V1 l 146 134 (54, 0, 0, []) 135 := Or.inl ⟨by decide +kernel, ok_iaload dm_146_134 rfl⟩
set_option maxRecDepth 100000 in
theorem vv_146_135 {l : Launch} (hl : l.stackTraces = false) : cj_V1 l 146 135 (3, 0, 0, []) 136 := Or.inl ⟨by decide +kernel, ok_aload_n dm_146_135 rfl⟩
set_option maxRecDepth 100000 in
theorem vv_146_136 {l : Launch} (hl : l.stackTraces = false) : cj_V1 l 146 136 (2, 4, 0, []) 138 := Or.inl ⟨by decide +kernel, ok_iload dm_146_136⟩
set_option maxRecDepth 100000 in
theorem vv_146_138 {l : Launch} (hl : l.stackTraces = false) : cj_V1 l 146 138 (0, 2, 0, []) 139 := Or.inl ⟨by decide +kernel, ok_iconst dm_146_138 (by decide +kernel)⟩
set_option maxRecDepth 100000 in
theorem vv_146_139 {l : Launch} (hl : l.stackTraces = false) : cj_V1 l 146 139 (10, 0, 0, []) 140 := Or.inl ⟨by decide +kernel, ok_iadd dm_146_139⟩
set_option maxRecDepth 100000 in
theorem vv_146_140 {l : Launch} (hl : l.stackTraces = false) : cj_V1 l 146 140 (54, 0, 0, []) 141 := Or.inl ⟨by decide +kernel, ok_iaload dm_146_140 rfl⟩
set_option maxRecDepth 100000 in
theorem vv_146_141 {l : Launch} (hl : l.stackTraces = false) : cj_V1 l 146 141 (3, 3, 0, []) 142 := Or.inl ⟨by decide +kernel, ok_aload_n dm_146_141 rfl⟩
set_option maxRecDepth 100000 in
theorem vv_146_142 {l : Launch} (hl : l.stackTraces = false) : cj_V1 l 146 142 (81, 135, 4, []) 145 := Or.inr (Or.inr (Or.inl ⟨by decide +kernel, by decide +kernel, rfl, vc_static mi_135 dm_146_142 (Or.inl wm_400) wm_401 (by decide +kernel) (by decide +kernel) (by decide +kernel), (vx_none rfl)⟩))
set_option maxRecDepth 100000 in
theorem vv_146_145 {l : Launch} (hl : l.stackTraces = false) : cj_V1 l 146 145 (4, 5, 0, []) 147 := Or.inl ⟨by decide +kernel, ok_istore dm_146_145⟩
set_option maxRecDepth 100000 in
theorem vv_146_147 {l : Launch} (hl : l.stackTraces = false) : cj_V1 l 146 147 (3, 2, 0, []) 148 := Or.inl ⟨by decide +kernel, ok_aload_n dm_146_147 rfl⟩
set_option maxRecDepth 100000 in
theorem vv_146_148 {l : Launch} (hl : l.stackTraces = false) : cj_V1 l 146 148 (3, 0, 0, []) 149 := Or.inl ⟨by decide +kernel, ok_aload_n dm_146_148 rfl⟩
set_option maxRecDepth 100000 in
theorem vv_146_149 {l : Launch} (hl : l.stackTraces = false) : cj_V1 l 146 149 (2, 4, 0, []) 151 := Or.inl ⟨by decide +kernel, ok_iload dm_146_149⟩
set_option maxRecDepth 100000 in
theorem vv_146_151 {l : Launch} (hl : l.stackTraces = false) : cj_V1 l 146 151 (0, 1, 0, []) 152 := Or.inl ⟨by decide +kernel, ok_iconst dm_146_151 (by decide +kernel)⟩
set_option maxRecDepth 100000 in
theorem vv_146_152 {l : Launch} (hl : l.stackTraces = false) : cj_V1 l 146 152 (10, 0, 0, []) 153 := Or.inl ⟨by decide +kernel, ok_iadd dm_146_152⟩
set_option maxRecDepth 100000 in
theorem vv_146_153 {l : Launch} (hl : l.stackTraces = false) : cj_V1 l 146 153 (54, 0, 0, []) 154 := Or.inl ⟨by decide +kernel, ok_iaload dm_146_153 rfl⟩
set_option maxRecDepth 100000 in
theorem vv_146_154 {l : Launch} (hl : l.stackTraces = false) : cj_V1 l 146 154 (3, 0, 0, []) 155 := Or.inl ⟨by decide +kernel, ok_aload_n dm_146_154 rfl⟩
set_option maxRecDepth 100000 in
theorem vv_146_155 {l : Launch} (hl : l.stackTraces = false) : cj_V1 l 146 155 (2, 4, 0, []) 157 := Or.inl ⟨by decide +kernel, ok_iload dm_146_155⟩
set_option maxRecDepth 100000 in
theorem vv_146_157 {l : Launch} (hl : l.stackTraces = false) : cj_V1 l 146 157 (0, 2, 0, []) 158 := Or.inl ⟨by decide +kernel, ok_iconst dm_146_157 (by decide +kernel)⟩
set_option maxRecDepth 100000 in
theorem vv_146_158 {l : Launch} (hl : l.stackTraces = false) : cj_V1 l 146 158 (10, 0, 0, []) 159 := Or.inl ⟨by decide +kernel, ok_iadd dm_146_158⟩
set_option maxRecDepth 100000 in
theorem vv_146_159 {l : Launch} (hl : l.stackTraces = false) : cj_V1 l 146 159 (54, 0, 0, []) 160 := Or.inl ⟨by decide +kernel, ok_iaload dm_146_159 rfl⟩
set_option maxRecDepth 100000 in
theorem vv_146_160 {l : Launch} (hl : l.stackTraces = false) : cj_V1 l 146 160 (80, 98, 3, [7]) 163 := Or.inr (Or.inr (Or.inl ⟨by decide +kernel, by decide +kernel, rfl, vc_virtual (n := 2) (q := (RK_7, TK_7, 39)) mi_98 dm_146_160 (Or.inl wm_855) wm_856 wm_857 rfl rfl (by decide +kernel) rfl (by decide +kernel) (by decide +kernel), (vx_none rfl)⟩))
set_option maxRecDepth 100000 in
theorem vv_146_163 {l : Launch} (hl : l.stackTraces = false) : cj_V1 l 146 163 (4, 6, 0, []) 165 := Or.inl ⟨by decide +kernel, ok_istore dm_146_163⟩
set_option maxRecDepth 100000 in
theorem vv_146_165 {l : Launch} (hl : l.stackTraces = false) : cj_V1 l 146 165 (3, 2, 0, []) 166 := Or.inl ⟨by decide +kernel, ok_aload_n dm_146_165 rfl⟩
set_option maxRecDepth 100000 in
theorem vv_146_166 {l : Launch} (hl : l.stackTraces = false) : cj_V1 l 146 166 (80, 56, 1, [7]) 169 := Or.inr (Or.inr (Or.inl ⟨by decide +kernel, by decide +kernel, rfl, vc_virtual (n := 0) (q := (RK_7, TK_7, 39)) mi_56 dm_146_166 (Or.inl wm_851) wm_852 wm_853 rfl rfl (by decide +kernel) rfl (by decide +kernel) (by decide +kernel), (vx_none rfl)⟩))
set_option maxRecDepth 100000 in
theorem vv_146_169 {l : Launch} (hl : l.stackTraces = false) : cj_V1 l 146 169 (2, 5, 0, []) 171 := Or.inl ⟨by decide +kernel, ok_iload dm_146_169⟩
set_option maxRecDepth 100000 in
theorem vv_146_171 {l : Launch} (hl : l.stackTraces = false) : cj_V1 l 146 171 (37, 176, 0, []) 174 := Or.inl ⟨by decide +kernel, ok_icmp_eq dm_146_171 (by decide +kernel)⟩
set_option maxRecDepth 100000 in
theorem vv_146_174 {l : Launch} (hl : l.stackTraces = false) : cj_V1 l 146 174 (0, 0, 0, []) 175 := Or.inl ⟨by decide +kernel, ok_iconst dm_146_174 (by decide +kernel)⟩
set_option maxRecDepth 100000 in
theorem vv_146_175 {l : Launch} (hl : l.stackTraces = false) : cj_V1 l 146 175 (93, 0, 0, []) 176 := Or.inr (Or.inl ⟨by decide +kernel, Or.inl (Or.inr (Or.inr (Or.inr ⟨rfl, dm_146_175, rfl⟩)))⟩)
set_option maxRecDepth 100000 in
theorem vv_146_176 {l : Launch} (hl : l.stackTraces = false) : cj_V1 l 146 176 (2, 5, 0, []) 178 := Or.inl ⟨by decide +kernel, ok_iload dm_146_176⟩
set_option maxRecDepth 100000 in
theorem vv_146_178 {l : Launch} (hl : l.stackTraces = false) : cj_V1 l 146 178 (32, 193, 0, []) 181 := Or.inl ⟨by decide +kernel, ok_if_ne dm_146_178 (by decide +kernel)⟩
set_option maxRecDepth 100000 in
theorem vv_146_181 {l : Launch} (hl : l.stackTraces = false) : cj_V1 l 146 181 (3, 3, 0, []) 182 := Or.inl ⟨by decide +kernel, ok_aload_n dm_146_181 rfl⟩
set_option maxRecDepth 100000 in
theorem vv_146_182 {l : Launch} (hl : l.stackTraces = false) : cj_V1 l 146 182 (0, 0, 0, []) 183 := Or.inl ⟨by decide +kernel, ok_iconst dm_146_182 (by decide +kernel)⟩
set_option maxRecDepth 100000 in
theorem vv_146_183 {l : Launch} (hl : l.stackTraces = false) : cj_V1 l 146 183 (54, 2, 0, []) 184 := Or.inl ⟨by decide +kernel, ok_laload dm_146_183 rfl⟩
set_option maxRecDepth 100000 in
theorem vv_146_184 {l : Launch} (hl : l.stackTraces = false) : cj_V1 l 146 184 (2, 6, 0, []) 186 := Or.inl ⟨by decide +kernel, ok_iload dm_146_184⟩
set_option maxRecDepth 100000 in
theorem vv_146_186 {l : Launch} (hl : l.stackTraces = false) : cj_V1 l 146 186 (23, 0, 0, []) 187 := Or.inl ⟨by decide +kernel, ok_i2l dm_146_186⟩
set_option maxRecDepth 100000 in
theorem vv_146_187 {l : Launch} (hl : l.stackTraces = false) : cj_V1 l 146 187 (24, 0, 0, []) 188 := Or.inl ⟨by decide +kernel, ok_lcmp dm_146_187⟩
set_option maxRecDepth 100000 in
theorem vv_146_188 {l : Launch} (hl : l.stackTraces = false) : cj_V1 l 146 188 (31, 193, 0, []) 191 := Or.inl ⟨by decide +kernel, ok_if_eq dm_146_188 (by decide +kernel)⟩
set_option maxRecDepth 100000 in
theorem vv_146_191 {l : Launch} (hl : l.stackTraces = false) : cj_V1 l 146 191 (0, 0, 0, []) 192 := Or.inl ⟨by decide +kernel, ok_iconst dm_146_191 (by decide +kernel)⟩
set_option maxRecDepth 100000 in
theorem vv_146_192 {l : Launch} (hl : l.stackTraces = false) : cj_V1 l 146 192 (93, 0, 0, []) 193 := Or.inr (Or.inl ⟨by decide +kernel, Or.inl (Or.inr (Or.inr (Or.inr ⟨rfl, dm_146_192, rfl⟩)))⟩)
set_option maxRecDepth 100000 in
theorem vv_146_193 {l : Launch} (hl : l.stackTraces = false) : cj_V1 l 146 193 (30, 629, 0, []) 196 := Or.inl ⟨by decide +kernel, ok_goto dm_146_193 (by decide +kernel)⟩
set_option maxRecDepth 100000 in
theorem vv_146_196 {l : Launch} (hl : l.stackTraces = false) : cj_V1 l 146 196 (3, 1, 0, []) 197 := Or.inl ⟨by decide +kernel, ok_aload_n dm_146_196 rfl⟩
set_option maxRecDepth 100000 in
theorem vv_146_197 {l : Launch} (hl : l.stackTraces = false) : cj_V1 l 146 197 (3, 3, 0, []) 198 := Or.inl ⟨by decide +kernel, ok_aload_n dm_146_197 rfl⟩
set_option maxRecDepth 100000 in
theorem vv_146_198 {l : Launch} (hl : l.stackTraces = false) : cj_V1 l 146 198 (81, 141, 2, []) 201 := Or.inr (Or.inr (Or.inl ⟨by decide +kernel, by decide +kernel, rfl, vc_static mi_141 dm_146_198 (Or.inl wm_508) wm_509 (by decide +kernel) (by decide +kernel) (by decide +kernel), (vx_none rfl)⟩))
set_option maxRecDepth 100000 in
theorem vv_146_201 {l : Launch} (hl : l.stackTraces = false) : cj_V1 l 146 201 (4, 5, 0, []) 203 := Or.inl ⟨by decide +kernel, ok_istore dm_146_201⟩
set_option maxRecDepth 100000 in
theorem vv_146_203 {l : Launch} (hl : l.stackTraces = false) : cj_V1 l 146 203 (3, 2, 0, []) 204 := Or.inl ⟨by decide +kernel, ok_aload_n dm_146_203 rfl⟩
set_option maxRecDepth 100000 in
theorem vv_146_204 {l : Launch} (hl : l.stackTraces = false) : cj_V1 l 146 204 (80, 122, 1, [7]) 207 := Or.inr (Or.inr (Or.inl ⟨by decide +kernel, by decide +kernel, rfl, vc_virtual (n := 0) (q := (RK_7, TK_7, 39)) mi_122 dm_146_204 (Or.inl wm_873) wm_874 wm_875 rfl rfl (by decide +kernel) rfl (by decide +kernel) (by decide +kernel), (vx_none rfl)⟩))
set_option maxRecDepth 100000 in
theorem vv_146_207 {l : Launch} (hl : l.stackTraces = false) : cj_V1 l 146 207 (4, 6, 0, []) 209 := Or.inl ⟨by decide +kernel, ok_istore dm_146_207⟩
set_option maxRecDepth 100000 in
theorem vv_146_209 {l : Launch} (hl : l.stackTraces = false) : cj_V1 l 146 209 (30, 629, 0, []) 212 := Or.inl ⟨by decide +kernel, ok_goto dm_146_209 (by decide +kernel)⟩
set_option maxRecDepth 100000 in
theorem vv_146_212 {l : Launch} (hl : l.stackTraces = false) : cj_V1 l 146 212 (3, 1, 0, []) 213 := Or.inl ⟨by decide +kernel, ok_aload_n dm_146_212 rfl⟩
set_option maxRecDepth 100000 in
theorem vv_146_213 {l : Launch} (hl : l.stackTraces = false) : cj_V1 l 146 213 (3, 0, 0, []) 214 := Or.inl ⟨by decide +kernel, ok_aload_n dm_146_213 rfl⟩
set_option maxRecDepth 100000 in
theorem vv_146_214 {l : Launch} (hl : l.stackTraces = false) : cj_V1 l 146 214 (2, 4, 0, []) 216 := Or.inl ⟨by decide +kernel, ok_iload dm_146_214⟩
set_option maxRecDepth 100000 in
theorem vv_146_216 {l : Launch} (hl : l.stackTraces = false) : cj_V1 l 146 216 (0, 1, 0, []) 217 := Or.inl ⟨by decide +kernel, ok_iconst dm_146_216 (by decide +kernel)⟩
set_option maxRecDepth 100000 in
theorem vv_146_217 {l : Launch} (hl : l.stackTraces = false) : cj_V1 l 146 217 (10, 0, 0, []) 218 := Or.inl ⟨by decide +kernel, ok_iadd dm_146_217⟩
set_option maxRecDepth 100000 in
theorem vv_146_218 {l : Launch} (hl : l.stackTraces = false) : cj_V1 l 146 218 (54, 0, 0, []) 219 := Or.inl ⟨by decide +kernel, ok_iaload dm_146_218 rfl⟩
set_option maxRecDepth 100000 in
theorem vv_146_219 {l : Launch} (hl : l.stackTraces = false) : cj_V1 l 146 219 (3, 3, 0, []) 220 := Or.inl ⟨by decide +kernel, ok_aload_n dm_146_219 rfl⟩
set_option maxRecDepth 100000 in
theorem vv_146_220 {l : Launch} (hl : l.stackTraces = false) : cj_V1 l 146 220 (81, 113, 3, []) 223 := Or.inr (Or.inr (Or.inl ⟨by decide +kernel, by decide +kernel, rfl, vc_static mi_113 dm_146_220 (Or.inl wm_529) wm_530 (by decide +kernel) (by decide +kernel) (by decide +kernel), (vx_none rfl)⟩))
set_option maxRecDepth 100000 in
theorem vv_146_223 {l : Launch} (hl : l.stackTraces = false) : cj_V1 l 146 223 (4, 5, 0, []) 225 := Or.inl ⟨by decide +kernel, ok_istore dm_146_223⟩
set_option maxRecDepth 100000 in
theorem vv_146_225 {l : Launch} (hl : l.stackTraces = false) : cj_V1 l 146 225 (3, 2, 0, []) 226 := Or.inl ⟨by decide +kernel, ok_aload_n dm_146_225 rfl⟩
set_option maxRecDepth 100000 in
theorem vv_146_226 {l : Launch} (hl : l.stackTraces = false) : cj_V1 l 146 226 (3, 0, 0, []) 227 := Or.inl ⟨by decide +kernel, ok_aload_n dm_146_226 rfl⟩
set_option maxRecDepth 100000 in
theorem vv_146_227 {l : Launch} (hl : l.stackTraces = false) : cj_V1 l 146 227 (2, 4, 0, []) 229 := Or.inl ⟨by decide +kernel, ok_iload dm_146_227⟩
set_option maxRecDepth 100000 in
theorem vv_146_229 {l : Launch} (hl : l.stackTraces = false) : cj_V1 l 146 229 (0, 1, 0, []) 230 := Or.inl ⟨by decide +kernel, ok_iconst dm_146_229 (by decide +kernel)⟩
set_option maxRecDepth 100000 in
theorem vv_146_230 {l : Launch} (hl : l.stackTraces = false) : cj_V1 l 146 230 (10, 0, 0, []) 231 := Or.inl ⟨by decide +kernel, ok_iadd dm_146_230⟩
set_option maxRecDepth 100000 in
theorem vv_146_231 {l : Launch} (hl : l.stackTraces = false) : cj_V1 l 146 231 (54, 0, 0, []) 232 := Or.inl ⟨by decide +kernel, ok_iaload dm_146_231 rfl⟩
set_option maxRecDepth 100000 in
theorem vv_146_232 {l : Launch} (hl : l.stackTraces = false) : cj_V1 l 146 232 (80, 87, 2, [7]) 235 := Or.inr (Or.inr (Or.inl ⟨by decide +kernel, by decide +kernel, rfl, vc_virtual (n := 1) (q := (RK_7, TK_7, 39)) mi_87 dm_146_232 (Or.inl wm_884) wm_885 wm_886 rfl rfl (by decide +kernel) rfl (by decide +kernel) (by decide +kernel), (vx_none rfl)⟩))
set_option maxRecDepth 100000 in
theorem vv_146_235 {l : Launch} (hl : l.stackTraces = false) : cj_V1 l 146 235 (4, 6, 0, []) 237 := Or.inl ⟨by decide +kernel, ok_istore dm_146_235⟩
set_option maxRecDepth 100000 in
theorem vv_146_237 {l : Launch} (hl : l.stackTraces = false) : cj_V1 l 146 237 (30, 629, 0, []) 240 := Or.inl ⟨by decide +kernel, ok_goto dm_146_237 (by decide +kernel)⟩
set_option maxRecDepth 100000 in
theorem vv_146_240 {l : Launch} (hl : l.stackTraces = false) : cj_V1 l 146 240 (3, 1, 0, []) 241 := Or.inl ⟨by decide +kernel, ok_aload_n dm_146_240 rfl⟩
set_option maxRecDepth 100000 in
theorem vv_146_241 {l : Launch} (hl : l.stackTraces = false) : cj_V1 l 146 241 (3, 0, 0, []) 242 := Or.inl ⟨by decide +kernel, ok_aload_n dm_146_241 rfl⟩
set_option maxRecDepth 100000 in
theorem vv_146_242 {l : Launch} (hl : l.stackTraces = false) : cj_V1 l 146 242 (2, 4, 0, []) 244 := Or.inl ⟨by decide +kernel, ok_iload dm_146_242⟩
set_option maxRecDepth 100000 in
theorem vv_146_244 {l : Launch} (hl : l.stackTraces = false) : cj_V1 l 146 244 (0, 1, 0, []) 245 := Or.inl ⟨by decide +kernel, ok_iconst dm_146_244 (by decide +kernel)⟩
set_option maxRecDepth 100000 in
theorem vv_146_245 {l : Launch} (hl : l.stackTraces = false) : cj_V1 l 146 245 (10, 0, 0, []) 246 := Or.inl ⟨by decide +kernel, ok_iadd dm_146_245⟩
set_option maxRecDepth 100000 in
theorem vv_146_246 {l : Launch} (hl : l.stackTraces = false) : cj_V1 l 146 246 (54, 0, 0, []) 247 := Or.inl ⟨by decide +kernel, ok_iaload dm_146_246 rfl⟩
set_option maxRecDepth 100000 in
theorem vv_146_247 {l : Launch} (hl : l.stackTraces = false) : cj_V1 l 146 247 (3, 0, 0, []) 248 := Or.inl ⟨by decide +kernel, ok_aload_n dm_146_247 rfl⟩
set_option maxRecDepth 100000 in
theorem vv_146_248 {l : Launch} (hl : l.stackTraces = false) : cj_V1 l 146 248 (2, 4, 0, []) 250 := Or.inl ⟨by decide +kernel, ok_iload dm_146_248⟩
set_option maxRecDepth 100000 in
theorem vv_146_250 {l : Launch} (hl : l.stackTraces = false) : cj_V1 l 146 250 (0, 2, 0, []) 251 := Or.inl ⟨by decide +kernel, ok_iconst dm_146_250 (by decide +kernel)⟩
set_option maxRecDepth 100000 in
theorem vv_146_251 {l : Launch} (hl : l.stackTraces = false) : cj_V1 l 146 251 (10, 0, 0, []) 252 := Or.inl ⟨by decide +kernel, ok_iadd dm_146_251⟩
set_option maxRecDepth 100000 in
theorem vv_146_252 {l : Launch} (hl : l.stackTraces = false) : cj_V1 l 146 252 (54, 0, 0, []) 253 := Or.inl ⟨by decide +kernel, ok_iaload dm_146_252 rfl⟩
set_option maxRecDepth 100000 in
theorem vv_146_253 {l : Launch} (hl : l.stackTraces = false) : cj_V1 l 146 253 (3, 3, 0, []) 254 := Or.inl ⟨by decide +kernel, ok_aload_n dm_146_253 rfl⟩
set_option maxRecDepth 100000 in
theorem vv_146_254 {l : Launch} (hl : l.stackTraces = false) : cj_V1 l 146 254 (81, 139, 4, []) 257 := Or.inr (Or.inr (Or.inl ⟨by decide +kernel, by decide +kernel, rfl, vc_static mi_139 dm_146_254 (Or.inl wm_558) wm_559 (by decide +kernel) (by decide +kernel) (by decide +kernel), (vx_none rfl)⟩))
set_option maxRecDepth 100000 in
theorem vv_146_257 {l : Launch} (hl : l.stackTraces = false) : cj_V1 l 146 257 (4, 5, 0, []) 259 := Or.inl ⟨by decide +kernel, ok_istore dm_146_257⟩
set_option maxRecDepth 100000 in
theorem vv_146_259 {l : Launch} (hl : l.stackTraces = false) : cj_V1 l 146 259 (3, 2, 0, []) 260 := Or.inl ⟨by decide +kernel, ok_aload_n dm_146_259 rfl⟩
set_option maxRecDepth 100000 in
theorem vv_146_260 {l : Launch} (hl : l.stackTraces = false) : cj_V1 l 146 260 (3, 0, 0, []) 261 := Or.inl ⟨by decide +kernel, ok_aload_n dm_146_260 rfl⟩
set_option maxRecDepth 100000 in
theorem vv_146_261 {l : Launch} (hl : l.stackTraces = false) : cj_V1 l 146 261 (2, 4, 0, []) 263 := Or.inl ⟨by decide +kernel, ok_iload dm_146_261⟩
set_option maxRecDepth 100000 in
theorem vv_146_263 {l : Launch} (hl : l.stackTraces = false) : cj_V1 l 146 263 (0, 1, 0, []) 264 := Or.inl ⟨by decide +kernel, ok_iconst dm_146_263 (by decide +kernel)⟩
set_option maxRecDepth 100000 in
theorem vv_146_264 {l : Launch} (hl : l.stackTraces = false) : cj_V1 l 146 264 (10, 0, 0, []) 265 := Or.inl ⟨by decide +kernel, ok_iadd dm_146_264⟩
set_option maxRecDepth 100000 in
theorem vv_146_265 {l : Launch} (hl : l.stackTraces = false) : cj_V1 l 146 265 (54, 0, 0, []) 266 := Or.inl ⟨by decide +kernel, ok_iaload dm_146_265 rfl⟩
set_option maxRecDepth 100000 in
theorem vv_146_266 {l : Launch} (hl : l.stackTraces = false) : cj_V1 l 146 266 (3, 0, 0, []) 267 := Or.inl ⟨by decide +kernel, ok_aload_n dm_146_266 rfl⟩
set_option maxRecDepth 100000 in
theorem vv_146_267 {l : Launch} (hl : l.stackTraces = false) : cj_V1 l 146 267 (2, 4, 0, []) 269 := Or.inl ⟨by decide +kernel, ok_iload dm_146_267⟩
set_option maxRecDepth 100000 in
theorem vv_146_269 {l : Launch} (hl : l.stackTraces = false) : cj_V1 l 146 269 (0, 2, 0, []) 270 := Or.inl ⟨by decide +kernel, ok_iconst dm_146_269 (by decide +kernel)⟩
set_option maxRecDepth 100000 in
theorem vv_146_270 {l : Launch} (hl : l.stackTraces = false) : cj_V1 l 146 270 (10, 0, 0, []) 271 := Or.inl ⟨by decide +kernel, ok_iadd dm_146_270⟩
set_option maxRecDepth 100000 in
theorem vv_146_271 {l : Launch} (hl : l.stackTraces = false) : cj_V1 l 146 271 (54, 0, 0, []) 272 := Or.inl ⟨by decide +kernel, ok_iaload dm_146_271 rfl⟩
set_option maxRecDepth 100000 in
theorem vv_146_272 {l : Launch} (hl : l.stackTraces = false) : cj_V1 l 146 272 (80, 116, 3, [7]) 275 := Or.inr (Or.inr (Or.inl ⟨by decide +kernel, by decide +kernel, rfl, vc_virtual (n := 2) (q := (RK_7, TK_7, 39)) mi_116 dm_146_272 (Or.inl wm_891) wm_892 wm_893 rfl rfl (by decide +kernel) rfl (by decide +kernel) (by decide +kernel), (vx_none rfl)⟩))
set_option maxRecDepth 100000 in
theorem vv_146_275 {l : Launch} (hl : l.stackTraces = false) : cj_V1 l 146 275 (4, 6, 0, []) 277 := Or.inl ⟨by decide +kernel, ok_istore dm_146_275⟩
set_option maxRecDepth 100000 in
theorem vv_146_277 {l : Launch} (hl : l.stackTraces = false) : cj_V1 l 146 277 (30, 629, 0, []) 280 := Or.inl ⟨by decide +kernel, ok_goto dm_146_277 (by decide +kernel)⟩
set_option maxRecDepth 100000 in
theorem vv_146_280 {l : Launch} (hl : l.stackTraces = false) : cj_V1 l 146 280 (3, 1, 0, []) 281 := Or.inl ⟨by decide +kernel, ok_aload_n dm_146_280 rfl⟩
set_option maxRecDepth 100000 in
theorem vv_146_281 {l : Launch} (hl : l.stackTraces = false) : cj_V1 l 146 281 (3, 0, 0, []) 282 := Or.inl ⟨by decide +kernel, ok_aload_n dm_146_281 rfl⟩
set_option maxRecDepth 100000 in
theorem vv_146_282 {l : Launch} (hl : l.stackTraces = false) : cj_V1 l 146 282 (2, 4, 0, []) 284 := Or.inl ⟨by decide +kernel, ok_iload dm_146_282⟩
set_option maxRecDepth 100000 in
theorem vv_146_284 {l : Launch} (hl : l.stackTraces = false) : cj_V1 l 146 284 (0, 1, 0, []) 285 := Or.inl ⟨by decide +kernel, ok_iconst dm_146_284 (by decide +kernel)⟩
set_option maxRecDepth 100000 in
theorem vv_146_285 {l : Launch} (hl : l.stackTraces = false) : cj_V1 l 146 285 (10, 0, 0, []) 286 := Or.inl ⟨by decide +kernel, ok_iadd dm_146_285⟩
set_option maxRecDepth 100000 in
theorem vv_146_286 {l : Launch} (hl : l.stackTraces = false) : cj_V1 l 146 286 (54, 0, 0, []) 287 := Or.inl ⟨by decide +kernel, ok_iaload dm_146_286 rfl⟩
set_option maxRecDepth 100000 in
theorem vv_146_287 {l : Launch} (hl : l.stackTraces = false) : cj_V1 l 146 287 (3, 0, 0, []) 288 := Or.inl ⟨by decide +kernel, ok_aload_n dm_146_287 rfl⟩
set_option maxRecDepth 100000 in
theorem vv_146_288 {l : Launch} (hl : l.stackTraces = false) : cj_V1 l 146 288 (2, 4, 0, []) 290 := Or.inl ⟨by decide +kernel, ok_iload dm_146_288⟩
set_option maxRecDepth 100000 in
theorem vv_146_290 {l : Launch} (hl : l.stackTraces = false) : cj_V1 l 146 290 (0, 2, 0, []) 291 := Or.inl ⟨by decide +kernel, ok_iconst dm_146_290 (by decide +kernel)⟩
set_option maxRecDepth 100000 in
theorem vv_146_291 {l : Launch} (hl : l.stackTraces = false) : cj_V1 l 146 291 (10, 0, 0, []) 292 := Or.inl ⟨by decide +kernel, ok_iadd dm_146_291⟩
set_option maxRecDepth 100000 in
theorem vv_146_292 {l : Launch} (hl : l.stackTraces = false) : cj_V1 l 146 292 (54, 0, 0, []) 293 := Or.inl ⟨by decide +kernel, ok_iaload dm_146_292 rfl⟩
set_option maxRecDepth 100000 in
theorem vv_146_293 {l : Launch} (hl : l.stackTraces = false) : cj_V1 l 146 293 (3, 0, 0, []) 294 := Or.inl ⟨by decide +kernel, ok_aload_n dm_146_293 rfl⟩
set_option maxRecDepth 100000 in
theorem vv_146_294 {l : Launch} (hl : l.stackTraces = false) : cj_V1 l 146 294 (2, 4, 0, []) 296 := Or.inl ⟨by decide +kernel, ok_iload dm_146_294⟩
set_option maxRecDepth 100000 in
theorem vv_146_296 {l : Launch} (hl : l.stackTraces = false) : cj_V1 l 146 296 (0, 3, 0, []) 297 := Or.inl ⟨by decide +kernel, ok_iconst dm_146_296 (by decide +kernel)⟩
set_option maxRecDepth 100000 in
theorem vv_146_297 {l : Launch} (hl : l.stackTraces = false) : cj_V1 l 146 297 (10, 0, 0, []) 298 := Or.inl ⟨by decide +kernel, ok_iadd dm_146_297⟩
set_option maxRecDepth 100000 in
theorem vv_146_298 {l : Launch} (hl : l.stackTraces = false) : cj_V1 l 146 298 (54, 0, 0, []) 299 := Or.inl ⟨by decide +kernel, ok_iaload dm_146_298 rfl⟩
set_option maxRecDepth 100000 in
theorem vv_146_299 {l : Launch} (hl : l.stackTraces = false) : cj_V1 l 146 299 (3, 3, 0, []) 300 := Or.inl ⟨by decide +kernel, ok_aload_n dm_146_299 rfl⟩
set_option maxRecDepth 100000 in
theorem vv_146_300 {l : Launch} (hl : l.stackTraces = false) : cj_V1 l 146 300 (81, 111, 5, []) 303 := Or.inr (Or.inr (Or.inl ⟨by decide +kernel, by decide +kernel, rfl, vc_static mi_111 dm_146_300 (Or.inl wm_578) wm_579 (by decide +kernel) (by decide +kernel) (by decide +kernel), (vx_none rfl)⟩))
set_option maxRecDepth 100000 in
theorem vv_146_303 {l : Launch} (hl : l.stackTraces = false) : cj_V1 l 146 303 (4, 5, 0, []) 305 := Or.inl ⟨by decide +kernel, ok_istore dm_146_303⟩
set_option maxRecDepth 100000 in
theorem vv_146_305 {l : Launch} (hl : l.stackTraces = false) : cj_V1 l 146 305 (3, 2, 0, []) 306 := Or.inl ⟨by decide +kernel, ok_aload_n dm_146_305 rfl⟩
set_option maxRecDepth 100000 in
theorem vv_146_306 {l : Launch} (hl : l.stackTraces = false) : cj_V1 l 146 306 (3, 0, 0, []) 307 := Or.inl ⟨by decide +kernel, ok_aload_n dm_146_306 rfl⟩
set_option maxRecDepth 100000 in
theorem vv_146_307 {l : Launch} (hl : l.stackTraces = false) : cj_V1 l 146 307 (2, 4, 0, []) 309 := Or.inl ⟨by decide +kernel, ok_iload dm_146_307⟩
set_option maxRecDepth 100000 in
theorem vv_146_309 {l : Launch} (hl : l.stackTraces = false) : cj_V1 l 146 309 (0, 1, 0, []) 310 := Or.inl ⟨by decide +kernel, ok_iconst dm_146_309 (by decide +kernel)⟩
set_option maxRecDepth 100000 in
theorem vv_146_310 {l : Launch} (hl : l.stackTraces = false) : cj_V1 l 146 310 (10, 0, 0, []) 311 := Or.inl ⟨by decide +kernel, ok_iadd dm_146_310⟩
set_option maxRecDepth 100000 in
theorem vv_146_311 {l : Launch} (hl : l.stackTraces = false) : cj_V1 l 146 311 (54, 0, 0, []) 312 := Or.inl ⟨by decide +kernel, ok_iaload dm_146_311 rfl⟩
set_option maxRecDepth 100000 in
theorem vv_146_312 {l : Launch} (hl : l.stackTraces = false) : cj_V1 l 146 312 (3, 0, 0, []) 313 := Or.inl ⟨by decide +kernel, ok_aload_n dm_146_312 rfl⟩
set_option maxRecDepth 100000 in
theorem vv_146_313 {l : Launch} (hl : l.stackTraces = false) : cj_V1 l 146 313 (2, 4, 0, []) 315 := Or.inl ⟨by decide +kernel, ok_iload dm_146_313⟩
set_option maxRecDepth 100000 in
theorem vv_146_315 {l : Launch} (hl : l.stackTraces = false) : cj_V1 l 146 315 (0, 2, 0, []) 316 := Or.inl ⟨by decide +kernel, ok_iconst dm_146_315 (by decide +kernel)⟩
set_option maxRecDepth 100000 in
theorem vv_146_316 {l : Launch} (hl : l.stackTraces = false) : cj_V1 l 146 316 (10, 0, 0, []) 317 := Or.inl ⟨by decide +kernel, ok_iadd dm_146_316⟩
set_option maxRecDepth 100000 in
theorem vv_146_317 {l : Launch} (hl : l.stackTraces = false) : cj_V1 l 146 317 (54, 0, 0, []) 318 := Or.inl ⟨by decide +kernel, ok_iaload dm_146_317 rfl⟩
set_option maxRecDepth 100000 in
theorem vv_146_318 {l : Launch} (hl : l.stackTraces = false) : cj_V1 l 146 318 (3, 0, 0, []) 319 := Or.inl ⟨by decide +kernel, ok_aload_n dm_146_318 rfl⟩
set_option maxRecDepth 100000 in
theorem vv_146_319 {l : Launch} (hl : l.stackTraces = false) : cj_V1 l 146 319 (2, 4, 0, []) 321 := Or.inl ⟨by decide +kernel, ok_iload dm_146_319⟩
set_option maxRecDepth 100000 in
theorem vv_146_321 {l : Launch} (hl : l.stackTraces = false) : cj_V1 l 146 321 (0, 3, 0, []) 322 := Or.inl ⟨by decide +kernel, ok_iconst dm_146_321 (by decide +kernel)⟩
set_option maxRecDepth 100000 in
theorem vv_146_322 {l : Launch} (hl : l.stackTraces = false) : cj_V1 l 146 322 (10, 0, 0, []) 323 := Or.inl ⟨by decide +kernel, ok_iadd dm_146_322⟩
set_option maxRecDepth 100000 in
theorem vv_146_323 {l : Launch} (hl : l.stackTraces = false) : cj_V1 l 146 323 (54, 0, 0, []) 324 := Or.inl ⟨by decide +kernel, ok_iaload dm_146_323 rfl⟩
set_option maxRecDepth 100000 in
theorem vv_146_324 {l : Launch} (hl : l.stackTraces = false) : cj_V1 l 146 324 (80, 115, 4, [7]) 327 := Or.inr (Or.inr (Or.inl ⟨by decide +kernel, by decide +kernel, rfl, vc_virtual (n := 3) (q := (RK_7, TK_7, 39)) mi_115 dm_146_324 (Or.inl wm_899) wm_900 wm_901 rfl rfl (by decide +kernel) rfl (by decide +kernel) (by decide +kernel), (vx_none rfl)⟩))
set_option maxRecDepth 100000 in
theorem vv_146_327 {l : Launch} (hl : l.stackTraces = false) : cj_V1 l 146 327 (4, 6, 0, []) 329 := Or.inl ⟨by decide +kernel, ok_istore dm_146_327⟩
set_option maxRecDepth 100000 in
theorem vv_146_329 {l : Launch} (hl : l.stackTraces = false) : cj_V1 l 146 329 (30, 629, 0, []) 332 := Or.inl ⟨by decide +kernel, ok_goto dm_146_329 (by decide +kernel)⟩
set_option maxRecDepth 100000 in
theorem vv_146_332 {l : Launch} (hl : l.stackTraces = false) : cj_V1 l 146 332 (3, 1, 0, []) 333 := Or.inl ⟨by decide +kernel, ok_aload_n dm_146_332 rfl⟩
set_option maxRecDepth 100000 in
theorem vv_146_333 {l : Launch} (hl : l.stackTraces = false) : cj_V1 l 146 333 (3, 0, 0, []) 334 := Or.inl ⟨by decide +kernel, ok_aload_n dm_146_333 rfl⟩
set_option maxRecDepth 100000 in
theorem vv_146_334 {l : Launch} (hl : l.stackTraces = false) : cj_V1 l 146 334 (2, 4, 0, []) 336 := Or.inl ⟨by decide +kernel, ok_iload dm_146_334⟩
set_option maxRecDepth 100000 in
theorem vv_146_336 {l : Launch} (hl : l.stackTraces = false) : cj_V1 l 146 336 (0, 1, 0, []) 337 := Or.inl ⟨by decide +kernel, ok_iconst dm_146_336 (by decide +kernel)⟩
set_option maxRecDepth 100000 in
theorem vv_146_337 {l : Launch} (hl : l.stackTraces = false) : cj_V1 l 146 337 (10, 0, 0, []) 338 := Or.inl ⟨by decide +kernel, ok_iadd dm_146_337⟩
set_option maxRecDepth 100000 in
theorem vv_146_338 {l : Launch} (hl : l.stackTraces = false) : cj_V1 l 146 338 (54, 0, 0, []) 339 := Or.inl ⟨by decide +kernel, ok_iaload dm_146_338 rfl⟩
set_option maxRecDepth 100000 in
theorem vv_146_339 {l : Launch} (hl : l.stackTraces = false) : cj_V1 l 146 339 (3, 0, 0, []) 340 := Or.inl ⟨by decide +kernel, ok_aload_n dm_146_339 rfl⟩
set_option maxRecDepth 100000 in
theorem vv_146_340 {l : Launch} (hl : l.stackTraces = false) : cj_V1 l 146 340 (2, 4, 0, []) 342 := Or.inl ⟨by decide +kernel, ok_iload dm_146_340⟩
set_option maxRecDepth 100000 in
theorem vv_146_342 {l : Launch} (hl : l.stackTraces = false) : cj_V1 l 146 342 (0, 2, 0, []) 343 := Or.inl ⟨by decide +kernel, ok_iconst dm_146_342 (by decide +kernel)⟩
set_option maxRecDepth 100000 in
theorem vv_146_343 {l : Launch} (hl : l.stackTraces = false) : cj_V1 l 146 343 (10, 0, 0, []) 344 := Or.inl ⟨by decide +kernel, ok_iadd dm_146_343⟩
set_option maxRecDepth 100000 in
theorem vv_146_344 {l : Launch} (hl : l.stackTraces = false) : cj_V1 l 146 344 (54, 0, 0, []) 345 := Or.inl ⟨by decide +kernel, ok_iaload dm_146_344 rfl⟩
set_option maxRecDepth 100000 in
theorem vv_146_345 {l : Launch} (hl : l.stackTraces = false) : cj_V1 l 146 345 (3, 3, 0, []) 346 := Or.inl ⟨by decide +kernel, ok_aload_n dm_146_345 rfl⟩
set_option maxRecDepth 100000 in
theorem vv_146_346 {l : Launch} (hl : l.stackTraces = false) : cj_V1 l 146 346 (81, 114, 4, []) 349 := Or.inr (Or.inr (Or.inl ⟨by decide +kernel, by decide +kernel, rfl, vc_static mi_114 dm_146_346 (Or.inl wm_591) wm_592 (by decide +kernel) (by decide +kernel) (by decide +kernel), (vx_none rfl)⟩))
set_option maxRecDepth 100000 in
theorem vv_146_349 {l : Launch} (hl : l.stackTraces = false) : cj_V1 l 146 349 (4, 5, 0, []) 351 := Or.inl ⟨by decide +kernel, ok_istore dm_146_349⟩
set_option maxRecDepth 100000 in
theorem vv_146_351 {l : Launch} (hl : l.stackTraces = false) : cj_V1 l 146 351 (3, 2, 0, []) 352 := Or.inl ⟨by decide +kernel, ok_aload_n dm_146_351 rfl⟩
set_option maxRecDepth 100000 in
theorem vv_146_352 {l : Launch} (hl : l.stackTraces = false) : cj_V1 l 146 352 (3, 0, 0, []) 353 := Or.inl ⟨by decide +kernel, ok_aload_n dm_146_352 rfl⟩
set_option maxRecDepth 100000 in
theorem vv_146_353 {l : Launch} (hl : l.stackTraces = false) : cj_V1 l 146 353 (2, 4, 0, []) 355 := Or.inl ⟨by decide +kernel, ok_iload dm_146_353⟩
set_option maxRecDepth 100000 in
theorem vv_146_355 {l : Launch} (hl : l.stackTraces = false) : cj_V1 l 146 355 (0, 1, 0, []) 356 := Or.inl ⟨by decide +kernel, ok_iconst dm_146_355 (by decide +kernel)⟩
set_option maxRecDepth 100000 in
theorem vv_146_356 {l : Launch} (hl : l.stackTraces = false) : cj_V1 l 146 356 (10, 0, 0, []) 357 := Or.inl ⟨by decide +kernel, ok_iadd dm_146_356⟩
set_option maxRecDepth 100000 in
theorem vv_146_357 {l : Launch} (hl : l.stackTraces = false) : cj_V1 l 146 357 (54, 0, 0, []) 358 := Or.inl ⟨by decide +kernel, ok_iaload dm_146_357 rfl⟩
set_option maxRecDepth 100000 in
theorem vv_146_358 {l : Launch} (hl : l.stackTraces = false) : cj_V1 l 146 358 (3, 0, 0, []) 359 := Or.inl ⟨by decide +kernel, ok_aload_n dm_146_358 rfl⟩
set_option maxRecDepth 100000 in
theorem vv_146_359 {l : Launch} (hl : l.stackTraces = false) : cj_V1 l 146 359 (2, 4, 0, []) 361 := Or.inl ⟨by decide +kernel, ok_iload dm_146_359⟩
set_option maxRecDepth 100000 in
theorem vv_146_361 {l : Launch} (hl : l.stackTraces = false) : cj_V1 l 146 361 (0, 2, 0, []) 362 := Or.inl ⟨by decide +kernel, ok_iconst dm_146_361 (by decide +kernel)⟩
set_option maxRecDepth 100000 in
theorem vv_146_362 {l : Launch} (hl : l.stackTraces = false) : cj_V1 l 146 362 (10, 0, 0, []) 363 := Or.inl ⟨by decide +kernel, ok_iadd dm_146_362⟩
set_option maxRecDepth 100000 in
theorem vv_146_363 {l : Launch} (hl : l.stackTraces = false) : cj_V1 l 146 363 (54, 0, 0, []) 364 := Or.inl ⟨by decide +kernel, ok_iaload dm_146_363 rfl⟩
set_option maxRecDepth 100000 in
theorem vv_146_364 {l : Launch} (hl : l.stackTraces = false) : cj_V1 l 146 364 (80, 119, 3, [7]) 367 := Or.inr (Or.inr (Or.inl ⟨by decide +kernel, by decide +kernel, rfl, vc_virtual (n := 2) (q := (RK_7, TK_7, 39)) mi_119 dm_146_364 (Or.inl wm_903) wm_904 wm_905 rfl rfl (by decide +kernel) rfl (by decide +kernel) (by decide +kernel), (vx_none rfl)⟩))
set_option maxRecDepth 100000 in
theorem vv_146_367 {l : Launch} (hl : l.stackTraces = false) : cj_V1 l 146 367 (4, 6, 0, []) 369 := Or.inl ⟨by decide +kernel, ok_istore dm_146_367⟩
set_option maxRecDepth 100000 in
theorem vv_146_369 {l : Launch} (hl : l.stackTraces = false) : cj_V1 l 146 369 (30, 629, 0, []) 372 := Or.inl ⟨by decide +kernel, ok_goto dm_146_369 (by decide +kernel)⟩
set_option maxRecDepth 100000 in
theorem vv_146_372 {l : Launch} (hl : l.stackTraces = false) : cj_V1 l 146 372 (3, 1, 0, []) 373 := Or.inl ⟨by decide +kernel, ok_aload_n dm_146_372 rfl⟩
set_option maxRecDepth 100000 in
theorem vv_146_373 {l : Launch} (hl : l.stackTraces = false) : cj_V1 l 146 373 (3, 3, 0, []) 374 := Or.inl ⟨by decide +kernel, ok_aload_n dm_146_373 rfl⟩
set_option maxRecDepth 100000 in
theorem vv_146_374 {l : Launch} (hl : l.stackTraces = false) : cj_V1 l 146 374 (81, 140, 2, []) 377 := Or.inr (Or.inr (Or.inl ⟨by decide +kernel, by decide +kernel, rfl, vc_static mi_140 dm_146_374 (Or.inl wm_604) wm_605 (by decide +kernel) (by decide +kernel) (by decide +kernel), (vx_none rfl)⟩))
set_option maxRecDepth 100000 in
theorem vv_146_377 {l : Launch} (hl : l.stackTraces = false) : cj_V1 l 146 377 (4, 5, 0, []) 379 := Or.inl ⟨by decide +kernel, ok_istore dm_146_377⟩
set_option maxRecDepth 100000 in
theorem vv_146_379 {l : Launch} (hl : l.stackTraces = false) : cj_V1 l 146 379 (3, 2, 0, []) 380 := Or.inl ⟨by decide +kernel, ok_aload_n dm_146_379 rfl⟩
set_option maxRecDepth 100000 in
theorem vv_146_380 {l : Launch} (hl : l.stackTraces = false) : cj_V1 l 146 380 (80, 93, 1, [7]) 383 := Or.inr (Or.inr (Or.inl ⟨by decide +kernel, by decide +kernel, rfl, vc_virtual (n := 0) (q := (RK_7, TK_7, 39)) mi_93 dm_146_380 (Or.inl wm_907) wm_908 wm_909 rfl rfl (by decide +kernel) rfl (by decide +kernel) (by decide +kernel), (vx_none rfl)⟩))
set_option maxRecDepth 100000 in
theorem vv_146_383 {l : Launch} (hl : l.stackTraces = false) : cj_V1 l 146 383 (4, 6, 0, []) 385 := Or.inl ⟨by decide +kernel, ok_istore dm_146_383⟩
set_option maxRecDepth 100000 in
theorem vv_146_385 {l : Launch} (hl : l.stackTraces = false) : cj_V1 l 146 385 (30, 629, 0, []) 388 := Or.inl ⟨by decide +kernel, ok_goto dm_146_385 (by decide +kernel)⟩
set_option maxRecDepth 100000 in
theorem vv_146_388 {l : Launch} (hl : l.stackTraces = false) : cj_V1 l 146 388 (3, 1, 0, []) 389 := Or.inl ⟨by decide +kernel, ok_aload_n dm_146_388 rfl⟩
set_option maxRecDepth 100000 in
theorem vv_146_389 {l : Launch} (hl : l.stackTraces = false) : cj_V1 l 146 389 (80, 145, 1, [0]) 392 := Or.inr (Or.inr (Or.inl ⟨by decide +kernel, by decide +kernel, rfl, vc_virtual (n := 0) (q := (RK_0, TK_0, 11)) mi_145 dm_146_389 (Or.inl wm_211) wm_212 wm_213 rfl rfl (by decide +kernel) rfl (by decide +kernel) (by decide +kernel), (vx_none rfl)⟩))
set_option maxRecDepth 100000 in
theorem vv_146_392 {l : Launch} (hl : l.stackTraces = false) : cj_V1 l 146 392 (26, 0, 0, []) 393 := Or.inl ⟨by decide +kernel, ok_pop dm_146_392⟩
set_option maxRecDepth 100000 in
theorem vv_146_393 {l : Launch} (hl : l.stackTraces = false) : cj_V1 l 146 393 (3, 2, 0, []) 394 := Or.inl ⟨by decide +kernel, ok_aload_n dm_146_393 rfl⟩
set_option maxRecDepth 100000 in
theorem vv_146_394 {l : Launch} (hl : l.stackTraces = false) : cj_V1 l 146 394 (80, 142, 1, [7]) 397 := Or.inr (Or.inr (Or.inl ⟨by decide +kernel, by decide +kernel, rfl, vc_virtual (n := 0) (q := (RK_7, TK_7, 39)) mi_142 dm_146_394 (Or.inl wm_911) wm_912 wm_913 rfl rfl (by decide +kernel) rfl (by decide +kernel) (by decide +kernel), (vx_none rfl)⟩))
set_option maxRecDepth 100000 in
theorem vv_146_397 {l : Launch} (hl : l.stackTraces = false) : cj_V1 l 146 397 (26, 0, 0, []) 398 := Or.inl ⟨by decide +kernel, ok_pop dm_146_397⟩
set_option maxRecDepth 100000 in
theorem vv_146_398 {l : Launch} (hl : l.stackTraces = false) : cj_V1 l 146 398 (30, 629, 0, []) 401 := Or.inl ⟨by decide +kernel, ok_goto dm_146_398 (by decide +kernel)⟩
set_option maxRecDepth 100000 in
theorem vv_146_401 {l : Launch} (hl : l.stackTraces = false) : cj_V1 l 146 401 (3, 1, 0, []) 402 := Or.inl ⟨by decide +kernel, ok_aload_n dm_146_401 rfl⟩
set_option maxRecDepth 100000 in
theorem vv_146_402 {l : Launch} (hl : l.stackTraces = false) : cj_V1 l 146 402 (3, 0, 0, []) 403 := Or.inl ⟨by decide +kernel, ok_aload_n dm_146_402 rfl⟩
set_option maxRecDepth 100000 in
theorem vv_146_403 {l : Launch} (hl : l.stackTraces = false) : cj_V1 l 146 403 (2, 4, 0, []) 405 := Or.inl ⟨by decide +kernel, ok_iload dm_146_403⟩
set_option maxRecDepth 100000 in
theorem vv_146_405 {l : Launch} (hl : l.stackTraces = false) : cj_V1 l 146 405 (0, 1, 0, []) 406 := Or.inl ⟨by decide +kernel, ok_iconst dm_146_405 (by decide +kernel)⟩
set_option maxRecDepth 100000 in
theorem vv_146_406 {l : Launch} (hl : l.stackTraces = false) : cj_V1 l 146 406 (10, 0, 0, []) 407 := Or.inl ⟨by decide +kernel, ok_iadd dm_146_406⟩
set_option maxRecDepth 100000 in
theorem vv_146_407 {l : Launch} (hl : l.stackTraces = false) : cj_V1 l 146 407 (54, 0, 0, []) 408 := Or.inl ⟨by decide +kernel, ok_iaload dm_146_407 rfl⟩
set_option maxRecDepth 100000 in
theorem vv_146_408 {l : Launch} (hl : l.stackTraces = false) : cj_V1 l 146 408 (3, 3, 0, []) 409 := Or.inl ⟨by decide +kernel, ok_aload_n dm_146_408 rfl⟩
set_option maxRecDepth 100000 in
theorem vv_146_409 {l : Launch} (hl : l.stackTraces = false) : cj_V1 l 146 409 (81, 110, 3, []) 412 := Or.inr (Or.inr (Or.inl ⟨by decide +kernel, by decide +kernel, rfl, vc_static mi_110 dm_146_409 (Or.inl wm_619) wm_620 (by decide +kernel) (by decide +kernel) (by decide +kernel), (vx_none rfl)⟩))
set_option maxRecDepth 100000 in
theorem vv_146_412 {l : Launch} (hl : l.stackTraces = false) : cj_V1 l 146 412 (4, 5, 0, []) 414 := Or.inl ⟨by decide +kernel, ok_istore dm_146_412⟩
set_option maxRecDepth 100000 in
theorem vv_146_414 {l : Launch} (hl : l.stackTraces = false) : cj_V1 l 146 414 (3, 2, 0, []) 415 := Or.inl ⟨by decide +kernel, ok_aload_n dm_146_414 rfl⟩
set_option maxRecDepth 100000 in
theorem vv_146_415 {l : Launch} (hl : l.stackTraces = false) : cj_V1 l 146 415 (3, 0, 0, []) 416 := Or.inl ⟨by decide +kernel, ok_aload_n dm_146_415 rfl⟩
set_option maxRecDepth 100000 in
theorem vv_146_416 {l : Launch} (hl : l.stackTraces = false) : cj_V1 l 146 416 (2, 4, 0, []) 418 := Or.inl ⟨by decide +kernel, ok_iload dm_146_416⟩
set_option maxRecDepth 100000 in
theorem vv_146_418 {l : Launch} (hl : l.stackTraces = false) : cj_V1 l 146 418 (0, 1, 0, []) 419 := Or.inl ⟨by decide +kernel, ok_iconst dm_146_418 (by decide +kernel)⟩
set_option maxRecDepth 100000 in
theorem vv_146_419 {l : Launch} (hl : l.stackTraces = false) : cj_V1 l 146 419 (10, 0, 0, []) 420 := Or.inl ⟨by decide +kernel, ok_iadd dm_146_419⟩
set_option maxRecDepth 100000 in
theorem vv_146_420 {l : Launch} (hl : l.stackTraces = false) : cj_V1 l 146 420 (54, 0, 0, []) 421 := Or.inl ⟨by decide +kernel, ok_iaload dm_146_420 rfl⟩
set_option maxRecDepth 100000 in
theorem vv_146_421 {l : Launch} (hl : l.stackTraces = false) : cj_V1 l 146 421 (80, 85, 2, [7]) 424 := Or.inr (Or.inr (Or.inl ⟨by decide +kernel, by decide +kernel, rfl, vc_virtual (n := 1) (q := (RK_7, TK_7, 39)) mi_85 dm_146_421 (Or.inl wm_975) wm_976 wm_977 rfl rfl (by decide +kernel) rfl (by decide +kernel) (by decide +kernel), (vx_none rfl)⟩))
set_option maxRecDepth 100000 in
theorem vv_146_424 {l : Launch} (hl : l.stackTraces = false) : cj_V1 l 146 424 (4, 6, 0, []) 426 := Or.inl ⟨by decide +kernel, ok_istore dm_146_424⟩
set_option maxRecDepth 100000 in
theorem vv_146_426 {l : Launch} (hl : l.stackTraces = false) : cj_V1 l 146 426 (30, 629, 0, []) 429 := Or.inl ⟨by decide +kernel, ok_goto dm_146_426 (by decide +kernel)⟩
set_option maxRecDepth 100000 in
theorem vv_146_429 {l : Launch} (hl : l.stackTraces = false) : cj_V1 l 146 429 (3, 1, 0, []) 430 := Or.inl ⟨by decide +kernel, ok_aload_n dm_146_429 rfl⟩
set_option maxRecDepth 100000 in
theorem vv_146_430 {l : Launch} (hl : l.stackTraces = false) : cj_V1 l 146 430 (3, 0, 0, []) 431 := Or.inl ⟨by decide +kernel, ok_aload_n dm_146_430 rfl⟩
set_option maxRecDepth 100000 in
theorem vv_146_431 {l : Launch} (hl : l.stackTraces = false) : cj_V1 l 146 431 (2, 4, 0, []) 433 := Or.inl ⟨by decide +kernel, ok_iload dm_146_431⟩
set_option maxRecDepth 100000 in
theorem vv_146_433 {l : Launch} (hl : l.stackTraces = false) : cj_V1 l 146 433 (0, 1, 0, []) 434 := Or.inl ⟨by decide +kernel, ok_iconst dm_146_433 (by decide +kernel)⟩
set_option maxRecDepth 100000 in
theorem vv_146_434 {l : Launch} (hl : l.stackTraces = false) : cj_V1 l 146 434 (10, 0, 0, []) 435 := Or.inl ⟨by decide +kernel, ok_iadd dm_146_434⟩
set_option maxRecDepth 100000 in
theorem vv_146_435 {l : Launch} (hl : l.stackTraces = false) : cj_V1 l 146 435 (54, 0, 0, []) 436 := Or.inl ⟨by decide +kernel, ok_iaload dm_146_435 rfl⟩
set_option maxRecDepth 100000 in
theorem vv_146_436 {l : Launch} (hl : l.stackTraces = false) : cj_V1 l 146 436 (3, 3, 0, []) 437 := Or.inl ⟨by decide +kernel, ok_aload_n dm_146_436 rfl⟩
set_option maxRecDepth 100000 in
theorem vv_146_437 {l : Launch} (hl : l.stackTraces = false) : cj_V1 l 146 437 (81, 133, 3, []) 440 := Or.inr (Or.inr (Or.inl ⟨by decide +kernel, by decide +kernel, rfl, vc_static mi_133 dm_146_437 (Or.inl wm_632) wm_633 (by decide +kernel) (by decide +kernel) (by decide +kernel), (vx_none rfl)⟩))
set_option maxRecDepth 100000 in
theorem vv_146_440 {l : Launch} (hl : l.stackTraces = false) : cj_V1 l 146 440 (4, 5, 0, []) 442 := Or.inl ⟨by decide +kernel, ok_istore dm_146_440⟩
set_option maxRecDepth 100000 in
theorem vv_146_442 {l : Launch} (hl : l.stackTraces = false) : cj_V1 l 146 442 (3, 2, 0, []) 443 := Or.inl ⟨by decide +kernel, ok_aload_n dm_146_442 rfl⟩
set_option maxRecDepth 100000 in
theorem vv_146_443 {l : Launch} (hl : l.stackTraces = false) : cj_V1 l 146 443 (3, 0, 0, []) 444 := Or.inl ⟨by decide +kernel, ok_aload_n dm_146_443 rfl⟩
set_option maxRecDepth 100000 in
theorem vv_146_444 {l : Launch} (hl : l.stackTraces = false) : cj_V1 l 146 444 (2, 4, 0, []) 446 := Or.inl ⟨by decide +kernel, ok_iload dm_146_444⟩
set_option maxRecDepth 100000 in
theorem vv_146_446 {l : Launch} (hl : l.stackTraces = false) : cj_V1 l 146 446 (0, 1, 0, []) 447 := Or.inl ⟨by decide +kernel, ok_iconst dm_146_446 (by decide +kernel)⟩
set_option maxRecDepth 100000 in
theorem vv_146_447 {l : Launch} (hl : l.stackTraces = false) : cj_V1 l 146 447 (10, 0, 0, []) 448 := Or.inl ⟨by decide +kernel, ok_iadd dm_146_447⟩
set_option maxRecDepth 100000 in
theorem vv_146_448 {l : Launch} (hl : l.stackTraces = false) : cj_V1 l 146 448 (54, 0, 0, []) 449 := Or.inl ⟨by decide +kernel, ok_iaload dm_146_448 rfl⟩
set_option maxRecDepth 100000 in
theorem vv_146_449 {l : Launch} (hl : l.stackTraces = false) : cj_V1 l 146 449 (80, 118, 2, [7]) 452 := Or.inr (Or.inr (Or.inl ⟨by decide +kernel, by decide +kernel, rfl, vc_virtual (n := 1) (q := (RK_7, TK_7, 39)) mi_118 dm_146_449 (Or.inl wm_979) wm_980 wm_981 rfl rfl (by decide +kernel) rfl (by decide +kernel) (by decide +kernel), (vx_none rfl)⟩))
set_option maxRecDepth 100000 in
theorem vv_146_452 {l : Launch} (hl : l.stackTraces = false) : cj_V1 l 146 452 (4, 6, 0, []) 454 := Or.inl ⟨by decide +kernel, ok_istore dm_146_452⟩
set_option maxRecDepth 100000 in
theorem vv_146_454 {l : Launch} (hl : l.stackTraces = false) : cj_V1 l 146 454 (30, 629, 0, []) 457 := Or.inl ⟨by decide +kernel, ok_goto dm_146_454 (by decide +kernel)⟩
set_option maxRecDepth 100000 in
theorem vv_146_457 {l : Launch} (hl : l.stackTraces = false) : cj_V1 l 146 457 (3, 1, 0, []) 458 := Or.inl ⟨by decide +kernel, ok_aload_n dm_146_457 rfl⟩
set_option maxRecDepth 100000 in
theorem vv_146_458 {l : Launch} (hl : l.stackTraces = false) : cj_V1 l 146 458 (3, 0, 0, []) 459 := Or.inl ⟨by decide +kernel, ok_aload_n dm_146_458 rfl⟩
set_option maxRecDepth 100000 in
theorem vv_146_459 {l : Launch} (hl : l.stackTraces = false) : cj_V1 l 146 459 (2, 4, 0, []) 461 := Or.inl ⟨by decide +kernel, ok_iload dm_146_459⟩
set_option maxRecDepth 100000 in
theorem vv_146_461 {l : Launch} (hl : l.stackTraces = false) : cj_V1 l 146 461 (0, 1, 0, []) 462 := Or.inl ⟨by decide +kernel, ok_iconst dm_146_461 (by decide +kernel)⟩
set_option maxRecDepth 100000 in
theorem vv_146_462 {l : Launch} (hl : l.stackTraces = false) : cj_V1 l 146 462 (10, 0, 0, []) 463 := Or.inl ⟨by decide +kernel, ok_iadd dm_146_462⟩
set_option maxRecDepth 100000 in
theorem vv_146_463 {l : Launch} (hl : l.stackTraces = false) : cj_V1 l 146 463 (54, 0, 0, []) 464 := Or.inl ⟨by decide +kernel, ok_iaload dm_146_463 rfl⟩
set_option maxRecDepth 100000 in
theorem vv_146_464 {l : Launch} (hl : l.stackTraces = false) : cj_V1 l 146 464 (3, 0, 0, []) 465 := Or.inl ⟨by decide +kernel, ok_aload_n dm_146_464 rfl⟩
set_option maxRecDepth 100000 in
theorem vv_146_465 {l : Launch} (hl : l.stackTraces = false) : cj_V1 l 146 465 (2, 4, 0, []) 467 := Or.inl ⟨by decide +kernel, ok_iload dm_146_465⟩
set_option maxRecDepth 100000 in
theorem vv_146_467 {l : Launch} (hl : l.stackTraces = false) : cj_V1 l 146 467 (0, 2, 0, []) 468 := Or.inl ⟨by decide +kernel, ok_iconst dm_146_467 (by decide +kernel)⟩
set_option maxRecDepth 100000 in
theorem vv_146_468 {l : Launch} (hl : l.stackTraces = false) : cj_V1 l 146 468 (10, 0, 0, []) 469 := Or.inl ⟨by decide +kernel, ok_iadd dm_146_468⟩
set_option maxRecDepth 100000 in
theorem vv_146_469 {l : Launch} (hl : l.stackTraces = false) : cj_V1 l 146 469 (54, 0, 0, []) 470 := Or.inl ⟨by decide +kernel, ok_iaload dm_146_469 rfl⟩
set_option maxRecDepth 100000 in
theorem vv_146_470 {l : Launch} (hl : l.stackTraces = false) : cj_V1 l 146 470 (3, 0, 0, []) 471 := Or.inl ⟨by decide +kernel, ok_aload_n dm_146_470 rfl⟩
set_option maxRecDepth 100000 in
theorem vv_146_471 {l : Launch} (hl : l.stackTraces = false) : cj_V1 l 146 471 (2, 4, 0, []) 473 := Or.inl ⟨by decide +kernel, ok_iload dm_146_471⟩
set_option maxRecDepth 100000 in
theorem vv_146_473 {l : Launch} (hl : l.stackTraces = false) : cj_V1 l 146 473 (0, 3, 0, []) 474 := Or.inl ⟨by decide +kernel, ok_iconst dm_146_473 (by decide +kernel)⟩
set_option maxRecDepth 100000 in
theorem vv_146_474 {l : Launch} (hl : l.stackTraces = false) : cj_V1 l 146 474 (10, 0, 0, []) 475 := Or.inl ⟨by decide +kernel, ok_iadd dm_146_474⟩
set_option maxRecDepth 100000 in
theorem vv_146_475 {l : Launch} (hl : l.stackTraces = false) : cj_V1 l 146 475 (54, 0, 0, []) 476 := Or.inl ⟨by decide +kernel, ok_iaload dm_146_475 rfl⟩
set_option maxRecDepth 100000 in
theorem vv_146_476 {l : Launch} (hl : l.stackTraces = false) : cj_V1 l 146 476 (3, 3, 0, []) 477 := Or.inl ⟨by decide +kernel, ok_aload_n dm_146_476 rfl⟩
set_option maxRecDepth 100000 in
theorem vv_146_477 {l : Launch} (hl : l.stackTraces = false) : cj_V1 l 146 477 (81, 132, 5, []) 480 := Or.inr (Or.inr (Or.inl ⟨by decide +kernel, by decide +kernel, rfl, vc_static mi_132 dm_146_477 (Or.inl wm_649) wm_650 (by decide +kernel) (by decide +kernel) (by decide +kernel), (vx_none rfl)⟩))
set_option maxRecDepth 100000 in
theorem vv_146_480 {l : Launch} (hl : l.stackTraces = false) : cj_V1 l 146 480 (4, 5, 0, []) 482 := Or.inl ⟨by decide +kernel, ok_istore dm_146_480⟩
set_option maxRecDepth 100000 in
theorem vv_146_482 {l : Launch} (hl : l.stackTraces = false) : cj_V1 l 146 482 (3, 2, 0, []) 483 := Or.inl ⟨by decide +kernel, ok_aload_n dm_146_482 rfl⟩
set_option maxRecDepth 100000 in
theorem vv_146_483 {l : Launch} (hl : l.stackTraces = false) : cj_V1 l 146 483 (3, 0, 0, []) 484 := Or.inl ⟨by decide +kernel, ok_aload_n dm_146_483 rfl⟩
set_option maxRecDepth 100000 in
theorem vv_146_484 {l : Launch} (hl : l.stackTraces = false) : cj_V1 l 146 484 (2, 4, 0, []) 486 := Or.inl ⟨by decide +kernel, ok_iload dm_146_484⟩
set_option maxRecDepth 100000 in
theorem vv_146_486 {l : Launch} (hl : l.stackTraces = false) : cj_V1 l 146 486 (0, 1, 0, []) 487 := Or.inl ⟨by decide +kernel, ok_iconst dm_146_486 (by decide +kernel)⟩
set_option maxRecDepth 100000 in
theorem vv_146_487 {l : Launch} (hl : l.stackTraces = false) : cj_V1 l 146 487 (10, 0, 0, []) 488 := Or.inl ⟨by decide +kernel, ok_iadd dm_146_487⟩
set_option maxRecDepth 100000 in
theorem vv_146_488 {l : Launch} (hl : l.stackTraces = false) : cj_V1 l 146 488 (54, 0, 0, []) 489 := Or.inl ⟨by decide +kernel, ok_iaload dm_146_488 rfl⟩
set_option maxRecDepth 100000 in
theorem vv_146_489 {l : Launch} (hl : l.stackTraces = false) : cj_V1 l 146 489 (3, 0, 0, []) 490 := Or.inl ⟨by decide +kernel, ok_aload_n dm_146_489 rfl⟩
set_option maxRecDepth 100000 in
theorem vv_146_490 {l : Launch} (hl : l.stackTraces = false) : cj_V1 l 146 490 (2, 4, 0, []) 492 := Or.inl ⟨by decide +kernel, ok_iload dm_146_490⟩
set_option maxRecDepth 100000 in
theorem vv_146_492 {l : Launch} (hl : l.stackTraces = false) : cj_V1 l 146 492 (0, 2, 0, []) 493 := Or.inl ⟨by decide +kernel, ok_iconst dm_146_492 (by decide +kernel)⟩
set_option maxRecDepth 100000 in
theorem vv_146_493 {l : Launch} (hl : l.stackTraces = false) : cj_V1 l 146 493 (10, 0, 0, []) 494 := Or.inl ⟨by decide +kernel, ok_iadd dm_146_493⟩
set_option maxRecDepth 100000 in
theorem vv_146_494 {l : Launch} (hl : l.stackTraces = false) : cj_V1 l 146 494 (54, 0, 0, []) 495 := Or.inl ⟨by decide +kernel, ok_iaload dm_146_494 rfl⟩
set_option maxRecDepth 100000 in
theorem vv_146_495 {l : Launch} (hl : l.stackTraces = false) : cj_V1 l 146 495 (3, 0, 0, []) 496 := Or.inl ⟨by decide +kernel, ok_aload_n dm_146_495 rfl⟩
set_option maxRecDepth 100000 in
theorem vv_146_496 {l : Launch} (hl : l.stackTraces = false) : cj_V1 l 146 496 (2, 4, 0, []) 498 := Or.inl ⟨by decide +kernel, ok_iload dm_146_496⟩
set_option maxRecDepth 100000 in
theorem vv_146_498 {l : Launch} (hl : l.stackTraces = false) : cj_V1 l 146 498 (0, 3, 0, []) 499 := Or.inl ⟨by decide +kernel, ok_iconst dm_146_498 (by decide +kernel)⟩
set_option maxRecDepth 100000 in
theorem vv_146_499 {l : Launch} (hl : l.stackTraces = false) : cj_V1 l 146 499 (10, 0, 0, []) 500 := Or.inl ⟨by decide +kernel, ok_iadd dm_146_499⟩
set_option maxRecDepth 100000 in
theorem vv_146_500 {l : Launch} (hl : l.stackTraces = false) : cj_V1 l 146 500 (54, 0, 0, []) 501 := Or.inl ⟨by decide +kernel, ok_iaload dm_146_500 rfl⟩
set_option maxRecDepth 100000 in
theorem vv_146_501 {l : Launch} (hl : l.stackTraces = false) : cj_V1 l 146 501 (80, 92, 4, [7]) 504 := Or.inr (Or.inr (Or.inl ⟨by decide +kernel, by decide +kernel, rfl, vc_virtual (n := 3) (q := (RK_7, TK_7, 39)) mi_92 dm_146_501 (Or.inl wm_987) wm_988 wm_989 rfl rfl (by decide +kernel) rfl (by decide +kernel) (by decide +kernel), (vx_none rfl)⟩))
set_option maxRecDepth 100000 in
theorem vv_146_504 {l : Launch} (hl : l.stackTraces = false) : cj_V1 l 146 504 (4, 6, 0, []) 506 := Or.inl ⟨by decide +kernel, ok_istore dm_146_504⟩
set_option maxRecDepth 100000 in
theorem vv_146_506 {l : Launch} (hl : l.stackTraces = false) : cj_V1 l 146 506 (30, 629, 0, []) 509 := Or.inl ⟨by decide +kernel, ok_goto dm_146_506 (by decide +kernel)⟩
set_option maxRecDepth 100000 in
theorem vv_146_509 {l : Launch} (hl : l.stackTraces = false) : cj_V1 l 146 509 (3, 1, 0, []) 510 := Or.inl ⟨by decide +kernel, ok_aload_n dm_146_509 rfl⟩
set_option maxRecDepth 100000 in
theorem vv_146_510 {l : Launch} (hl : l.stackTraces = false) : cj_V1 l 146 510 (3, 0, 0, []) 511 := Or.inl ⟨by decide +kernel, ok_aload_n dm_146_510 rfl⟩
set_option maxRecDepth 100000 in
theorem vv_146_511 {l : Launch} (hl : l.stackTraces = false) : cj_V1 l 146 511 (2, 4, 0, []) 513 := Or.inl ⟨by decide +kernel, ok_iload dm_146_511⟩
set_option maxRecDepth 100000 in
theorem vv_146_513 {l : Launch} (hl : l.stackTraces = false) : cj_V1 l 146 513 (0, 1, 0, []) 514 := Or.inl ⟨by decide +kernel, ok_iconst dm_146_513 (by decide +kernel)⟩
set_option maxRecDepth 100000 in
theorem vv_146_514 {l : Launch} (hl : l.stackTraces = false) : cj_V1 l 146 514 (10, 0, 0, []) 515 := Or.inl ⟨by decide +kernel, ok_iadd dm_146_514⟩
set_option maxRecDepth 100000 in
theorem vv_146_515 {l : Launch} (hl : l.stackTraces = false) : cj_V1 l 146 515 (54, 0, 0, []) 516 := Or.inl ⟨by decide +kernel, ok_iaload dm_146_515 rfl⟩
set_option maxRecDepth 100000 in
theorem vv_146_516 {l : Launch} (hl : l.stackTraces = false) : cj_V1 l 146 516 (3, 0, 0, []) 517 := Or.inl ⟨by decide +kernel, ok_aload_n dm_146_516 rfl⟩
set_option maxRecDepth 100000 in
theorem vv_146_517 {l : Launch} (hl : l.stackTraces = false) : cj_V1 l 146 517 (2, 4, 0, []) 519 := Or.inl ⟨by decide +kernel, ok_iload dm_146_517⟩
set_option maxRecDepth 100000 in
theorem vv_146_519 {l : Launch} (hl : l.stackTraces = false) : cj_V1 l 146 519 (0, 2, 0, []) 520 := Or.inl ⟨by decide +kernel, ok_iconst dm_146_519 (by decide +kernel)⟩
set_option maxRecDepth 100000 in
theorem vv_146_520 {l : Launch} (hl : l.stackTraces = false) : cj_V1 l 146 520 (10, 0, 0, []) 521 := Or.inl ⟨by decide +kernel, ok_iadd dm_146_520⟩
set_option maxRecDepth 100000 in
theorem vv_146_521 {l : Launch} (hl : l.stackTraces = false) : cj_V1 l 146 521 (54, 0, 0, []) 522 := Or.inl ⟨by decide +kernel, ok_iaload dm_146_521 rfl⟩
set_option maxRecDepth 100000 in
theorem vv_146_522 {l : Launch} (hl : l.stackTraces = false) : cj_V1 l 146 522 (3, 0, 0, []) 523 := Or.inl ⟨by decide +kernel, ok_aload_n dm_146_522 rfl⟩
set_option maxRecDepth 100000 in
theorem vv_146_523 {l : Launch} (hl : l.stackTraces = false) : cj_V1 l 146 523 (2, 4, 0, []) 525 := Or.inl ⟨by decide +kernel, ok_iload dm_146_523⟩
set_option maxRecDepth 100000 in
theorem vv_146_525 {l : Launch} (hl : l.stackTraces = false) : cj_V1 l 146 525 (0, 3, 0, []) 526 := Or.inl ⟨by decide +kernel, ok_iconst dm_146_525 (by decide +kernel)⟩
set_option maxRecDepth 100000 in
theorem vv_146_526 {l : Launch} (hl : l.stackTraces = false) : cj_V1 l 146 526 (10, 0, 0, []) 527 := Or.inl ⟨by decide +kernel, ok_iadd dm_146_526⟩
set_option maxRecDepth 100000 in
theorem vv_146_527 {l : Launch} (hl : l.stackTraces = false) : cj_V1 l 146 527 (54, 0, 0, []) 528 := Or.inl ⟨by decide +kernel, ok_iaload dm_146_527 rfl⟩
set_option maxRecDepth 100000 in
theorem vv_146_528 {l : Launch} (hl : l.stackTraces = false) : cj_V1 l 146 528 (3, 3, 0, []) 529 := Or.inl ⟨by decide +kernel, ok_aload_n dm_146_528 rfl⟩
set_option maxRecDepth 100000 in
theorem vv_146_529 {l : Launch} (hl : l.stackTraces = false) : cj_V1 l 146 529 (81, 134, 5, []) 532 := Or.inr (Or.inr (Or.inl ⟨by decide +kernel, by decide +kernel, rfl, vc_static mi_134 dm_146_529 (Or.inl wm_670) wm_671 (by decide +kernel) (by decide +kernel) (by decide +kernel), (vx_none rfl)⟩))
set_option maxRecDepth 100000 in
theorem vv_146_532 {l : Launch} (hl : l.stackTraces = false) : cj_V1 l 146 532 (4, 5, 0, []) 534 := Or.inl ⟨by decide +kernel, ok_istore dm_146_532⟩
set_option maxRecDepth 100000 in
theorem vv_146_534 {l : Launch} (hl : l.stackTraces = false) : cj_V1 l 146 534 (3, 2, 0, []) 535 := Or.inl ⟨by decide +kernel, ok_aload_n dm_146_534 rfl⟩
set_option maxRecDepth 100000 in
theorem vv_146_535 {l : Launch} (hl : l.stackTraces = false) : cj_V1 l 146 535 (3, 0, 0, []) 536 := Or.inl ⟨by decide +kernel, ok_aload_n dm_146_535 rfl⟩
set_option maxRecDepth 100000 in
theorem vv_146_536 {l : Launch} (hl : l.stackTraces = false) : cj_V1 l 146 536 (2, 4, 0, []) 538 := Or.inl ⟨by decide +kernel, ok_iload dm_146_536⟩
set_option maxRecDepth 100000 in
theorem vv_146_538 {l : Launch} (hl : l.stackTraces = false) : cj_V1 l 146 538 (0, 1, 0, []) 539 := Or.inl ⟨by decide +kernel, ok_iconst dm_146_538 (by decide +kernel)⟩
set_option maxRecDepth 100000 in
theorem vv_146_539 {l : Launch} (hl : l.stackTraces = false) : cj_V1 l 146 539 (10, 0, 0, []) 540 := Or.inl ⟨by decide +kernel, ok_iadd dm_146_539⟩
set_option maxRecDepth 100000 in
theorem vv_146_540 {l : Launch} (hl : l.stackTraces = false) : cj_V1 l 146 540 (54, 0, 0, []) 541 := Or.inl ⟨by decide +kernel, ok_iaload dm_146_540 rfl⟩
set_option maxRecDepth 100000 in
theorem vv_146_541 {l : Launch} (hl : l.stackTraces = false) : cj_V1 l 146 541 (3, 0, 0, []) 542 := Or.inl ⟨by decide +kernel, ok_aload_n dm_146_541 rfl⟩
set_option maxRecDepth 100000 in
theorem vv_146_542 {l : Launch} (hl : l.stackTraces = false) : cj_V1 l 146 542 (2, 4, 0, []) 544 := Or.inl ⟨by decide +kernel, ok_iload dm_146_542⟩
set_option maxRecDepth 100000 in
theorem vv_146_544 {l : Launch} (hl : l.stackTraces = false) : cj_V1 l 146 544 (0, 2, 0, []) 545 := Or.inl ⟨by decide +kernel, ok_iconst dm_146_544 (by decide +kernel)⟩
set_option maxRecDepth 100000 in
theorem vv_146_545 {l : Launch} (hl : l.stackTraces = false) : cj_V1 l 146 545 (10, 0, 0, []) 546 := Or.inl ⟨by decide +kernel, ok_iadd dm_146_545⟩
set_option maxRecDepth 100000 in
theorem vv_146_546 {l : Launch} (hl : l.stackTraces = false) : cj_V1 l 146 546 (54, 0, 0, []) 547 := Or.inl ⟨by decide +kernel, ok_iaload dm_146_546 rfl⟩
set_option maxRecDepth 100000 in
theorem vv_146_547 {l : Launch} (hl : l.stackTraces = false) : cj_V1 l 146 547 (3, 0, 0, []) 548 := Or.inl ⟨by decide +kernel, ok_aload_n dm_146_547 rfl⟩
set_option maxRecDepth 100000 in
theorem vv_146_548 {l : Launch} (hl : l.stackTraces = false) : cj_V1 l 146 548 (2, 4, 0, []) 550 := Or.inl ⟨by decide +kernel, ok_iload dm_146_548⟩
set_option maxRecDepth 100000 in
theorem vv_146_550 {l : Launch} (hl : l.stackTraces = false) : cj_V1 l 146 550 (0, 3, 0, []) 551 := Or.inl ⟨by decide +kernel, ok_iconst dm_146_550 (by decide +kernel)⟩
set_option maxRecDepth 100000 in
theorem vv_146_551 {l : Launch} (hl : l.stackTraces = false) : cj_V1 l 146 551 (10, 0, 0, []) 552 := Or.inl ⟨by decide +kernel, ok_iadd dm_146_551⟩
set_option maxRecDepth 100000 in
theorem vv_146_552 {l : Launch} (hl : l.stackTraces = false) : cj_V1 l 146 552 (54, 0, 0, []) 553 := Or.inl ⟨by decide +kernel, ok_iaload dm_146_552 rfl⟩
set_option maxRecDepth 100000 in
theorem vv_146_553 {l : Launch} (hl : l.stackTraces = false) : cj_V1 l 146 553 (80, 121, 4, [7]) 556 := Or.inr (Or.inr (Or.inl ⟨by decide +kernel, by decide +kernel, rfl, vc_virtual (n := 3) (q := (RK_7, TK_7, 39)) mi_121 dm_146_553 (Or.inl wm_991) wm_992 wm_993 rfl rfl (by decide +kernel) rfl (by decide +kernel) (by decide +kernel), (vx_none rfl)⟩))
set_option maxRecDepth 100000 in
theorem vv_146_556 {l : Launch} (hl : l.stackTraces = false) : cj_V1 l 146 556 (4, 6, 0, []) 558 := Or.inl ⟨by decide +kernel, ok_istore dm_146_556⟩
set_option maxRecDepth 100000 in
theorem vv_146_558 {l : Launch} (hl : l.stackTraces = false) : cj_V1 l 146 558 (30, 629, 0, []) 561 := Or.inl ⟨by decide +kernel, ok_goto dm_146_558 (by decide +kernel)⟩
set_option maxRecDepth 100000 in
theorem vv_146_561 {l : Launch} (hl : l.stackTraces = false) : cj_V1 l 146 561 (3, 1, 0, []) 562 := Or.inl ⟨by decide +kernel, ok_aload_n dm_146_561 rfl⟩
set_option maxRecDepth 100000 in
theorem vv_146_562 {l : Launch} (hl : l.stackTraces = false) : cj_V1 l 146 562 (3, 0, 0, []) 563 := Or.inl ⟨by decide +kernel, ok_aload_n dm_146_562 rfl⟩
set_option maxRecDepth 100000 in
theorem vv_146_563 {l : Launch} (hl : l.stackTraces = false) : cj_V1 l 146 563 (2, 4, 0, []) 565 := Or.inl ⟨by decide +kernel, ok_iload dm_146_563⟩
set_option maxRecDepth 100000 in
theorem vv_146_565 {l : Launch} (hl : l.stackTraces = false) : cj_V1 l 146 565 (0, 1, 0, []) 566 := Or.inl ⟨by decide +kernel, ok_iconst dm_146_565 (by decide +kernel)⟩
set_option maxRecDepth 100000 in
theorem vv_146_566 {l : Launch} (hl : l.stackTraces = false) : cj_V1 l 146 566 (10, 0, 0, []) 567 := Or.inl ⟨by decide +kernel, ok_iadd dm_146_566⟩
set_option maxRecDepth 100000 in
theorem vv_146_567 {l : Launch} (hl : l.stackTraces = false) : cj_V1 l 146 567 (54, 0, 0, []) 568 := Or.inl ⟨by decide +kernel, ok_iaload dm_146_567 rfl⟩
set_option maxRecDepth 100000 in
theorem vv_146_568 {l : Launch} (hl : l.stackTraces = false) : cj_V1 l 146 568 (3, 0, 0, []) 569 := Or.inl ⟨by decide +kernel, ok_aload_n dm_146_568 rfl⟩
set_option maxRecDepth 100000 in
theorem vv_146_569 {l : Launch} (hl : l.stackTraces = false) : cj_V1 l 146 569 (2, 4, 0, []) 571 := Or.inl ⟨by decide +kernel, ok_iload dm_146_569⟩
set_option maxRecDepth 100000 in
theorem vv_146_571 {l : Launch} (hl : l.stackTraces = false) : cj_V1 l 146 571 (0, 2, 0, []) 572 := Or.inl ⟨by decide +kernel, ok_iconst dm_146_571 (by decide +kernel)⟩
set_option maxRecDepth 100000 in
theorem vv_146_572 {l : Launch} (hl : l.stackTraces = false) : cj_V1 l 146 572 (10, 0, 0, []) 573 := Or.inl ⟨by decide +kernel, ok_iadd dm_146_572⟩
set_option maxRecDepth 100000 in
theorem vv_146_573 {l : Launch} (hl : l.stackTraces = false) : cj_V1 l 146 573 (54, 0, 0, []) 574 := Or.inl ⟨by decide +kernel, ok_iaload dm_146_573 rfl⟩
set_option maxRecDepth 100000 in
theorem vv_146_574 {l : Launch} (hl : l.stackTraces = false) : cj_V1 l 146 574 (3, 3, 0, []) 575 := Or.inl ⟨by decide +kernel, ok_aload_n dm_146_574 rfl⟩
set_option maxRecDepth 100000 in
theorem vv_146_575 {l : Launch} (hl : l.stackTraces = false) : cj_V1 l 146 575 (81, 144, 4, []) 578 := Or.inr (Or.inr (Or.inl ⟨by decide +kernel, by decide +kernel, rfl, vc_static mi_144 dm_146_575 (Or.inl wm_699) wm_700 (by decide +kernel) (by decide +kernel) (by decide +kernel), (vx_none rfl)⟩))
set_option maxRecDepth 100000 in
theorem vv_146_578 {l : Launch} (hl : l.stackTraces = false) : cj_V1 l 146 578 (4, 5, 0, []) 580 := Or.inl ⟨by decide +kernel, ok_istore dm_146_578⟩
set_option maxRecDepth 100000 in
theorem vv_146_580 {l : Launch} (hl : l.stackTraces = false) : cj_V1 l 146 580 (3, 2, 0, []) 581 := Or.inl ⟨by decide +kernel, ok_aload_n dm_146_580 rfl⟩
set_option maxRecDepth 100000 in
theorem vv_146_581 {l : Launch} (hl : l.stackTraces = false) : cj_V1 l 146 581 (3, 0, 0, []) 582 := Or.inl ⟨by decide +kernel, ok_aload_n dm_146_581 rfl⟩
set_option maxRecDepth 100000 in
theorem vv_146_582 {l : Launch} (hl : l.stackTraces = false) : cj_V1 l 146 582 (2, 4, 0, []) 584 := Or.inl ⟨by decide +kernel, ok_iload dm_146_582⟩
set_option maxRecDepth 100000 in
theorem vv_146_584 {l : Launch} (hl : l.stackTraces = false) : cj_V1 l 146 584 (0, 1, 0, []) 585 := Or.inl ⟨by decide +kernel, ok_iconst dm_146_584 (by decide +kernel)⟩
set_option maxRecDepth 100000 in
theorem vv_146_585 {l : Launch} (hl : l.stackTraces = false) : cj_V1 l 146 585 (10, 0, 0, []) 586 := Or.inl ⟨by decide +kernel, ok_iadd dm_146_585⟩
set_option maxRecDepth 100000 in
theorem vv_146_586 {l : Launch} (hl : l.stackTraces = false) : cj_V1 l 146 586 (54, 0, 0, []) 587 := Or.inl ⟨by decide +kernel, ok_iaload dm_146_586 rfl⟩
set_option maxRecDepth 100000 in
theorem vv_146_587 {l : Launch} (hl : l.stackTraces = false) : cj_V1 l 146 587 (3, 0, 0, []) 588 := Or.inl ⟨by decide +kernel, ok_aload_n dm_146_587 rfl⟩
set_option maxRecDepth 100000 in
theorem vv_146_588 {l : Launch} (hl : l.stackTraces = false) : cj_V1 l 146 588 (2, 4, 0, []) 590 := Or.inl ⟨by decide +kernel, ok_iload dm_146_588⟩
set_option maxRecDepth 100000 in
theorem vv_146_590 {l : Launch} (hl : l.stackTraces = false) : cj_V1 l 146 590 (0, 2, 0, []) 591 := Or.inl ⟨by decide +kernel, ok_iconst dm_146_590 (by decide +kernel)⟩
set_option maxRecDepth 100000 in
theorem vv_146_591 {l : Launch} (hl : l.stackTraces = false) : cj_V1 l 146 591 (10, 0, 0, []) 592 := Or.inl ⟨by decide +kernel, ok_iadd dm_146_591⟩
set_option maxRecDepth 100000 in
theorem vv_146_592 {l : Launch} (hl : l.stackTraces = false) : cj_V1 l 146 592 (54, 0, 0, []) 593 := Or.inl ⟨by decide +kernel, ok_iaload dm_146_592 rfl⟩
set_option maxRecDepth 100000 in
theorem vv_146_593 {l : Launch} (hl : l.stackTraces = false) : cj_V1 l 146 593 (80, 117, 3, [7]) 596 := Or.inr (Or.inr (Or.inl ⟨by decide +kernel, by decide +kernel, rfl, vc_virtual (n := 2) (q := (RK_7, TK_7, 39)) mi_117 dm_146_593 (Or.inl wm_995) wm_996 wm_997 rfl rfl (by decide +kernel) rfl (by decide +kernel) (by decide +kernel), (vx_none rfl)⟩))
set_option maxRecDepth 100000 in
theorem vv_146_596 {l : Launch} (hl : l.stackTraces = false) : cj_V1 l 146 596 (4, 6, 0, []) 598 := Or.inl ⟨by decide +kernel, ok_istore dm_146_596⟩
set_option maxRecDepth 100000 in
theorem vv_146_598 {l : Launch} (hl : l.stackTraces = false) : cj_V1 l 146 598 (30, 629, 0, []) 601 := Or.inl ⟨by decide +kernel, ok_goto dm_146_598 (by decide +kernel)⟩
set_option maxRecDepth 100000 in
theorem vv_146_601 {l : Launch} (hl : l.stackTraces = false) : cj_V1 l 146 601 (3, 1, 0, []) 602 := Or.inl ⟨by decide +kernel, ok_aload_n dm_146_601 rfl⟩
set_option maxRecDepth 100000 in
theorem vv_146_602 {l : Launch} (hl : l.stackTraces = false) : cj_V1 l 146 602 (3, 0, 0, []) 603 := Or.inl ⟨by decide +kernel, ok_aload_n dm_146_602 rfl⟩
set_option maxRecDepth 100000 in
theorem vv_146_603 {l : Launch} (hl : l.stackTraces = false) : cj_V1 l 146 603 (2, 4, 0, []) 605 := Or.inl ⟨by decide +kernel, ok_iload dm_146_603⟩
set_option maxRecDepth 100000 in
theorem vv_146_605 {l : Launch} (hl : l.stackTraces = false) : cj_V1 l 146 605 (0, 1, 0, []) 606 := Or.inl ⟨by decide +kernel, ok_iconst dm_146_605 (by decide +kernel)⟩
set_option maxRecDepth 100000 in
theorem vv_146_606 {l : Launch} (hl : l.stackTraces = false) : cj_V1 l 146 606 (10, 0, 0, []) 607 := Or.inl ⟨by decide +kernel, ok_iadd dm_146_606⟩
set_option maxRecDepth 100000 in
theorem vv_146_607 {l : Launch} (hl : l.stackTraces = false) : cj_V1 l 146 607 (54, 0, 0, []) 608 := Or.inl ⟨by decide +kernel, ok_iaload dm_146_607 rfl⟩
set_option maxRecDepth 100000 in
theorem vv_146_608 {l : Launch} (hl : l.stackTraces = false) : cj_V1 l 146 608 (3, 3, 0, []) 609 := Or.inl ⟨by decide +kernel, ok_aload_n dm_146_608 rfl⟩
set_option maxRecDepth 100000 in
theorem vv_146_609 {l : Launch} (hl : l.stackTraces = false) : cj_V1 l 146 609 (81, 112, 3, []) 612 := Or.inr (Or.inr (Or.inl ⟨by decide +kernel, by decide +kernel, rfl, vc_static mi_112 dm_146_609 (Or.inl wm_719) wm_720 (by decide +kernel) (by decide +kernel) (by decide +kernel), (vx_none rfl)⟩))
set_option maxRecDepth 100000 in
theorem vv_146_612 {l : Launch} (hl : l.stackTraces = false) : cj_V1 l 146 612 (4, 5, 0, []) 614 := Or.inl ⟨by decide +kernel, ok_istore dm_146_612⟩
set_option maxRecDepth 100000 in
theorem vv_146_614 {l : Launch} (hl : l.stackTraces = false) : cj_V1 l 146 614 (3, 2, 0, []) 615 := Or.inl ⟨by decide +kernel, ok_aload_n dm_146_614 rfl⟩
set_option maxRecDepth 100000 in
theorem vv_146_615 {l : Launch} (hl : l.stackTraces = false) : cj_V1 l 146 615 (3, 0, 0, []) 616 := Or.inl ⟨by decide +kernel, ok_aload_n dm_146_615 rfl⟩
set_option maxRecDepth 100000 in
theorem vv_146_616 {l : Launch} (hl : l.stackTraces = false) : cj_V1 l 146 616 (2, 4, 0, []) 618 := Or.inl ⟨by decide +kernel, ok_iload dm_146_616⟩
set_option maxRecDepth 100000 in
theorem vv_146_618 {l : Launch} (hl : l.stackTraces = false) : cj_V1 l 146 618 (0, 1, 0, []) 619 := Or.inl ⟨by decide +kernel, ok_iconst dm_146_618 (by decide +kernel)⟩
set_option maxRecDepth 100000 in
theorem vv_146_619 {l : Launch} (hl : l.stackTraces = false) : cj_V1 l 146 619 (10, 0, 0, []) 620 := Or.inl ⟨by decide +kernel, ok_iadd dm_146_619⟩
set_option maxRecDepth 100000 in
theorem vv_146_620 {l : Launch} (hl : l.stackTraces = false) : cj_V1 l 146 620 (54, 0, 0, []) 621 := Or.inl ⟨by decide +kernel, ok_iaload dm_146_620 rfl⟩
set_option maxRecDepth 100000 in
theorem vv_146_621 {l : Launch} (hl : l.stackTraces = false) : cj_V1 l 146 621 (80, 86, 2, [7]) 624 := Or.inr (Or.inr (Or.inl ⟨by decide +kernel, by decide +kernel, rfl, vc_virtual (n := 1) (q := (RK_7, TK_7, 39)) mi_86 dm_146_621 (Or.inl wm_1007) wm_1008 wm_1009 rfl rfl (by decide +kernel) rfl (by decide +kernel) (by decide +kernel), (vx_none rfl)⟩))
set_option maxRecDepth 100000 in
theorem vv_146_624 {l : Launch} (hl : l.stackTraces = false) : cj_V1 l 146 624 (4, 6, 0, []) 626 := Or.inl ⟨by decide +kernel, ok_istore dm_146_624⟩
set_option maxRecDepth 100000 in
theorem vv_146_626 {l : Launch} (hl : l.stackTraces = false) : cj_V1 l 146 626 (30, 629, 0, []) 629 := Or.inl ⟨by decide +kernel, ok_goto dm_146_626 (by decide +kernel)⟩
set_option maxRecDepth 100000 in
theorem vv_146_629 {l : Launch} (hl : l.stackTraces = false) : cj_V1 l 146 629 (6, 4, 4, []) 632 := Or.inl ⟨by decide +kernel, ok_iinc6 dm_146_629 (by decide +kernel)⟩
set_option maxRecDepth 100000 in
theorem vv_146_632 {l : Launch} (hl : l.stackTraces = false) : cj_V1 l 146 632 (30, 43, 0, []) 635 := Or.inl ⟨by decide +kernel, ok_goto dm_146_632 (by decide +kernel)⟩
set_option maxRecDepth 100000 in
theorem vv_146_635 {l : Launch} (hl : l.stackTraces = false) : cj_V1 l 146 635 (0, 1, 0, []) 636 := Or.inl ⟨by decide +kernel, ok_iconst dm_146_635 (by decide +kernel)⟩
set_option maxRecDepth 100000 in
theorem vv_146_636 {l : Launch} (hl : l.stackTraces = false) : cj_V1 l 146 636 (93, 0, 0, []) 637 := Or.inr (Or.inl ⟨by decide +kernel, Or.inl (Or.inr (Or.inr (Or.inr ⟨rfl, dm_146_636, rfl⟩)))⟩)
set_option maxRecDepth 100000 in
theorem vm_146 {l : Launch} (hl : l.stackTraces = false) : cj_Vm l 146 := cj_Vm_of (r := kc146_) rfl ⟨vv_146_0 hl, vv_146_3 hl, vv_146_4 hl, vv_146_5 hl, vv_146_6 hl, vv_146_9 hl, vv_146_10 hl, vv_146_11 hl, vv_146_14 hl, vv_146_17 hl, vv_146_18 hl, vv_146_21 hl, vv_146_22 hl, vv_146_23 hl, vv_146_24 hl, vv_146_27 hl, vv_146_28 hl, vv_146_29 hl, vv_146_32 hl, vv_146_35 hl, vv_146_36 hl, vv_146_37 hl, vv_146_39 hl, vv_146_40 hl, vv_146_41 hl, vv_146_43 hl, vv_146_45 hl, vv_146_46 hl, vv_146_47 hl, vv_146_48 hl, vv_146_49 hl, vv_146_52 hl, vv_146_53 hl, vv_146_55 hl, vv_146_56 hl, vv_146_58 hl, vv_146_59 hl, vv_146_128 hl, vv_146_129 hl, vv_146_130 hl, vv_146_132 hl, vv_146_133 hl, vv_146_134 hl, vv_146_135 hl, vv_146_136 hl, vv_146_138 hl, vv_146_139 hl, vv_146_140 hl, vv_146_141 hl, vv_146_142 hl, vv_146_145 hl, vv_146_147 hl, vv_146_148 hl, vv_146_149 hl, vv_146_151 hl, vv_146_152 hl, vv_146_153 hl, vv_146_154 hl, vv_146_155 hl, vv_146_157 hl, vv_146_158 hl, vv_146_159 hl, vv_146_160 hl, vv_146_163 hl, vv_146_165 hl, vv_146_166 hl, vv_146_169 hl, vv_146_171 hl, vv_146_174 hl, vv_146_175 hl, vv_146_176 hl, vv_146_178 hl, vv_146_181 hl, vv_146_182 hl, vv_146_183 hl, vv_146_184 hl, vv_146_186 hl, vv_146_187 hl, vv_146_188 hl, vv_146_191 hl, vv_146_192 hl, vv_146_193 hl, vv_146_196 hl, vv_146_197 hl, vv_146_198 hl, vv_146_201 hl, vv_146_203 hl, vv_146_204 hl, vv_146_207 hl, vv_146_209 hl, vv_146_212 hl, vv_146_213 hl, vv_146_214 hl, vv_146_216 hl, vv_146_217 hl, vv_146_218 hl, vv_146_219 hl, vv_146_220 hl, vv_146_223 hl, vv_146_225 hl, vv_146_226 hl, vv_146_227 hl, vv_146_229 hl, vv_146_230 hl, vv_146_231 hl, vv_146_232 hl, vv_146_235 hl, vv_146_237 hl, vv_146_240 hl, vv_146_241 hl, vv_146_242 hl, vv_146_244 hl, vv_146_245 hl, vv_146_246 hl, vv_146_247 hl, vv_146_248 hl, vv_146_250 hl, vv_146_251 hl, vv_146_252 hl, vv_146_253 hl, vv_146_254 hl, vv_146_257 hl, vv_146_259 hl, vv_146_260 hl, vv_146_261 hl, vv_146_263 hl, vv_146_264 hl, vv_146_265 hl, vv_146_266 hl, vv_146_267 hl, vv_146_269 hl, vv_146_270 hl, vv_146_271 hl, vv_146_272 hl, vv_146_275 hl, vv_146_277 hl, vv_146_280 hl, vv_146_281 hl, vv_146_282 hl, vv_146_284 hl, vv_146_285 hl, vv_146_286 hl, vv_146_287 hl, vv_146_288 hl, vv_146_290 hl, vv_146_291 hl, vv_146_292 hl, vv_146_293 hl, vv_146_294 hl, vv_146_296 hl, vv_146_297 hl, vv_146_298 hl, vv_146_299 hl, vv_146_300 hl, vv_146_303 hl, vv_146_305 hl, vv_146_306 hl, vv_146_307 hl, vv_146_309 hl, vv_146_310 hl, vv_146_311 hl, vv_146_312 hl, vv_146_313 hl, vv_146_315 hl, vv_146_316 hl, vv_146_317 hl, vv_146_318 hl, vv_146_319 hl, vv_146_321 hl, vv_146_322 hl, vv_146_323 hl, vv_146_324 hl, vv_146_327 hl, vv_146_329 hl, vv_146_332 hl, vv_146_333 hl, vv_146_334 hl, vv_146_336 hl, vv_146_337 hl, vv_146_338 hl, vv_146_339 hl, vv_146_340 hl, vv_146_342 hl, vv_146_343 hl, vv_146_344 hl, vv_146_345 hl, vv_146_346 hl, vv_146_349 hl, vv_146_351 hl, vv_146_352 hl, vv_146_353 hl, vv_146_355 hl, vv_146_356 hl, vv_146_357 hl, vv_146_358 hl, vv_146_359 hl, vv_146_361 hl, vv_146_362 hl, vv_146_363 hl, vv_146_364 hl, vv_146_367 hl, vv_146_369 hl, vv_146_372 hl, vv_146_373 hl, vv_146_374 hl, vv_146_377 hl, vv_146_379 hl, vv_146_380 hl, vv_146_383 hl, vv_146_385 hl, vv_146_388 hl, vv_146_389 hl, vv_146_392 hl, vv_146_393 hl, vv_146_394 hl, vv_146_397 hl, vv_146_398 hl, vv_146_401 hl, vv_146_402 hl, vv_146_403 hl, vv_146_405 hl, vv_146_406 hl, vv_146_407 hl, vv_146_408 hl, vv_146_409 hl, vv_146_412 hl, vv_146_414 hl, vv_146_415 hl, vv_146_416 hl, vv_146_418 hl, vv_146_419 hl, vv_146_420 hl, vv_146_421 hl, vv_146_424 hl, vv_146_426 hl, vv_146_429 hl, vv_146_430 hl, vv_146_431 hl, vv_146_433 hl, vv_146_434 hl, vv_146_435 hl, vv_146_436 hl, vv_146_437 hl, vv_146_440 hl, vv_146_442 hl, vv_146_443 hl, vv_146_444 hl, vv_146_446 hl, vv_146_447 hl, vv_146_448 hl, vv_146_449 hl, vv_146_452 hl, vv_146_454 hl, vv_146_457 hl, vv_146_458 hl, vv_146_459 hl, vv_146_461 hl, vv_146_462 hl, vv_146_463 hl, vv_146_464 hl, vv_146_465 hl, vv_146_467 hl, vv_146_468 hl, vv_146_469 hl, vv_146_470 hl, vv_146_471 hl, vv_146_473 hl, vv_146_474 hl, vv_146_475 hl, vv_146_476 hl, vv_146_477 hl, vv_146_480 hl, vv_146_482 hl, vv_146_483 hl, vv_146_484 hl, vv_146_486 hl, vv_146_487 hl, vv_146_488 hl, vv_146_489 hl, vv_146_490 hl, vv_146_492 hl, vv_146_493 hl, vv_146_494 hl, vv_146_495 hl, vv_146_496 hl, vv_146_498 hl, vv_146_499 hl, vv_146_500 hl, vv_146_501 hl, vv_146_504 hl, vv_146_506 hl, vv_146_509 hl, vv_146_510 hl, vv_146_511 hl, vv_146_513 hl, vv_146_514 hl, vv_146_515 hl, vv_146_516 hl, vv_146_517 hl, vv_146_519 hl, vv_146_520 hl, vv_146_521 hl, vv_146_522 hl, vv_146_523 hl, vv_146_525 hl, vv_146_526 hl, vv_146_527 hl, vv_146_528 hl, vv_146_529 hl, vv_146_532 hl, vv_146_534 hl, vv_146_535 hl, vv_146_536 hl, vv_146_538 hl, vv_146_539 hl, vv_146_540 hl, vv_146_541 hl, vv_146_542 hl, vv_146_544 hl, vv_146_545 hl, vv_146_546 hl, vv_146_547 hl, vv_146_548 hl, vv_146_550 hl, vv_146_551 hl, vv_146_552 hl, vv_146_553 hl, vv_146_556 hl, vv_146_558 hl, vv_146_561 hl, vv_146_562 hl, vv_146_563 hl, vv_146_565 hl, vv_146_566 hl, vv_146_567 hl, vv_146_568 hl, vv_146_569 hl, vv_146_571 hl, vv_146_572 hl, vv_146_573 hl, vv_146_574 hl, vv_146_575 hl, vv_146_578 hl, vv_146_580 hl, vv_146_581 hl, vv_146_582 hl, vv_146_584 hl, vv_146_585 hl, vv_146_586 hl, vv_146_587 hl, vv_146_588 hl, vv_146_590 hl, vv_146_591 hl, vv_146_592 hl, vv_146_593 hl, vv_146_596 hl, vv_146_598 hl, vv_146_601 hl, vv_146_602 hl, vv_146_603 hl, vv_146_605 hl, vv_146_606 hl, vv_146_607 hl, vv_146_608 hl, vv_146_609 hl, vv_146_612 hl, vv_146_614 hl, vv_146_615 hl, vv_146_616 hl, vv_146_618 hl, vv_146_619 hl, vv_146_620 hl, vv_146_621 hl, vv_146_624 hl, vv_146_626 hl, vv_146_629 hl, vv_146_632 hl, vv_146_635 hl, vv_146_636 hl, trivial⟩
