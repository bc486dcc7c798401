set_option maxRecDepth 100000 in
theorem vv_92_0 {l : Launch} (hl : l.stackTraces = false) : cj_V1 l 92 0 (2, 2, 0, []) 1 := Or.inl ⟨by decide +kernel, ok_iload_n dm_92_0 rfl⟩
set_option maxRecDepth 100000 in
theorem vv_92_1 {l : Launch} (hl : l.stackTraces = false) : cj_V1 l 92 1 (3, 0, 0, []) 2 := Or.inl ⟨by decide +kernel, ok_aload_n dm_92_1 rfl⟩
set_option maxRecDepth 100000 in
theorem vv_92_2 {l : Launch} (hl : l.stackTraces = false) : cj_V1 l 92 2 (50, 7, 1, []) 5 := Or.inl ⟨by decide +kernel, ok_getfield (N := 39) (C := RK_7) (T := TK_7) dm_92_2 rfl inK_7 (by decide +kernel) wm_734⟩
set_option maxRecDepth 100000 in
theorem vv_92_5 {l : Launch} (hl : l.stackTraces = false) : cj_V1 l 92 5 (81, 44, 2, []) 8 := Or.inr (Or.inr (Or.inl ⟨by decide +kernel, by decide +kernel, rfl, vc_static mi_44 dm_92_5 (Or.inl wm_888) wm_889 (by decide +kernel) (by decide +kernel) (by decide +kernel), (vx_none rfl)⟩))
set_option maxRecDepth 100000 in
theorem vv_92_8 {l : Launch} (hl : l.stackTraces = false) : cj_V1 l 92 8 (31, 51, 0, []) 11 := Or.inl ⟨by decide +kernel, ok_if_eq dm_92_8 (by decide +kernel)⟩
set_option maxRecDepth 100000 in
theorem vv_92_11 {l : Launch} (hl : l.stackTraces = false) : cj_V1 l 92 11 (2, 3, 0, []) 12 := Or.inl ⟨by decide +kernel, ok_iload_n dm_92_11 rfl⟩
set_option maxRecDepth 100000 in
theorem vv_92_12 {l : Launch} (hl : l.stackTraces = false) : cj_V1 l 92 12 (0, 2, 0, []) 13 := Or.inl ⟨by decide +kernel, ok_iconst dm_92_12 (by decide +kernel)⟩
set_option maxRecDepth 100000 in
theorem vv_92_13 {l : Launch} (hl : l.stackTraces = false) : cj_V1 l 92 13 (81, 44, 2, []) 16 := Or.inr (Or.inr (Or.inl ⟨by decide +kernel, by decide +kernel, rfl, vc_static mi_44 dm_92_13 (Or.inl wm_888) wm_889 (by decide +kernel) (by decide +kernel) (by decide +kernel), (vx_none rfl)⟩))
set_option maxRecDepth 100000 in
theorem vv_92_16 {l : Launch} (hl : l.stackTraces = false) : cj_V1 l 92 16 (31, 51, 0, []) 19 := Or.inl ⟨by decide +kernel, ok_if_eq dm_92_16 (by decide +kernel)⟩
set_option maxRecDepth 100000 in
theorem vv_92_19 {l : Launch} (hl : l.stackTraces = false) : cj_V1 l 92 19 (3, 0, 0, []) 20 := Or.inl ⟨by decide +kernel, ok_aload_n dm_92_19 rfl⟩
set_option maxRecDepth 100000 in
theorem vv_92_20 {l : Launch} (hl : l.stackTraces = false) : cj_V1 l 92 20 (50, 7, 23, []) 23 := Or.inl ⟨by decide +kernel, ok_getfield (N := 39) (C := RK_7) (T := TK_7) dm_92_20 rfl inK_7 (by decide +kernel) wm_756⟩
set_option maxRecDepth 100000 in
theorem vv_92_23 {l : Launch} (hl : l.stackTraces = false) : cj_V1 l 92 23 (1, 1, 0, []) 24 := Or.inl ⟨by decide +kernel, ok_iconst_m dm_92_23 (by decide +kernel)⟩
set_option maxRecDepth 100000 in
theorem vv_92_24 {l : Launch} (hl : l.stackTraces = false) : cj_V1 l 92 24 (37, 47, 0, []) 27 := Or.inl ⟨by decide +kernel, ok_icmp_eq dm_92_24 (by decide +kernel)⟩
set_option maxRecDepth 100000 in
theorem vv_92_27 {l : Launch} (hl : l.stackTraces = false) : cj_V1 l 92 27 (2, 1, 0, []) 28 := Or.inl ⟨by decide +kernel, ok_iload_n dm_92_27 rfl⟩
set_option maxRecDepth 100000 in
theorem vv_92_28 {l : Launch} (hl : l.stackTraces = false) : cj_V1 l 92 28 (0, 1, 0, []) 29 := Or.inl ⟨by decide +kernel, ok_iconst dm_92_28 (by decide +kernel)⟩
set_option maxRecDepth 100000 in
theorem vv_92_29 {l : Launch} (hl : l.stackTraces = false) : cj_V1 l 92 29 (39, 51, 0, []) 32 := Or.inl ⟨by decide +kernel, ok_icmp_lt dm_92_29 (by decide +kernel)⟩
set_option maxRecDepth 100000 in
theorem vv_92_32 {l : Launch} (hl : l.stackTraces = false) : cj_V1 l 92 32 (2, 1, 0, []) 33 := Or.inl ⟨by decide +kernel, ok_iload_n dm_92_32 rfl⟩
set_option maxRecDepth 100000 in
theorem vv_92_33 {l : Launch} (hl : l.stackTraces = false) : cj_V1 l 92 33 (3, 0, 0, []) 34 := Or.inl ⟨by decide +kernel, ok_aload_n dm_92_33 rfl⟩
set_option maxRecDepth 100000 in
theorem vv_92_34 {l : Launch} (hl : l.stackTraces = false) : cj_V1 l 92 34 (50, 7, 25, []) 37 := Or.inl ⟨by decide +kernel, ok_getfield (N := 39) (C := RK_7) (T := TK_7) dm_92_34 rfl inK_7 (by decide +kernel) wm_758⟩
set_option maxRecDepth 100000 in
theorem vv_92_37 {l : Launch} (hl : l.stackTraces = false) : cj_V1 l 92 37 (0, 5, 0, []) 38 := Or.inl ⟨by decide +kernel, ok_iconst dm_92_37 (by decide +kernel)⟩
set_option maxRecDepth 100000 in
theorem vv_92_38 {l : Launch} (hl : l.stackTraces = false) : cj_V1 l 92 38 (3, 0, 0, []) 39 := Or.inl ⟨by decide +kernel, ok_aload_n dm_92_38 rfl⟩
set_option maxRecDepth 100000 in
theorem vv_92_39 {l : Launch} (hl : l.stackTraces = false) : cj_V1 l 92 39 (50, 7, 23, []) 42 := Or.inl ⟨by decide +kernel, ok_getfield (N := 39) (C := RK_7) (T := TK_7) dm_92_39 rfl inK_7 (by decide +kernel) wm_756⟩
set_option maxRecDepth 100000 in
theorem vv_92_42 {l : Launch} (hl : l.stackTraces = false) : cj_V1 l 92 42 (12, 0, 0, []) 43 := Or.inl ⟨by decide +kernel, ok_imul dm_92_42⟩
set_option maxRecDepth 100000 in
theorem vv_92_43 {l : Launch} (hl : l.stackTraces = false) : cj_V1 l 92 43 (54, 0, 0, []) 44 := Or.inl ⟨by decide +kernel, ok_iaload dm_92_43 rfl⟩
set_option maxRecDepth 100000 in
theorem vv_92_44 {l : Launch} (hl : l.stackTraces = false) : cj_V1 l 92 44 (41, 51, 0, []) 47 := Or.inl ⟨by decide +kernel, ok_icmp_gt dm_92_44 (by decide +kernel)⟩
set_option maxRecDepth 100000 in
theorem vv_92_47 {l : Launch} (hl : l.stackTraces = false) : cj_V1 l 92 47 (0, 1, 0, []) 48 := Or.inl ⟨by decide +kernel, ok_iconst dm_92_47 (by decide +kernel)⟩
set_option maxRecDepth 100000 in
theorem vv_92_48 {l : Launch} (hl : l.stackTraces = false) : cj_V1 l 92 48 (30, 52, 0, []) 51 := Or.inl ⟨by decide +kernel, ok_goto dm_92_48 (by decide +kernel)⟩
set_option maxRecDepth 100000 in
theorem vv_92_51 {l : Launch} (hl : l.stackTraces = false) : cj_V1 l 92 51 (0, 0, 0, []) 52 := Or.inl ⟨by decide +kernel, ok_iconst dm_92_51 (by decide +kernel)⟩
set_option maxRecDepth 100000 in
theorem vv_92_52 {l : Launch} (hl : l.stackTraces = false) : cj_V1 l 92 52 (4, 4, 0, []) 54 := Or.inl ⟨by decide +kernel, ok_istore dm_92_52⟩
set_option maxRecDepth 100000 in
theorem vv_92_54 {l : Launch} (hl : l.stackTraces = false) : cj_V1 l 92 54 (3, 0, 0, []) 55 := Or.inl ⟨by decide +kernel, ok_aload_n dm_92_54 rfl⟩
set_option maxRecDepth 100000 in
theorem vv_92_55 {l : Launch} (hl : l.stackTraces = false) : cj_V1 l 92 55 (2, 4, 0, []) 57 := Or.inl ⟨by decide +kernel, ok_iload dm_92_55⟩
set_option maxRecDepth 100000 in
theorem vv_92_57 {l : Launch} (hl : l.stackTraces = false) : cj_V1 l 92 57 (3, 0, 0, []) 58 := Or.inl ⟨by decide +kernel, ok_aload_n dm_92_57 rfl⟩
set_option maxRecDepth 100000 in
theorem vv_92_58 {l : Launch} (hl : l.stackTraces = false) : cj_V1 l 92 58 (50, 7, 23, []) 61 := Or.inl ⟨by decide +kernel, ok_getfield (N := 39) (C := RK_7) (T := TK_7) dm_92_58 rfl inK_7 (by decide +kernel) wm_756⟩
set_option maxRecDepth 100000 in
theorem vv_92_61 {l : Launch} (hl : l.stackTraces = false) : cj_V1 l 92 61 (1, 1, 0, []) 62 := Or.inl ⟨by decide +kernel, ok_iconst_m dm_92_61 (by decide +kernel)⟩
set_option maxRecDepth 100000 in
theorem vv_92_62 {l : Launch} (hl : l.stackTraces = false) : cj_V1 l 92 62 (37, 69, 0, []) 65 := Or.inl ⟨by decide +kernel, ok_icmp_eq dm_92_62 (by decide +kernel)⟩
set_option maxRecDepth 100000 in
theorem vv_92_65 {l : Launch} (hl : l.stackTraces = false) : cj_V1 l 92 65 (0, 1, 0, []) 66 := Or.inl ⟨by decide +kernel, ok_iconst dm_92_65 (by decide +kernel)⟩
set_option maxRecDepth 100000 in
theorem vv_92_66 {l : Launch} (hl : l.stackTraces = false) : cj_V1 l 92 66 (30, 70, 0, []) 69 := Or.inl ⟨by decide +kernel, ok_goto dm_92_66 (by decide +kernel)⟩
set_option maxRecDepth 100000 in
theorem vv_92_69 {l : Launch} (hl : l.stackTraces = false) : cj_V1 l 92 69 (0, 0, 0, []) 70 := Or.inl ⟨by decide +kernel, ok_iconst dm_92_69 (by decide +kernel)⟩
set_option maxRecDepth 100000 in
theorem vv_92_70 {l : Launch} (hl : l.stackTraces = false) : cj_V1 l 92 70 (80, 46, 3, [7]) 73 := Or.inr (Or.inr (Or.inl ⟨by decide +kernel, by decide +kernel, rfl, vc_virtual (n := 2) (q := (RK_7, TK_7, 39)) mi_46 dm_92_70 (Or.inl wm_865) wm_867 wm_p19 rfl rfl (by decide +kernel) rfl (by decide +kernel) (by decide +kernel), (vx_none rfl)⟩))
set_option maxRecDepth 100000 in
theorem vv_92_73 {l : Launch} (hl : l.stackTraces = false) : cj_V1 l 92 73 (32, 78, 0, []) 76 := Or.inl ⟨by decide +kernel, ok_if_ne dm_92_73 (by decide +kernel)⟩
set_option maxRecDepth 100000 in
theorem vv_92_76 {l : Launch} (hl : l.stackTraces = false) : cj_V1 l 92 76 (0, 0, 0, []) 77 := Or.inl ⟨by decide +kernel, ok_iconst dm_92_76 (by decide +kernel)⟩
set_option maxRecDepth 100000 in
theorem vv_92_77 {l : Launch} (hl : l.stackTraces = false) : cj_V1 l 92 77 (90, 0, 0, []) 78 := Or.inr (Or.inl ⟨by decide +kernel, Or.inl (Or.inl ⟨rfl, dm_92_77, rfl⟩)⟩)
set_option maxRecDepth 100000 in
theorem vv_92_78 {l : Launch} (hl : l.stackTraces = false) : cj_V1 l 92 78 (1, 1, 0, []) 79 := Or.inl ⟨by decide +kernel, ok_iconst_m dm_92_78 (by decide +kernel)⟩
set_option maxRecDepth 100000 in
theorem vv_92_79 {l : Launch} (hl : l.stackTraces = false) : cj_V1 l 92 79 (4, 5, 0, []) 81 := Or.inl ⟨by decide +kernel, ok_istore dm_92_79⟩
set_option maxRecDepth 100000 in
theorem vv_92_81 {l : Launch} (hl : l.stackTraces = false) : cj_V1 l 92 81 (0, 900, 0, []) 84 := Or.inl ⟨by decide +kernel, ok_sipush dm_92_81 (by decide +kernel)⟩
set_option maxRecDepth 100000 in
theorem vv_92_84 {l : Launch} (hl : l.stackTraces = false) : cj_V1 l 92 84 (3, 0, 0, []) 85 := Or.inl ⟨by decide +kernel, ok_aload_n dm_92_84 rfl⟩
set_option maxRecDepth 100000 in
theorem vv_92_85 {l : Launch} (hl : l.stackTraces = false) : cj_V1 l 92 85 (50, 7, 23, []) 88 := Or.inl ⟨by decide +kernel, ok_getfield (N := 39) (C := RK_7) (T := TK_7) dm_92_85 rfl inK_7 (by decide +kernel) wm_756⟩
set_option maxRecDepth 100000 in
theorem vv_92_88 {l : Launch} (hl : l.stackTraces = false) : cj_V1 l 92 88 (12, 0, 0, []) 89 := Or.inl ⟨by decide +kernel, ok_imul dm_92_88⟩
set_option maxRecDepth 100000 in
theorem vv_92_89 {l : Launch} (hl : l.stackTraces = false) : cj_V1 l 92 89 (4, 6, 0, []) 91 := Or.inl ⟨by decide +kernel, ok_istore dm_92_89⟩
set_option maxRecDepth 100000 in
theorem vv_92_91 {l : Launch} (hl : l.stackTraces = false) : cj_V1 l 92 91 (2, 6, 0, []) 93 := Or.inl ⟨by decide +kernel, ok_iload dm_92_91⟩
set_option maxRecDepth 100000 in
theorem vv_92_93 {l : Launch} (hl : l.stackTraces = false) : cj_V1 l 92 93 (0, 900, 0, []) 96 := Or.inl ⟨by decide +kernel, ok_sipush dm_92_93 (by decide +kernel)⟩
set_option maxRecDepth 100000 in
theorem vv_92_96 {l : Launch} (hl : l.stackTraces = false) : cj_V1 l 92 96 (3, 0, 0, []) 97 := Or.inl ⟨by decide +kernel, ok_aload_n dm_92_96 rfl⟩
set_option maxRecDepth 100000 in
theorem vv_92_97 {l : Launch} (hl : l.stackTraces = false) : cj_V1 l 92 97 (50, 7, 23, []) 100 := Or.inl ⟨by decide +kernel, ok_getfield (N := 39) (C := RK_7) (T := TK_7) dm_92_97 rfl inK_7 (by decide +kernel) wm_756⟩
set_option maxRecDepth 100000 in
theorem vv_92_100 {l : Launch} (hl : l.stackTraces = false) : cj_V1 l 92 100 (12, 0, 0, []) 101 := Or.inl ⟨by decide +kernel, ok_imul dm_92_100⟩
set_option maxRecDepth 100000 in
theorem vv_92_101 {l : Launch} (hl : l.stackTraces = false) : cj_V1 l 92 101 (3, 0, 0, []) 102 := Or.inl ⟨by decide +kernel, ok_aload_n dm_92_101 rfl⟩
set_option maxRecDepth 100000 in
theorem vv_92_102 {l : Launch} (hl : l.stackTraces = false) : cj_V1 l 92 102 (50, 7, 32, []) 105 := Or.inl ⟨by decide +kernel, ok_getfield (N := 39) (C := RK_7) (T := TK_7) dm_92_102 rfl inK_7 (by decide +kernel) wm_765⟩
set_option maxRecDepth 100000 in
theorem vv_92_105 {l : Launch} (hl : l.stackTraces = false) : cj_V1 l 92 105 (3, 0, 0, []) 106 := Or.inl ⟨by decide +kernel, ok_aload_n dm_92_105 rfl⟩
set_option maxRecDepth 100000 in
theorem vv_92_106 {l : Launch} (hl : l.stackTraces = false) : cj_V1 l 92 106 (50, 7, 23, []) 109 := Or.inl ⟨by decide +kernel, ok_getfield (N := 39) (C := RK_7) (T := TK_7) dm_92_106 rfl inK_7 (by decide +kernel) wm_756⟩
set_option maxRecDepth 100000 in
theorem vv_92_109 {l : Launch} (hl : l.stackTraces = false) : cj_V1 l 92 109 (54, 0, 0, []) 110 := Or.inl ⟨by decide +kernel, ok_iaload dm_92_109 rfl⟩
set_option maxRecDepth 100000 in
theorem vv_92_110 {l : Launch} (hl : l.stackTraces = false) : cj_V1 l 92 110 (10, 0, 0, []) 111 := Or.inl ⟨by decide +kernel, ok_iadd dm_92_110⟩
set_option maxRecDepth 100000 in
theorem vv_92_111 {l : Launch} (hl : l.stackTraces = false) : cj_V1 l 92 111 (40, 208, 0, []) 114 := Or.inl ⟨by decide +kernel, ok_icmp_ge dm_92_111 (by decide +kernel)⟩
set_option maxRecDepth 100000 in
theorem vv_92_114 {l : Launch} (hl : l.stackTraces = false) : cj_V1 l 92 114 (2, 2, 0, []) 115 := Or.inl ⟨by decide +kernel, ok_iload_n dm_92_114 rfl⟩
set_option maxRecDepth 100000 in
theorem vv_92_115 {l : Launch} (hl : l.stackTraces = false) : cj_V1 l 92 115 (3, 0, 0, []) 116 := Or.inl ⟨by decide +kernel, ok_aload_n dm_92_115 rfl⟩
set_option maxRecDepth 100000 in
theorem vv_92_116 {l : Launch} (hl : l.stackTraces = false) : cj_V1 l 92 116 (50, 7, 38, []) 119 := Or.inl ⟨by decide +kernel, ok_getfield (N := 39) (C := RK_7) (T := TK_7) dm_92_116 rfl inK_7 (by decide +kernel) wm_771⟩
set_option maxRecDepth 100000 in
theorem vv_92_119 {l : Launch} (hl : l.stackTraces = false) : cj_V1 l 92 119 (2, 6, 0, []) 121 := Or.inl ⟨by decide +kernel, ok_iload dm_92_119⟩
set_option maxRecDepth 100000 in
theorem vv_92_121 {l : Launch} (hl : l.stackTraces = false) : cj_V1 l 92 121 (54, 0, 0, []) 122 := Or.inl ⟨by decide +kernel, ok_iaload dm_92_121 rfl⟩
set_option maxRecDepth 100000 in
theorem vv_92_122 {l : Launch} (hl : l.stackTraces = false) : cj_V1 l 92 122 (11, 0, 0, []) 123 := Or.inl ⟨by decide +kernel, ok_isub dm_92_122⟩
set_option maxRecDepth 100000 in
theorem vv_92_123 {l : Launch} (hl : l.stackTraces = false) : cj_V1 l 92 123 (4, 7, 0, []) 125 := Or.inl ⟨by decide +kernel, ok_istore dm_92_123⟩
set_option maxRecDepth 100000 in
theorem vv_92_125 {l : Launch} (hl : l.stackTraces = false) : cj_V1 l 92 125 (3, 0, 0, []) 126 := Or.inl ⟨by decide +kernel, ok_aload_n dm_92_125 rfl⟩
set_option maxRecDepth 100000 in
theorem vv_92_126 {l : Launch} (hl : l.stackTraces = false) : cj_V1 l 92 126 (50, 7, 37, []) 129 := Or.inl ⟨by decide +kernel, ok_getfield (N := 39) (C := RK_7) (T := TK_7) dm_92_126 rfl inK_7 (by decide +kernel) wm_770⟩
set_option maxRecDepth 100000 in
theorem vv_92_129 {l : Launch} (hl : l.stackTraces = false) : cj_V1 l 92 129 (2, 6, 0, []) 131 := Or.inl ⟨by decide +kernel, ok_iload dm_92_129⟩
set_option maxRecDepth 100000 in
theorem vv_92_131 {l : Launch} (hl : l.stackTraces = false) : cj_V1 l 92 131 (54, 0, 0, []) 132 := Or.inl ⟨by decide +kernel, ok_iaload dm_92_131 rfl⟩
set_option maxRecDepth 100000 in
theorem vv_92_132 {l : Launch} (hl : l.stackTraces = false) : cj_V1 l 92 132 (2, 1, 0, []) 133 := Or.inl ⟨by decide +kernel, ok_iload_n dm_92_132 rfl⟩
set_option maxRecDepth 100000 in
theorem vv_92_133 {l : Launch} (hl : l.stackTraces = false) : cj_V1 l 92 133 (38, 202, 0, []) 136 := Or.inl ⟨by decide +kernel, ok_icmp_ne dm_92_133 (by decide +kernel)⟩
set_option maxRecDepth 100000 in
theorem vv_92_136 {l : Launch} (hl : l.stackTraces = false) : cj_V1 l 92 136 (2, 7, 0, []) 138 := Or.inl ⟨by decide +kernel, ok_iload dm_92_136⟩
set_option maxRecDepth 100000 in
theorem vv_92_138 {l : Launch} (hl : l.stackTraces = false) : cj_V1 l 92 138 (33, 202, 0, []) 141 := Or.inl ⟨by decide +kernel, ok_if_lt dm_92_138 (by decide +kernel)⟩
set_option maxRecDepth 100000 in
theorem vv_92_141 {l : Launch} (hl : l.stackTraces = false) : cj_V1 l 92 141 (2, 7, 0, []) 143 := Or.inl ⟨by decide +kernel, ok_iload dm_92_141⟩
set_option maxRecDepth 100000 in
theorem vv_92_143 {l : Launch} (hl : l.stackTraces = false) : cj_V1 l 92 143 (3, 0, 0, []) 144 := Or.inl ⟨by decide +kernel, ok_aload_n dm_92_143 rfl⟩
set_option maxRecDepth 100000 in
theorem vv_92_144 {l : Launch} (hl : l.stackTraces = false) : cj_V1 l 92 144 (2, 6, 0, []) 146 := Or.inl ⟨by decide +kernel, ok_iload dm_92_144⟩
set_option maxRecDepth 100000 in
theorem vv_92_146 {l : Launch} (hl : l.stackTraces = false) : cj_V1 l 92 146 (80, 48, 2, [7]) 149 := Or.inr (Or.inr (Or.inl ⟨by decide +kernel, by decide +kernel, rfl, vc_virtual (n := 1) (q := (RK_7, TK_7, 39)) mi_48 dm_92_146 (Or.inl wm_967) wm_969 wm_p36 rfl rfl (by decide +kernel) rfl (by decide +kernel) (by decide +kernel), (vx_none rfl)⟩))
set_option maxRecDepth 100000 in
theorem vv_92_149 {l : Launch} (hl : l.stackTraces = false) : cj_V1 l 92 149 (40, 202, 0, []) 152 := Or.inl ⟨by decide +kernel, ok_icmp_ge dm_92_149 (by decide +kernel)⟩
set_option maxRecDepth 100000 in
theorem vv_92_152 {l : Launch} (hl : l.stackTraces = false) : cj_V1 l 92 152 (2, 3, 0, []) 153 := Or.inl ⟨by decide +kernel, ok_iload_n dm_92_152 rfl⟩
set_option maxRecDepth 100000 in
theorem vv_92_153 {l : Launch} (hl : l.stackTraces = false) : cj_V1 l 92 153 (32, 166, 0, []) 156 := Or.inl ⟨by decide +kernel, ok_if_ne dm_92_153 (by decide +kernel)⟩
set_option maxRecDepth 100000 in
theorem vv_92_156 {l : Launch} (hl : l.stackTraces = false) : cj_V1 l 92 156 (3, 0, 0, []) 157 := Or.inl ⟨by decide +kernel, ok_aload_n dm_92_156 rfl⟩
set_option maxRecDepth 100000 in
theorem vv_92_157 {l : Launch} (hl : l.stackTraces = false) : cj_V1 l 92 157 (50, 7, 33, []) 160 := Or.inl ⟨by decide +kernel, ok_getfield (N := 39) (C := RK_7) (T := TK_7) dm_92_157 rfl inK_7 (by decide +kernel) wm_766⟩
set_option maxRecDepth 100000 in
theorem vv_92_160 {l : Launch} (hl : l.stackTraces = false) : cj_V1 l 92 160 (2, 6, 0, []) 162 := Or.inl ⟨by decide +kernel, ok_iload dm_92_160⟩
set_option maxRecDepth 100000 in
theorem vv_92_162 {l : Launch} (hl : l.stackTraces = false) : cj_V1 l 92 162 (54, 0, 0, []) 163 := Or.inl ⟨by decide +kernel, ok_iaload dm_92_162 rfl⟩
set_option maxRecDepth 100000 in
theorem vv_92_163 {l : Launch} (hl : l.stackTraces = false) : cj_V1 l 92 163 (30, 200, 0, []) 166 := Or.inl ⟨by decide +kernel, ok_goto dm_92_163 (by decide +kernel)⟩
set_option maxRecDepth 100000 in
theorem vv_92_166 {l : Launch} (hl : l.stackTraces = false) : cj_V1 l 92 166 (2, 7, 0, []) 168 := Or.inl ⟨by decide +kernel, ok_iload dm_92_166⟩
set_option maxRecDepth 100000 in
theorem vv_92_168 {l : Launch} (hl : l.stackTraces = false) : cj_V1 l 92 168 (3, 0, 0, []) 169 := Or.inl ⟨by decide +kernel, ok_aload_n dm_92_168 rfl⟩
set_option maxRecDepth 100000 in
theorem vv_92_169 {l : Launch} (hl : l.stackTraces = false) : cj_V1 l 92 169 (50, 7, 34, []) 172 := Or.inl ⟨by decide +kernel, ok_getfield (N := 39) (C := RK_7) (T := TK_7) dm_92_169 rfl inK_7 (by decide +kernel) wm_767⟩
set_option maxRecDepth 100000 in
theorem vv_92_172 {l : Launch} (hl : l.stackTraces = false) : cj_V1 l 92 172 (2, 6, 0, []) 174 := Or.inl ⟨by decide +kernel, ok_iload dm_92_172⟩
set_option maxRecDepth 100000 in
theorem vv_92_174 {l : Launch} (hl : l.stackTraces = false) : cj_V1 l 92 174 (54, 0, 0, []) 175 := Or.inl ⟨by decide +kernel, ok_iaload dm_92_174 rfl⟩
set_option maxRecDepth 100000 in
theorem vv_92_175 {l : Launch} (hl : l.stackTraces = false) : cj_V1 l 92 175 (40, 182, 0, []) 178 := Or.inl ⟨by decide +kernel, ok_icmp_ge dm_92_175 (by decide +kernel)⟩
set_option maxRecDepth 100000 in
theorem vv_92_178 {l : Launch} (hl : l.stackTraces = false) : cj_V1 l 92 178 (1, 1, 0, []) 179 := Or.inl ⟨by decide +kernel, ok_iconst_m dm_92_178 (by decide +kernel)⟩
set_option maxRecDepth 100000 in
theorem vv_92_179 {l : Launch} (hl : l.stackTraces = false) : cj_V1 l 92 179 (30, 200, 0, []) 182 := Or.inl ⟨by decide +kernel, ok_goto dm_92_179 (by decide +kernel)⟩
set_option maxRecDepth 100000 in
theorem vv_92_182 {l : Launch} (hl : l.stackTraces = false) : cj_V1 l 92 182 (3, 0, 0, []) 183 := Or.inl ⟨by decide +kernel, ok_aload_n dm_92_182 rfl⟩
set_option maxRecDepth 100000 in
theorem vv_92_183 {l : Launch} (hl : l.stackTraces = false) : cj_V1 l 92 183 (50, 7, 35, []) 186 := Or.inl ⟨by decide +kernel, ok_getfield (N := 39) (C := RK_7) (T := TK_7) dm_92_183 rfl inK_7 (by decide +kernel) wm_768⟩
set_option maxRecDepth 100000 in
theorem vv_92_186 {l : Launch} (hl : l.stackTraces = false) : cj_V1 l 92 186 (2, 6, 0, []) 188 := Or.inl ⟨by decide +kernel, ok_iload dm_92_186⟩
set_option maxRecDepth 100000 in
theorem vv_92_188 {l : Launch} (hl : l.stackTraces = false) : cj_V1 l 92 188 (54, 0, 0, []) 189 := Or.inl ⟨by decide +kernel, ok_iaload dm_92_188 rfl⟩
set_option maxRecDepth 100000 in
theorem vv_92_189 {l : Launch} (hl : l.stackTraces = false) : cj_V1 l 92 189 (2, 7, 0, []) 191 := Or.inl ⟨by decide +kernel, ok_iload dm_92_189⟩
set_option maxRecDepth 100000 in
theorem vv_92_191 {l : Launch} (hl : l.stackTraces = false) : cj_V1 l 92 191 (10, 0, 0, []) 192 := Or.inl ⟨by decide +kernel, ok_iadd dm_92_191⟩
set_option maxRecDepth 100000 in
theorem vv_92_192 {l : Launch} (hl : l.stackTraces = false) : cj_V1 l 92 192 (3, 0, 0, []) 193 := Or.inl ⟨by decide +kernel, ok_aload_n dm_92_192 rfl⟩
set_option maxRecDepth 100000 in
theorem vv_92_193 {l : Launch} (hl : l.stackTraces = false) : cj_V1 l 92 193 (50, 7, 34, []) 196 := Or.inl ⟨by decide +kernel, ok_getfield (N := 39) (C := RK_7) (T := TK_7) dm_92_193 rfl inK_7 (by decide +kernel) wm_767⟩
set_option maxRecDepth 100000 in
theorem vv_92_196 {l : Launch} (hl : l.stackTraces = false) : cj_V1 l 92 196 (2, 6, 0, []) 198 := Or.inl ⟨by decide +kernel, ok_iload dm_92_196⟩
set_option maxRecDepth 100000 in
theorem vv_92_198 {l : Launch} (hl : l.stackTraces = false) : cj_V1 l 92 198 (54, 0, 0, []) 199 := Or.inl ⟨by decide +kernel, ok_iaload dm_92_198 rfl⟩
set_option maxRecDepth 100000 in
theorem vv_92_199 {l : Launch} (hl : l.stackTraces = false) : cj_V1 l 92 199 (11, 0, 0, []) 200 := Or.inl ⟨by decide +kernel, ok_isub dm_92_199⟩
set_option maxRecDepth 100000 in
theorem vv_92_200 {l : Launch} (hl : l.stackTraces = false) : cj_V1 l 92 200 (4, 5, 0, []) 202 := Or.inl ⟨by decide +kernel, ok_istore dm_92_200⟩
set_option maxRecDepth 100000 in
theorem vv_92_202 {l : Launch} (hl : l.stackTraces = false) : cj_V1 l 92 202 (6, 6, 1, []) 205 := Or.inl ⟨by decide +kernel, ok_iinc6 dm_92_202 (by decide +kernel)⟩
set_option maxRecDepth 100000 in
theorem vv_92_205 {l : Launch} (hl : l.stackTraces = false) : cj_V1 l 92 205 (30, 91, 0, []) 208 := Or.inl ⟨by decide +kernel, ok_goto dm_92_205 (by decide +kernel)⟩
set_option maxRecDepth 100000 in
theorem vv_92_208 {l : Launch} (hl : l.stackTraces = false) : cj_V1 l 92 208 (2, 5, 0, []) 210 := Or.inl ⟨by decide +kernel, ok_iload dm_92_208⟩
set_option maxRecDepth 100000 in
theorem vv_92_210 {l : Launch} (hl : l.stackTraces = false) : cj_V1 l 92 210 (90, 0, 0, []) 211 := Or.inr (Or.inl ⟨by decide +kernel, Or.inl (Or.inl ⟨rfl, dm_92_210, rfl⟩)⟩)
set_option maxRecDepth 100000 in
theorem vm_92 {l : Launch} (hl : l.stackTraces = false) : cj_Vm l 92 := cj_Vm_of (r := kc92_) rfl ⟨vv_92_0 hl, vv_92_1 hl, vv_92_2 hl, vv_92_5 hl, vv_92_8 hl, vv_92_11 hl, vv_92_12 hl, vv_92_13 hl, vv_92_16 hl, vv_92_19 hl, vv_92_20 hl, vv_92_23 hl, vv_92_24 hl, vv_92_27 hl, vv_92_28 hl, vv_92_29 hl, vv_92_32 hl, vv_92_33 hl, vv_92_34 hl, vv_92_37 hl, vv_92_38 hl, vv_92_39 hl, vv_92_42 hl, vv_92_43 hl, vv_92_44 hl, vv_92_47 hl, vv_92_48 hl, vv_92_51 hl, vv_92_52 hl, vv_92_54 hl, vv_92_55 hl, vv_92_57 hl, vv_92_58 hl, vv_92_61 hl, vv_92_62 hl, vv_92_65 hl, vv_92_66 hl, vv_92_69 hl, vv_92_70 hl, vv_92_73 hl, vv_92_76 hl, vv_92_77 hl, vv_92_78 hl, vv_92_79 hl, vv_92_81 hl, vv_92_84 hl, vv_92_85 hl, vv_92_88 hl, vv_92_89 hl, vv_92_91 hl, vv_92_93 hl, vv_92_96 hl, vv_92_97 hl, vv_92_100 hl, vv_92_101 hl, vv_92_102 hl, vv_92_105 hl, vv_92_106 hl, vv_92_109 hl, vv_92_110 hl, vv_92_111 hl, vv_92_114 hl, vv_92_115 hl, vv_92_116 hl, vv_92_119 hl, vv_92_121 hl, vv_92_122 hl, vv_92_123 hl, vv_92_125 hl, vv_92_126 hl, vv_92_129 hl, vv_92_131 hl, vv_92_132 hl, vv_92_133 hl, vv_92_136 hl, vv_92_138 hl, vv_92_141 hl, vv_92_143 hl, vv_92_144 hl, vv_92_146 hl, vv_92_149 hl, vv_92_152 hl, vv_92_153 hl, vv_92_156 hl, vv_92_157 hl, vv_92_160 hl, vv_92_162 hl, vv_92_163 hl, vv_92_166 hl, vv_92_168 hl, vv_92_169 hl, vv_92_172 hl, vv_92_174 hl, vv_92_175 hl, vv_92_178 hl, vv_92_179 hl, vv_92_182 hl, vv_92_183 hl, vv_92_186 hl, vv_92_188 hl, vv_92_189 hl, vv_92_191 hl, vv_92_192 hl, vv_92_193 hl, vv_92_196 hl, vv_92_198 hl, vv_92_199 hl, vv_92_200 hl, vv_92_202 hl, vv_92_205 hl, vv_92_208 hl, vv_92_210 hl, trivial⟩
set_option maxRecDepth 100000 in
theorem vv_93_0 {l : Launch} (hl : l.stackTraces = false) : cj_V1 l 93 0 (0, 1, 0, []) 1 := Or.inl ⟨by decide +kernel, ok_iconst dm_93_0 (by decide +kernel)⟩
set_option maxRecDepth 100000 in
theorem vv_93_1 {l : Launch} (hl : l.stackTraces = false) : cj_V1 l 93 1 (4, 1, 0, []) 2 := Or.inl ⟨by decide +kernel, ok_istore_n dm_93_1 rfl⟩
set_option maxRecDepth 100000 in
theorem vv_93_2 {l : Launch} (hl : l.stackTraces = false) : cj_V1 l 93 2 (0, 0, 0, []) 3 := Or.inl ⟨by decide +kernel, ok_iconst dm_93_2 (by decide +kernel)⟩
set_option maxRecDepth 100000 in
theorem vv_93_3 {l : Launch} (hl : l.stackTraces = false) : cj_V1 l 93 3 (4, 2, 0, []) 4 := Or.inl ⟨by decide +kernel, ok_istore_n dm_93_3 rfl⟩
set_option maxRecDepth 100000 in
theorem vv_93_4 {l : Launch} (hl : l.stackTraces = false) : cj_V1 l 93 4 (2, 2, 0, []) 5 := Or.inl ⟨by decide +kernel, ok_iload_n dm_93_4 rfl⟩
set_option maxRecDepth 100000 in
theorem vv_93_5 {l : Launch} (hl : l.stackTraces = false) : cj_V1 l 93 5 (3, 0, 0, []) 6 := Or.inl ⟨by decide +kernel, ok_aload_n dm_93_5 rfl⟩
set_option maxRecDepth 100000 in
theorem vv_93_6 {l : Launch} (hl : l.stackTraces = false) : cj_V1 l 93 6 (50, 7, 3, []) 9 := Or.inl ⟨by decide +kernel, ok_getfield (N := 39) (C := RK_7) (T := TK_7) dm_93_6 rfl inK_7 (by decide +kernel) wm_736⟩
set_option maxRecDepth 100000 in
theorem vv_93_9 {l : Launch} (hl : l.stackTraces = false) : cj_V1 l 93 9 (40, 78, 0, []) 12 := Or.inl ⟨by decide +kernel, ok_icmp_ge dm_93_9 (by decide +kernel)⟩
set_option maxRecDepth 100000 in
theorem vv_93_12 {l : Launch} (hl : l.stackTraces = false) : cj_V1 l 93 12 (2, 1, 0, []) 13 := Or.inl ⟨by decide +kernel, ok_iload_n dm_93_12 rfl⟩
set_option maxRecDepth 100000 in
theorem vv_93_13 {l : Launch} (hl : l.stackTraces = false) : cj_V1 l 93 13 (31, 32, 0, []) 16 := Or.inl ⟨by decide +kernel, ok_if_eq dm_93_13 (by decide +kernel)⟩
set_option maxRecDepth 100000 in
theorem vv_93_16 {l : Launch} (hl : l.stackTraces = false) : cj_V1 l 93 16 (3, 0, 0, []) 17 := Or.inl ⟨by decide +kernel, ok_aload_n dm_93_16 rfl⟩
set_option maxRecDepth 100000 in
theorem vv_93_17 {l : Launch} (hl : l.stackTraces = false) : cj_V1 l 93 17 (50, 7, 4, []) 20 := Or.inl ⟨by decide +kernel, ok_getfield (N := 39) (C := RK_7) (T := TK_7) dm_93_17 rfl inK_7 (by decide +kernel) wm_737⟩
set_option maxRecDepth 100000 in
theorem vv_93_20 {l : Launch} (hl : l.stackTraces = false) : cj_V1 l 93 20 (2, 2, 0, []) 21 := Or.inl ⟨by decide +kernel, ok_iload_n dm_93_20 rfl⟩
set_option maxRecDepth 100000 in
theorem vv_93_21 {l : Launch} (hl : l.stackTraces = false) : cj_V1 l 93 21 (54, 0, 0, []) 22 := Or.inl ⟨by decide +kernel, ok_iaload dm_93_21 rfl⟩
set_option maxRecDepth 100000 in
theorem vv_93_22 {l : Launch} (hl : l.stackTraces = false) : cj_V1 l 93 22 (81, 49, 1, []) 25 := Or.inr (Or.inr (Or.inl ⟨by decide +kernel, by decide +kernel, rfl, vc_static mi_49 dm_93_22 (Or.inl wm_881) wm_882 (by decide +kernel) (by decide +kernel) (by decide +kernel), (vx_none rfl)⟩))
set_option maxRecDepth 100000 in
theorem vv_93_25 {l : Launch} (hl : l.stackTraces = false) : cj_V1 l 93 25 (31, 32, 0, []) 28 := Or.inl ⟨by decide +kernel, ok_if_eq dm_93_25 (by decide +kernel)⟩
set_option maxRecDepth 100000 in
theorem vv_93_28 {l : Launch} (hl : l.stackTraces = false) : cj_V1 l 93 28 (0, 1, 0, []) 29 := Or.inl ⟨by decide +kernel, ok_iconst dm_93_28 (by decide +kernel)⟩
set_option maxRecDepth 100000 in
theorem vv_93_29 {l : Launch} (hl : l.stackTraces = false) : cj_V1 l 93 29 (30, 33, 0, []) 32 := Or.inl ⟨by decide +kernel, ok_goto dm_93_29 (by decide +kernel)⟩
set_option maxRecDepth 100000 in
theorem vv_93_32 {l : Launch} (hl : l.stackTraces = false) : cj_V1 l 93 32 (0, 0, 0, []) 33 := Or.inl ⟨by decide +kernel, ok_iconst dm_93_32 (by decide +kernel)⟩
set_option maxRecDepth 100000 in
theorem vv_93_33 {l : Launch} (hl : l.stackTraces = false) : cj_V1 l 93 33 (4, 1, 0, []) 34 := Or.inl ⟨by decide +kernel, ok_istore_n dm_93_33 rfl⟩
set_option maxRecDepth 100000 in
theorem vv_93_34 {l : Launch} (hl : l.stackTraces = false) : cj_V1 l 93 34 (0, 0, 0, []) 35 := Or.inl ⟨by decide +kernel, ok_iconst dm_93_34 (by decide +kernel)⟩
set_option maxRecDepth 100000 in
theorem vv_93_35 {l : Launch} (hl : l.stackTraces = false) : cj_V1 l 93 35 (4, 3, 0, []) 36 := Or.inl ⟨by decide +kernel, ok_istore_n dm_93_35 rfl⟩
set_option maxRecDepth 100000 in
theorem vv_93_36 {l : Launch} (hl : l.stackTraces = false) : cj_V1 l 93 36 (2, 3, 0, []) 37 := Or.inl ⟨by decide +kernel, ok_iload_n dm_93_36 rfl⟩
set_option maxRecDepth 100000 in
theorem vv_93_37 {l : Launch} (hl : l.stackTraces = false) : cj_V1 l 93 37 (2, 2, 0, []) 38 := Or.inl ⟨by decide +kernel, ok_iload_n dm_93_37 rfl⟩
set_option maxRecDepth 100000 in
theorem vv_93_38 {l : Launch} (hl : l.stackTraces = false) : cj_V1 l 93 38 (40, 72, 0, []) 41 := Or.inl ⟨by decide +kernel, ok_icmp_ge dm_93_38 (by decide +kernel)⟩
set_option maxRecDepth 100000 in
theorem vv_93_41 {l : Launch} (hl : l.stackTraces = false) : cj_V1 l 93 41 (2, 1, 0, []) 42 := Or.inl ⟨by decide +kernel, ok_iload_n dm_93_41 rfl⟩
set_option maxRecDepth 100000 in
theorem vv_93_42 {l : Launch} (hl : l.stackTraces = false) : cj_V1 l 93 42 (31, 64, 0, []) 45 := Or.inl ⟨by decide +kernel, ok_if_eq dm_93_42 (by decide +kernel)⟩
set_option maxRecDepth 100000 in
theorem vv_93_45 {l : Launch} (hl : l.stackTraces = false) : cj_V1 l 93 45 (3, 0, 0, []) 46 := Or.inl ⟨by decide +kernel, ok_aload_n dm_93_45 rfl⟩
set_option maxRecDepth 100000 in
theorem vv_93_46 {l : Launch} (hl : l.stackTraces = false) : cj_V1 l 93 46 (50, 7, 4, []) 49 := Or.inl ⟨by decide +kernel, ok_getfield (N := 39) (C := RK_7) (T := TK_7) dm_93_46 rfl inK_7 (by decide +kernel) wm_737⟩
set_option maxRecDepth 100000 in
theorem vv_93_49 {l : Launch} (hl : l.stackTraces = false) : cj_V1 l 93 49 (2, 2, 0, []) 50 := Or.inl ⟨by decide +kernel, ok_iload_n dm_93_49 rfl⟩
set_option maxRecDepth 100000 in
theorem vv_93_50 {l : Launch} (hl : l.stackTraces = false) : cj_V1 l 93 50 (54, 0, 0, []) 51 := Or.inl ⟨by decide +kernel, ok_iaload dm_93_50 rfl⟩
set_option maxRecDepth 100000 in
theorem vv_93_51 {l : Launch} (hl : l.stackTraces = false) : cj_V1 l 93 51 (3, 0, 0, []) 52 := Or.inl ⟨by decide +kernel, ok_aload_n dm_93_51 rfl⟩
set_option maxRecDepth 100000 in
theorem vv_93_52 {l : Launch} (hl : l.stackTraces = false) : cj_V1 l 93 52 (50, 7, 4, []) 55 := Or.inl ⟨by decide +kernel, ok_getfield (N := 39) (C := RK_7) (T := TK_7) dm_93_52 rfl inK_7 (by decide +kernel) wm_737⟩
set_option maxRecDepth 100000 in
theorem vv_93_55 {l : Launch} (hl : l.stackTraces = false) : cj_V1 l 93 55 (2, 3, 0, []) 56 := Or.inl ⟨by decide +kernel, ok_iload_n dm_93_55 rfl⟩
set_option maxRecDepth 100000 in
theorem vv_93_56 {l : Launch} (hl : l.stackTraces = false) : cj_V1 l 93 56 (54, 0, 0, []) 57 := Or.inl ⟨by decide +kernel, ok_iaload dm_93_56 rfl⟩
set_option maxRecDepth 100000 in
theorem vv_93_57 {l : Launch} (hl : l.stackTraces = false) : cj_V1 l 93 57 (37, 64, 0, []) 60 := Or.inl ⟨by decide +kernel, ok_icmp_eq dm_93_57 (by decide +kernel)⟩
set_option maxRecDepth 100000 in
theorem vv_93_60 {l : Launch} (hl : l.stackTraces = false) : cj_V1 l 93 60 (0, 1, 0, []) 61 := Or.inl ⟨by decide +kernel, ok_iconst dm_93_60 (by decide +kernel)⟩
set_option maxRecDepth 100000 in
theorem vv_93_61 {l : Launch} (hl : l.stackTraces = false) : cj_V1 l 93 61 (30, 65, 0, []) 64 := Or.inl ⟨by decide +kernel, ok_goto dm_93_61 (by decide +kernel)⟩
set_option maxRecDepth 100000 in
theorem vv_93_64 {l : Launch} (hl : l.stackTraces = false) : cj_V1 l 93 64 (0, 0, 0, []) 65 := Or.inl ⟨by decide +kernel, ok_iconst dm_93_64 (by decide +kernel)⟩
set_option maxRecDepth 100000 in
theorem vv_93_65 {l : Launch} (hl : l.stackTraces = false) : cj_V1 l 93 65 (4, 1, 0, []) 66 := Or.inl ⟨by decide +kernel, ok_istore_n dm_93_65 rfl⟩
set_option maxRecDepth 100000 in
theorem vv_93_66 {l : Launch} (hl : l.stackTraces = false) : cj_V1 l 93 66 (6, 3, 1, []) 69 := Or.inl ⟨by decide +kernel, ok_iinc6 dm_93_66 (by decide +kernel)⟩
set_option maxRecDepth 100000 in
theorem vv_93_69 {l : Launch} (hl : l.stackTraces = false) : cj_V1 l 93 69 (30, 36, 0, []) 72 := Or.inl ⟨by decide +kernel, ok_goto dm_93_69 (by decide +kernel)⟩
set_option maxRecDepth 100000 in
theorem vv_93_72 {l : Launch} (hl : l.stackTraces = false) : cj_V1 l 93 72 (6, 2, 1, []) 75 := Or.inl ⟨by decide +kernel, ok_iinc6 dm_93_72 (by decide +kernel)⟩
set_option maxRecDepth 100000 in
theorem vv_93_75 {l : Launch} (hl : l.stackTraces = false) : cj_V1 l 93 75 (30, 4, 0, []) 78 := Or.inl ⟨by decide +kernel, ok_goto dm_93_75 (by decide +kernel)⟩
set_option maxRecDepth 100000 in
theorem vv_93_78 {l : Launch} (hl : l.stackTraces = false) : cj_V1 l 93 78 (3, 0, 0, []) 79 := Or.inl ⟨by decide +kernel, ok_aload_n dm_93_78 rfl⟩
set_option maxRecDepth 100000 in
theorem vv_93_79 {l : Launch} (hl : l.stackTraces = false) : cj_V1 l 93 79 (2, 1, 0, []) 80 := Or.inl ⟨by decide +kernel, ok_iload_n dm_93_79 rfl⟩
set_option maxRecDepth 100000 in
theorem vv_93_80 {l : Launch} (hl : l.stackTraces = false) : cj_V1 l 93 80 (0, 1, 0, []) 81 := Or.inl ⟨by decide +kernel, ok_iconst dm_93_80 (by decide +kernel)⟩
set_option maxRecDepth 100000 in
theorem vv_93_81 {l : Launch} (hl : l.stackTraces = false) : cj_V1 l 93 81 (80, 46, 3, [7]) 84 := Or.inr (Or.inr (Or.inl ⟨by decide +kernel, by decide +kernel, rfl, vc_virtual (n := 2) (q := (RK_7, TK_7, 39)) mi_46 dm_93_81 (Or.inl wm_865) wm_867 wm_p19 rfl rfl (by decide +kernel) rfl (by decide +kernel) (by decide +kernel), (vx_none rfl)⟩))
set_option maxRecDepth 100000 in
theorem vv_93_84 {l : Launch} (hl : l.stackTraces = false) : cj_V1 l 93 84 (32, 89, 0, []) 87 := Or.inl ⟨by decide +kernel, ok_if_ne dm_93_84 (by decide +kernel)⟩
set_option maxRecDepth 100000 in
theorem vv_93_87 {l : Launch} (hl : l.stackTraces = false) : cj_V1 l 93 87 (0, 0, 0, []) 88 := Or.inl ⟨by decide +kernel, ok_iconst dm_93_87 (by decide +kernel)⟩
set_option maxRecDepth 100000 in
theorem vv_93_88 {l : Launch} (hl : l.stackTraces = false) : cj_V1 l 93 88 (90, 0, 0, []) 89 := Or.inr (Or.inl ⟨by decide +kernel, Or.inl (Or.inl ⟨rfl, dm_93_88, rfl⟩)⟩)
set_option maxRecDepth 100000 in
theorem vv_93_89 {l : Launch} (hl : l.stackTraces = false) : cj_V1 l 93 89 (3, 0, 0, []) 90 := Or.inl ⟨by decide +kernel, ok_aload_n dm_93_89 rfl⟩
set_option maxRecDepth 100000 in
theorem vv_93_90 {l : Launch} (hl : l.stackTraces = false) : cj_V1 l 93 90 (3, 0, 0, []) 91 := Or.inl ⟨by decide +kernel, ok_aload_n dm_93_90 rfl⟩
set_option maxRecDepth 100000 in
theorem vv_93_91 {l : Launch} (hl : l.stackTraces = false) : cj_V1 l 93 91 (50, 7, 3, []) 94 := Or.inl ⟨by decide +kernel, ok_getfield (N := 39) (C := RK_7) (T := TK_7) dm_93_91 rfl inK_7 (by decide +kernel) wm_736⟩
set_option maxRecDepth 100000 in
theorem vv_93_94 {l : Launch} (hl : l.stackTraces = false) : cj_V1 l 93 94 (51, 7, 14, [0]) 97 := Or.inl ⟨by decide +kernel, ok_putfield (N := 39) (C := RK_7) (T := TK_7) (ty0 := tyK_7) dm_93_94 rfl inK_7 (by decide +kernel) wm_747 tyK_7_ok nmK_7 (Or.inl rfl) (Or.inl ⟨rfl, rfl⟩)⟩
set_option maxRecDepth 100000 in
theorem vv_93_97 {l : Launch} (hl : l.stackTraces = false) : cj_V1 l 93 97 (0, 0, 0, []) 98 := Or.inl ⟨by decide +kernel, ok_iconst dm_93_97 (by decide +kernel)⟩
set_option maxRecDepth 100000 in
theorem vv_93_98 {l : Launch} (hl : l.stackTraces = false) : cj_V1 l 93 98 (4, 2, 0, []) 99 := Or.inl ⟨by decide +kernel, ok_istore_n dm_93_98 rfl⟩
set_option maxRecDepth 100000 in
theorem vv_93_99 {l : Launch} (hl : l.stackTraces = false) : cj_V1 l 93 99 (2, 2, 0, []) 100 := Or.inl ⟨by decide +kernel, ok_iload_n dm_93_99 rfl⟩
set_option maxRecDepth 100000 in
theorem vv_93_100 {l : Launch} (hl : l.stackTraces = false) : cj_V1 l 93 100 (3, 0, 0, []) 101 := Or.inl ⟨by decide +kernel, ok_aload_n dm_93_100 rfl⟩
set_option maxRecDepth 100000 in
theorem vv_93_101 {l : Launch} (hl : l.stackTraces = false) : cj_V1 l 93 101 (50, 7, 3, []) 104 := Or.inl ⟨by decide +kernel, ok_getfield (N := 39) (C := RK_7) (T := TK_7) dm_93_101 rfl inK_7 (by decide +kernel) wm_736⟩
set_option maxRecDepth 100000 in
theorem vv_93_104 {l : Launch} (hl : l.stackTraces = false) : cj_V1 l 93 104 (40, 125, 0, []) 107 := Or.inl ⟨by decide +kernel, ok_icmp_ge dm_93_104 (by decide +kernel)⟩
set_option maxRecDepth 100000 in
theorem vv_93_107 {l : Launch} (hl : l.stackTraces = false) : cj_V1 l 93 107 (3, 0, 0, []) 108 := Or.inl ⟨by decide +kernel, ok_aload_n dm_93_107 rfl⟩
set_option maxRecDepth 100000 in
theorem vv_93_108 {l : Launch} (hl : l.stackTraces = false) : cj_V1 l 93 108 (50, 7, 15, []) 111 := Or.inl ⟨by decide +kernel, ok_getfield (N := 39) (C := RK_7) (T := TK_7) dm_93_108 rfl inK_7 (by decide +kernel) wm_748⟩
set_option maxRecDepth 100000 in
theorem vv_93_111 {l : Launch} (hl : l.stackTraces = false) : cj_V1 l 93 111 (2, 2, 0, []) 112 := Or.inl ⟨by decide +kernel, ok_iload_n dm_93_111 rfl⟩
set_option maxRecDepth 100000 in
theorem vv_93_112 {l : Launch} (hl : l.stackTraces = false) : cj_V1 l 93 112 (3, 0, 0, []) 113 := Or.inl ⟨by decide +kernel, ok_aload_n dm_93_112 rfl⟩
set_option maxRecDepth 100000 in
theorem vv_93_113 {l : Launch} (hl : l.stackTraces = false) : cj_V1 l 93 113 (50, 7, 4, []) 116 := Or.inl ⟨by decide +kernel, ok_getfield (N := 39) (C := RK_7) (T := TK_7) dm_93_113 rfl inK_7 (by decide +kernel) wm_737⟩
set_option maxRecDepth 100000 in
theorem vv_93_116 {l : Launch} (hl : l.stackTraces = false) : cj_V1 l 93 116 (2, 2, 0, []) 117 := Or.inl ⟨by decide +kernel, ok_iload_n dm_93_116 rfl⟩
set_option maxRecDepth 100000 in
theorem vv_93_117 {l : Launch} (hl : l.stackTraces = false) : cj_V1 l 93 117 (54, 0, 0, []) 118 := Or.inl ⟨by decide +kernel, ok_iaload dm_93_117 rfl⟩
set_option maxRecDepth 100000 in
theorem vv_93_118 {l : Launch} (hl : l.stackTraces = false) : cj_V1 l 93 118 (56, 0, 0, []) 119 := Or.inl ⟨by decide +kernel, ok_iastore dm_93_118 rfl⟩
set_option maxRecDepth 100000 in
theorem vv_93_119 {l : Launch} (hl : l.stackTraces = false) : cj_V1 l 93 119 (6, 2, 1, []) 122 := Or.inl ⟨by decide +kernel, ok_iinc6 dm_93_119 (by decide +kernel)⟩
set_option maxRecDepth 100000 in
theorem vv_93_122 {l : Launch} (hl : l.stackTraces = false) : cj_V1 l 93 122 (30, 99, 0, []) 125 := Or.inl ⟨by decide +kernel, ok_goto dm_93_122 (by decide +kernel)⟩
set_option maxRecDepth 100000 in
theorem vv_93_125 {l : Launch} (hl : l.stackTraces = false) : cj_V1 l 93 125 (3, 0, 0, []) 126 := Or.inl ⟨by decide +kernel, ok_aload_n dm_93_125 rfl⟩
set_option maxRecDepth 100000 in
theorem vv_93_126 {l : Launch} (hl : l.stackTraces = false) : cj_V1 l 93 126 (0, 0, 0, []) 127 := Or.inl ⟨by decide +kernel, ok_iconst dm_93_126 (by decide +kernel)⟩
set_option maxRecDepth 100000 in
theorem vv_93_127 {l : Launch} (hl : l.stackTraces = false) : cj_V1 l 93 127 (51, 7, 3, [0]) 130 := Or.inl ⟨by decide +kernel, ok_putfield (N := 39) (C := RK_7) (T := TK_7) (ty0 := tyK_7) dm_93_127 rfl inK_7 (by decide +kernel) wm_736 tyK_7_ok nmK_7 (Or.inl rfl) (Or.inl ⟨rfl, rfl⟩)⟩
set_option maxRecDepth 100000 in
theorem vv_93_130 {l : Launch} (hl : l.stackTraces = false) : cj_V1 l 93 130 (3, 0, 0, []) 131 := Or.inl ⟨by decide +kernel, ok_aload_n dm_93_130 rfl⟩
set_option maxRecDepth 100000 in
theorem vv_93_131 {l : Launch} (hl : l.stackTraces = false) : cj_V1 l 93 131 (50, 7, 14, []) 134 := Or.inl ⟨by decide +kernel, ok_getfield (N := 39) (C := RK_7) (T := TK_7) dm_93_131 rfl inK_7 (by decide +kernel) wm_747⟩
set_option maxRecDepth 100000 in
theorem vv_93_134 {l : Launch} (hl : l.stackTraces = false) : cj_V1 l 93 134 (90, 0, 0, []) 135 := Or.inr (Or.inl ⟨by decide +kernel, Or.inl (Or.inl ⟨rfl, dm_93_134, rfl⟩)⟩)
set_option maxRecDepth 100000 in
theorem vm_93 {l : Launch} (hl : l.stackTraces = false) : cj_Vm l 93 := cj_Vm_of (r := kc93_) rfl ⟨vv_93_0 hl, vv_93_1 hl, vv_93_2 hl, vv_93_3 hl, vv_93_4 hl, vv_93_5 hl, vv_93_6 hl, vv_93_9 hl, vv_93_12 hl, vv_93_13 hl, vv_93_16 hl, vv_93_17 hl, vv_93_20 hl, vv_93_21 hl, vv_93_22 hl, vv_93_25 hl, vv_93_28 hl, vv_93_29 hl, vv_93_32 hl, vv_93_33 hl, vv_93_34 hl, vv_93_35 hl, vv_93_36 hl, vv_93_37 hl, vv_93_38 hl, vv_93_41 hl, vv_93_42 hl, vv_93_45 hl, vv_93_46 hl, vv_93_49 hl, vv_93_50 hl, vv_93_51 hl, vv_93_52 hl, vv_93_55 hl, vv_93_56 hl, vv_93_57 hl, vv_93_60 hl, vv_93_61 hl, vv_93_64 hl, vv_93_65 hl, vv_93_66 hl, vv_93_69 hl, vv_93_72 hl, vv_93_75 hl, vv_93_78 hl, vv_93_79 hl, vv_93_80 hl, vv_93_81 hl, vv_93_84 hl, vv_93_87 hl, vv_93_88 hl, vv_93_89 hl, vv_93_90 hl, vv_93_91 hl, vv_93_94 hl, vv_93_97 hl, vv_93_98 hl, vv_93_99 hl, vv_93_100 hl, vv_93_101 hl, vv_93_104 hl, vv_93_107 hl, vv_93_108 hl, vv_93_111 hl, vv_93_112 hl, vv_93_113 hl, vv_93_116 hl, vv_93_117 hl, vv_93_118 hl, vv_93_119 hl, vv_93_122 hl, vv_93_125 hl, vv_93_126 hl, vv_93_127 hl, vv_93_130 hl, vv_93_131 hl, vv_93_134 hl, trivial⟩
set_option maxRecDepth 100000 in
theorem vv_94_0 {l : Launch} (hl : l.stackTraces = false) : cj_V1 l 94 0 (3, 0, 0, []) 1 := Or.inl ⟨by decide +kernel, ok_aload_n dm_94_0 rfl⟩
set_option maxRecDepth 100000 in
theorem vv_94_1 {l : Launch} (hl : l.stackTraces = false) : cj_V1 l 94 1 (50, 7, 28, []) 4 := Or.inl ⟨by decide +kernel, ok_getfield (N := 39) (C := RK_7) (T := TK_7) dm_94_1 rfl inK_7 (by decide +kernel) wm_761⟩
set_option maxRecDepth 100000 in
theorem vv_94_4 {l : Launch} (hl : l.stackTraces = false) : cj_V1 l 94 4 (0, 8, 0, []) 6 := Or.inl ⟨by decide +kernel, ok_bipush dm_94_4 (by decide +kernel)⟩
set_option maxRecDepth 100000 in
theorem vv_94_6 {l : Launch} (hl : l.stackTraces = false) : cj_V1 l 94 6 (2, 1, 0, []) 7 := Or.inl ⟨by decide +kernel, ok_iload_n dm_94_6 rfl⟩
set_option maxRecDepth 100000 in
theorem vv_94_7 {l : Launch} (hl : l.stackTraces = false) : cj_V1 l 94 7 (12, 0, 0, []) 8 := Or.inl ⟨by decide +kernel, ok_imul dm_94_7⟩
set_option maxRecDepth 100000 in
theorem vv_94_8 {l : Launch} (hl : l.stackTraces = false) : cj_V1 l 94 8 (2, 2, 0, []) 9 := Or.inl ⟨by decide +kernel, ok_iload_n dm_94_8 rfl⟩
set_option maxRecDepth 100000 in
theorem vv_94_9 {l : Launch} (hl : l.stackTraces = false) : cj_V1 l 94 9 (10, 0, 0, []) 10 := Or.inl ⟨by decide +kernel, ok_iadd dm_94_9⟩
set_option maxRecDepth 100000 in
theorem vv_94_10 {l : Launch} (hl : l.stackTraces = false) : cj_V1 l 94 10 (54, 0, 0, []) 11 := Or.inl ⟨by decide +kernel, ok_iaload dm_94_10 rfl⟩
set_option maxRecDepth 100000 in
theorem vv_94_11 {l : Launch} (hl : l.stackTraces = false) : cj_V1 l 94 11 (4, 3, 0, []) 12 := Or.inl ⟨by decide +kernel, ok_istore_n dm_94_11 rfl⟩
set_option maxRecDepth 100000 in
theorem vv_94_12 {l : Launch} (hl : l.stackTraces = false) : cj_V1 l 94 12 (2, 3, 0, []) 13 := Or.inl ⟨by decide +kernel, ok_iload_n dm_94_12 rfl⟩
set_option maxRecDepth 100000 in
theorem vv_94_13 {l : Launch} (hl : l.stackTraces = false) : cj_V1 l 94 13 (0, 2, 0, []) 14 := Or.inl ⟨by decide +kernel, ok_iconst dm_94_13 (by decide +kernel)⟩
set_option maxRecDepth 100000 in
theorem vv_94_14 {l : Launch} (hl : l.stackTraces = false) : cj_V1 l 94 14 (40, 21, 0, []) 17 := Or.inl ⟨by decide +kernel, ok_icmp_ge dm_94_14 (by decide +kernel)⟩
set_option maxRecDepth 100000 in
theorem vv_94_17 {l : Launch} (hl : l.stackTraces = false) : cj_V1 l 94 17 (2, 3, 0, []) 18 := Or.inl ⟨by decide +kernel, ok_iload_n dm_94_17 rfl⟩
set_option maxRecDepth 100000 in
theorem vv_94_18 {l : Launch} (hl : l.stackTraces = false) : cj_V1 l 94 18 (30, 22, 0, []) 21 := Or.inl ⟨by decide +kernel, ok_goto dm_94_18 (by decide +kernel)⟩
set_option maxRecDepth 100000 in
theorem vv_94_21 {l : Launch} (hl : l.stackTraces = false) : cj_V1 l 94 21 (0, 2, 0, []) 22 := Or.inl ⟨by decide +kernel, ok_iconst dm_94_21 (by decide +kernel)⟩
set_option maxRecDepth 100000 in
theorem vv_94_22 {l : Launch} (hl : l.stackTraces = false) : cj_V1 l 94 22 (4, 4, 0, []) 24 := Or.inl ⟨by decide +kernel, ok_istore dm_94_22⟩
set_option maxRecDepth 100000 in
theorem vv_94_24 {l : Launch} (hl : l.stackTraces = false) : cj_V1 l 94 24 (2, 3, 0, []) 25 := Or.inl ⟨by decide +kernel, ok_iload_n dm_94_24 rfl⟩
set_option maxRecDepth 100000 in
theorem vv_94_25 {l : Launch} (hl : l.stackTraces = false) : cj_V1 l 94 25 (35, 37, 0, []) 28 := Or.inl ⟨by decide +kernel, ok_if_gt dm_94_25 (by decide +kernel)⟩
set_option maxRecDepth 100000 in
theorem vv_94_28 {l : Launch} (hl : l.stackTraces = false) : cj_V1 l 94 28 (3, 0, 0, []) 29 := Or.inl ⟨by decide +kernel, ok_aload_n dm_94_28 rfl⟩
set_option maxRecDepth 100000 in
theorem vv_94_29 {l : Launch} (hl : l.stackTraces = false) : cj_V1 l 94 29 (50, 7, 12, []) 32 := Or.inl ⟨by decide +kernel, ok_getfield (N := 39) (C := RK_7) (T := TK_7) dm_94_29 rfl inK_7 (by decide +kernel) wm_745⟩
set_option maxRecDepth 100000 in
theorem vv_94_32 {l : Launch} (hl : l.stackTraces = false) : cj_V1 l 94 32 (2, 2, 0, []) 33 := Or.inl ⟨by decide +kernel, ok_iload_n dm_94_32 rfl⟩
set_option maxRecDepth 100000 in
theorem vv_94_33 {l : Launch} (hl : l.stackTraces = false) : cj_V1 l 94 33 (54, 0, 0, []) 34 := Or.inl ⟨by decide +kernel, ok_iaload dm_94_33 rfl⟩
set_option maxRecDepth 100000 in
theorem vv_94_34 {l : Launch} (hl : l.stackTraces = false) : cj_V1 l 94 34 (36, 52, 0, []) 37 := Or.inl ⟨by decide +kernel, ok_if_le dm_94_34 (by decide +kernel)⟩
set_option maxRecDepth 100000 in
theorem vv_94_37 {l : Launch} (hl : l.stackTraces = false) : cj_V1 l 94 37 (3, 0, 0, []) 38 := Or.inl ⟨by decide +kernel, ok_aload_n dm_94_37 rfl⟩
set_option maxRecDepth 100000 in
theorem vv_94_38 {l : Launch} (hl : l.stackTraces = false) : cj_V1 l 94 38 (2, 1, 0, []) 39 := Or.inl ⟨by decide +kernel, ok_iload_n dm_94_38 rfl⟩
set_option maxRecDepth 100000 in
theorem vv_94_39 {l : Launch} (hl : l.stackTraces = false) : cj_V1 l 94 39 (2, 2, 0, []) 40 := Or.inl ⟨by decide +kernel, ok_iload_n dm_94_39 rfl⟩
set_option maxRecDepth 100000 in
theorem vv_94_40 {l : Launch} (hl : l.stackTraces = false) : cj_V1 l 94 40 (3, 0, 0, []) 41 := Or.inl ⟨by decide +kernel, ok_aload_n dm_94_40 rfl⟩
set_option maxRecDepth 100000 in
theorem vv_94_41 {l : Launch} (hl : l.stackTraces = false) : cj_V1 l 94 41 (50, 7, 12, []) 44 := Or.inl ⟨by decide +kernel, ok_getfield (N := 39) (C := RK_7) (T := TK_7) dm_94_41 rfl inK_7 (by decide +kernel) wm_745⟩
set_option maxRecDepth 100000 in
theorem vv_94_44 {l : Launch} (hl : l.stackTraces = false) : cj_V1 l 94 44 (2, 2, 0, []) 45 := Or.inl ⟨by decide +kernel, ok_iload_n dm_94_44 rfl⟩
set_option maxRecDepth 100000 in
theorem vv_94_45 {l : Launch} (hl : l.stackTraces = false) : cj_V1 l 94 45 (54, 0, 0, []) 46 := Or.inl ⟨by decide +kernel, ok_iaload dm_94_45 rfl⟩
set_option maxRecDepth 100000 in
theorem vv_94_46 {l : Launch} (hl : l.stackTraces = false) : cj_V1 l 94 46 (0, 0, 0, []) 47 := Or.inl ⟨by decide +kernel, ok_iconst dm_94_46 (by decide +kernel)⟩
set_option maxRecDepth 100000 in
theorem vv_94_47 {l : Launch} (hl : l.stackTraces = false) : cj_V1 l 94 47 (2, 4, 0, []) 49 := Or.inl ⟨by decide +kernel, ok_iload dm_94_47⟩
set_option maxRecDepth 100000 in
theorem vv_94_49 {l : Launch} (hl : l.stackTraces = false) : cj_V1 l 94 49 (80, 42, 6, [7]) 52 := Or.inr (Or.inr (Or.inl ⟨by decide +kernel, by decide +kernel, rfl, vc_virtual (n := 5) (q := (RK_7, TK_7, 39)) mi_42 dm_94_49 (Or.inl wm_955) wm_957 wm_p33 rfl rfl (by decide +kernel) rfl (by decide +kernel) (by decide +kernel), (vx_none rfl)⟩))
set_option maxRecDepth 100000 in
theorem vv_94_52 {l : Launch} (hl : l.stackTraces = false) : cj_V1 l 94 52 (0, 2, 0, []) 53 := Or.inl ⟨by decide +kernel, ok_iconst dm_94_52 (by decide +kernel)⟩
set_option maxRecDepth 100000 in
theorem vv_94_53 {l : Launch} (hl : l.stackTraces = false) : cj_V1 l 94 53 (4, 5, 0, []) 55 := Or.inl ⟨by decide +kernel, ok_istore dm_94_53⟩
set_option maxRecDepth 100000 in
theorem vv_94_55 {l : Launch} (hl : l.stackTraces = false) : cj_V1 l 94 55 (2, 5, 0, []) 57 := Or.inl ⟨by decide +kernel, ok_iload dm_94_55⟩
set_option maxRecDepth 100000 in
theorem vv_94_57 {l : Launch} (hl : l.stackTraces = false) : cj_V1 l 94 57 (2, 3, 0, []) 58 := Or.inl ⟨by decide +kernel, ok_iload_n dm_94_57 rfl⟩
set_option maxRecDepth 100000 in
theorem vv_94_58 {l : Launch} (hl : l.stackTraces = false) : cj_V1 l 94 58 (40, 77, 0, []) 61 := Or.inl ⟨by decide +kernel, ok_icmp_ge dm_94_58 (by decide +kernel)⟩
set_option maxRecDepth 100000 in
theorem vv_94_61 {l : Launch} (hl : l.stackTraces = false) : cj_V1 l 94 61 (3, 0, 0, []) 62 := Or.inl ⟨by decide +kernel, ok_aload_n dm_94_61 rfl⟩
set_option maxRecDepth 100000 in
theorem vv_94_62 {l : Launch} (hl : l.stackTraces = false) : cj_V1 l 94 62 (2, 1, 0, []) 63 := Or.inl ⟨by decide +kernel, ok_iload_n dm_94_62 rfl⟩
set_option maxRecDepth 100000 in
theorem vv_94_63 {l : Launch} (hl : l.stackTraces = false) : cj_V1 l 94 63 (2, 2, 0, []) 64 := Or.inl ⟨by decide +kernel, ok_iload_n dm_94_63 rfl⟩
set_option maxRecDepth 100000 in
theorem vv_94_64 {l : Launch} (hl : l.stackTraces = false) : cj_V1 l 94 64 (0, 0, 0, []) 65 := Or.inl ⟨by decide +kernel, ok_iconst dm_94_64 (by decide +kernel)⟩
set_option maxRecDepth 100000 in
theorem vv_94_65 {l : Launch} (hl : l.stackTraces = false) : cj_V1 l 94 65 (2, 5, 0, []) 67 := Or.inl ⟨by decide +kernel, ok_iload dm_94_65⟩
set_option maxRecDepth 100000 in
theorem vv_94_67 {l : Launch} (hl : l.stackTraces = false) : cj_V1 l 94 67 (0, 1, 0, []) 68 := Or.inl ⟨by decide +kernel, ok_iconst dm_94_67 (by decide +kernel)⟩
set_option maxRecDepth 100000 in
theorem vv_94_68 {l : Launch} (hl : l.stackTraces = false) : cj_V1 l 94 68 (80, 42, 6, [7]) 71 := Or.inr (Or.inr (Or.inl ⟨by decide +kernel, by decide +kernel, rfl, vc_virtual (n := 5) (q := (RK_7, TK_7, 39)) mi_42 dm_94_68 (Or.inl wm_955) wm_957 wm_p33 rfl rfl (by decide +kernel) rfl (by decide +kernel) (by decide +kernel), (vx_none rfl)⟩))
set_option maxRecDepth 100000 in
theorem vv_94_71 {l : Launch} (hl : l.stackTraces = false) : cj_V1 l 94 71 (6, 5, 1, []) 74 := Or.inl ⟨by decide +kernel, ok_iinc6 dm_94_71 (by decide +kernel)⟩
set_option maxRecDepth 100000 in
theorem vv_94_74 {l : Launch} (hl : l.stackTraces = false) : cj_V1 l 94 74 (30, 55, 0, []) 77 := Or.inl ⟨by decide +kernel, ok_goto dm_94_74 (by decide +kernel)⟩
set_option maxRecDepth 100000 in
theorem vv_94_77 {l : Launch} (hl : l.stackTraces = false) : cj_V1 l 94 77 (3, 0, 0, []) 78 := Or.inl ⟨by decide +kernel, ok_aload_n dm_94_77 rfl⟩
set_option maxRecDepth 100000 in
theorem vv_94_78 {l : Launch} (hl : l.stackTraces = false) : cj_V1 l 94 78 (50, 7, 12, []) 81 := Or.inl ⟨by decide +kernel, ok_getfield (N := 39) (C := RK_7) (T := TK_7) dm_94_78 rfl inK_7 (by decide +kernel) wm_745⟩
set_option maxRecDepth 100000 in
theorem vv_94_81 {l : Launch} (hl : l.stackTraces = false) : cj_V1 l 94 81 (2, 2, 0, []) 82 := Or.inl ⟨by decide +kernel, ok_iload_n dm_94_81 rfl⟩
set_option maxRecDepth 100000 in
theorem vv_94_82 {l : Launch} (hl : l.stackTraces = false) : cj_V1 l 94 82 (54, 0, 0, []) 83 := Or.inl ⟨by decide +kernel, ok_iaload dm_94_82 rfl⟩
set_option maxRecDepth 100000 in
theorem vv_94_83 {l : Launch} (hl : l.stackTraces = false) : cj_V1 l 94 83 (2, 4, 0, []) 85 := Or.inl ⟨by decide +kernel, ok_iload dm_94_83⟩
set_option maxRecDepth 100000 in
theorem vv_94_85 {l : Launch} (hl : l.stackTraces = false) : cj_V1 l 94 85 (10, 0, 0, []) 86 := Or.inl ⟨by decide +kernel, ok_iadd dm_94_85⟩
set_option maxRecDepth 100000 in
theorem vv_94_86 {l : Launch} (hl : l.stackTraces = false) : cj_V1 l 94 86 (3, 0, 0, []) 87 := Or.inl ⟨by decide +kernel, ok_aload_n dm_94_86 rfl⟩
set_option maxRecDepth 100000 in
theorem vv_94_87 {l : Launch} (hl : l.stackTraces = false) : cj_V1 l 94 87 (50, 7, 1, []) 90 := Or.inl ⟨by decide +kernel, ok_getfield (N := 39) (C := RK_7) (T := TK_7) dm_94_87 rfl inK_7 (by decide +kernel) wm_734⟩
set_option maxRecDepth 100000 in
theorem vv_94_90 {l : Launch} (hl : l.stackTraces = false) : cj_V1 l 94 90 (41, 97, 0, []) 93 := Or.inl ⟨by decide +kernel, ok_icmp_gt dm_94_90 (by decide +kernel)⟩
set_option maxRecDepth 100000 in
theorem vv_94_93 {l : Launch} (hl : l.stackTraces = false) : cj_V1 l 94 93 (0, 1, 0, []) 94 := Or.inl ⟨by decide +kernel, ok_iconst dm_94_93 (by decide +kernel)⟩
set_option maxRecDepth 100000 in
theorem vv_94_94 {l : Launch} (hl : l.stackTraces = false) : cj_V1 l 94 94 (30, 98, 0, []) 97 := Or.inl ⟨by decide +kernel, ok_goto dm_94_94 (by decide +kernel)⟩
set_option maxRecDepth 100000 in
theorem vv_94_97 {l : Launch} (hl : l.stackTraces = false) : cj_V1 l 94 97 (0, 0, 0, []) 98 := Or.inl ⟨by decide +kernel, ok_iconst dm_94_97 (by decide +kernel)⟩
set_option maxRecDepth 100000 in
theorem vv_94_98 {l : Launch} (hl : l.stackTraces = false) : cj_V1 l 94 98 (93, 0, 0, []) 99 := Or.inr (Or.inl ⟨by decide +kernel, Or.inl (Or.inr (Or.inr (Or.inr ⟨rfl, dm_94_98, rfl⟩)))⟩)
set_option maxRecDepth 100000 in
theorem vm_94 {l : Launch} (hl : l.stackTraces = false) : cj_Vm l 94 := cj_Vm_of (r := kc94_) rfl ⟨vv_94_0 hl, vv_94_1 hl, vv_94_4 hl, vv_94_6 hl, vv_94_7 hl, vv_94_8 hl, vv_94_9 hl, vv_94_10 hl, vv_94_11 hl, vv_94_12 hl, vv_94_13 hl, vv_94_14 hl, vv_94_17 hl, vv_94_18 hl, vv_94_21 hl, vv_94_22 hl, vv_94_24 hl, vv_94_25 hl, vv_94_28 hl, vv_94_29 hl, vv_94_32 hl, vv_94_33 hl, vv_94_34 hl, vv_94_37 hl, vv_94_38 hl, vv_94_39 hl, vv_94_40 hl, vv_94_41 hl, vv_94_44 hl, vv_94_45 hl, vv_94_46 hl, vv_94_47 hl, vv_94_49 hl, vv_94_52 hl, vv_94_53 hl, vv_94_55 hl, vv_94_57 hl, vv_94_58 hl, vv_94_61 hl, vv_94_62 hl, vv_94_63 hl, vv_94_64 hl, vv_94_65 hl, vv_94_67 hl, vv_94_68 hl, vv_94_71 hl, vv_94_74 hl, vv_94_77 hl, vv_94_78 hl, vv_94_81 hl, vv_94_82 hl, vv_94_83 hl, vv_94_85 hl, vv_94_86 hl, vv_94_87 hl, vv_94_90 hl, vv_94_93 hl, vv_94_94 hl, vv_94_97 hl, vv_94_98 hl, trivial⟩
set_option maxRecDepth 100000 in
theorem vv_95_0 {l : Launch} (hl : l.stackTraces = false) : cj_V1 l 95 0 (0, 0, 0, []) 1 := Or.inl ⟨by decide +kernel, ok_iconst dm_95_0 (by decide +kernel)⟩
set_option maxRecDepth 100000 in
theorem vv_95_1 {l : Launch} (hl : l.stackTraces = false) : cj_V1 l 95 1 (4, 2, 0, []) 2 := Or.inl ⟨by decide +kernel, ok_istore_n dm_95_1 rfl⟩
set_option maxRecDepth 100000 in
theorem vv_95_2 {l : Launch} (hl : l.stackTraces = false) : cj_V1 l 95 2 (2, 2, 0, []) 3 := Or.inl ⟨by decide +kernel, ok_iload_n dm_95_2 rfl⟩
set_option maxRecDepth 100000 in
theorem vv_95_3 {l : Launch} (hl : l.stackTraces = false) : cj_V1 l 95 3 (3, 0, 0, []) 4 := Or.inl ⟨by decide +kernel, ok_aload_n dm_95_3 rfl⟩
set_option maxRecDepth 100000 in
theorem vv_95_4 {l : Launch} (hl : l.stackTraces = false) : cj_V1 l 95 4 (50, 7, 10, []) 7 := Or.inl ⟨by decide +kernel, ok_getfield (N := 39) (C := RK_7) (T := TK_7) dm_95_4 rfl inK_7 (by decide +kernel) wm_743⟩
set_option maxRecDepth 100000 in
theorem vv_95_7 {l : Launch} (hl : l.stackTraces = false) : cj_V1 l 95 7 (2, 1, 0, []) 8 := Or.inl ⟨by decide +kernel, ok_iload_n dm_95_7 rfl⟩
set_option maxRecDepth 100000 in
theorem vv_95_8 {l : Launch} (hl : l.stackTraces = false) : cj_V1 l 95 8 (54, 0, 0, []) 9 := Or.inl ⟨by decide +kernel, ok_iaload dm_95_8 rfl⟩
set_option maxRecDepth 100000 in
theorem vv_95_9 {l : Launch} (hl : l.stackTraces = false) : cj_V1 l 95 9 (40, 33, 0, []) 12 := Or.inl ⟨by decide +kernel, ok_icmp_ge dm_95_9 (by decide +kernel)⟩
set_option maxRecDepth 100000 in
theorem vv_95_12 {l : Launch} (hl : l.stackTraces = false) : cj_V1 l 95 12 (3, 0, 0, []) 13 := Or.inl ⟨by decide +kernel, ok_aload_n dm_95_12 rfl⟩
set_option maxRecDepth 100000 in
theorem vv_95_13 {l : Launch} (hl : l.stackTraces = false) : cj_V1 l 95 13 (3, 0, 0, []) 14 := Or.inl ⟨by decide +kernel, ok_aload_n dm_95_13 rfl⟩
set_option maxRecDepth 100000 in
theorem vv_95_14 {l : Launch} (hl : l.stackTraces = false) : cj_V1 l 95 14 (50, 7, 11, []) 17 := Or.inl ⟨by decide +kernel, ok_getfield (N := 39) (C := RK_7) (T := TK_7) dm_95_14 rfl inK_7 (by decide +kernel) wm_744⟩
set_option maxRecDepth 100000 in
theorem vv_95_17 {l : Launch} (hl : l.stackTraces = false) : cj_V1 l 95 17 (0, 32, 0, []) 19 := Or.inl ⟨by decide +kernel, ok_bipush dm_95_17 (by decide +kernel)⟩
set_option maxRecDepth 100000 in
theorem vv_95_19 {l : Launch} (hl : l.stackTraces = false) : cj_V1 l 95 19 (2, 1, 0, []) 20 := Or.inl ⟨by decide +kernel, ok_iload_n dm_95_19 rfl⟩
set_option maxRecDepth 100000 in
theorem vv_95_20 {l : Launch} (hl : l.stackTraces = false) : cj_V1 l 95 20 (12, 0, 0, []) 21 := Or.inl ⟨by decide +kernel, ok_imul dm_95_20⟩
set_option maxRecDepth 100000 in
theorem vv_95_21 {l : Launch} (hl : l.stackTraces = false) : cj_V1 l 95 21 (2, 2, 0, []) 22 := Or.inl ⟨by decide +kernel, ok_iload_n dm_95_21 rfl⟩
set_option maxRecDepth 100000 in
theorem vv_95_22 {l : Launch} (hl : l.stackTraces = false) : cj_V1 l 95 22 (10, 0, 0, []) 23 := Or.inl ⟨by decide +kernel, ok_iadd dm_95_22⟩
set_option maxRecDepth 100000 in
theorem vv_95_23 {l : Launch} (hl : l.stackTraces = false) : cj_V1 l 95 23 (54, 0, 0, []) 24 := Or.inl ⟨by decide +kernel, ok_iaload dm_95_23 rfl⟩
set_option maxRecDepth 100000 in
theorem vv_95_24 {l : Launch} (hl : l.stackTraces = false) : cj_V1 l 95 24 (80, 50, 2, [7]) 27 := Or.inr (Or.inr (Or.inl ⟨by decide +kernel, by decide +kernel, rfl, vc_virtual (n := 1) (q := (RK_7, TK_7, 39)) mi_50 dm_95_24 (Or.inl wm_927) wm_929 wm_p26 rfl rfl (by decide +kernel) rfl (by decide +kernel) (by decide +kernel), (vx_none rfl)⟩))
set_option maxRecDepth 100000 in
theorem vv_95_27 {l : Launch} (hl : l.stackTraces = false) : cj_V1 l 95 27 (6, 2, 1, []) 30 := Or.inl ⟨by decide +kernel, ok_iinc6 dm_95_27 (by decide +kernel)⟩
set_option maxRecDepth 100000 in
theorem vv_95_30 {l : Launch} (hl : l.stackTraces = false) : cj_V1 l 95 30 (30, 2, 0, []) 33 := Or.inl ⟨by decide +kernel, ok_goto dm_95_30 (by decide +kernel)⟩
set_option maxRecDepth 100000 in
theorem vv_95_33 {l : Launch} (hl : l.stackTraces = false) : cj_V1 l 95 33 (91, 0, 0, []) 34 := Or.inr (Or.inl ⟨by decide +kernel, Or.inl (Or.inr (Or.inl ⟨rfl, dm_95_33, rfl⟩))⟩)
set_option maxRecDepth 100000 in
theorem vm_95 {l : Launch} (hl : l.stackTraces = false) : cj_Vm l 95 := cj_Vm_of (r := kc95_) rfl ⟨vv_95_0 hl, vv_95_1 hl, vv_95_2 hl, vv_95_3 hl, vv_95_4 hl, vv_95_7 hl, vv_95_8 hl, vv_95_9 hl, vv_95_12 hl, vv_95_13 hl, vv_95_14 hl, vv_95_17 hl, vv_95_19 hl, vv_95_20 hl, vv_95_21 hl, vv_95_22 hl, vv_95_23 hl, vv_95_24 hl, vv_95_27 hl, vv_95_30 hl, vv_95_33 hl, trivial⟩
set_option maxRecDepth 100000 in
theorem vv_96_0 {l : Launch} (hl : l.stackTraces = false) : cj_V1 l 96 0 (2, 1, 0, []) 1 := Or.inl ⟨by decide +kernel, ok_iload_n dm_96_0 rfl⟩
set_option maxRecDepth 100000 in
theorem vv_96_1 {l : Launch} (hl : l.stackTraces = false) : cj_V1 l 96 1 (0, 99, 0, []) 3 := Or.inl ⟨by decide +kernel, ok_bipush dm_96_1 (by decide +kernel)⟩
set_option maxRecDepth 100000 in
theorem vv_96_3 {l : Launch} (hl : l.stackTraces = false) : cj_V1 l 96 3 (42, 17, 0, []) 6 := Or.inl ⟨by decide +kernel, ok_icmp_le dm_96_3 (by decide +kernel)⟩
set_option maxRecDepth 100000 in
theorem vv_96_6 {l : Launch} (hl : l.stackTraces = false) : cj_V1 l 96 6 (3, 0, 0, []) 7 := Or.inl ⟨by decide +kernel, ok_aload_n dm_96_6 rfl⟩
set_option maxRecDepth 100000 in
theorem vv_96_7 {l : Launch} (hl : l.stackTraces = false) : cj_V1 l 96 7 (0, 48, 0, []) 9 := Or.inl ⟨by decide +kernel, ok_bipush dm_96_7 (by decide +kernel)⟩
set_option maxRecDepth 100000 in
theorem vv_96_9 {l : Launch} (hl : l.stackTraces = false) : cj_V1 l 96 9 (2, 1, 0, []) 10 := Or.inl ⟨by decide +kernel, ok_iload_n dm_96_9 rfl⟩
set_option maxRecDepth 100000 in
theorem vv_96_10 {l : Launch} (hl : l.stackTraces = false) : cj_V1 l 96 10 (0, 100, 0, []) 12 := Or.inl ⟨by decide +kernel, ok_bipush dm_96_10 (by decide +kernel)⟩
set_option maxRecDepth 100000 in
theorem vv_96_12 {l : Launch} (hl : l.stackTraces = false) : cj_V1 l 96 12 (13, 0, 0, []) 13 := Or.inl ⟨by decide +kernel, ok_idiv dm_96_12⟩
set_option maxRecDepth 100000 in
theorem vv_96_13 {l : Launch} (hl : l.stackTraces = false) : cj_V1 l 96 13 (10, 0, 0, []) 14 := Or.inl ⟨by decide +kernel, ok_iadd dm_96_13⟩
set_option maxRecDepth 100000 in
theorem vv_96_14 {l : Launch} (hl : l.stackTraces = false) : cj_V1 l 96 14 (80, 50, 2, [7]) 17 := Or.inr (Or.inr (Or.inl ⟨by decide +kernel, by decide +kernel, rfl, vc_virtual (n := 1) (q := (RK_7, TK_7, 39)) mi_50 dm_96_14 (Or.inl wm_927) wm_929 wm_p26 rfl rfl (by decide +kernel) rfl (by decide +kernel) (by decide +kernel), (vx_none rfl)⟩))
set_option maxRecDepth 100000 in
theorem vv_96_17 {l : Launch} (hl : l.stackTraces = false) : cj_V1 l 96 17 (2, 1, 0, []) 18 := Or.inl ⟨by decide +kernel, ok_iload_n dm_96_17 rfl⟩
set_option maxRecDepth 100000 in
theorem vv_96_18 {l : Launch} (hl : l.stackTraces = false) : cj_V1 l 96 18 (0, 9, 0, []) 20 := Or.inl ⟨by decide +kernel, ok_bipush dm_96_18 (by decide +kernel)⟩
set_option maxRecDepth 100000 in
theorem vv_96_20 {l : Launch} (hl : l.stackTraces = false) : cj_V1 l 96 20 (42, 37, 0, []) 23 := Or.inl ⟨by decide +kernel, ok_icmp_le dm_96_20 (by decide +kernel)⟩
set_option maxRecDepth 100000 in
theorem vv_96_23 {l : Launch} (hl : l.stackTraces = false) : cj_V1 l 96 23 (3, 0, 0, []) 24 := Or.inl ⟨by decide +kernel, ok_aload_n dm_96_23 rfl⟩
set_option maxRecDepth 100000 in
theorem vv_96_24 {l : Launch} (hl : l.stackTraces = false) : cj_V1 l 96 24 (0, 48, 0, []) 26 := Or.inl ⟨by decide +kernel, ok_bipush dm_96_24 (by decide +kernel)⟩
set_option maxRecDepth 100000 in
theorem vv_96_26 {l : Launch} (hl : l.stackTraces = false) : cj_V1 l 96 26 (2, 1, 0, []) 27 := Or.inl ⟨by decide +kernel, ok_iload_n dm_96_26 rfl⟩
set_option maxRecDepth 100000 in
theorem vv_96_27 {l : Launch} (hl : l.stackTraces = false) : cj_V1 l 96 27 (0, 10, 0, []) 29 := Or.inl ⟨by decide +kernel, ok_bipush dm_96_27 (by decide +kernel)⟩
set_option maxRecDepth 100000 in
theorem vv_96_29 {l : Launch} (hl : l.stackTraces = false) : cj_V1 l 96 29 (13, 0, 0, []) 30 := Or.inl ⟨by decide +kernel, ok_idiv dm_96_29⟩
set_option maxRecDepth 100000 in
theorem vv_96_30 {l : Launch} (hl : l.stackTraces = false) : cj_V1 l 96 30 (0, 10, 0, []) 32 := Or.inl ⟨by decide +kernel, ok_bipush dm_96_30 (by decide +kernel)⟩
set_option maxRecDepth 100000 in
theorem vv_96_32 {l : Launch} (hl : l.stackTraces = false) : cj_V1 l 96 32 (14, 0, 0, []) 33 := Or.inl ⟨by decide +kernel, ok_irem dm_96_32⟩
set_option maxRecDepth 100000 in
theorem vv_96_33 {l : Launch} (hl : l.stackTraces = false) : cj_V1 l 96 33 (10, 0, 0, []) 34 := Or.inl ⟨by decide +kernel, ok_iadd dm_96_33⟩
set_option maxRecDepth 100000 in
theorem vv_96_34 {l : Launch} (hl : l.stackTraces = false) : cj_V1 l 96 34 (80, 50, 2, [7]) 37 := Or.inr (Or.inr (Or.inl ⟨by decide +kernel, by decide +kernel, rfl, vc_virtual (n := 1) (q := (RK_7, TK_7, 39)) mi_50 dm_96_34 (Or.inl wm_927) wm_929 wm_p26 rfl rfl (by decide +kernel) rfl (by decide +kernel) (by decide +kernel), (vx_none rfl)⟩))
set_option maxRecDepth 100000 in
theorem vv_96_37 {l : Launch} (hl : l.stackTraces = false) : cj_V1 l 96 37 (3, 0, 0, []) 38 := Or.inl ⟨by decide +kernel, ok_aload_n dm_96_37 rfl⟩
set_option maxRecDepth 100000 in
theorem vv_96_38 {l : Launch} (hl : l.stackTraces = false) : cj_V1 l 96 38 (0, 48, 0, []) 40 := Or.inl ⟨by decide +kernel, ok_bipush dm_96_38 (by decide +kernel)⟩
set_option maxRecDepth 100000 in
theorem vv_96_40 {l : Launch} (hl : l.stackTraces = false) : cj_V1 l 96 40 (2, 1, 0, []) 41 := Or.inl ⟨by decide +kernel, ok_iload_n dm_96_40 rfl⟩
set_option maxRecDepth 100000 in
theorem vv_96_41 {l : Launch} (hl : l.stackTraces = false) : cj_V1 l 96 41 (0, 10, 0, []) 43 := Or.inl ⟨by decide +kernel, ok_bipush dm_96_41 (by decide +kernel)⟩
set_option maxRecDepth 100000 in
theorem vv_96_43 {l : Launch} (hl : l.stackTraces = false) : cj_V1 l 96 43 (14, 0, 0, []) 44 := Or.inl ⟨by decide +kernel, ok_irem dm_96_43⟩
set_option maxRecDepth 100000 in
theorem vv_96_44 {l : Launch} (hl : l.stackTraces = false) : cj_V1 l 96 44 (10, 0, 0, []) 45 := Or.inl ⟨by decide +kernel, ok_iadd dm_96_44⟩
set_option maxRecDepth 100000 in
theorem vv_96_45 {l : Launch} (hl : l.stackTraces = false) : cj_V1 l 96 45 (80, 50, 2, [7]) 48 := Or.inr (Or.inr (Or.inl ⟨by decide +kernel, by decide +kernel, rfl, vc_virtual (n := 1) (q := (RK_7, TK_7, 39)) mi_50 dm_96_45 (Or.inl wm_927) wm_929 wm_p26 rfl rfl (by decide +kernel) rfl (by decide +kernel) (by decide +kernel), (vx_none rfl)⟩))
set_option maxRecDepth 100000 in
theorem vv_96_48 {l : Launch} (hl : l.stackTraces = false) : cj_V1 l 96 48 (91, 0, 0, []) 49 := Or.inr (Or.inl ⟨by decide +kernel, Or.inl (Or.inr (Or.inl ⟨rfl, dm_96_48, rfl⟩))⟩)
set_option maxRecDepth 100000 in
theorem vm_96 {l : Launch} (hl : l.stackTraces = false) : cj_Vm l 96 := cj_Vm_of (r := kc96_) rfl ⟨vv_96_0 hl, vv_96_1 hl, vv_96_3 hl, vv_96_6 hl, vv_96_7 hl, vv_96_9 hl, vv_96_10 hl, vv_96_12 hl, vv_96_13 hl, vv_96_14 hl, vv_96_17 hl, vv_96_18 hl, vv_96_20 hl, vv_96_23 hl, vv_96_24 hl, vv_96_26 hl, vv_96_27 hl, vv_96_29 hl, vv_96_30 hl, vv_96_32 hl, vv_96_33 hl, vv_96_34 hl, vv_96_37 hl, vv_96_38 hl, vv_96_40 hl, vv_96_41 hl, vv_96_43 hl, vv_96_44 hl, vv_96_45 hl, vv_96_48 hl, trivial⟩
set_option maxRecDepth 100000 in
theorem vv_97_0 {l : Launch} (hl : l.stackTraces = false) : cj_V1 l 97 0 (3, 0, 0, []) 1 := Or.inl ⟨by decide +kernel, ok_aload_n dm_97_0 rfl⟩
set_option maxRecDepth 100000 in
theorem vv_97_1 {l : Launch} (hl : l.stackTraces = false) : cj_V1 l 97 1 (50, 7, 21, []) 4 := Or.inl ⟨by decide +kernel, ok_getfield (N := 39) (C := RK_7) (T := TK_7) dm_97_1 rfl inK_7 (by decide +kernel) wm_754⟩
set_option maxRecDepth 100000 in
theorem vv_97_4 {l : Launch} (hl : l.stackTraces = false) : cj_V1 l 97 4 (2, 2, 0, []) 5 := Or.inl ⟨by decide +kernel, ok_iload_n dm_97_4 rfl⟩
set_option maxRecDepth 100000 in
theorem vv_97_5 {l : Launch} (hl : l.stackTraces = false) : cj_V1 l 97 5 (1, 1, 0, []) 6 := Or.inl ⟨by decide +kernel, ok_iconst_m dm_97_5 (by decide +kernel)⟩
set_option maxRecDepth 100000 in
theorem vv_97_6 {l : Launch} (hl : l.stackTraces = false) : cj_V1 l 97 6 (56, 0, 0, []) 7 := Or.inl ⟨by decide +kernel, ok_iastore dm_97_6 rfl⟩
set_option maxRecDepth 100000 in
theorem vv_97_7 {l : Launch} (hl : l.stackTraces = false) : cj_V1 l 97 7 (0, 0, 0, []) 8 := Or.inl ⟨by decide +kernel, ok_iconst dm_97_7 (by decide +kernel)⟩
set_option maxRecDepth 100000 in
theorem vv_97_8 {l : Launch} (hl : l.stackTraces = false) : cj_V1 l 97 8 (4, 3, 0, []) 9 := Or.inl ⟨by decide +kernel, ok_istore_n dm_97_8 rfl⟩
set_option maxRecDepth 100000 in
theorem vv_97_9 {l : Launch} (hl : l.stackTraces = false) : cj_V1 l 97 9 (0, 1, 0, []) 10 := Or.inl ⟨by decide +kernel, ok_iconst dm_97_9 (by decide +kernel)⟩
set_option maxRecDepth 100000 in
theorem vv_97_10 {l : Launch} (hl : l.stackTraces = false) : cj_V1 l 97 10 (4, 4, 0, []) 12 := Or.inl ⟨by decide +kernel, ok_istore dm_97_10⟩
set_option maxRecDepth 100000 in
theorem vv_97_12 {l : Launch} (hl : l.stackTraces = false) : cj_V1 l 97 12 (2, 2, 0, []) 13 := Or.inl ⟨by decide +kernel, ok_iload_n dm_97_12 rfl⟩
set_option maxRecDepth 100000 in
theorem vv_97_13 {l : Launch} (hl : l.stackTraces = false) : cj_V1 l 97 13 (2, 4, 0, []) 15 := Or.inl ⟨by decide +kernel, ok_iload dm_97_13⟩
set_option maxRecDepth 100000 in
theorem vv_97_15 {l : Launch} (hl : l.stackTraces = false) : cj_V1 l 97 15 (10, 0, 0, []) 16 := Or.inl ⟨by decide +kernel, ok_iadd dm_97_15⟩
set_option maxRecDepth 100000 in
theorem vv_97_16 {l : Launch} (hl : l.stackTraces = false) : cj_V1 l 97 16 (3, 0, 0, []) 17 := Or.inl ⟨by decide +kernel, ok_aload_n dm_97_16 rfl⟩
set_option maxRecDepth 100000 in
theorem vv_97_17 {l : Launch} (hl : l.stackTraces = false) : cj_V1 l 97 17 (50, 7, 32, []) 20 := Or.inl ⟨by decide +kernel, ok_getfield (N := 39) (C := RK_7) (T := TK_7) dm_97_17 rfl inK_7 (by decide +kernel) wm_765⟩
set_option maxRecDepth 100000 in
theorem vv_97_20 {l : Launch} (hl : l.stackTraces = false) : cj_V1 l 97 20 (2, 1, 0, []) 21 := Or.inl ⟨by decide +kernel, ok_iload_n dm_97_20 rfl⟩
set_option maxRecDepth 100000 in
theorem vv_97_21 {l : Launch} (hl : l.stackTraces = false) : cj_V1 l 97 21 (54, 0, 0, []) 22 := Or.inl ⟨by decide +kernel, ok_iaload dm_97_21 rfl⟩
set_option maxRecDepth 100000 in
theorem vv_97_22 {l : Launch} (hl : l.stackTraces = false) : cj_V1 l 97 22 (41, 149, 0, []) 25 := Or.inl ⟨by decide +kernel, ok_icmp_gt dm_97_22 (by decide +kernel)⟩
set_option maxRecDepth 100000 in
theorem vv_97_25 {l : Launch} (hl : l.stackTraces = false) : cj_V1 l 97 25 (2, 3, 0, []) 26 := Or.inl ⟨by decide +kernel, ok_iload_n dm_97_25 rfl⟩
set_option maxRecDepth 100000 in
theorem vv_97_26 {l : Launch} (hl : l.stackTraces = false) : cj_V1 l 97 26 (3, 0, 0, []) 27 := Or.inl ⟨by decide +kernel, ok_aload_n dm_97_26 rfl⟩
set_option maxRecDepth 100000 in
theorem vv_97_27 {l : Launch} (hl : l.stackTraces = false) : cj_V1 l 97 27 (0, 900, 0, []) 30 := Or.inl ⟨by decide +kernel, ok_sipush dm_97_27 (by decide +kernel)⟩
set_option maxRecDepth 100000 in
theorem vv_97_30 {l : Launch} (hl : l.stackTraces = false) : cj_V1 l 97 30 (2, 1, 0, []) 31 := Or.inl ⟨by decide +kernel, ok_iload_n dm_97_30 rfl⟩
set_option maxRecDepth 100000 in
theorem vv_97_31 {l : Launch} (hl : l.stackTraces = false) : cj_V1 l 97 31 (12, 0, 0, []) 32 := Or.inl ⟨by decide +kernel, ok_imul dm_97_31⟩
set_option maxRecDepth 100000 in
theorem vv_97_32 {l : Launch} (hl : l.stackTraces = false) : cj_V1 l 97 32 (2, 2, 0, []) 33 := Or.inl ⟨by decide +kernel, ok_iload_n dm_97_32 rfl⟩
set_option maxRecDepth 100000 in
theorem vv_97_33 {l : Launch} (hl : l.stackTraces = false) : cj_V1 l 97 33 (10, 0, 0, []) 34 := Or.inl ⟨by decide +kernel, ok_iadd dm_97_33⟩
set_option maxRecDepth 100000 in
theorem vv_97_34 {l : Launch} (hl : l.stackTraces = false) : cj_V1 l 97 34 (2, 4, 0, []) 36 := Or.inl ⟨by decide +kernel, ok_iload dm_97_34⟩
set_option maxRecDepth 100000 in
theorem vv_97_36 {l : Launch} (hl : l.stackTraces = false) : cj_V1 l 97 36 (10, 0, 0, []) 37 := Or.inl ⟨by decide +kernel, ok_iadd dm_97_36⟩
set_option maxRecDepth 100000 in
theorem vv_97_37 {l : Launch} (hl : l.stackTraces = false) : cj_V1 l 97 37 (0, 1, 0, []) 38 := Or.inl ⟨by decide +kernel, ok_iconst dm_97_37 (by decide +kernel)⟩
set_option maxRecDepth 100000 in
theorem vv_97_38 {l : Launch} (hl : l.stackTraces = false) : cj_V1 l 97 38 (11, 0, 0, []) 39 := Or.inl ⟨by decide +kernel, ok_isub dm_97_38⟩
set_option maxRecDepth 100000 in
theorem vv_97_39 {l : Launch} (hl : l.stackTraces = false) : cj_V1 l 97 39 (80, 48, 2, [7]) 42 := Or.inr (Or.inr (Or.inl ⟨by decide +kernel, by decide +kernel, rfl, vc_virtual (n := 1) (q := (RK_7, TK_7, 39)) mi_48 dm_97_39 (Or.inl wm_967) wm_969 wm_p36 rfl rfl (by decide +kernel) rfl (by decide +kernel) (by decide +kernel), (vx_none rfl)⟩))
set_option maxRecDepth 100000 in
theorem vv_97_42 {l : Launch} (hl : l.stackTraces = false) : cj_V1 l 97 42 (10, 0, 0, []) 43 := Or.inl ⟨by decide +kernel, ok_iadd dm_97_42⟩
set_option maxRecDepth 100000 in
theorem vv_97_43 {l : Launch} (hl : l.stackTraces = false) : cj_V1 l 97 43 (4, 3, 0, []) 44 := Or.inl ⟨by decide +kernel, ok_istore_n dm_97_43 rfl⟩
set_option maxRecDepth 100000 in
theorem vv_97_44 {l : Launch} (hl : l.stackTraces = false) : cj_V1 l 97 44 (2, 2, 0, []) 45 := Or.inl ⟨by decide +kernel, ok_iload_n dm_97_44 rfl⟩
set_option maxRecDepth 100000 in
theorem vv_97_45 {l : Launch} (hl : l.stackTraces = false) : cj_V1 l 97 45 (2, 4, 0, []) 47 := Or.inl ⟨by decide +kernel, ok_iload dm_97_45⟩
set_option maxRecDepth 100000 in
theorem vv_97_47 {l : Launch} (hl : l.stackTraces = false) : cj_V1 l 97 47 (10, 0, 0, []) 48 := Or.inl ⟨by decide +kernel, ok_iadd dm_97_47⟩
set_option maxRecDepth 100000 in
theorem vv_97_48 {l : Launch} (hl : l.stackTraces = false) : cj_V1 l 97 48 (3, 0, 0, []) 49 := Or.inl ⟨by decide +kernel, ok_aload_n dm_97_48 rfl⟩
set_option maxRecDepth 100000 in
theorem vv_97_49 {l : Launch} (hl : l.stackTraces = false) : cj_V1 l 97 49 (50, 7, 32, []) 52 := Or.inl ⟨by decide +kernel, ok_getfield (N := 39) (C := RK_7) (T := TK_7) dm_97_49 rfl inK_7 (by decide +kernel) wm_765⟩
set_option maxRecDepth 100000 in
theorem vv_97_52 {l : Launch} (hl : l.stackTraces = false) : cj_V1 l 97 52 (2, 1, 0, []) 53 := Or.inl ⟨by decide +kernel, ok_iload_n dm_97_52 rfl⟩
set_option maxRecDepth 100000 in
theorem vv_97_53 {l : Launch} (hl : l.stackTraces = false) : cj_V1 l 97 53 (54, 0, 0, []) 54 := Or.inl ⟨by decide +kernel, ok_iaload dm_97_53 rfl⟩
set_option maxRecDepth 100000 in
theorem vv_97_54 {l : Launch} (hl : l.stackTraces = false) : cj_V1 l 97 54 (38, 61, 0, []) 57 := Or.inl ⟨by decide +kernel, ok_icmp_ne dm_97_54 (by decide +kernel)⟩
set_option maxRecDepth 100000 in
theorem vv_97_57 {l : Launch} (hl : l.stackTraces = false) : cj_V1 l 97 57 (0, 1, 0, []) 58 := Or.inl ⟨by decide +kernel, ok_iconst dm_97_57 (by decide +kernel)⟩
set_option maxRecDepth 100000 in
theorem vv_97_58 {l : Launch} (hl : l.stackTraces = false) : cj_V1 l 97 58 (30, 62, 0, []) 61 := Or.inl ⟨by decide +kernel, ok_goto dm_97_58 (by decide +kernel)⟩
set_option maxRecDepth 100000 in
theorem vv_97_61 {l : Launch} (hl : l.stackTraces = false) : cj_V1 l 97 61 (0, 0, 0, []) 62 := Or.inl ⟨by decide +kernel, ok_iconst dm_97_61 (by decide +kernel)⟩
set_option maxRecDepth 100000 in
theorem vv_97_62 {l : Launch} (hl : l.stackTraces = false) : cj_V1 l 97 62 (4, 5, 0, []) 64 := Or.inl ⟨by decide +kernel, ok_istore dm_97_62⟩
set_option maxRecDepth 100000 in
theorem vv_97_64 {l : Launch} (hl : l.stackTraces = false) : cj_V1 l 97 64 (2, 5, 0, []) 66 := Or.inl ⟨by decide +kernel, ok_iload dm_97_64⟩
set_option maxRecDepth 100000 in
theorem vv_97_66 {l : Launch} (hl : l.stackTraces = false) : cj_V1 l 97 66 (31, 73, 0, []) 69 := Or.inl ⟨by decide +kernel, ok_if_eq dm_97_66 (by decide +kernel)⟩
set_option maxRecDepth 100000 in
theorem vv_97_69 {l : Launch} (hl : l.stackTraces = false) : cj_V1 l 97 69 (0, 0, 0, []) 70 := Or.inl ⟨by decide +kernel, ok_iconst dm_97_69 (by decide +kernel)⟩
set_option maxRecDepth 100000 in
theorem vv_97_70 {l : Launch} (hl : l.stackTraces = false) : cj_V1 l 97 70 (30, 96, 0, []) 73 := Or.inl ⟨by decide +kernel, ok_goto dm_97_70 (by decide +kernel)⟩
set_option maxRecDepth 100000 in
theorem vv_97_73 {l : Launch} (hl : l.stackTraces = false) : cj_V1 l 97 73 (3, 0, 0, []) 74 := Or.inl ⟨by decide +kernel, ok_aload_n dm_97_73 rfl⟩
set_option maxRecDepth 100000 in
theorem vv_97_74 {l : Launch} (hl : l.stackTraces = false) : cj_V1 l 97 74 (50, 7, 1, []) 77 := Or.inl ⟨by decide +kernel, ok_getfield (N := 39) (C := RK_7) (T := TK_7) dm_97_74 rfl inK_7 (by decide +kernel) wm_734⟩
set_option maxRecDepth 100000 in
theorem vv_97_77 {l : Launch} (hl : l.stackTraces = false) : cj_V1 l 97 77 (2, 3, 0, []) 78 := Or.inl ⟨by decide +kernel, ok_iload_n dm_97_77 rfl⟩
set_option maxRecDepth 100000 in
theorem vv_97_78 {l : Launch} (hl : l.stackTraces = false) : cj_V1 l 97 78 (11, 0, 0, []) 79 := Or.inl ⟨by decide +kernel, ok_isub dm_97_78⟩
set_option maxRecDepth 100000 in
theorem vv_97_79 {l : Launch} (hl : l.stackTraces = false) : cj_V1 l 97 79 (3, 0, 0, []) 80 := Or.inl ⟨by decide +kernel, ok_aload_n dm_97_79 rfl⟩
set_option maxRecDepth 100000 in
theorem vv_97_80 {l : Launch} (hl : l.stackTraces = false) : cj_V1 l 97 80 (50, 7, 1, []) 83 := Or.inl ⟨by decide +kernel, ok_getfield (N := 39) (C := RK_7) (T := TK_7) dm_97_80 rfl inK_7 (by decide +kernel) wm_734⟩
set_option maxRecDepth 100000 in
theorem vv_97_83 {l : Launch} (hl : l.stackTraces = false) : cj_V1 l 97 83 (2, 3, 0, []) 84 := Or.inl ⟨by decide +kernel, ok_iload_n dm_97_83 rfl⟩
set_option maxRecDepth 100000 in
theorem vv_97_84 {l : Launch} (hl : l.stackTraces = false) : cj_V1 l 97 84 (11, 0, 0, []) 85 := Or.inl ⟨by decide +kernel, ok_isub dm_97_84⟩
set_option maxRecDepth 100000 in
theorem vv_97_85 {l : Launch} (hl : l.stackTraces = false) : cj_V1 l 97 85 (12, 0, 0, []) 86 := Or.inl ⟨by decide +kernel, ok_imul dm_97_85⟩
set_option maxRecDepth 100000 in
theorem vv_97_86 {l : Launch} (hl : l.stackTraces = false) : cj_V1 l 97 86 (3, 0, 0, []) 87 := Or.inl ⟨by decide +kernel, ok_aload_n dm_97_86 rfl⟩
set_option maxRecDepth 100000 in
theorem vv_97_87 {l : Launch} (hl : l.stackTraces = false) : cj_V1 l 97 87 (50, 7, 21, []) 90 := Or.inl ⟨by decide +kernel, ok_getfield (N := 39) (C := RK_7) (T := TK_7) dm_97_87 rfl inK_7 (by decide +kernel) wm_754⟩
set_option maxRecDepth 100000 in
theorem vv_97_90 {l : Launch} (hl : l.stackTraces = false) : cj_V1 l 97 90 (2, 2, 0, []) 91 := Or.inl ⟨by decide +kernel, ok_iload_n dm_97_90 rfl⟩
set_option maxRecDepth 100000 in
theorem vv_97_91 {l : Launch} (hl : l.stackTraces = false) : cj_V1 l 97 91 (2, 4, 0, []) 93 := Or.inl ⟨by decide +kernel, ok_iload dm_97_91⟩
set_option maxRecDepth 100000 in
theorem vv_97_93 {l : Launch} (hl : l.stackTraces = false) : cj_V1 l 97 93 (10, 0, 0, []) 94 := Or.inl ⟨by decide +kernel, ok_iadd dm_97_93⟩
set_option maxRecDepth 100000 in
theorem vv_97_94 {l : Launch} (hl : l.stackTraces = false) : cj_V1 l 97 94 (54, 0, 0, []) 95 := Or.inl ⟨by decide +kernel, ok_iaload dm_97_94 rfl⟩
set_option maxRecDepth 100000 in
theorem vv_97_95 {l : Launch} (hl : l.stackTraces = false) : cj_V1 l 97 95 (10, 0, 0, []) 96 := Or.inl ⟨by decide +kernel, ok_iadd dm_97_95⟩
set_option maxRecDepth 100000 in
theorem vv_97_96 {l : Launch} (hl : l.stackTraces = false) : cj_V1 l 97 96 (4, 6, 0, []) 98 := Or.inl ⟨by decide +kernel, ok_istore dm_97_96⟩
set_option maxRecDepth 100000 in
theorem vv_97_98 {l : Launch} (hl : l.stackTraces = false) : cj_V1 l 97 98 (2, 3, 0, []) 99 := Or.inl ⟨by decide +kernel, ok_iload_n dm_97_98 rfl⟩
set_option maxRecDepth 100000 in
theorem vv_97_99 {l : Launch} (hl : l.stackTraces = false) : cj_V1 l 97 99 (3, 0, 0, []) 100 := Or.inl ⟨by decide +kernel, ok_aload_n dm_97_99 rfl⟩
set_option maxRecDepth 100000 in
theorem vv_97_100 {l : Launch} (hl : l.stackTraces = false) : cj_V1 l 97 100 (50, 7, 1, []) 103 := Or.inl ⟨by decide +kernel, ok_getfield (N := 39) (C := RK_7) (T := TK_7) dm_97_100 rfl inK_7 (by decide +kernel) wm_734⟩
set_option maxRecDepth 100000 in
theorem vv_97_103 {l : Launch} (hl : l.stackTraces = false) : cj_V1 l 97 103 (41, 143, 0, []) 106 := Or.inl ⟨by decide +kernel, ok_icmp_gt dm_97_103 (by decide +kernel)⟩
set_option maxRecDepth 100000 in
theorem vv_97_106 {l : Launch} (hl : l.stackTraces = false) : cj_V1 l 97 106 (3, 0, 0, []) 107 := Or.inl ⟨by decide +kernel, ok_aload_n dm_97_106 rfl⟩
set_option maxRecDepth 100000 in
theorem vv_97_107 {l : Launch} (hl : l.stackTraces = false) : cj_V1 l 97 107 (50, 7, 21, []) 110 := Or.inl ⟨by decide +kernel, ok_getfield (N := 39) (C := RK_7) (T := TK_7) dm_97_107 rfl inK_7 (by decide +kernel) wm_754⟩
set_option maxRecDepth 100000 in
theorem vv_97_110 {l : Launch} (hl : l.stackTraces = false) : cj_V1 l 97 110 (2, 2, 0, []) 111 := Or.inl ⟨by decide +kernel, ok_iload_n dm_97_110 rfl⟩
set_option maxRecDepth 100000 in
theorem vv_97_111 {l : Launch} (hl : l.stackTraces = false) : cj_V1 l 97 111 (54, 0, 0, []) 112 := Or.inl ⟨by decide +kernel, ok_iaload dm_97_111 rfl⟩
set_option maxRecDepth 100000 in
theorem vv_97_112 {l : Launch} (hl : l.stackTraces = false) : cj_V1 l 97 112 (1, 1, 0, []) 113 := Or.inl ⟨by decide +kernel, ok_iconst_m dm_97_112 (by decide +kernel)⟩
set_option maxRecDepth 100000 in
theorem vv_97_113 {l : Launch} (hl : l.stackTraces = false) : cj_V1 l 97 113 (37, 127, 0, []) 116 := Or.inl ⟨by decide +kernel, ok_icmp_eq dm_97_113 (by decide +kernel)⟩
set_option maxRecDepth 100000 in
theorem vv_97_116 {l : Launch} (hl : l.stackTraces = false) : cj_V1 l 97 116 (2, 6, 0, []) 118 := Or.inl ⟨by decide +kernel, ok_iload dm_97_116⟩
set_option maxRecDepth 100000 in
theorem vv_97_118 {l : Launch} (hl : l.stackTraces = false) : cj_V1 l 97 118 (3, 0, 0, []) 119 := Or.inl ⟨by decide +kernel, ok_aload_n dm_97_118 rfl⟩
set_option maxRecDepth 100000 in
theorem vv_97_119 {l : Launch} (hl : l.stackTraces = false) : cj_V1 l 97 119 (50, 7, 21, []) 122 := Or.inl ⟨by decide +kernel, ok_getfield (N := 39) (C := RK_7) (T := TK_7) dm_97_119 rfl inK_7 (by decide +kernel) wm_754⟩
set_option maxRecDepth 100000 in
theorem vv_97_122 {l : Launch} (hl : l.stackTraces = false) : cj_V1 l 97 122 (2, 2, 0, []) 123 := Or.inl ⟨by decide +kernel, ok_iload_n dm_97_122 rfl⟩
set_option maxRecDepth 100000 in
theorem vv_97_123 {l : Launch} (hl : l.stackTraces = false) : cj_V1 l 97 123 (54, 0, 0, []) 124 := Or.inl ⟨by decide +kernel, ok_iaload dm_97_123 rfl⟩
set_option maxRecDepth 100000 in
theorem vv_97_124 {l : Launch} (hl : l.stackTraces = false) : cj_V1 l 97 124 (40, 143, 0, []) 127 := Or.inl ⟨by decide +kernel, ok_icmp_ge dm_97_124 (by decide +kernel)⟩
set_option maxRecDepth 100000 in
theorem vv_97_127 {l : Launch} (hl : l.stackTraces = false) : cj_V1 l 97 127 (3, 0, 0, []) 128 := Or.inl ⟨by decide +kernel, ok_aload_n dm_97_127 rfl⟩
set_option maxRecDepth 100000 in
theorem vv_97_128 {l : Launch} (hl : l.stackTraces = false) : cj_V1 l 97 128 (50, 7, 21, []) 131 := Or.inl ⟨by decide +kernel, ok_getfield (N := 39) (C := RK_7) (T := TK_7) dm_97_128 rfl inK_7 (by decide +kernel) wm_754⟩
set_option maxRecDepth 100000 in
theorem vv_97_131 {l : Launch} (hl : l.stackTraces = false) : cj_V1 l 97 131 (2, 2, 0, []) 132 := Or.inl ⟨by decide +kernel, ok_iload_n dm_97_131 rfl⟩
set_option maxRecDepth 100000 in
theorem vv_97_132 {l : Launch} (hl : l.stackTraces = false) : cj_V1 l 97 132 (2, 6, 0, []) 134 := Or.inl ⟨by decide +kernel, ok_iload dm_97_132⟩
set_option maxRecDepth 100000 in
theorem vv_97_134 {l : Launch} (hl : l.stackTraces = false) : cj_V1 l 97 134 (56, 0, 0, []) 135 := Or.inl ⟨by decide +kernel, ok_iastore dm_97_134 rfl⟩
set_option maxRecDepth 100000 in
theorem vv_97_135 {l : Launch} (hl : l.stackTraces = false) : cj_V1 l 97 135 (3, 0, 0, []) 136 := Or.inl ⟨by decide +kernel, ok_aload_n dm_97_135 rfl⟩
set_option maxRecDepth 100000 in
theorem vv_97_136 {l : Launch} (hl : l.stackTraces = false) : cj_V1 l 97 136 (50, 7, 22, []) 139 := Or.inl ⟨by decide +kernel, ok_getfield (N := 39) (C := RK_7) (T := TK_7) dm_97_136 rfl inK_7 (by decide +kernel) wm_755⟩
set_option maxRecDepth 100000 in
theorem vv_97_139 {l : Launch} (hl : l.stackTraces = false) : cj_V1 l 97 139 (2, 2, 0, []) 140 := Or.inl ⟨by decide +kernel, ok_iload_n dm_97_139 rfl⟩
set_option maxRecDepth 100000 in
theorem vv_97_140 {l : Launch} (hl : l.stackTraces = false) : cj_V1 l 97 140 (2, 4, 0, []) 142 := Or.inl ⟨by decide +kernel, ok_iload dm_97_140⟩
set_option maxRecDepth 100000 in
theorem vv_97_142 {l : Launch} (hl : l.stackTraces = false) : cj_V1 l 97 142 (56, 0, 0, []) 143 := Or.inl ⟨by decide +kernel, ok_iastore dm_97_142 rfl⟩
set_option maxRecDepth 100000 in
theorem vv_97_143 {l : Launch} (hl : l.stackTraces = false) : cj_V1 l 97 143 (6, 4, 1, []) 146 := Or.inl ⟨by decide +kernel, ok_iinc6 dm_97_143 (by decide +kernel)⟩
set_option maxRecDepth 100000 in
theorem vv_97_146 {l : Launch} (hl : l.stackTraces = false) : cj_V1 l 97 146 (30, 12, 0, []) 149 := Or.inl ⟨by decide +kernel, ok_goto dm_97_146 (by decide +kernel)⟩
set_option maxRecDepth 100000 in
theorem vv_97_149 {l : Launch} (hl : l.stackTraces = false) : cj_V1 l 97 149 (91, 0, 0, []) 150 := Or.inr (Or.inl ⟨by decide +kernel, Or.inl (Or.inr (Or.inl ⟨rfl, dm_97_149, rfl⟩))⟩)
set_option maxRecDepth 100000 in
theorem vm_97 {l : Launch} (hl : l.stackTraces = false) : cj_Vm l 97 := cj_Vm_of (r := kc97_) rfl ⟨vv_97_0 hl, vv_97_1 hl, vv_97_4 hl, vv_97_5 hl, vv_97_6 hl, vv_97_7 hl, vv_97_8 hl, vv_97_9 hl, vv_97_10 hl, vv_97_12 hl, vv_97_13 hl, vv_97_15 hl, vv_97_16 hl, vv_97_17 hl, vv_97_20 hl, vv_97_21 hl, vv_97_22 hl, vv_97_25 hl, vv_97_26 hl, vv_97_27 hl, vv_97_30 hl, vv_97_31 hl, vv_97_32 hl, vv_97_33 hl, vv_97_34 hl, vv_97_36 hl, vv_97_37 hl, vv_97_38 hl, vv_97_39 hl, vv_97_42 hl, vv_97_43 hl, vv_97_44 hl, vv_97_45 hl, vv_97_47 hl, vv_97_48 hl, vv_97_49 hl, vv_97_52 hl, vv_97_53 hl, vv_97_54 hl, vv_97_57 hl, vv_97_58 hl, vv_97_61 hl, vv_97_62 hl, vv_97_64 hl, vv_97_66 hl, vv_97_69 hl, vv_97_70 hl, vv_97_73 hl, vv_97_74 hl, vv_97_77 hl, vv_97_78 hl, vv_97_79 hl, vv_97_80 hl, vv_97_83 hl, vv_97_84 hl, vv_97_85 hl, vv_97_86 hl, vv_97_87 hl, vv_97_90 hl, vv_97_91 hl, vv_97_93 hl, vv_97_94 hl, vv_97_95 hl, vv_97_96 hl, vv_97_98 hl, vv_97_99 hl, vv_97_100 hl, vv_97_103 hl, vv_97_106 hl, vv_97_107 hl, vv_97_110 hl, vv_97_111 hl, vv_97_112 hl, vv_97_113 hl, vv_97_116 hl, vv_97_118 hl, vv_97_119 hl, vv_97_122 hl, vv_97_123 hl, vv_97_124 hl, vv_97_127 hl, vv_97_128 hl, vv_97_131 hl, vv_97_132 hl, vv_97_134 hl, vv_97_135 hl, vv_97_136 hl, vv_97_139 hl, vv_97_140 hl, vv_97_142 hl, vv_97_143 hl, vv_97_146 hl, vv_97_149 hl, trivial⟩
set_option maxRecDepth 100000 in
theorem vv_98_0 {l : Launch} (hl : l.stackTraces = false) : cj_V1 l 98 0 (3, 0, 0, []) 1 := Or.inl ⟨by decide +kernel, ok_aload_n dm_98_0 rfl⟩
set_option maxRecDepth 100000 in
theorem vv_98_1 {l : Launch} (hl : l.stackTraces = false) : cj_V1 l 98 1 (3, 0, 0, []) 2 := Or.inl ⟨by decide +kernel, ok_aload_n dm_98_1 rfl⟩
set_option maxRecDepth 100000 in
theorem vv_98_2 {l : Launch} (hl : l.stackTraces = false) : cj_V1 l 98 2 (50, 7, 3, []) 5 := Or.inl ⟨by decide +kernel, ok_getfield (N := 39) (C := RK_7) (T := TK_7) dm_98_2 rfl inK_7 (by decide +kernel) wm_736⟩
set_option maxRecDepth 100000 in
theorem vv_98_5 {l : Launch} (hl : l.stackTraces = false) : cj_V1 l 98 5 (2, 1, 0, []) 6 := Or.inl ⟨by decide +kernel, ok_iload_n dm_98_5 rfl⟩
set_option maxRecDepth 100000 in
theorem vv_98_6 {l : Launch} (hl : l.stackTraces = false) : cj_V1 l 98 6 (81, 53, 1, []) 9 := Or.inr (Or.inr (Or.inl ⟨by decide +kernel, by decide +kernel, rfl, vc_static mi_53 dm_98_6 (Or.inl wm_859) wm_860 (by decide +kernel) (by decide +kernel) (by decide +kernel), (vx_none rfl)⟩))
set_option maxRecDepth 100000 in
theorem vv_98_9 {l : Launch} (hl : l.stackTraces = false) : cj_V1 l 98 9 (10, 0, 0, []) 10 := Or.inl ⟨by decide +kernel, ok_iadd dm_98_9⟩
set_option maxRecDepth 100000 in
theorem vv_98_10 {l : Launch} (hl : l.stackTraces = false) : cj_V1 l 98 10 (2, 2, 0, []) 11 := Or.inl ⟨by decide +kernel, ok_iload_n dm_98_10 rfl⟩
set_option maxRecDepth 100000 in
theorem vv_98_11 {l : Launch} (hl : l.stackTraces = false) : cj_V1 l 98 11 (81, 53, 1, []) 14 := Or.inr (Or.inr (Or.inl ⟨by decide +kernel, by decide +kernel, rfl, vc_static mi_53 dm_98_11 (Or.inl wm_859) wm_860 (by decide +kernel) (by decide +kernel) (by decide +kernel), (vx_none rfl)⟩))
set_option maxRecDepth 100000 in
theorem vv_98_14 {l : Launch} (hl : l.stackTraces = false) : cj_V1 l 98 14 (10, 0, 0, []) 15 := Or.inl ⟨by decide +kernel, ok_iadd dm_98_14⟩
set_option maxRecDepth 100000 in
theorem vv_98_15 {l : Launch} (hl : l.stackTraces = false) : cj_V1 l 98 15 (0, 32, 0, []) 17 := Or.inl ⟨by decide +kernel, ok_bipush dm_98_15 (by decide +kernel)⟩
set_option maxRecDepth 100000 in
theorem vv_98_17 {l : Launch} (hl : l.stackTraces = false) : cj_V1 l 98 17 (41, 24, 0, []) 20 := Or.inl ⟨by decide +kernel, ok_icmp_gt dm_98_17 (by decide +kernel)⟩
set_option maxRecDepth 100000 in
theorem vv_98_20 {l : Launch} (hl : l.stackTraces = false) : cj_V1 l 98 20 (0, 1, 0, []) 21 := Or.inl ⟨by decide +kernel, ok_iconst dm_98_20 (by decide +kernel)⟩
set_option maxRecDepth 100000 in
theorem vv_98_21 {l : Launch} (hl : l.stackTraces = false) : cj_V1 l 98 21 (30, 25, 0, []) 24 := Or.inl ⟨by decide +kernel, ok_goto dm_98_21 (by decide +kernel)⟩
set_option maxRecDepth 100000 in
theorem vv_98_24 {l : Launch} (hl : l.stackTraces = false) : cj_V1 l 98 24 (0, 0, 0, []) 25 := Or.inl ⟨by decide +kernel, ok_iconst dm_98_24 (by decide +kernel)⟩
set_option maxRecDepth 100000 in
theorem vv_98_25 {l : Launch} (hl : l.stackTraces = false) : cj_V1 l 98 25 (2, 1, 0, []) 26 := Or.inl ⟨by decide +kernel, ok_iload_n dm_98_25 rfl⟩
set_option maxRecDepth 100000 in
theorem vv_98_26 {l : Launch} (hl : l.stackTraces = false) : cj_V1 l 98 26 (81, 43, 1, []) 29 := Or.inr (Or.inr (Or.inl ⟨by decide +kernel, by decide +kernel, rfl, vc_static mi_43 dm_98_26 (Or.inl wm_862) wm_863 (by decide +kernel) (by decide +kernel) (by decide +kernel), (vx_none rfl)⟩))
set_option maxRecDepth 100000 in
theorem vv_98_29 {l : Launch} (hl : l.stackTraces = false) : cj_V1 l 98 29 (31, 43, 0, []) 32 := Or.inl ⟨by decide +kernel, ok_if_eq dm_98_29 (by decide +kernel)⟩
set_option maxRecDepth 100000 in
theorem vv_98_32 {l : Launch} (hl : l.stackTraces = false) : cj_V1 l 98 32 (2, 2, 0, []) 33 := Or.inl ⟨by decide +kernel, ok_iload_n dm_98_32 rfl⟩
set_option maxRecDepth 100000 in
theorem vv_98_33 {l : Launch} (hl : l.stackTraces = false) : cj_V1 l 98 33 (81, 43, 1, []) 36 := Or.inr (Or.inr (Or.inl ⟨by decide +kernel, by decide +kernel, rfl, vc_static mi_43 dm_98_33 (Or.inl wm_862) wm_863 (by decide +kernel) (by decide +kernel) (by decide +kernel), (vx_none rfl)⟩))
set_option maxRecDepth 100000 in
theorem vv_98_36 {l : Launch} (hl : l.stackTraces = false) : cj_V1 l 98 36 (31, 43, 0, []) 39 := Or.inl ⟨by decide +kernel, ok_if_eq dm_98_36 (by decide +kernel)⟩
set_option maxRecDepth 100000 in
theorem vv_98_39 {l : Launch} (hl : l.stackTraces = false) : cj_V1 l 98 39 (0, 1, 0, []) 40 := Or.inl ⟨by decide +kernel, ok_iconst dm_98_39 (by decide +kernel)⟩
set_option maxRecDepth 100000 in
theorem vv_98_40 {l : Launch} (hl : l.stackTraces = false) : cj_V1 l 98 40 (30, 44, 0, []) 43 := Or.inl ⟨by decide +kernel, ok_goto dm_98_40 (by decide +kernel)⟩
set_option maxRecDepth 100000 in
theorem vv_98_43 {l : Launch} (hl : l.stackTraces = false) : cj_V1 l 98 43 (0, 0, 0, []) 44 := Or.inl ⟨by decide +kernel, ok_iconst dm_98_43 (by decide +kernel)⟩
set_option maxRecDepth 100000 in
theorem vv_98_44 {l : Launch} (hl : l.stackTraces = false) : cj_V1 l 98 44 (80, 46, 3, [7]) 47 := Or.inr (Or.inr (Or.inl ⟨by decide +kernel, by decide +kernel, rfl, vc_virtual (n := 2) (q := (RK_7, TK_7, 39)) mi_46 dm_98_44 (Or.inl wm_865) wm_867 wm_p19 rfl rfl (by decide +kernel) rfl (by decide +kernel) (by decide +kernel), (vx_none rfl)⟩))
set_option maxRecDepth 100000 in
theorem vv_98_47 {l : Launch} (hl : l.stackTraces = false) : cj_V1 l 98 47 (32, 52, 0, []) 50 := Or.inl ⟨by decide +kernel, ok_if_ne dm_98_47 (by decide +kernel)⟩
set_option maxRecDepth 100000 in
theorem vv_98_50 {l : Launch} (hl : l.stackTraces = false) : cj_V1 l 98 50 (0, 0, 0, []) 51 := Or.inl ⟨by decide +kernel, ok_iconst dm_98_50 (by decide +kernel)⟩
set_option maxRecDepth 100000 in
theorem vv_98_51 {l : Launch} (hl : l.stackTraces = false) : cj_V1 l 98 51 (90, 0, 0, []) 52 := Or.inr (Or.inl ⟨by decide +kernel, Or.inl (Or.inl ⟨rfl, dm_98_51, rfl⟩)⟩)
set_option maxRecDepth 100000 in
theorem vv_98_52 {l : Launch} (hl : l.stackTraces = false) : cj_V1 l 98 52 (3, 0, 0, []) 53 := Or.inl ⟨by decide +kernel, ok_aload_n dm_98_52 rfl⟩
set_option maxRecDepth 100000 in
theorem vv_98_53 {l : Launch} (hl : l.stackTraces = false) : cj_V1 l 98 53 (2, 1, 0, []) 54 := Or.inl ⟨by decide +kernel, ok_iload_n dm_98_53 rfl⟩
set_option maxRecDepth 100000 in
theorem vv_98_54 {l : Launch} (hl : l.stackTraces = false) : cj_V1 l 98 54 (80, 55, 2, [7]) 57 := Or.inr (Or.inr (Or.inl ⟨by decide +kernel, by decide +kernel, rfl, vc_virtual (n := 1) (q := (RK_7, TK_7, 39)) mi_55 dm_98_54 (Or.inl wm_869) wm_871 wm_p20 rfl rfl (by decide +kernel) rfl (by decide +kernel) (by decide +kernel), (vx_none rfl)⟩))
set_option maxRecDepth 100000 in
theorem vv_98_57 {l : Launch} (hl : l.stackTraces = false) : cj_V1 l 98 57 (3, 0, 0, []) 58 := Or.inl ⟨by decide +kernel, ok_aload_n dm_98_57 rfl⟩
set_option maxRecDepth 100000 in
theorem vv_98_58 {l : Launch} (hl : l.stackTraces = false) : cj_V1 l 98 58 (2, 2, 0, []) 59 := Or.inl ⟨by decide +kernel, ok_iload_n dm_98_58 rfl⟩
set_option maxRecDepth 100000 in
theorem vv_98_59 {l : Launch} (hl : l.stackTraces = false) : cj_V1 l 98 59 (80, 55, 2, [7]) 62 := Or.inr (Or.inr (Or.inl ⟨by decide +kernel, by decide +kernel, rfl, vc_virtual (n := 1) (q := (RK_7, TK_7, 39)) mi_55 dm_98_59 (Or.inl wm_869) wm_871 wm_p20 rfl rfl (by decide +kernel) rfl (by decide +kernel) (by decide +kernel), (vx_none rfl)⟩))
set_option maxRecDepth 100000 in
theorem vv_98_62 {l : Launch} (hl : l.stackTraces = false) : cj_V1 l 98 62 (3, 0, 0, []) 63 := Or.inl ⟨by decide +kernel, ok_aload_n dm_98_62 rfl⟩
set_option maxRecDepth 100000 in
theorem vv_98_63 {l : Launch} (hl : l.stackTraces = false) : cj_V1 l 98 63 (50, 7, 3, []) 66 := Or.inl ⟨by decide +kernel, ok_getfield (N := 39) (C := RK_7) (T := TK_7) dm_98_63 rfl inK_7 (by decide +kernel) wm_736⟩
set_option maxRecDepth 100000 in
theorem vv_98_66 {l : Launch} (hl : l.stackTraces = false) : cj_V1 l 98 66 (90, 0, 0, []) 67 := Or.inr (Or.inl ⟨by decide +kernel, Or.inl (Or.inl ⟨rfl, dm_98_66, rfl⟩)⟩)
set_option maxRecDepth 100000 in
theorem vm_98 {l : Launch} (hl : l.stackTraces = false) : cj_Vm l 98 := cj_Vm_of (r := kc98_) rfl ⟨vv_98_0 hl, vv_98_1 hl, vv_98_2 hl, vv_98_5 hl, vv_98_6 hl, vv_98_9 hl, vv_98_10 hl, vv_98_11 hl, vv_98_14 hl, vv_98_15 hl, vv_98_17 hl, vv_98_20 hl, vv_98_21 hl, vv_98_24 hl, vv_98_25 hl, vv_98_26 hl, vv_98_29 hl, vv_98_32 hl, vv_98_33 hl, vv_98_36 hl, vv_98_39 hl, vv_98_40 hl, vv_98_43 hl, vv_98_44 hl, vv_98_47 hl, vv_98_50 hl, vv_98_51 hl, vv_98_52 hl, vv_98_53 hl, vv_98_54 hl, vv_98_57 hl, vv_98_58 hl, vv_98_59 hl, vv_98_62 hl, vv_98_63 hl, vv_98_66 hl, trivial⟩
set_option maxRecDepth 100000 in
theorem vv_99_0 {l : Launch} (hl : l.stackTraces = false) : cj_V1 l 99 0 (2, 1, 0, []) 1 := Or.inl ⟨by decide +kernel, ok_iload_n dm_99_0 rfl⟩
set_option maxRecDepth 100000 in
theorem vv_99_1 {l : Launch} (hl : l.stackTraces = false) : cj_V1 l 99 1 (3, 0, 0, []) 2 := Or.inl ⟨by decide +kernel, ok_aload_n dm_99_1 rfl⟩
set_option maxRecDepth 100000 in
theorem vv_99_2 {l : Launch} (hl : l.stackTraces = false) : cj_V1 l 99 2 (50, 7, 23, []) 5 := Or.inl ⟨by decide +kernel, ok_getfield (N := 39) (C := RK_7) (T := TK_7) dm_99_2 rfl inK_7 (by decide +kernel) wm_756⟩
set_option maxRecDepth 100000 in
theorem vv_99_5 {l : Launch} (hl : l.stackTraces = false) : cj_V1 l 99 5 (1, 1, 0, []) 6 := Or.inl ⟨by decide +kernel, ok_iconst_m dm_99_5 (by decide +kernel)⟩
set_option maxRecDepth 100000 in
theorem vv_99_6 {l : Launch} (hl : l.stackTraces = false) : cj_V1 l 99 6 (38, 16, 0, []) 9 := Or.inl ⟨by decide +kernel, ok_icmp_ne dm_99_6 (by decide +kernel)⟩
set_option maxRecDepth 100000 in
theorem vv_99_9 {l : Launch} (hl : l.stackTraces = false) : cj_V1 l 99 9 (3, 0, 0, []) 10 := Or.inl ⟨by decide +kernel, ok_aload_n dm_99_9 rfl⟩
set_option maxRecDepth 100000 in
theorem vv_99_10 {l : Launch} (hl : l.stackTraces = false) : cj_V1 l 99 10 (50, 7, 8, []) 13 := Or.inl ⟨by decide +kernel, ok_getfield (N := 39) (C := RK_7) (T := TK_7) dm_99_10 rfl inK_7 (by decide +kernel) wm_741⟩
set_option maxRecDepth 100000 in
theorem vv_99_13 {l : Launch} (hl : l.stackTraces = false) : cj_V1 l 99 13 (30, 25, 0, []) 16 := Or.inl ⟨by decide +kernel, ok_goto dm_99_13 (by decide +kernel)⟩
set_option maxRecDepth 100000 in
theorem vv_99_16 {l : Launch} (hl : l.stackTraces = false) : cj_V1 l 99 16 (3, 0, 0, []) 17 := Or.inl ⟨by decide +kernel, ok_aload_n dm_99_16 rfl⟩
set_option maxRecDepth 100000 in
theorem vv_99_17 {l : Launch} (hl : l.stackTraces = false) : cj_V1 l 99 17 (50, 7, 24, []) 20 := Or.inl ⟨by decide +kernel, ok_getfield (N := 39) (C := RK_7) (T := TK_7) dm_99_17 rfl inK_7 (by decide +kernel) wm_757⟩
set_option maxRecDepth 100000 in
theorem vv_99_20 {l : Launch} (hl : l.stackTraces = false) : cj_V1 l 99 20 (3, 0, 0, []) 21 := Or.inl ⟨by decide +kernel, ok_aload_n dm_99_20 rfl⟩
set_option maxRecDepth 100000 in
theorem vv_99_21 {l : Launch} (hl : l.stackTraces = false) : cj_V1 l 99 21 (50, 7, 23, []) 24 := Or.inl ⟨by decide +kernel, ok_getfield (N := 39) (C := RK_7) (T := TK_7) dm_99_21 rfl inK_7 (by decide +kernel) wm_756⟩
set_option maxRecDepth 100000 in
theorem vv_99_24 {l : Launch} (hl : l.stackTraces = false) : cj_V1 l 99 24 (54, 0, 0, []) 25 := Or.inl ⟨by decide +kernel, ok_iaload dm_99_24 rfl⟩
set_option maxRecDepth 100000 in
theorem vv_99_25 {l : Launch} (hl : l.stackTraces = false) : cj_V1 l 99 25 (81, 44, 2, []) 28 := Or.inr (Or.inr (Or.inl ⟨by decide +kernel, by decide +kernel, rfl, vc_static mi_44 dm_99_25 (Or.inl wm_888) wm_889 (by decide +kernel) (by decide +kernel) (by decide +kernel), (vx_none rfl)⟩))
set_option maxRecDepth 100000 in
theorem vv_99_28 {l : Launch} (hl : l.stackTraces = false) : cj_V1 l 99 28 (93, 0, 0, []) 29 := Or.inr (Or.inl ⟨by decide +kernel, Or.inl (Or.inr (Or.inr (Or.inr ⟨rfl, dm_99_28, rfl⟩)))⟩)
set_option maxRecDepth 100000 in
theorem vm_99 {l : Launch} (hl : l.stackTraces = false) : cj_Vm l 99 := cj_Vm_of (r := kc99_) rfl ⟨vv_99_0 hl, vv_99_1 hl, vv_99_2 hl, vv_99_5 hl, vv_99_6 hl, vv_99_9 hl, vv_99_10 hl, vv_99_13 hl, vv_99_16 hl, vv_99_17 hl, vv_99_20 hl, vv_99_21 hl, vv_99_24 hl, vv_99_25 hl, vv_99_28 hl, trivial⟩
set_option maxRecDepth 100000 in
theorem vv_100_0 {l : Launch} (hl : l.stackTraces = false) : cj_V1 l 100 0 (3, 1, 0, []) 1 := Or.inl ⟨by decide +kernel, ok_aload_n dm_100_0 rfl⟩
set_option maxRecDepth 100000 in
theorem vv_100_1 {l : Launch} (hl : l.stackTraces = false) : cj_V1 l 100 1 (80, 39, 1, [6]) 4 := Or.inr (Or.inr (Or.inl ⟨by decide +kernel, by decide +kernel, rfl, vc_virtual (n := 0) (q := (RK_6, TK_6, 2)) mi_39 dm_100_1 (Or.inl wm_409) wm_249 wm_250 rfl rfl (by decide +kernel) rfl (by decide +kernel) (by decide +kernel), (vx_none rfl)⟩))
set_option maxRecDepth 100000 in
theorem vv_100_4 {l : Launch} (hl : l.stackTraces = false) : cj_V1 l 100 4 (3, 2, 0, []) 5 := Or.inl ⟨by decide +kernel, ok_aload_n dm_100_4 rfl⟩
set_option maxRecDepth 100000 in
theorem vv_100_5 {l : Launch} (hl : l.stackTraces = false) : cj_V1 l 100 5 (80, 39, 1, [6]) 8 := Or.inr (Or.inr (Or.inl ⟨by decide +kernel, by decide +kernel, rfl, vc_virtual (n := 0) (q := (RK_6, TK_6, 2)) mi_39 dm_100_5 (Or.inl wm_409) wm_249 wm_250 rfl rfl (by decide +kernel) rfl (by decide +kernel) (by decide +kernel), (vx_none rfl)⟩))
set_option maxRecDepth 100000 in
theorem vv_100_8 {l : Launch} (hl : l.stackTraces = false) : cj_V1 l 100 8 (85, 0, 0, []) 11 := Or.inl ⟨by decide +kernel, ok_min dm_100_8 wm_24 wm_25 wm_2 wm_26 (by decide +kernel) (by decide +kernel)⟩
set_option maxRecDepth 100000 in
theorem vv_100_11 {l : Launch} (hl : l.stackTraces = false) : cj_V1 l 100 11 (4, 3, 0, []) 12 := Or.inl ⟨by decide +kernel, ok_istore_n dm_100_11 rfl⟩
set_option maxRecDepth 100000 in
theorem vv_100_12 {l : Launch} (hl : l.stackTraces = false) : cj_V1 l 100 12 (0, 0, 0, []) 13 := Or.inl ⟨by decide +kernel, ok_iconst dm_100_12 (by decide +kernel)⟩
set_option maxRecDepth 100000 in
theorem vv_100_13 {l : Launch} (hl : l.stackTraces = false) : cj_V1 l 100 13 (4, 4, 0, []) 15 := Or.inl ⟨by decide +kernel, ok_istore dm_100_13⟩
set_option maxRecDepth 100000 in
theorem vv_100_15 {l : Launch} (hl : l.stackTraces = false) : cj_V1 l 100 15 (2, 4, 0, []) 17 := Or.inl ⟨by decide +kernel, ok_iload dm_100_15⟩
set_option maxRecDepth 100000 in
theorem vv_100_17 {l : Launch} (hl : l.stackTraces = false) : cj_V1 l 100 17 (2, 3, 0, []) 18 := Or.inl ⟨by decide +kernel, ok_iload_n dm_100_17 rfl⟩
set_option maxRecDepth 100000 in
theorem vv_100_18 {l : Launch} (hl : l.stackTraces = false) : cj_V1 l 100 18 (40, 58, 0, []) 21 := Or.inl ⟨by decide +kernel, ok_icmp_ge dm_100_18 (by decide +kernel)⟩
set_option maxRecDepth 100000 in
theorem vv_100_21 {l : Launch} (hl : l.stackTraces = false) : cj_V1 l 100 21 (3, 0, 0, []) 22 := Or.inl ⟨by decide +kernel, ok_aload_n dm_100_21 rfl⟩
set_option maxRecDepth 100000 in
theorem vv_100_22 {l : Launch} (hl : l.stackTraces = false) : cj_V1 l 100 22 (3, 1, 0, []) 23 := Or.inl ⟨by decide +kernel, ok_aload_n dm_100_22 rfl⟩
set_option maxRecDepth 100000 in
theorem vv_100_23 {l : Launch} (hl : l.stackTraces = false) : cj_V1 l 100 23 (2, 4, 0, []) 25 := Or.inl ⟨by decide +kernel, ok_iload dm_100_23⟩
set_option maxRecDepth 100000 in
theorem vv_100_25 {l : Launch} (hl : l.stackTraces = false) : cj_V1 l 100 25 (80, 36, 2, [6]) 28 := Or.inr (Or.inr (Or.inl ⟨by decide +kernel, by decide +kernel, rfl, vc_virtual (n := 1) (q := (RK_6, TK_6, 2)) mi_36 dm_100_25 (Or.inl wm_519) wm_253 wm_254 rfl rfl (by decide +kernel) rfl (by decide +kernel) (by decide +kernel), (vx_none rfl)⟩))
set_option maxRecDepth 100000 in
theorem vv_100_28 {l : Launch} (hl : l.stackTraces = false) : cj_V1 l 100 28 (80, 68, 2, [0]) 31 := Or.inr (Or.inr (Or.inl ⟨by decide +kernel, by decide +kernel, rfl, vc_virtual (n := 1) (q := (RK_0, TK_0, 11)) mi_68 dm_100_28 (Or.inl wm_715) wm_717 wm_p18 rfl rfl (by decide +kernel) rfl (by decide +kernel) (by decide +kernel), (vx_none rfl)⟩))
set_option maxRecDepth 100000 in
theorem vv_100_31 {l : Launch} (hl : l.stackTraces = false) : cj_V1 l 100 31 (3, 0, 0, []) 32 := Or.inl ⟨by decide +kernel, ok_aload_n dm_100_31 rfl⟩
set_option maxRecDepth 100000 in
theorem vv_100_32 {l : Launch} (hl : l.stackTraces = false) : cj_V1 l 100 32 (3, 2, 0, []) 33 := Or.inl ⟨by decide +kernel, ok_aload_n dm_100_32 rfl⟩
set_option maxRecDepth 100000 in
theorem vv_100_33 {l : Launch} (hl : l.stackTraces = false) : cj_V1 l 100 33 (2, 4, 0, []) 35 := Or.inl ⟨by decide +kernel, ok_iload dm_100_33⟩
set_option maxRecDepth 100000 in
theorem vv_100_35 {l : Launch} (hl : l.stackTraces = false) : cj_V1 l 100 35 (80, 36, 2, [6]) 38 := Or.inr (Or.inr (Or.inl ⟨by decide +kernel, by decide +kernel, rfl, vc_virtual (n := 1) (q := (RK_6, TK_6, 2)) mi_36 dm_100_35 (Or.inl wm_519) wm_253 wm_254 rfl rfl (by decide +kernel) rfl (by decide +kernel) (by decide +kernel), (vx_none rfl)⟩))
set_option maxRecDepth 100000 in
theorem vv_100_38 {l : Launch} (hl : l.stackTraces = false) : cj_V1 l 100 38 (80, 68, 2, [0]) 41 := Or.inr (Or.inr (Or.inl ⟨by decide +kernel, by decide +kernel, rfl, vc_virtual (n := 1) (q := (RK_0, TK_0, 11)) mi_68 dm_100_38 (Or.inl wm_715) wm_717 wm_p18 rfl rfl (by decide +kernel) rfl (by decide +kernel) (by decide +kernel), (vx_none rfl)⟩))
set_option maxRecDepth 100000 in
theorem vv_100_41 {l : Launch} (hl : l.stackTraces = false) : cj_V1 l 100 41 (11, 0, 0, []) 42 := Or.inl ⟨by decide +kernel, ok_isub dm_100_41⟩
set_option maxRecDepth 100000 in
theorem vv_100_42 {l : Launch} (hl : l.stackTraces = false) : cj_V1 l 100 42 (4, 5, 0, []) 44 := Or.inl ⟨by decide +kernel, ok_istore dm_100_42⟩
set_option maxRecDepth 100000 in
theorem vv_100_44 {l : Launch} (hl : l.stackTraces = false) : cj_V1 l 100 44 (2, 5, 0, []) 46 := Or.inl ⟨by decide +kernel, ok_iload dm_100_44⟩
set_option maxRecDepth 100000 in
theorem vv_100_46 {l : Launch} (hl : l.stackTraces = false) : cj_V1 l 100 46 (31, 52, 0, []) 49 := Or.inl ⟨by decide +kernel, ok_if_eq dm_100_46 (by decide +kernel)⟩
set_option maxRecDepth 100000 in
theorem vv_100_49 {l : Launch} (hl : l.stackTraces = false) : cj_V1 l 100 49 (2, 5, 0, []) 51 := Or.inl ⟨by decide +kernel, ok_iload dm_100_49⟩
set_option maxRecDepth 100000 in
theorem vv_100_51 {l : Launch} (hl : l.stackTraces = false) : cj_V1 l 100 51 (90, 0, 0, []) 52 := Or.inr (Or.inl ⟨by decide +kernel, Or.inl (Or.inl ⟨rfl, dm_100_51, rfl⟩)⟩)
set_option maxRecDepth 100000 in
theorem vv_100_52 {l : Launch} (hl : l.stackTraces = false) : cj_V1 l 100 52 (6, 4, 1, []) 55 := Or.inl ⟨by decide +kernel, ok_iinc6 dm_100_52 (by decide +kernel)⟩
set_option maxRecDepth 100000 in
theorem vv_100_55 {l : Launch} (hl : l.stackTraces = false) : cj_V1 l 100 55 (30, 15, 0, []) 58 := Or.inl ⟨by decide +kernel, ok_goto dm_100_55 (by decide +kernel)⟩
set_option maxRecDepth 100000 in
theorem vv_100_58 {l : Launch} (hl : l.stackTraces = false) : cj_V1 l 100 58 (3, 1, 0, []) 59 := Or.inl ⟨by decide +kernel, ok_aload_n dm_100_58 rfl⟩
set_option maxRecDepth 100000 in
theorem vv_100_59 {l : Launch} (hl : l.stackTraces = false) : cj_V1 l 100 59 (80, 39, 1, [6]) 62 := Or.inr (Or.inr (Or.inl ⟨by decide +kernel, by decide +kernel, rfl, vc_virtual (n := 0) (q := (RK_6, TK_6, 2)) mi_39 dm_100_59 (Or.inl wm_409) wm_249 wm_250 rfl rfl (by decide +kernel) rfl (by decide +kernel) (by decide +kernel), (vx_none rfl)⟩))
set_option maxRecDepth 100000 in
theorem vv_100_62 {l : Launch} (hl : l.stackTraces = false) : cj_V1 l 100 62 (3, 2, 0, []) 63 := Or.inl ⟨by decide +kernel, ok_aload_n dm_100_62 rfl⟩
set_option maxRecDepth 100000 in
theorem vv_100_63 {l : Launch} (hl : l.stackTraces = false) : cj_V1 l 100 63 (80, 39, 1, [6]) 66 := Or.inr (Or.inr (Or.inl ⟨by decide +kernel, by decide +kernel, rfl, vc_virtual (n := 0) (q := (RK_6, TK_6, 2)) mi_39 dm_100_63 (Or.inl wm_409) wm_249 wm_250 rfl rfl (by decide +kernel) rfl (by decide +kernel) (by decide +kernel), (vx_none rfl)⟩))
set_option maxRecDepth 100000 in
theorem vv_100_66 {l : Launch} (hl : l.stackTraces = false) : cj_V1 l 100 66 (11, 0, 0, []) 67 := Or.inl ⟨by decide +kernel, ok_isub dm_100_66⟩
set_option maxRecDepth 100000 in
theorem vv_100_67 {l : Launch} (hl : l.stackTraces = false) : cj_V1 l 100 67 (90, 0, 0, []) 68 := Or.inr (Or.inl ⟨by decide +kernel, Or.inl (Or.inl ⟨rfl, dm_100_67, rfl⟩)⟩)
set_option maxRecDepth 100000 in
theorem vm_100 {l : Launch} (hl : l.stackTraces = false) : cj_Vm l 100 := cj_Vm_of (r := kc100_) rfl ⟨vv_100_0 hl, vv_100_1 hl, vv_100_4 hl, vv_100_5 hl, vv_100_8 hl, vv_100_11 hl, vv_100_12 hl, vv_100_13 hl, vv_100_15 hl, vv_100_17 hl, vv_100_18 hl, vv_100_21 hl, vv_100_22 hl, vv_100_23 hl, vv_100_25 hl, vv_100_28 hl, vv_100_31 hl, vv_100_32 hl, vv_100_33 hl, vv_100_35 hl, vv_100_38 hl, vv_100_41 hl, vv_100_42 hl, vv_100_44 hl, vv_100_46 hl, vv_100_49 hl, vv_100_51 hl, vv_100_52 hl, vv_100_55 hl, vv_100_58 hl, vv_100_59 hl, vv_100_62 hl, vv_100_63 hl, vv_100_66 hl, vv_100_67 hl, trivial⟩
set_option maxRecDepth 100000 in
theorem vv_101_0 {l : Launch} (hl : l.stackTraces = false) : cj_V1 l 101 0 (2, 1, 0, []) 1 := Or.inl ⟨by decide +kernel, ok_iload_n dm_101_0 rfl⟩
set_option maxRecDepth 100000 in
theorem vv_101_1 {l : Launch} (hl : l.stackTraces = false) : cj_V1 l 101 1 (0, 1, 0, []) 2 := Or.inl ⟨by decide +kernel, ok_iconst dm_101_1 (by decide +kernel)⟩
set_option maxRecDepth 100000 in
theorem vv_101_2 {l : Launch} (hl : l.stackTraces = false) : cj_V1 l 101 2 (39, 26, 0, []) 5 := Or.inl ⟨by decide +kernel, ok_icmp_lt dm_101_2 (by decide +kernel)⟩
set_option maxRecDepth 100000 in
theorem vv_101_5 {l : Launch} (hl : l.stackTraces = false) : cj_V1 l 101 5 (2, 2, 0, []) 6 := Or.inl ⟨by decide +kernel, ok_iload_n dm_101_5 rfl⟩
set_option maxRecDepth 100000 in
theorem vv_101_6 {l : Launch} (hl : l.stackTraces = false) : cj_V1 l 101 6 (33, 26, 0, []) 9 := Or.inl ⟨by decide +kernel, ok_if_lt dm_101_6 (by decide +kernel)⟩
set_option maxRecDepth 100000 in
theorem vv_101_9 {l : Launch} (hl : l.stackTraces = false) : cj_V1 l 101 9 (2, 2, 0, []) 10 := Or.inl ⟨by decide +kernel, ok_iload_n dm_101_9 rfl⟩
set_option maxRecDepth 100000 in
theorem vv_101_10 {l : Launch} (hl : l.stackTraces = false) : cj_V1 l 101 10 (3, 0, 0, []) 11 := Or.inl ⟨by decide +kernel, ok_aload_n dm_101_10 rfl⟩
set_option maxRecDepth 100000 in
theorem vv_101_11 {l : Launch} (hl : l.stackTraces = false) : cj_V1 l 101 11 (50, 0, 0, []) 14 := Or.inl ⟨by decide +kernel, ok_getfield (N := 11) (C := RK_0) (T := TK_0) dm_101_11 rfl inK_0 (by decide +kernel) wm_177⟩
set_option maxRecDepth 100000 in
theorem vv_101_14 {l : Launch} (hl : l.stackTraces = false) : cj_V1 l 101 14 (40, 26, 0, []) 17 := Or.inl ⟨by decide +kernel, ok_icmp_ge dm_101_14 (by decide +kernel)⟩
set_option maxRecDepth 100000 in
theorem vv_101_17 {l : Launch} (hl : l.stackTraces = false) : cj_V1 l 101 17 (2, 3, 0, []) 18 := Or.inl ⟨by decide +kernel, ok_iload_n dm_101_17 rfl⟩
set_option maxRecDepth 100000 in
theorem vv_101_18 {l : Launch} (hl : l.stackTraces = false) : cj_V1 l 101 18 (33, 26, 0, []) 21 := Or.inl ⟨by decide +kernel, ok_if_lt dm_101_18 (by decide +kernel)⟩
set_option maxRecDepth 100000 in
theorem vv_101_21 {l : Launch} (hl : l.stackTraces = false) : cj_V1 l 101 21 (2, 3, 0, []) 22 := Or.inl ⟨by decide +kernel, ok_iload_n dm_101_21 rfl⟩
set_option maxRecDepth 100000 in
theorem vv_101_22 {l : Launch} (hl : l.stackTraces = false) : cj_V1 l 101 22 (0, 1, 0, []) 23 := Or.inl ⟨by decide +kernel, ok_iconst dm_101_22 (by decide +kernel)⟩
set_option maxRecDepth 100000 in
theorem vv_101_23 {l : Launch} (hl : l.stackTraces = false) : cj_V1 l 101 23 (42, 36, 0, []) 26 := Or.inl ⟨by decide +kernel, ok_icmp_le dm_101_23 (by decide +kernel)⟩
set_option maxRecDepth 100000 in
theorem vv_101_26 {l : Launch} (hl : l.stackTraces = false) : cj_V1 l 101 26 (95, 2, 0, []) 29 := Or.inr (Or.inl ⟨by decide +kernel, Or.inr (vt_throw (y := ky_ 0) (X := "java/lang/IndexOutOfBoundsException") (tx := "no such page, line or answer") (names := ["java/lang/RuntimeException", "java/lang/Exception"]) hl rfl dm_101_26 dm_101_29 dm_101_30 dm_101_32 dm_101_35 rfl wm_537 wm_538 wm_15 wm_656 xw_0 (by decide +kernel) (by decide +kernel) (by decide +kernel) (by decide +kernel))⟩)
set_option maxRecDepth 100000 in
theorem vv_101_36 {l : Launch} (hl : l.stackTraces = false) : cj_V1 l 101 36 (3, 0, 0, []) 37 := Or.inl ⟨by decide +kernel, ok_aload_n dm_101_36 rfl⟩
set_option maxRecDepth 100000 in
theorem vv_101_37 {l : Launch} (hl : l.stackTraces = false) : cj_V1 l 101 37 (50, 0, 8, []) 40 := Or.inl ⟨by decide +kernel, ok_getfield (N := 11) (C := RK_0) (T := TK_0) dm_101_37 rfl inK_0 (by decide +kernel) wm_185⟩
set_option maxRecDepth 100000 in
theorem vv_101_40 {l : Launch} (hl : l.stackTraces = false) : cj_V1 l 101 40 (32, 53, 0, []) 43 := Or.inl ⟨by decide +kernel, ok_if_ne dm_101_40 (by decide +kernel)⟩
set_option maxRecDepth 100000 in
theorem vv_101_43 {l : Launch} (hl : l.stackTraces = false) : cj_V1 l 101 43 (95, 0, 0, []) 46 := Or.inr (Or.inl ⟨by decide +kernel, Or.inr (vt_throw (y := ky_ 0) (X := "java/lang/IllegalStateException") (tx := "nothing was set") (names := ["java/lang/RuntimeException", "java/lang/Exception"]) hl rfl dm_101_43 dm_101_46 dm_101_47 dm_101_49 dm_101_52 rfl wm_416 wm_417 wm_13 wm_627 xw_1 (by decide +kernel) (by decide +kernel) (by decide +kernel) (by decide +kernel))⟩)
set_option maxRecDepth 100000 in
theorem vv_101_53 {l : Launch} (hl : l.stackTraces = false) : cj_V1 l 101 53 (2, 1, 0, []) 54 := Or.inl ⟨by decide +kernel, ok_iload_n dm_101_53 rfl⟩
set_option maxRecDepth 100000 in
theorem vv_101_54 {l : Launch} (hl : l.stackTraces = false) : cj_V1 l 101 54 (3, 0, 0, []) 55 := Or.inl ⟨by decide +kernel, ok_aload_n dm_101_54 rfl⟩
set_option maxRecDepth 100000 in
theorem vv_101_55 {l : Launch} (hl : l.stackTraces = false) : cj_V1 l 101 55 (50, 0, 9, []) 58 := Or.inl ⟨by decide +kernel, ok_getfield (N := 11) (C := RK_0) (T := TK_0) dm_101_55 rfl inK_0 (by decide +kernel) wm_186⟩
set_option maxRecDepth 100000 in
theorem vv_101_58 {l : Launch} (hl : l.stackTraces = false) : cj_V1 l 101 58 (80, 30, 1, [5]) 61 := Or.inr (Or.inr (Or.inl ⟨by decide +kernel, by decide +kernel, rfl, vc_virtual (n := 0) (q := (RK_5, TK_5, 10)) mi_30 dm_101_58 (Or.inl wm_393) wm_394 wm_395 rfl rfl (by decide +kernel) rfl (by decide +kernel) (by decide +kernel), (vx_none rfl)⟩))
set_option maxRecDepth 100000 in
theorem vv_101_61 {l : Launch} (hl : l.stackTraces = false) : cj_V1 l 101 61 (42, 74, 0, []) 64 := Or.inl ⟨by decide +kernel, ok_icmp_le dm_101_61 (by decide +kernel)⟩
set_option maxRecDepth 100000 in
theorem vv_101_64 {l : Launch} (hl : l.stackTraces = false) : cj_V1 l 101 64 (95, 2, 0, []) 67 := Or.inr (Or.inl ⟨by decide +kernel, Or.inr (vt_throw (y := ky_ 0) (X := "java/lang/IndexOutOfBoundsException") (tx := "no such page") (names := ["java/lang/RuntimeException", "java/lang/Exception"]) hl rfl dm_101_64 dm_101_67 dm_101_68 dm_101_70 dm_101_73 rfl wm_537 wm_538 wm_15 wm_657 xw_0 (by decide +kernel) (by decide +kernel) (by decide +kernel) (by decide +kernel))⟩)
set_option maxRecDepth 100000 in
theorem vv_101_74 {l : Launch} (hl : l.stackTraces = false) : cj_V1 l 101 74 (3, 0, 0, []) 75 := Or.inl ⟨by decide +kernel, ok_aload_n dm_101_74 rfl⟩
set_option maxRecDepth 100000 in
theorem vv_101_75 {l : Launch} (hl : l.stackTraces = false) : cj_V1 l 101 75 (50, 0, 9, []) 78 := Or.inl ⟨by decide +kernel, ok_getfield (N := 11) (C := RK_0) (T := TK_0) dm_101_75 rfl inK_0 (by decide +kernel) wm_186⟩
set_option maxRecDepth 100000 in
theorem vv_101_78 {l : Launch} (hl : l.stackTraces = false) : cj_V1 l 101 78 (2, 1, 0, []) 79 := Or.inl ⟨by decide +kernel, ok_iload_n dm_101_78 rfl⟩
set_option maxRecDepth 100000 in
theorem vv_101_79 {l : Launch} (hl : l.stackTraces = false) : cj_V1 l 101 79 (2, 2, 0, []) 80 := Or.inl ⟨by decide +kernel, ok_iload_n dm_101_79 rfl⟩
set_option maxRecDepth 100000 in
theorem vv_101_80 {l : Launch} (hl : l.stackTraces = false) : cj_V1 l 101 80 (2, 3, 0, []) 81 := Or.inl ⟨by decide +kernel, ok_iload_n dm_101_80 rfl⟩
set_option maxRecDepth 100000 in
theorem vv_101_81 {l : Launch} (hl : l.stackTraces = false) : cj_V1 l 101 81 (32, 88, 0, []) 84 := Or.inl ⟨by decide +kernel, ok_if_ne dm_101_81 (by decide +kernel)⟩
set_option maxRecDepth 100000 in
theorem vv_101_84 {l : Launch} (hl : l.stackTraces = false) : cj_V1 l 101 84 (0, 1, 0, []) 85 := Or.inl ⟨by decide +kernel, ok_iconst dm_101_84 (by decide +kernel)⟩
set_option maxRecDepth 100000 in
theorem vv_101_85 {l : Launch} (hl : l.stackTraces = false) : cj_V1 l 101 85 (30, 89, 0, []) 88 := Or.inl ⟨by decide +kernel, ok_goto dm_101_85 (by decide +kernel)⟩
set_option maxRecDepth 100000 in
theorem vv_101_88 {l : Launch} (hl : l.stackTraces = false) : cj_V1 l 101 88 (0, 0, 0, []) 89 := Or.inl ⟨by decide +kernel, ok_iconst dm_101_88 (by decide +kernel)⟩
set_option maxRecDepth 100000 in
theorem vv_101_89 {l : Launch} (hl : l.stackTraces = false) : cj_V1 l 101 89 (80, 82, 4, [5]) 92 := Or.inr (Or.inr (Or.inl ⟨by decide +kernel, by decide +kernel, rfl, vc_virtual (n := 3) (q := (RK_5, TK_5, 10)) mi_82 dm_101_89 (Or.inl wm_658) wm_659 wm_660 rfl rfl (by decide +kernel) rfl (by decide +kernel) (by decide +kernel), (vx_none rfl)⟩))
set_option maxRecDepth 100000 in
theorem vv_101_92 {l : Launch} (hl : l.stackTraces = false) : cj_V1 l 101 92 (90, 0, 0, []) 93 := Or.inr (Or.inl ⟨by decide +kernel, Or.inl (Or.inl ⟨rfl, dm_101_92, rfl⟩)⟩)
set_option maxRecDepth 100000 in
theorem vm_101 {l : Launch} (hl : l.stackTraces = false) : cj_Vm l 101 := cj_Vm_of (r := kc101_) rfl ⟨vv_101_0 hl, vv_101_1 hl, vv_101_2 hl, vv_101_5 hl, vv_101_6 hl, vv_101_9 hl, vv_101_10 hl, vv_101_11 hl, vv_101_14 hl, vv_101_17 hl, vv_101_18 hl, vv_101_21 hl, vv_101_22 hl, vv_101_23 hl, vv_101_26 hl, vv_101_36 hl, vv_101_37 hl, vv_101_40 hl, vv_101_43 hl, vv_101_53 hl, vv_101_54 hl, vv_101_55 hl, vv_101_58 hl, vv_101_61 hl, vv_101_64 hl, vv_101_74 hl, vv_101_75 hl, vv_101_78 hl, vv_101_79 hl, vv_101_80 hl, vv_101_81 hl, vv_101_84 hl, vv_101_85 hl, vv_101_88 hl, vv_101_89 hl, vv_101_92 hl, trivial⟩
