theorem dm_120_15 : decode (kb_ 120) 15 = .ok (.aload_n 0, 1) := by decide +kernel
theorem dm_120_16 : decode (kb_ 120) 16 = .ok (.getfield 13, 3) := by decide +kernel
theorem dm_120_19 : decode (kb_ 120) 19 = .ok (.iload_n 2, 1) := by decide +kernel
theorem dm_120_20 : decode (kb_ 120) 20 = .ok (.iaload, 1) := by decide +kernel
theorem dm_120_21 : decode (kb_ 120) 21 = .ok (.if_icmp .ge (156), 3) := by decide +kernel
theorem dm_120_24 : decode (kb_ 120) 24 = .ok (.aload_n 0, 1) := by decide +kernel
theorem dm_120_25 : decode (kb_ 120) 25 = .ok (.getfield 16, 3) := by decide +kernel
theorem dm_120_28 : decode (kb_ 120) 28 = .ok (.bipush (32), 2) := by decide +kernel
theorem dm_120_30 : decode (kb_ 120) 30 = .ok (.iload_n 2, 1) := by decide +kernel
theorem dm_120_31 : decode (kb_ 120) 31 = .ok (.imul, 1) := by decide +kernel
theorem dm_120_32 : decode (kb_ 120) 32 = .ok (.iload_n 3, 1) := by decide +kernel
theorem dm_120_33 : decode (kb_ 120) 33 = .ok (.iadd, 1) := by decide +kernel
theorem dm_120_34 : decode (kb_ 120) 34 = .ok (.iaload, 1) := by decide +kernel
theorem dm_120_35 : decode (kb_ 120) 35 = .ok (.istore 4, 2) := by decide +kernel
theorem dm_120_37 : decode (kb_ 120) 37 = .ok (.iload_n 3, 1) := by decide +kernel
theorem dm_120_38 : decode (kb_ 120) 38 = .ok (.iconst (1), 1) := by decide +kernel
theorem dm_120_39 : decode (kb_ 120) 39 = .ok (.iadd, 1) := by decide +kernel
theorem dm_120_40 : decode (kb_ 120) 40 = .ok (.aload_n 0, 1) := by decide +kernel
theorem dm_120_41 : decode (kb_ 120) 41 = .ok (.getfield 13, 3) := by decide +kernel
theorem dm_120_44 : decode (kb_ 120) 44 = .ok (.iload_n 2, 1) := by decide +kernel
theorem dm_120_45 : decode (kb_ 120) 45 = .ok (.iaload, 1) := by decide +kernel
theorem dm_120_46 : decode (kb_ 120) 46 = .ok (.if_icmp .ge (22), 3) := by decide +kernel
theorem dm_120_49 : decode (kb_ 120) 49 = .ok (.aload_n 0, 1) := by decide +kernel
theorem dm_120_50 : decode (kb_ 120) 50 = .ok (.getfield 16, 3) := by decide +kernel
theorem dm_120_53 : decode (kb_ 120) 53 = .ok (.bipush (32), 2) := by decide +kernel
theorem dm_120_55 : decode (kb_ 120) 55 = .ok (.iload_n 2, 1) := by decide +kernel
theorem dm_120_56 : decode (kb_ 120) 56 = .ok (.imul, 1) := by decide +kernel
theorem dm_120_57 : decode (kb_ 120) 57 = .ok (.iload_n 3, 1) := by decide +kernel
theorem dm_120_58 : decode (kb_ 120) 58 = .ok (.iadd, 1) := by decide +kernel
theorem dm_120_59 : decode (kb_ 120) 59 = .ok (.iconst (1), 1) := by decide +kernel
theorem dm_120_60 : decode (kb_ 120) 60 = .ok (.iadd, 1) := by decide +kernel
theorem dm_120_61 : decode (kb_ 120) 61 = .ok (.iaload, 1) := by decide +kernel
theorem dm_120_62 : decode (kb_ 120) 62 = .ok (.bipush (48), 2) := by decide +kernel
theorem dm_120_64 : decode (kb_ 120) 64 = .ok (.isub, 1) := by decide +kernel
theorem dm_120_65 : decode (kb_ 120) 65 = .ok (.goto (4), 3) := by decide +kernel
theorem dm_120_68 : decode (kb_ 120) 68 = .ok (.iconst (0), 1) := by decide +kernel
theorem dm_120_69 : decode (kb_ 120) 69 = .ok (.istore 5, 2) := by decide +kernel
theorem dm_120_71 : decode (kb_ 120) 71 = .ok (.iload 4, 2) := by decide +kernel
theorem dm_120_73 : decode (kb_ 120) 73 = .ok (.bipush (35), 2) := by decide +kernel
theorem dm_120_75 : decode (kb_ 120) 75 = .ok (.if_icmp .ne (19), 3) := by decide +kernel
theorem dm_120_78 : decode (kb_ 120) 78 = .ok (.aload_n 0, 1) := by decide +kernel
theorem dm_120_79 : decode (kb_ 120) 79 = .ok (.iconst (4), 1) := by decide +kernel
theorem dm_120_80 : decode (kb_ 120) 80 = .ok (.iload_n 1, 1) := by decide +kernel
theorem dm_120_81 : decode (kb_ 120) 81 = .ok (.imul, 1) := by decide +kernel
theorem dm_120_82 : decode (kb_ 120) 82 = .ok (.iload 5, 2) := by decide +kernel
theorem dm_120_84 : decode (kb_ 120) 84 = .ok (.iadd, 1) := by decide +kernel
theorem dm_120_85 : decode (kb_ 120) 85 = .ok (.invokevirtual 158, 3) := by decide +kernel
theorem dm_120_88 : decode (kb_ 120) 88 = .ok (.iinc 3 (1), 3) := by decide +kernel
theorem dm_120_91 : decode (kb_ 120) 91 = .ok (.goto (80), 3) := by decide +kernel
theorem dm_120_94 : decode (kb_ 120) 94 = .ok (.iload 4, 2) := by decide +kernel
theorem dm_120_96 : decode (kb_ 120) 96 = .ok (.bipush (64), 2) := by decide +kernel
theorem dm_120_98 : decode (kb_ 120) 98 = .ok (.if_icmp .ne (20), 3) := by decide +kernel
theorem dm_120_101 : decode (kb_ 120) 101 = .ok (.aload_n 0, 1) := by decide +kernel
theorem dm_120_102 : decode (kb_ 120) 102 = .ok (.aload_n 0, 1) := by decide +kernel
theorem dm_120_103 : decode (kb_ 120) 103 = .ok (.getfield 65, 3) := by decide +kernel
theorem dm_120_106 : decode (kb_ 120) 106 = .ok (.iload 5, 2) := by decide +kernel
theorem dm_120_108 : decode (kb_ 120) 108 = .ok (.iaload, 1) := by decide +kernel
theorem dm_120_109 : decode (kb_ 120) 109 = .ok (.invokevirtual 161, 3) := by decide +kernel
theorem dm_120_112 : decode (kb_ 120) 112 = .ok (.iinc 3 (1), 3) := by decide +kernel
theorem dm_120_115 : decode (kb_ 120) 115 = .ok (.goto (56), 3) := by decide +kernel
theorem dm_120_118 : decode (kb_ 120) 118 = .ok (.iload 4, 2) := by decide +kernel
theorem dm_120_120 : decode (kb_ 120) 120 = .ok (.bipush (91), 2) := by decide +kernel
theorem dm_120_122 : decode (kb_ 120) 122 = .ok (.if_icmp .ne (29), 3) := by decide +kernel
theorem dm_120_125 : decode (kb_ 120) 125 = .ok (.aload_n 0, 1) := by decide +kernel
theorem dm_120_126 : decode (kb_ 120) 126 = .ok (.iload_n 1, 1) := by decide +kernel
theorem dm_120_127 : decode (kb_ 120) 127 = .ok (.iload_n 2, 1) := by decide +kernel
theorem dm_120_128 : decode (kb_ 120) 128 = .ok (.iload_n 3, 1) := by decide +kernel
theorem dm_120_129 : decode (kb_ 120) 129 = .ok (.aload_n 0, 1) := by decide +kernel
theorem dm_120_130 : decode (kb_ 120) 130 = .ok (.iload_n 2, 1) := by decide +kernel
theorem dm_120_131 : decode (kb_ 120) 131 = .ok (.iload_n 3, 1) := by decide +kernel
theorem dm_120_132 : decode (kb_ 120) 132 = .ok (.invokevirtual 164, 3) := by decide +kernel
theorem dm_120_135 : decode (kb_ 120) 135 = .ok (.invokevirtual 168, 3) := by decide +kernel
theorem dm_120_138 : decode (kb_ 120) 138 = .ok (.ifCond .eq (13), 3) := by decide +kernel
theorem dm_120_141 : decode (kb_ 120) 141 = .ok (.aload_n 0, 1) := by decide +kernel
theorem dm_120_142 : decode (kb_ 120) 142 = .ok (.iload_n 2, 1) := by decide +kernel
theorem dm_120_143 : decode (kb_ 120) 143 = .ok (.iload_n 3, 1) := by decide +kernel
theorem dm_120_144 : decode (kb_ 120) 144 = .ok (.invokevirtual 164, 3) := by decide +kernel
theorem dm_120_147 : decode (kb_ 120) 147 = .ok (.istore_n 3, 1) := by decide +kernel
theorem dm_120_148 : decode (kb_ 120) 148 = .ok (.goto (23), 3) := by decide +kernel
theorem dm_120_151 : decode (kb_ 120) 151 = .ok (.iload 4, 2) := by decide +kernel
theorem dm_120_153 : decode (kb_ 120) 153 = .ok (.bipush (91), 2) := by decide +kernel
theorem dm_120_155 : decode (kb_ 120) 155 = .ok (.if_icmp .eq (16), 3) := by decide +kernel
theorem dm_120_158 : decode (kb_ 120) 158 = .ok (.iload 4, 2) := by decide +kernel
theorem dm_120_160 : decode (kb_ 120) 160 = .ok (.bipush (93), 2) := by decide +kernel
theorem dm_120_162 : decode (kb_ 120) 162 = .ok (.if_icmp .eq (9), 3) := by decide +kernel
theorem dm_120_165 : decode (kb_ 120) 165 = .ok (.aload_n 0, 1) := by decide +kernel
theorem dm_120_166 : decode (kb_ 120) 166 = .ok (.iload 4, 2) := by decide +kernel
theorem dm_120_168 : decode (kb_ 120) 168 = .ok (.invokevirtual 155, 3) := by decide +kernel
theorem dm_120_171 : decode (kb_ 120) 171 = .ok (.iinc 3 (1), 3) := by decide +kernel
theorem dm_120_174 : decode (kb_ 120) 174 = .ok (.goto (-160), 3) := by decide +kernel
theorem dm_120_177 : decode (kb_ 120) 177 = .ok (.return_, 1) := by decide +kernel
theorem dm_121_0 : decode (kb_ 121) 0 = .ok (.aload_n 0, 1) := by decide +kernel
theorem dm_121_1 : decode (kb_ 121) 1 = .ok (.iload_n 1, 1) := by decide +kernel
theorem dm_121_2 : decode (kb_ 121) 2 = .ok (.invokevirtual 207, 3) := by decide +kernel
theorem dm_121_5 : decode (kb_ 121) 5 = .ok (.istore 4, 2) := by decide +kernel
theorem dm_121_7 : decode (kb_ 121) 7 = .ok (.aload_n 0, 1) := by decide +kernel
theorem dm_121_8 : decode (kb_ 121) 8 = .ok (.getfield 52, 3) := by decide +kernel
theorem dm_121_11 : decode (kb_ 121) 11 = .ok (.iconst (-1), 1) := by decide +kernel
theorem dm_121_12 : decode (kb_ 121) 12 = .ok (.if_icmp .eq (8), 3) := by decide +kernel
theorem dm_121_15 : decode (kb_ 121) 15 = .ok (.iload 4, 2) := by decide +kernel
theorem dm_121_17 : decode (kb_ 121) 17 = .ok (.ifCond .ne (7), 3) := by decide +kernel
theorem dm_121_20 : decode (kb_ 121) 20 = .ok (.iconst (0), 1) := by decide +kernel
theorem dm_121_21 : decode (kb_ 121) 21 = .ok (.goto (12), 3) := by decide +kernel
theorem dm_121_24 : decode (kb_ 121) 24 = .ok (.bipush (8), 2) := by decide +kernel
theorem dm_121_26 : decode (kb_ 121) 26 = .ok (.aload_n 0, 1) := by decide +kernel
theorem dm_121_27 : decode (kb_ 121) 27 = .ok (.getfield 52, 3) := by decide +kernel
theorem dm_121_30 : decode (kb_ 121) 30 = .ok (.imul, 1) := by decide +kernel
theorem dm_121_31 : decode (kb_ 121) 31 = .ok (.iload_n 1, 1) := by decide +kernel
theorem dm_121_32 : decode (kb_ 121) 32 = .ok (.iadd, 1) := by decide +kernel
theorem dm_121_33 : decode (kb_ 121) 33 = .ok (.istore 5, 2) := by decide +kernel
theorem dm_121_35 : decode (kb_ 121) 35 = .ok (.iload_n 2, 1) := by decide +kernel
theorem dm_121_36 : decode (kb_ 121) 36 = .ok (.iconst (-1), 1) := by decide +kernel
theorem dm_121_37 : decode (kb_ 121) 37 = .ok (.if_icmp .ne (12), 3) := by decide +kernel
theorem dm_121_40 : decode (kb_ 121) 40 = .ok (.iload_n 3, 1) := by decide +kernel
theorem dm_121_41 : decode (kb_ 121) 41 = .ok (.iconst (-1), 1) := by decide +kernel
theorem dm_121_42 : decode (kb_ 121) 42 = .ok (.if_icmp .ne (7), 3) := by decide +kernel
theorem dm_121_45 : decode (kb_ 121) 45 = .ok (.iconst (1), 1) := by decide +kernel
theorem dm_121_46 : decode (kb_ 121) 46 = .ok (.goto (4), 3) := by decide +kernel
theorem dm_121_49 : decode (kb_ 121) 49 = .ok (.iconst (0), 1) := by decide +kernel
theorem dm_121_50 : decode (kb_ 121) 50 = .ok (.istore 6, 2) := by decide +kernel
theorem dm_121_52 : decode (kb_ 121) 52 = .ok (.iload_n 2, 1) := by decide +kernel
theorem dm_121_53 : decode (kb_ 121) 53 = .ok (.aload_n 0, 1) := by decide +kernel
theorem dm_121_54 : decode (kb_ 121) 54 = .ok (.getfield 68, 3) := by decide +kernel
theorem dm_121_57 : decode (kb_ 121) 57 = .ok (.iload 5, 2) := by decide +kernel
theorem dm_121_59 : decode (kb_ 121) 59 = .ok (.iaload, 1) := by decide +kernel
theorem dm_121_60 : decode (kb_ 121) 60 = .ok (.invokestatic 113, 3) := by decide +kernel
theorem dm_121_63 : decode (kb_ 121) 63 = .ok (.ifCond .eq (46), 3) := by decide +kernel
theorem dm_121_66 : decode (kb_ 121) 66 = .ok (.iload_n 3, 1) := by decide +kernel
theorem dm_121_67 : decode (kb_ 121) 67 = .ok (.iconst (-1), 1) := by decide +kernel
theorem dm_121_68 : decode (kb_ 121) 68 = .ok (.if_icmp .lt (41), 3) := by decide +kernel
theorem dm_121_71 : decode (kb_ 121) 71 = .ok (.iload_n 3, 1) := by decide +kernel
theorem dm_121_72 : decode (kb_ 121) 72 = .ok (.aload_n 0, 1) := by decide +kernel
theorem dm_121_73 : decode (kb_ 121) 73 = .ok (.getfield 74, 3) := by decide +kernel
theorem dm_121_76 : decode (kb_ 121) 76 = .ok (.bipush (112), 2) := by decide +kernel
theorem dm_121_78 : decode (kb_ 121) 78 = .ok (.iload 5, 2) := by decide +kernel
theorem dm_121_80 : decode (kb_ 121) 80 = .ok (.imul, 1) := by decide +kernel
theorem dm_121_81 : decode (kb_ 121) 81 = .ok (.iload_n 2, 1) := by decide +kernel
theorem dm_121_82 : decode (kb_ 121) 82 = .ok (.aload_n 0, 1) := by decide +kernel
theorem dm_121_83 : decode (kb_ 121) 83 = .ok (.getfield 68, 3) := by decide +kernel
theorem dm_121_86 : decode (kb_ 121) 86 = .ok (.iload 5, 2) := by decide +kernel
theorem dm_121_88 : decode (kb_ 121) 88 = .ok (.iaload, 1) := by decide +kernel
theorem dm_121_89 : decode (kb_ 121) 89 = .ok (.invokestatic 113, 3) := by decide +kernel
theorem dm_121_92 : decode (kb_ 121) 92 = .ok (.ifCond .eq (7), 3) := by decide +kernel
theorem dm_121_95 : decode (kb_ 121) 95 = .ok (.iload_n 2, 1) := by decide +kernel
theorem dm_121_96 : decode (kb_ 121) 96 = .ok (.goto (4), 3) := by decide +kernel
theorem dm_121_99 : decode (kb_ 121) 99 = .ok (.iconst (0), 1) := by decide +kernel
theorem dm_121_100 : decode (kb_ 121) 100 = .ok (.iadd, 1) := by decide +kernel
theorem dm_121_101 : decode (kb_ 121) 101 = .ok (.iaload, 1) := by decide +kernel
theorem dm_121_102 : decode (kb_ 121) 102 = .ok (.if_icmp .ge (7), 3) := by decide +kernel
theorem dm_121_105 : decode (kb_ 121) 105 = .ok (.iconst (1), 1) := by decide +kernel
theorem dm_121_106 : decode (kb_ 121) 106 = .ok (.goto (4), 3) := by decide +kernel
theorem dm_121_109 : decode (kb_ 121) 109 = .ok (.iconst (0), 1) := by decide +kernel
theorem dm_121_110 : decode (kb_ 121) 110 = .ok (.istore 7, 2) := by decide +kernel
theorem dm_121_112 : decode (kb_ 121) 112 = .ok (.aload_n 0, 1) := by decide +kernel
theorem dm_121_113 : decode (kb_ 121) 113 = .ok (.iload 4, 2) := by decide +kernel
theorem dm_121_115 : decode (kb_ 121) 115 = .ok (.ifCond .eq (25), 3) := by decide +kernel
theorem dm_121_118 : decode (kb_ 121) 118 = .ok (.aload_n 0, 1) := by decide +kernel
theorem dm_121_119 : decode (kb_ 121) 119 = .ok (.getfield 52, 3) := by decide +kernel
theorem dm_121_122 : decode (kb_ 121) 122 = .ok (.iconst (-1), 1) := by decide +kernel
theorem dm_121_123 : decode (kb_ 121) 123 = .ok (.if_icmp .eq (13), 3) := by decide +kernel
theorem dm_121_126 : decode (kb_ 121) 126 = .ok (.iload 6, 2) := by decide +kernel
theorem dm_121_128 : decode (kb_ 121) 128 = .ok (.ifCond .ne (8), 3) := by decide +kernel
theorem dm_121_131 : decode (kb_ 121) 131 = .ok (.iload 7, 2) := by decide +kernel
theorem dm_121_133 : decode (kb_ 121) 133 = .ok (.ifCond .eq (7), 3) := by decide +kernel
theorem dm_121_136 : decode (kb_ 121) 136 = .ok (.iconst (1), 1) := by decide +kernel
theorem dm_121_137 : decode (kb_ 121) 137 = .ok (.goto (4), 3) := by decide +kernel
theorem dm_121_140 : decode (kb_ 121) 140 = .ok (.iconst (0), 1) := by decide +kernel
theorem dm_121_141 : decode (kb_ 121) 141 = .ok (.aload_n 0, 1) := by decide +kernel
theorem dm_121_142 : decode (kb_ 121) 142 = .ok (.getfield 52, 3) := by decide +kernel
theorem dm_121_145 : decode (kb_ 121) 145 = .ok (.iconst (-1), 1) := by decide +kernel
theorem dm_121_146 : decode (kb_ 121) 146 = .ok (.if_icmp .eq (7), 3) := by decide +kernel
theorem dm_121_149 : decode (kb_ 121) 149 = .ok (.iconst (1), 1) := by decide +kernel
theorem dm_121_150 : decode (kb_ 121) 150 = .ok (.goto (4), 3) := by decide +kernel
theorem dm_121_153 : decode (kb_ 121) 153 = .ok (.iconst (0), 1) := by decide +kernel
theorem dm_121_154 : decode (kb_ 121) 154 = .ok (.invokevirtual 128, 3) := by decide +kernel
theorem dm_121_157 : decode (kb_ 121) 157 = .ok (.ifCond .ne (5), 3) := by decide +kernel
theorem dm_121_160 : decode (kb_ 121) 160 = .ok (.iconst (0), 1) := by decide +kernel
theorem dm_121_161 : decode (kb_ 121) 161 = .ok (.ireturn, 1) := by decide +kernel
theorem dm_121_162 : decode (kb_ 121) 162 = .ok (.bipush (112), 2) := by decide +kernel
theorem dm_121_164 : decode (kb_ 121) 164 = .ok (.iload 5, 2) := by decide +kernel
theorem dm_121_166 : decode (kb_ 121) 166 = .ok (.imul, 1) := by decide +kernel
theorem dm_121_167 : decode (kb_ 121) 167 = .ok (.iload 6, 2) := by decide +kernel
theorem dm_121_169 : decode (kb_ 121) 169 = .ok (.ifCond .eq (7), 3) := by decide +kernel
theorem dm_121_172 : decode (kb_ 121) 172 = .ok (.iconst (0), 1) := by decide +kernel
theorem dm_121_173 : decode (kb_ 121) 173 = .ok (.goto (4), 3) := by decide +kernel
theorem dm_121_176 : decode (kb_ 121) 176 = .ok (.iload_n 2, 1) := by decide +kernel
theorem dm_121_177 : decode (kb_ 121) 177 = .ok (.iadd, 1) := by decide +kernel
theorem dm_121_178 : decode (kb_ 121) 178 = .ok (.istore 8, 2) := by decide +kernel
theorem dm_121_180 : decode (kb_ 121) 180 = .ok (.iload 6, 2) := by decide +kernel
theorem dm_121_182 : decode (kb_ 121) 182 = .ok (.ifCond .eq (13), 3) := by decide +kernel
theorem dm_121_185 : decode (kb_ 121) 185 = .ok (.aload_n 0, 1) := by decide +kernel
theorem dm_121_186 : decode (kb_ 121) 186 = .ok (.getfield 68, 3) := by decide +kernel
theorem dm_121_189 : decode (kb_ 121) 189 = .ok (.iload 5, 2) := by decide +kernel
theorem dm_121_191 : decode (kb_ 121) 191 = .ok (.iaload, 1) := by decide +kernel
theorem dm_121_192 : decode (kb_ 121) 192 = .ok (.goto (39), 3) := by decide +kernel
theorem dm_121_195 : decode (kb_ 121) 195 = .ok (.iload_n 3, 1) := by decide +kernel
theorem dm_121_196 : decode (kb_ 121) 196 = .ok (.iconst (-1), 1) := by decide +kernel
theorem dm_121_197 : decode (kb_ 121) 197 = .ok (.if_icmp .ne (13), 3) := by decide +kernel
theorem dm_121_200 : decode (kb_ 121) 200 = .ok (.aload_n 0, 1) := by decide +kernel
theorem dm_121_201 : decode (kb_ 121) 201 = .ok (.getfield 74, 3) := by decide +kernel
theorem dm_121_204 : decode (kb_ 121) 204 = .ok (.iload 8, 2) := by decide +kernel
theorem dm_121_206 : decode (kb_ 121) 206 = .ok (.iaload, 1) := by decide +kernel
theorem dm_121_207 : decode (kb_ 121) 207 = .ok (.goto (24), 3) := by decide +kernel
theorem dm_121_210 : decode (kb_ 121) 210 = .ok (.aload_n 0, 1) := by decide +kernel
theorem dm_121_211 : decode (kb_ 121) 211 = .ok (.getfield 77, 3) := by decide +kernel
theorem dm_121_214 : decode (kb_ 121) 214 = .ok (.sipush (240), 3) := by decide +kernel
theorem dm_121_217 : decode (kb_ 121) 217 = .ok (.iload 5, 2) := by decide +kernel
theorem dm_121_219 : decode (kb_ 121) 219 = .ok (.imul, 1) := by decide +kernel
theorem dm_121_220 : decode (kb_ 121) 220 = .ok (.aload_n 0, 1) := by decide +kernel
theorem dm_121_221 : decode (kb_ 121) 221 = .ok (.getfield 71, 3) := by decide +kernel
theorem dm_121_224 : decode (kb_ 121) 224 = .ok (.iload 8, 2) := by decide +kernel
theorem dm_121_226 : decode (kb_ 121) 226 = .ok (.iaload, 1) := by decide +kernel
theorem dm_121_227 : decode (kb_ 121) 227 = .ok (.iadd, 1) := by decide +kernel
theorem dm_121_228 : decode (kb_ 121) 228 = .ok (.iload_n 3, 1) := by decide +kernel
theorem dm_121_229 : decode (kb_ 121) 229 = .ok (.iadd, 1) := by decide +kernel
theorem dm_121_230 : decode (kb_ 121) 230 = .ok (.iaload, 1) := by decide +kernel
theorem dm_121_231 : decode (kb_ 121) 231 = .ok (.ireturn, 1) := by decide +kernel
theorem dm_122_0 : decode (kb_ 122) 0 = .ok (.aload_n 0, 1) := by decide +kernel
theorem dm_122_1 : decode (kb_ 122) 1 = .ok (.aload_n 0, 1) := by decide +kernel
theorem dm_122_2 : decode (kb_ 122) 2 = .ok (.getfield 139, 3) := by decide +kernel
theorem dm_122_5 : decode (kb_ 122) 5 = .ok (.bipush (6), 2) := by decide +kernel
theorem dm_122_7 : decode (kb_ 122) 7 = .ok (.if_icmp .ge (7), 3) := by decide +kernel
theorem dm_122_10 : decode (kb_ 122) 10 = .ok (.iconst (1), 1) := by decide +kernel
theorem dm_122_11 : decode (kb_ 122) 11 = .ok (.goto (4), 3) := by decide +kernel
theorem dm_122_14 : decode (kb_ 122) 14 = .ok (.iconst (0), 1) := by decide +kernel
theorem dm_122_15 : decode (kb_ 122) 15 = .ok (.iconst (1), 1) := by decide +kernel
theorem dm_122_16 : decode (kb_ 122) 16 = .ok (.invokevirtual 128, 3) := by decide +kernel
theorem dm_122_19 : decode (kb_ 122) 19 = .ok (.ifCond .ne (5), 3) := by decide +kernel
theorem dm_122_22 : decode (kb_ 122) 22 = .ok (.iconst (0), 1) := by decide +kernel
theorem dm_122_23 : decode (kb_ 122) 23 = .ok (.ireturn, 1) := by decide +kernel
theorem dm_122_24 : decode (kb_ 122) 24 = .ok (.aload_n 0, 1) := by decide +kernel
theorem dm_122_25 : decode (kb_ 122) 25 = .ok (.invokevirtual 142, 3) := by decide +kernel
theorem dm_122_28 : decode (kb_ 122) 28 = .ok (.istore_n 1, 1) := by decide +kernel
theorem dm_122_29 : decode (kb_ 122) 29 = .ok (.iconst (0), 1) := by decide +kernel
theorem dm_122_30 : decode (kb_ 122) 30 = .ok (.istore_n 2, 1) := by decide +kernel
theorem dm_122_31 : decode (kb_ 122) 31 = .ok (.iload_n 2, 1) := by decide +kernel
theorem dm_122_32 : decode (kb_ 122) 32 = .ok (.aload_n 0, 1) := by decide +kernel
theorem dm_122_33 : decode (kb_ 122) 33 = .ok (.getfield 117, 3) := by decide +kernel
theorem dm_122_36 : decode (kb_ 122) 36 = .ok (.if_icmp .ge (34), 3) := by decide +kernel
theorem dm_122_39 : decode (kb_ 122) 39 = .ok (.iload_n 1, 1) := by decide +kernel
theorem dm_122_40 : decode (kb_ 122) 40 = .ok (.iconst (-1), 1) := by decide +kernel
theorem dm_122_41 : decode (kb_ 122) 41 = .ok (.if_icmp .ne (29), 3) := by decide +kernel
theorem dm_122_44 : decode (kb_ 122) 44 = .ok (.aload_n 0, 1) := by decide +kernel
theorem dm_122_45 : decode (kb_ 122) 45 = .ok (.getfield 16, 3) := by decide +kernel
theorem dm_122_48 : decode (kb_ 122) 48 = .ok (.bipush (32), 2) := by decide +kernel
theorem dm_122_50 : decode (kb_ 122) 50 = .ok (.aload_n 0, 1) := by decide +kernel
theorem dm_122_51 : decode (kb_ 122) 51 = .ok (.getfield 139, 3) := by decide +kernel
theorem dm_122_54 : decode (kb_ 122) 54 = .ok (.imul, 1) := by decide +kernel
theorem dm_122_55 : decode (kb_ 122) 55 = .ok (.iload_n 2, 1) := by decide +kernel
theorem dm_122_56 : decode (kb_ 122) 56 = .ok (.iadd, 1) := by decide +kernel
theorem dm_122_57 : decode (kb_ 122) 57 = .ok (.aload_n 0, 1) := by decide +kernel
theorem dm_122_58 : decode (kb_ 122) 58 = .ok (.getfield 7, 3) := by decide +kernel
theorem dm_122_61 : decode (kb_ 122) 61 = .ok (.iload_n 2, 1) := by decide +kernel
theorem dm_122_62 : decode (kb_ 122) 62 = .ok (.iaload, 1) := by decide +kernel
theorem dm_122_63 : decode (kb_ 122) 63 = .ok (.iastore, 1) := by decide +kernel
theorem dm_122_64 : decode (kb_ 122) 64 = .ok (.iinc 2 (1), 3) := by decide +kernel
theorem dm_122_67 : decode (kb_ 122) 67 = .ok (.goto (-36), 3) := by decide +kernel
theorem dm_122_70 : decode (kb_ 122) 70 = .ok (.aload_n 0, 1) := by decide +kernel
theorem dm_122_71 : decode (kb_ 122) 71 = .ok (.getfield 13, 3) := by decide +kernel
theorem dm_122_74 : decode (kb_ 122) 74 = .ok (.aload_n 0, 1) := by decide +kernel
theorem dm_122_75 : decode (kb_ 122) 75 = .ok (.getfield 139, 3) := by decide +kernel
theorem dm_122_78 : decode (kb_ 122) 78 = .ok (.aload_n 0, 1) := by decide +kernel
theorem dm_122_79 : decode (kb_ 122) 79 = .ok (.getfield 117, 3) := by decide +kernel
theorem dm_122_82 : decode (kb_ 122) 82 = .ok (.iastore, 1) := by decide +kernel
theorem dm_122_83 : decode (kb_ 122) 83 = .ok (.aload_n 0, 1) := by decide +kernel
theorem dm_122_84 : decode (kb_ 122) 84 = .ok (.iload_n 1, 1) := by decide +kernel
theorem dm_122_85 : decode (kb_ 122) 85 = .ok (.iconst (-1), 1) := by decide +kernel
theorem dm_122_86 : decode (kb_ 122) 86 = .ok (.if_icmp .ne (12), 3) := by decide +kernel
theorem dm_122_89 : decode (kb_ 122) 89 = .ok (.aload_n 0, 1) := by decide +kernel
theorem dm_122_90 : decode (kb_ 122) 90 = .ok (.getfield 139, 3) := by decide +kernel
theorem dm_122_93 : decode (kb_ 122) 93 = .ok (.iconst (1), 1) := by decide +kernel
theorem dm_122_94 : decode (kb_ 122) 94 = .ok (.iadd, 1) := by decide +kernel
theorem dm_122_95 : decode (kb_ 122) 95 = .ok (.goto (7), 3) := by decide +kernel
theorem dm_122_98 : decode (kb_ 122) 98 = .ok (.aload_n 0, 1) := by decide +kernel
theorem dm_122_99 : decode (kb_ 122) 99 = .ok (.getfield 139, 3) := by decide +kernel
theorem dm_122_102 : decode (kb_ 122) 102 = .ok (.putfield 139, 3) := by decide +kernel
theorem dm_122_105 : decode (kb_ 122) 105 = .ok (.aload_n 0, 1) := by decide +kernel
theorem dm_122_106 : decode (kb_ 122) 106 = .ok (.iconst (0), 1) := by decide +kernel
theorem dm_122_107 : decode (kb_ 122) 107 = .ok (.putfield 117, 3) := by decide +kernel
theorem dm_122_110 : decode (kb_ 122) 110 = .ok (.iload_n 1, 1) := by decide +kernel
theorem dm_122_111 : decode (kb_ 122) 111 = .ok (.iconst (-1), 1) := by decide +kernel
theorem dm_122_112 : decode (kb_ 122) 112 = .ok (.if_icmp .ne (12), 3) := by decide +kernel
theorem dm_122_115 : decode (kb_ 122) 115 = .ok (.aload_n 0, 1) := by decide +kernel
theorem dm_122_116 : decode (kb_ 122) 116 = .ok (.getfield 139, 3) := by decide +kernel
theorem dm_122_119 : decode (kb_ 122) 119 = .ok (.iconst (1), 1) := by decide +kernel
theorem dm_122_120 : decode (kb_ 122) 120 = .ok (.isub, 1) := by decide +kernel
theorem dm_122_121 : decode (kb_ 122) 121 = .ok (.goto (6), 3) := by decide +kernel
theorem dm_122_124 : decode (kb_ 122) 124 = .ok (.iconst (-1), 1) := by decide +kernel
theorem dm_122_125 : decode (kb_ 122) 125 = .ok (.iload_n 1, 1) := by decide +kernel
theorem dm_122_126 : decode (kb_ 122) 126 = .ok (.isub, 1) := by decide +kernel
theorem dm_122_127 : decode (kb_ 122) 127 = .ok (.ireturn, 1) := by decide +kernel
theorem dm_123_0 : decode (kb_ 123) 0 = .ok (.aload_n 0, 1) := by decide +kernel
theorem dm_123_1 : decode (kb_ 123) 1 = .ok (.getfield 80, 3) := by decide +kernel
theorem dm_123_4 : decode (kb_ 123) 4 = .ok (.iload_n 1, 1) := by decide +kernel
theorem dm_123_5 : decode (kb_ 123) 5 = .ok (.iaload, 1) := by decide +kernel
theorem dm_123_6 : decode (kb_ 123) 6 = .ok (.iconst (1), 1) := by decide +kernel
theorem dm_123_7 : decode (kb_ 123) 7 = .ok (.isub, 1) := by decide +kernel
theorem dm_123_8 : decode (kb_ 123) 8 = .ok (.istore_n 2, 1) := by decide +kernel
theorem dm_123_9 : decode (kb_ 123) 9 = .ok (.iload_n 2, 1) := by decide +kernel
theorem dm_123_10 : decode (kb_ 123) 10 = .ok (.ifCond .lt (15), 3) := by decide +kernel
theorem dm_123_13 : decode (kb_ 123) 13 = .ok (.aload_n 0, 1) := by decide +kernel
theorem dm_123_14 : decode (kb_ 123) 14 = .ok (.iload_n 1, 1) := by decide +kernel
theorem dm_123_15 : decode (kb_ 123) 15 = .ok (.iload_n 2, 1) := by decide +kernel
theorem dm_123_16 : decode (kb_ 123) 16 = .ok (.invokevirtual 185, 3) := by decide +kernel
theorem dm_123_19 : decode (kb_ 123) 19 = .ok (.iinc 2 (-1), 3) := by decide +kernel
theorem dm_123_22 : decode (kb_ 123) 22 = .ok (.goto (-13), 3) := by decide +kernel
theorem dm_123_25 : decode (kb_ 123) 25 = .ok (.iconst (0), 1) := by decide +kernel
theorem dm_123_26 : decode (kb_ 123) 26 = .ok (.istore_n 2, 1) := by decide +kernel
theorem dm_123_27 : decode (kb_ 123) 27 = .ok (.iload_n 2, 1) := by decide +kernel
theorem dm_123_28 : decode (kb_ 123) 28 = .ok (.bipush (8), 2) := by decide +kernel
theorem dm_123_30 : decode (kb_ 123) 30 = .ok (.if_icmp .ge (21), 3) := by decide +kernel
theorem dm_123_33 : decode (kb_ 123) 33 = .ok (.aload_n 0, 1) := by decide +kernel
theorem dm_123_34 : decode (kb_ 123) 34 = .ok (.getfield 62, 3) := by decide +kernel
theorem dm_123_37 : decode (kb_ 123) 37 = .ok (.bipush (8), 2) := by decide +kernel
theorem dm_123_39 : decode (kb_ 123) 39 = .ok (.iload_n 1, 1) := by decide +kernel
theorem dm_123_40 : decode (kb_ 123) 40 = .ok (.imul, 1) := by decide +kernel
theorem dm_123_41 : decode (kb_ 123) 41 = .ok (.iload_n 2, 1) := by decide +kernel
theorem dm_123_42 : decode (kb_ 123) 42 = .ok (.iadd, 1) := by decide +kernel
theorem dm_123_43 : decode (kb_ 123) 43 = .ok (.iconst (-1), 1) := by decide +kernel
theorem dm_123_44 : decode (kb_ 123) 44 = .ok (.iastore, 1) := by decide +kernel
theorem dm_123_45 : decode (kb_ 123) 45 = .ok (.iinc 2 (1), 3) := by decide +kernel
theorem dm_123_48 : decode (kb_ 123) 48 = .ok (.goto (-21), 3) := by decide +kernel
theorem dm_123_51 : decode (kb_ 123) 51 = .ok (.iconst (0), 1) := by decide +kernel
theorem dm_123_52 : decode (kb_ 123) 52 = .ok (.istore_n 2, 1) := by decide +kernel
theorem dm_123_53 : decode (kb_ 123) 53 = .ok (.iconst (0), 1) := by decide +kernel
theorem dm_123_54 : decode (kb_ 123) 54 = .ok (.istore_n 3, 1) := by decide +kernel
theorem dm_123_55 : decode (kb_ 123) 55 = .ok (.iload_n 3, 1) := by decide +kernel
theorem dm_123_56 : decode (kb_ 123) 56 = .ok (.aload_n 0, 1) := by decide +kernel
theorem dm_123_57 : decode (kb_ 123) 57 = .ok (.getfield 80, 3) := by decide +kernel
theorem dm_123_60 : decode (kb_ 123) 60 = .ok (.iload_n 1, 1) := by decide +kernel
theorem dm_123_61 : decode (kb_ 123) 61 = .ok (.iaload, 1) := by decide +kernel
theorem dm_123_62 : decode (kb_ 123) 62 = .ok (.if_icmp .ge (126), 3) := by decide +kernel
theorem dm_123_65 : decode (kb_ 123) 65 = .ok (.iinc 2 (1), 3) := by decide +kernel
theorem dm_123_68 : decode (kb_ 123) 68 = .ok (.iconst (0), 1) := by decide +kernel
theorem dm_123_69 : decode (kb_ 123) 69 = .ok (.istore 4, 2) := by decide +kernel
theorem dm_123_71 : decode (kb_ 123) 71 = .ok (.sipush (900), 3) := by decide +kernel
theorem dm_123_74 : decode (kb_ 123) 74 = .ok (.iload_n 1, 1) := by decide +kernel
theorem dm_123_75 : decode (kb_ 123) 75 = .ok (.imul, 1) := by decide +kernel
theorem dm_123_76 : decode (kb_ 123) 76 = .ok (.iload_n 3, 1) := by decide +kernel
theorem dm_123_77 : decode (kb_ 123) 77 = .ok (.iadd, 1) := by decide +kernel
theorem dm_123_78 : decode (kb_ 123) 78 = .ok (.istore 5, 2) := by decide +kernel
theorem dm_123_80 : decode (kb_ 123) 80 = .ok (.iload 5, 2) := by decide +kernel
theorem dm_123_82 : decode (kb_ 123) 82 = .ok (.sipush (900), 3) := by decide +kernel
theorem dm_123_85 : decode (kb_ 123) 85 = .ok (.iload_n 1, 1) := by decide +kernel
theorem dm_123_86 : decode (kb_ 123) 86 = .ok (.imul, 1) := by decide +kernel
theorem dm_123_87 : decode (kb_ 123) 87 = .ok (.iload_n 3, 1) := by decide +kernel
theorem dm_123_88 : decode (kb_ 123) 88 = .ok (.iadd, 1) := by decide +kernel
theorem dm_123_89 : decode (kb_ 123) 89 = .ok (.aload_n 0, 1) := by decide +kernel
theorem dm_123_90 : decode (kb_ 123) 90 = .ok (.getfield 49, 3) := by decide +kernel
theorem dm_123_93 : decode (kb_ 123) 93 = .ok (.iload_n 3, 1) := by decide +kernel
theorem dm_123_94 : decode (kb_ 123) 94 = .ok (.iaload, 1) := by decide +kernel
theorem dm_123_95 : decode (kb_ 123) 95 = .ok (.iadd, 1) := by decide +kernel
theorem dm_123_96 : decode (kb_ 123) 96 = .ok (.if_icmp .ge (80), 3) := by decide +kernel
theorem dm_123_99 : decode (kb_ 123) 99 = .ok (.aload_n 0, 1) := by decide +kernel
theorem dm_123_100 : decode (kb_ 123) 100 = .ok (.getfield 95, 3) := by decide +kernel
theorem dm_123_103 : decode (kb_ 123) 103 = .ok (.iload 5, 2) := by decide +kernel
theorem dm_123_105 : decode (kb_ 123) 105 = .ok (.iload_n 2, 1) := by decide +kernel
theorem dm_123_106 : decode (kb_ 123) 106 = .ok (.iastore, 1) := by decide +kernel
theorem dm_123_107 : decode (kb_ 123) 107 = .ok (.aload_n 0, 1) := by decide +kernel
theorem dm_123_108 : decode (kb_ 123) 108 = .ok (.getfield 98, 3) := by decide +kernel
theorem dm_123_111 : decode (kb_ 123) 111 = .ok (.iload 5, 2) := by decide +kernel
theorem dm_123_113 : decode (kb_ 123) 113 = .ok (.iload 4, 2) := by decide +kernel
theorem dm_123_115 : decode (kb_ 123) 115 = .ok (.iastore, 1) := by decide +kernel
theorem dm_123_116 : decode (kb_ 123) 116 = .ok (.iload 4, 2) := by decide +kernel
theorem dm_123_118 : decode (kb_ 123) 118 = .ok (.aload_n 0, 1) := by decide +kernel
theorem dm_123_119 : decode (kb_ 123) 119 = .ok (.iload 5, 2) := by decide +kernel
theorem dm_123_121 : decode (kb_ 123) 121 = .ok (.invokevirtual 182, 3) := by decide +kernel
theorem dm_123_124 : decode (kb_ 123) 124 = .ok (.iadd, 1) := by decide +kernel
theorem dm_123_125 : decode (kb_ 123) 125 = .ok (.istore 4, 2) := by decide +kernel
theorem dm_123_127 : decode (kb_ 123) 127 = .ok (.bipush (8), 2) := by decide +kernel
theorem dm_123_129 : decode (kb_ 123) 129 = .ok (.iload_n 1, 1) := by decide +kernel
theorem dm_123_130 : decode (kb_ 123) 130 = .ok (.imul, 1) := by decide +kernel
theorem dm_123_131 : decode (kb_ 123) 131 = .ok (.aload_n 0, 1) := by decide +kernel
theorem dm_123_132 : decode (kb_ 123) 132 = .ok (.getfield 83, 3) := by decide +kernel
theorem dm_123_135 : decode (kb_ 123) 135 = .ok (.iload 5, 2) := by decide +kernel
theorem dm_123_137 : decode (kb_ 123) 137 = .ok (.iaload, 1) := by decide +kernel
theorem dm_123_138 : decode (kb_ 123) 138 = .ok (.iadd, 1) := by decide +kernel
theorem dm_123_139 : decode (kb_ 123) 139 = .ok (.istore 6, 2) := by decide +kernel
theorem dm_123_141 : decode (kb_ 123) 141 = .ok (.aload_n 0, 1) := by decide +kernel
theorem dm_123_142 : decode (kb_ 123) 142 = .ok (.getfield 62, 3) := by decide +kernel
theorem dm_123_145 : decode (kb_ 123) 145 = .ok (.iload 6, 2) := by decide +kernel
theorem dm_123_147 : decode (kb_ 123) 147 = .ok (.aload_n 0, 1) := by decide +kernel
theorem dm_123_148 : decode (kb_ 123) 148 = .ok (.getfield 62, 3) := by decide +kernel
theorem dm_123_151 : decode (kb_ 123) 151 = .ok (.iload 6, 2) := by decide +kernel
theorem dm_123_153 : decode (kb_ 123) 153 = .ok (.iaload, 1) := by decide +kernel
theorem dm_123_154 : decode (kb_ 123) 154 = .ok (.iconst (-1), 1) := by decide +kernel
theorem dm_123_155 : decode (kb_ 123) 155 = .ok (.if_icmp .ne (7), 3) := by decide +kernel
theorem dm_123_158 : decode (kb_ 123) 158 = .ok (.iload_n 2, 1) := by decide +kernel
theorem dm_123_159 : decode (kb_ 123) 159 = .ok (.goto (10), 3) := by decide +kernel
theorem dm_123_162 : decode (kb_ 123) 162 = .ok (.aload_n 0, 1) := by decide +kernel
theorem dm_123_163 : decode (kb_ 123) 163 = .ok (.getfield 62, 3) := by decide +kernel
theorem dm_123_166 : decode (kb_ 123) 166 = .ok (.iload 6, 2) := by decide +kernel
theorem dm_123_168 : decode (kb_ 123) 168 = .ok (.iaload, 1) := by decide +kernel
theorem dm_123_169 : decode (kb_ 123) 169 = .ok (.iastore, 1) := by decide +kernel
theorem dm_123_170 : decode (kb_ 123) 170 = .ok (.iinc 5 (1), 3) := by decide +kernel
theorem dm_123_173 : decode (kb_ 123) 173 = .ok (.goto (-93), 3) := by decide +kernel
theorem dm_123_176 : decode (kb_ 123) 176 = .ok (.iload_n 3, 1) := by decide +kernel
theorem dm_123_177 : decode (kb_ 123) 177 = .ok (.aload_n 0, 1) := by decide +kernel
theorem dm_123_178 : decode (kb_ 123) 178 = .ok (.getfield 49, 3) := by decide +kernel
theorem dm_123_181 : decode (kb_ 123) 181 = .ok (.iload_n 3, 1) := by decide +kernel
theorem dm_123_182 : decode (kb_ 123) 182 = .ok (.iaload, 1) := by decide +kernel
theorem dm_123_183 : decode (kb_ 123) 183 = .ok (.iadd, 1) := by decide +kernel
theorem dm_123_184 : decode (kb_ 123) 184 = .ok (.istore_n 3, 1) := by decide +kernel
theorem dm_123_185 : decode (kb_ 123) 185 = .ok (.goto (-130), 3) := by decide +kernel
theorem dm_123_188 : decode (kb_ 123) 188 = .ok (.aload_n 0, 1) := by decide +kernel
theorem dm_123_189 : decode (kb_ 123) 189 = .ok (.getfield 59, 3) := by decide +kernel
theorem dm_123_192 : decode (kb_ 123) 192 = .ok (.iconst (5), 1) := by decide +kernel
theorem dm_123_193 : decode (kb_ 123) 193 = .ok (.iload_n 1, 1) := by decide +kernel
theorem dm_123_194 : decode (kb_ 123) 194 = .ok (.imul, 1) := by decide +kernel
theorem dm_123_195 : decode (kb_ 123) 195 = .ok (.iload_n 2, 1) := by decide +kernel
theorem dm_123_196 : decode (kb_ 123) 196 = .ok (.iastore, 1) := by decide +kernel
theorem dm_123_197 : decode (kb_ 123) 197 = .ok (.aload_n 0, 1) := by decide +kernel
theorem dm_123_198 : decode (kb_ 123) 198 = .ok (.getfield 59, 3) := by decide +kernel
theorem dm_123_201 : decode (kb_ 123) 201 = .ok (.iconst (5), 1) := by decide +kernel
theorem dm_123_202 : decode (kb_ 123) 202 = .ok (.iload_n 1, 1) := by decide +kernel
theorem dm_123_203 : decode (kb_ 123) 203 = .ok (.imul, 1) := by decide +kernel
theorem dm_123_204 : decode (kb_ 123) 204 = .ok (.iconst (4), 1) := by decide +kernel
theorem dm_123_205 : decode (kb_ 123) 205 = .ok (.iadd, 1) := by decide +kernel
theorem dm_123_206 : decode (kb_ 123) 206 = .ok (.aload_n 0, 1) := by decide +kernel
theorem dm_123_207 : decode (kb_ 123) 207 = .ok (.getfield 80, 3) := by decide +kernel
theorem dm_123_210 : decode (kb_ 123) 210 = .ok (.iload_n 1, 1) := by decide +kernel
theorem dm_123_211 : decode (kb_ 123) 211 = .ok (.iaload, 1) := by decide +kernel
theorem dm_123_212 : decode (kb_ 123) 212 = .ok (.ifCond .ne (7), 3) := by decide +kernel
theorem dm_123_215 : decode (kb_ 123) 215 = .ok (.iconst (0), 1) := by decide +kernel
theorem dm_123_216 : decode (kb_ 123) 216 = .ok (.goto (9), 3) := by decide +kernel
theorem dm_123_219 : decode (kb_ 123) 219 = .ok (.aload_n 0, 1) := by decide +kernel
theorem dm_123_220 : decode (kb_ 123) 220 = .ok (.getfield 46, 3) := by decide +kernel
theorem dm_123_223 : decode (kb_ 123) 223 = .ok (.iconst (0), 1) := by decide +kernel
theorem dm_123_224 : decode (kb_ 123) 224 = .ok (.iaload, 1) := by decide +kernel
theorem dm_123_225 : decode (kb_ 123) 225 = .ok (.iastore, 1) := by decide +kernel
theorem dm_123_226 : decode (kb_ 123) 226 = .ok (.return_, 1) := by decide +kernel
theorem dm_124_0 : decode (kb_ 124) 0 = .ok (.aload_n 0, 1) := by decide +kernel
theorem dm_124_1 : decode (kb_ 124) 1 = .ok (.invokespecial 3, 3) := by decide +kernel
theorem dm_124_4 : decode (kb_ 124) 4 = .ok (.aload_n 0, 1) := by decide +kernel
theorem dm_124_5 : decode (kb_ 124) 5 = .ok (.iconst (3), 1) := by decide +kernel
theorem dm_124_6 : decode (kb_ 124) 6 = .ok (.bipush (30), 2) := by decide +kernel
theorem dm_124_8 : decode (kb_ 124) 8 = .ok (.iload_n 2, 1) := by decide +kernel
theorem dm_124_9 : decode (kb_ 124) 9 = .ok (.invokestatic 9, 3) := by decide +kernel
theorem dm_124_12 : decode (kb_ 124) 12 = .ok (.invokestatic 15, 3) := by decide +kernel
theorem dm_124_15 : decode (kb_ 124) 15 = .ok (.putfield 18, 3) := by decide +kernel
theorem dm_124_18 : decode (kb_ 124) 18 = .ok (.aload_n 0, 1) := by decide +kernel
theorem dm_124_19 : decode (kb_ 124) 19 = .ok (.new 22, 3) := by decide +kernel
theorem dm_124_22 : decode (kb_ 124) 22 = .ok (.dup, 1) := by decide +kernel
theorem dm_124_23 : decode (kb_ 124) 23 = .ok (.bipush (32), 2) := by decide +kernel
theorem dm_124_25 : decode (kb_ 124) 25 = .ok (.invokespecial 24, 3) := by decide +kernel
theorem dm_124_28 : decode (kb_ 124) 28 = .ok (.putfield 27, 3) := by decide +kernel
theorem dm_124_31 : decode (kb_ 124) 31 = .ok (.aload_n 0, 1) := by decide +kernel
theorem dm_124_32 : decode (kb_ 124) 32 = .ok (.new 22, 3) := by decide +kernel
theorem dm_124_35 : decode (kb_ 124) 35 = .ok (.dup, 1) := by decide +kernel
theorem dm_124_36 : decode (kb_ 124) 36 = .ok (.bipush (26), 2) := by decide +kernel
theorem dm_124_38 : decode (kb_ 124) 38 = .ok (.invokespecial 24, 3) := by decide +kernel
theorem dm_124_41 : decode (kb_ 124) 41 = .ok (.putfield 31, 3) := by decide +kernel
theorem dm_124_44 : decode (kb_ 124) 44 = .ok (.aload_n 0, 1) := by decide +kernel
theorem dm_124_45 : decode (kb_ 124) 45 = .ok (.bipush (6), 2) := by decide +kernel
theorem dm_124_47 : decode (kb_ 124) 47 = .ok (.anewarray 22, 3) := by decide +kernel
theorem dm_124_50 : decode (kb_ 124) 50 = .ok (.putfield 34, 3) := by decide +kernel
theorem dm_124_53 : decode (kb_ 124) 53 = .ok (.iconst (0), 1) := by decide +kernel
theorem dm_124_54 : decode (kb_ 124) 54 = .ok (.istore_n 3, 1) := by decide +kernel
theorem dm_124_55 : decode (kb_ 124) 55 = .ok (.iload_n 3, 1) := by decide +kernel
theorem dm_124_56 : decode (kb_ 124) 56 = .ok (.bipush (6), 2) := by decide +kernel
theorem dm_124_58 : decode (kb_ 124) 58 = .ok (.if_icmp .ge (24), 3) := by decide +kernel
theorem dm_124_61 : decode (kb_ 124) 61 = .ok (.aload_n 0, 1) := by decide +kernel
theorem dm_124_62 : decode (kb_ 124) 62 = .ok (.getfield 34, 3) := by decide +kernel
theorem dm_124_65 : decode (kb_ 124) 65 = .ok (.iload_n 3, 1) := by decide +kernel
theorem dm_124_66 : decode (kb_ 124) 66 = .ok (.new 22, 3) := by decide +kernel
theorem dm_124_69 : decode (kb_ 124) 69 = .ok (.dup, 1) := by decide +kernel
theorem dm_124_70 : decode (kb_ 124) 70 = .ok (.bipush (32), 2) := by decide +kernel
theorem dm_124_72 : decode (kb_ 124) 72 = .ok (.invokespecial 24, 3) := by decide +kernel
theorem dm_124_75 : decode (kb_ 124) 75 = .ok (.aastore, 1) := by decide +kernel
theorem dm_124_76 : decode (kb_ 124) 76 = .ok (.iinc 3 (1), 3) := by decide +kernel
theorem dm_124_79 : decode (kb_ 124) 79 = .ok (.goto (-24), 3) := by decide +kernel
theorem dm_124_82 : decode (kb_ 124) 82 = .ok (.aload_n 0, 1) := by decide +kernel
theorem dm_124_83 : decode (kb_ 124) 83 = .ok (.bipush (8), 2) := by decide +kernel
theorem dm_124_85 : decode (kb_ 124) 85 = .ok (.anewarray 38, 3) := by decide +kernel
theorem dm_124_88 : decode (kb_ 124) 88 = .ok (.putfield 40, 3) := by decide +kernel
theorem dm_124_91 : decode (kb_ 124) 91 = .ok (.iconst (0), 1) := by decide +kernel
theorem dm_124_92 : decode (kb_ 124) 92 = .ok (.istore_n 3, 1) := by decide +kernel
theorem dm_124_93 : decode (kb_ 124) 93 = .ok (.iload_n 3, 1) := by decide +kernel
theorem dm_124_94 : decode (kb_ 124) 94 = .ok (.bipush (8), 2) := by decide +kernel
theorem dm_124_96 : decode (kb_ 124) 96 = .ok (.if_icmp .ge (22), 3) := by decide +kernel
theorem dm_124_99 : decode (kb_ 124) 99 = .ok (.aload_n 0, 1) := by decide +kernel
theorem dm_124_100 : decode (kb_ 124) 100 = .ok (.getfield 40, 3) := by decide +kernel
theorem dm_124_103 : decode (kb_ 124) 103 = .ok (.iload_n 3, 1) := by decide +kernel
theorem dm_124_104 : decode (kb_ 124) 104 = .ok (.new 38, 3) := by decide +kernel
theorem dm_124_107 : decode (kb_ 124) 107 = .ok (.dup, 1) := by decide +kernel
theorem dm_124_108 : decode (kb_ 124) 108 = .ok (.invokespecial 44, 3) := by decide +kernel
theorem dm_124_111 : decode (kb_ 124) 111 = .ok (.aastore, 1) := by decide +kernel
theorem dm_124_112 : decode (kb_ 124) 112 = .ok (.iinc 3 (1), 3) := by decide +kernel
theorem dm_124_115 : decode (kb_ 124) 115 = .ok (.goto (-22), 3) := by decide +kernel
theorem dm_124_118 : decode (kb_ 124) 118 = .ok (.aload_n 0, 1) := by decide +kernel
theorem dm_124_119 : decode (kb_ 124) 119 = .ok (.new 45, 3) := by decide +kernel
theorem dm_124_122 : decode (kb_ 124) 122 = .ok (.dup, 1) := by decide +kernel
theorem dm_124_123 : decode (kb_ 124) 123 = .ok (.bipush (6), 2) := by decide +kernel
theorem dm_124_125 : decode (kb_ 124) 125 = .ok (.bipush (40), 2) := by decide +kernel
theorem dm_124_127 : decode (kb_ 124) 127 = .ok (.iload_n 1, 1) := by decide +kernel
theorem dm_124_128 : decode (kb_ 124) 128 = .ok (.invokestatic 9, 3) := by decide +kernel
theorem dm_124_131 : decode (kb_ 124) 131 = .ok (.invokestatic 15, 3) := by decide +kernel
theorem dm_124_134 : decode (kb_ 124) 134 = .ok (.aload_n 0, 1) := by decide +kernel
theorem dm_124_135 : decode (kb_ 124) 135 = .ok (.getfield 18, 3) := by decide +kernel
theorem dm_124_138 : decode (kb_ 124) 138 = .ok (.invokespecial 47, 3) := by decide +kernel
theorem dm_124_141 : decode (kb_ 124) 141 = .ok (.putfield 50, 3) := by decide +kernel
theorem dm_124_144 : decode (kb_ 124) 144 = .ok (.aload_n 0, 1) := by decide +kernel
theorem dm_124_145 : decode (kb_ 124) 145 = .ok (.new 54, 3) := by decide +kernel
theorem dm_124_148 : decode (kb_ 124) 148 = .ok (.dup, 1) := by decide +kernel
theorem dm_124_149 : decode (kb_ 124) 149 = .ok (.invokespecial 56, 3) := by decide +kernel
theorem dm_124_152 : decode (kb_ 124) 152 = .ok (.putfield 57, 3) := by decide +kernel
theorem dm_124_155 : decode (kb_ 124) 155 = .ok (.aload_n 0, 1) := by decide +kernel
theorem dm_124_156 : decode (kb_ 124) 156 = .ok (.new 54, 3) := by decide +kernel
theorem dm_124_159 : decode (kb_ 124) 159 = .ok (.dup, 1) := by decide +kernel
theorem dm_124_160 : decode (kb_ 124) 160 = .ok (.invokespecial 56, 3) := by decide +kernel
theorem dm_124_163 : decode (kb_ 124) 163 = .ok (.putfield 61, 3) := by decide +kernel
theorem dm_124_166 : decode (kb_ 124) 166 = .ok (.return_, 1) := by decide +kernel
theorem dm_125_0 : decode (kb_ 125) 0 = .ok (.aload_n 0, 1) := by decide +kernel
theorem dm_125_1 : decode (kb_ 125) 1 = .ok (.getfield 40, 3) := by decide +kernel
theorem dm_125_4 : decode (kb_ 125) 4 = .ok (.iload_n 1, 1) := by decide +kernel
theorem dm_125_5 : decode (kb_ 125) 5 = .ok (.aaload, 1) := by decide +kernel
theorem dm_125_6 : decode (kb_ 125) 6 = .ok (.iload_n 2, 1) := by decide +kernel
theorem dm_125_7 : decode (kb_ 125) 7 = .ok (.invokevirtual 134, 3) := by decide +kernel
theorem dm_125_10 : decode (kb_ 125) 10 = .ok (.astore_n 3, 1) := by decide +kernel
theorem dm_125_11 : decode (kb_ 125) 11 = .ok (.iconst (0), 1) := by decide +kernel
theorem dm_125_12 : decode (kb_ 125) 12 = .ok (.istore 4, 2) := by decide +kernel
theorem dm_125_14 : decode (kb_ 125) 14 = .ok (.iconst (0), 1) := by decide +kernel
theorem dm_125_15 : decode (kb_ 125) 15 = .ok (.istore 5, 2) := by decide +kernel
theorem dm_125_17 : decode (kb_ 125) 17 = .ok (.iload 5, 2) := by decide +kernel
theorem dm_125_19 : decode (kb_ 125) 19 = .ok (.aload_n 0, 1) := by decide +kernel
theorem dm_125_20 : decode (kb_ 125) 20 = .ok (.getfield 111, 3) := by decide +kernel
theorem dm_125_23 : decode (kb_ 125) 23 = .ok (.if_icmp .ge (64), 3) := by decide +kernel
theorem dm_125_26 : decode (kb_ 125) 26 = .ok (.aload_n 0, 1) := by decide +kernel
theorem dm_125_27 : decode (kb_ 125) 27 = .ok (.getfield 40, 3) := by decide +kernel
theorem dm_125_30 : decode (kb_ 125) 30 = .ok (.iload 5, 2) := by decide +kernel
theorem dm_125_32 : decode (kb_ 125) 32 = .ok (.aaload, 1) := by decide +kernel
theorem dm_125_33 : decode (kb_ 125) 33 = .ok (.iload_n 2, 1) := by decide +kernel
theorem dm_125_34 : decode (kb_ 125) 34 = .ok (.invokevirtual 134, 3) := by decide +kernel
theorem dm_125_37 : decode (kb_ 125) 37 = .ok (.astore 6, 2) := by decide +kernel
theorem dm_125_39 : decode (kb_ 125) 39 = .ok (.iload 5, 2) := by decide +kernel
theorem dm_125_41 : decode (kb_ 125) 41 = .ok (.iload_n 1, 1) := by decide +kernel
theorem dm_125_42 : decode (kb_ 125) 42 = .ok (.if_icmp .eq (39), 3) := by decide +kernel
theorem dm_125_45 : decode (kb_ 125) 45 = .ok (.aload 6, 2) := by decide +kernel
theorem dm_125_47 : decode (kb_ 125) 47 = .ok (.invokevirtual 64, 3) := by decide +kernel
theorem dm_125_50 : decode (kb_ 125) 50 = .ok (.ifCond .le (31), 3) := by decide +kernel
theorem dm_125_53 : decode (kb_ 125) 53 = .ok (.aload_n 0, 1) := by decide +kernel
theorem dm_125_54 : decode (kb_ 125) 54 = .ok (.aload 6, 2) := by decide +kernel
theorem dm_125_56 : decode (kb_ 125) 56 = .ok (.aload_n 3, 1) := by decide +kernel
theorem dm_125_57 : decode (kb_ 125) 57 = .ok (.invokevirtual 246, 3) := by decide +kernel
theorem dm_125_60 : decode (kb_ 125) 60 = .ok (.istore 7, 2) := by decide +kernel
theorem dm_125_62 : decode (kb_ 125) 62 = .ok (.iload 7, 2) := by decide +kernel
theorem dm_125_64 : decode (kb_ 125) 64 = .ok (.ifCond .lt (14), 3) := by decide +kernel
theorem dm_125_67 : decode (kb_ 125) 67 = .ok (.iload 7, 2) := by decide +kernel
theorem dm_125_69 : decode (kb_ 125) 69 = .ok (.ifCond .ne (12), 3) := by decide +kernel
theorem dm_125_72 : decode (kb_ 125) 72 = .ok (.iload 5, 2) := by decide +kernel
theorem dm_125_74 : decode (kb_ 125) 74 = .ok (.iload_n 1, 1) := by decide +kernel
theorem dm_125_75 : decode (kb_ 125) 75 = .ok (.if_icmp .ge (6), 3) := by decide +kernel
theorem dm_125_78 : decode (kb_ 125) 78 = .ok (.iinc 4 (1), 3) := by decide +kernel
theorem dm_125_81 : decode (kb_ 125) 81 = .ok (.iinc 5 (1), 3) := by decide +kernel
theorem dm_125_84 : decode (kb_ 125) 84 = .ok (.goto (-67), 3) := by decide +kernel
theorem dm_125_87 : decode (kb_ 125) 87 = .ok (.iload 4, 2) := by decide +kernel
theorem dm_125_89 : decode (kb_ 125) 89 = .ok (.ireturn, 1) := by decide +kernel
theorem dm_126_0 : decode (kb_ 126) 0 = .ok (.aload_n 0, 1) := by decide +kernel
theorem dm_126_1 : decode (kb_ 126) 1 = .ok (.iload_n 1, 1) := by decide +kernel
theorem dm_126_2 : decode (kb_ 126) 2 = .ok (.invokevirtual 120, 3) := by decide +kernel
theorem dm_126_5 : decode (kb_ 126) 5 = .ok (.ifCond .eq (10), 3) := by decide +kernel
theorem dm_126_8 : decode (kb_ 126) 8 = .ok (.iload_n 2, 1) := by decide +kernel
theorem dm_126_9 : decode (kb_ 126) 9 = .ok (.invokestatic 123, 3) := by decide +kernel
theorem dm_126_12 : decode (kb_ 126) 12 = .ok (.ifCond .ne (13), 3) := by decide +kernel
theorem dm_126_15 : decode (kb_ 126) 15 = .ok (.new 106, 3) := by decide +kernel
theorem dm_126_18 : decode (kb_ 126) 18 = .ok (.dup, 1) := by decide +kernel
theorem dm_126_19 : decode (kb_ 126) 19 = .ok (.ldc 126, 2) := by decide +kernel
theorem dm_126_21 : decode (kb_ 126) 21 = .ok (.invokespecial 110, 3) := by decide +kernel
theorem dm_126_24 : decode (kb_ 126) 24 = .ok (.athrow, 1) := by decide +kernel
theorem dm_126_25 : decode (kb_ 126) 25 = .ok (.aload_n 0, 1) := by decide +kernel
theorem dm_126_26 : decode (kb_ 126) 26 = .ok (.getfield 27, 3) := by decide +kernel
theorem dm_126_29 : decode (kb_ 126) 29 = .ok (.invokestatic 128, 3) := by decide +kernel
theorem dm_126_32 : decode (kb_ 126) 32 = .ok (.ifCond .ne (13), 3) := by decide +kernel
theorem dm_126_35 : decode (kb_ 126) 35 = .ok (.new 83, 3) := by decide +kernel
theorem dm_126_38 : decode (kb_ 126) 38 = .ok (.dup, 1) := by decide +kernel
theorem dm_126_39 : decode (kb_ 126) 39 = .ok (.ldc 132, 2) := by decide +kernel
theorem dm_126_41 : decode (kb_ 126) 41 = .ok (.invokespecial 87, 3) := by decide +kernel
theorem dm_126_44 : decode (kb_ 126) 44 = .ok (.athrow, 1) := by decide +kernel
theorem dm_126_45 : decode (kb_ 126) 45 = .ok (.aload_n 0, 1) := by decide +kernel
theorem dm_126_46 : decode (kb_ 126) 46 = .ok (.aload_n 0, 1) := by decide +kernel
theorem dm_126_47 : decode (kb_ 126) 47 = .ok (.getfield 40, 3) := by decide +kernel
theorem dm_126_50 : decode (kb_ 126) 50 = .ok (.iload_n 1, 1) := by decide +kernel
theorem dm_126_51 : decode (kb_ 126) 51 = .ok (.aaload, 1) := by decide +kernel
theorem dm_126_52 : decode (kb_ 126) 52 = .ok (.iload_n 2, 1) := by decide +kernel
theorem dm_126_53 : decode (kb_ 126) 53 = .ok (.invokevirtual 134, 3) := by decide +kernel
theorem dm_126_56 : decode (kb_ 126) 56 = .ok (.invokevirtual 103, 3) := by decide +kernel
theorem dm_126_59 : decode (kb_ 126) 59 = .ok (.ireturn, 1) := by decide +kernel
theorem dm_127_0 : decode (kb_ 127) 0 = .ok (.aload_n 0, 1) := by decide +kernel
theorem dm_127_1 : decode (kb_ 127) 1 = .ok (.getfield 27, 3) := by decide +kernel
theorem dm_127_4 : decode (kb_ 127) 4 = .ok (.invokestatic 152, 3) := by decide +kernel
theorem dm_127_7 : decode (kb_ 127) 7 = .ok (.ifCond .ne (13), 3) := by decide +kernel
theorem dm_127_10 : decode (kb_ 127) 10 = .ok (.new 83, 3) := by decide +kernel
theorem dm_127_13 : decode (kb_ 127) 13 = .ok (.dup, 1) := by decide +kernel
theorem dm_127_14 : decode (kb_ 127) 14 = .ok (.ldc 155, 2) := by decide +kernel
theorem dm_127_16 : decode (kb_ 127) 16 = .ok (.invokespecial 87, 3) := by decide +kernel
theorem dm_127_19 : decode (kb_ 127) 19 = .ok (.athrow, 1) := by decide +kernel
theorem dm_127_20 : decode (kb_ 127) 20 = .ok (.aload_n 0, 1) := by decide +kernel
theorem dm_127_21 : decode (kb_ 127) 21 = .ok (.aload_n 0, 1) := by decide +kernel
theorem dm_127_22 : decode (kb_ 127) 22 = .ok (.getfield 31, 3) := by decide +kernel
theorem dm_127_25 : decode (kb_ 127) 25 = .ok (.invokevirtual 103, 3) := by decide +kernel
