/-! ===== 41: the shape, cell by cell (by program) ===== -/
theorem o_0 : isC 0 9 = true := rfl
theorem f_0_0 : isF 0 9 0 (1 + 2) = true := rfl
theorem f_0_1 : isF 0 9 1 (3 + 2) = true := rfl
theorem f_0_2 : isF 0 9 2 (48 + 2) = true := rfl
theorem f_0_3 : isF 0 9 3 (93 + 2) = true := rfl
theorem f_0_4 : isF 0 9 4 (94 + 2) = true := rfl
theorem f_0_5 : isF 0 9 5 (100 + 2) = true := rfl
theorem f_0_6 : isF 0 9 6 (111 + 2) = true := rfl
theorem f_0_7 : isF 0 9 7 (115 + 2) = true := rfl
theorem f_0_8 : isF 0 9 8 (118 + 2) = true := rfl
theorem f_0_9 : isF 0 9 9 (132 + 2) = true := rfl
theorem f_0_10 : isF 0 9 10 0 = true := rfl
theorem o_1 : isC 1 6 = true := rfl
theorem f_1_0 : isF 1 6 0 (2 + 2) = true := rfl
theorem f_1_1 : isF 1 6 1 0 = true := rfl
theorem a_2 : isI 2 2 900 = true := rfl
theorem o_3 : isC 3 8 = true := rfl
theorem f_3_0 : isF 3 8 0 (4 + 2) = true := rfl
theorem f_3_1 : isF 3 8 1 (5 + 2) = true := rfl
theorem f_3_2 : isF 3 8 2 (6 + 2) = true := rfl
theorem f_3_3 : isF 3 8 3 (13 + 2) = true := rfl
theorem f_3_4 : isF 3 8 4 (18 + 2) = true := rfl
theorem f_3_5 : isF 3 8 5 (29 + 2) = true := rfl
theorem f_3_6 : isF 3 8 6 (30 + 2) = true := rfl
theorem f_3_7 : isF 3 8 7 (43 + 2) = true := rfl
theorem a_4 : isI 4 0 14 = true := rfl
theorem a_5 : isI 5 0 6 = true := rfl
theorem a_6 : isQ 6 5 6 = true := rfl
theorem a_13 : isQ 13 5 4 = true := rfl
theorem a_18 : isQ 18 5 10 = true := rfl
theorem a_29 : isJ 29 10 = true := rfl
theorem a_30 : isQ 30 5 12 = true := rfl
theorem a_43 : isQ 43 5 4 = true := rfl
theorem o_48 : isC 48 8 = true := rfl
theorem f_48_0 : isF 48 8 0 (49 + 2) = true := rfl
theorem f_48_1 : isF 48 8 1 (50 + 2) = true := rfl
theorem f_48_2 : isF 48 8 2 (51 + 2) = true := rfl
theorem f_48_3 : isF 48 8 3 (58 + 2) = true := rfl
theorem f_48_4 : isF 48 8 4 (63 + 2) = true := rfl
theorem f_48_5 : isF 48 8 5 (74 + 2) = true := rfl
theorem f_48_6 : isF 48 8 6 (75 + 2) = true := rfl
theorem f_48_7 : isF 48 8 7 (88 + 2) = true := rfl
theorem a_49 : isI 49 0 14 = true := rfl
theorem a_50 : isI 50 0 6 = true := rfl
theorem a_51 : isQ 51 5 6 = true := rfl
theorem a_58 : isQ 58 5 4 = true := rfl
theorem a_63 : isQ 63 5 10 = true := rfl
theorem a_74 : isJ 74 10 = true := rfl
theorem a_75 : isQ 75 5 12 = true := rfl
theorem a_88 : isQ 88 5 4 = true := rfl
theorem a_93 : isQ 93 4 2 = true := rfl
theorem o_94 : isC 94 4 = true := rfl
theorem f_94_0 : isF 94 4 0 (98 + 2) = true := rfl
theorem f_94_1 : isF 94 4 1 (48 + 2) = true := rfl
theorem f_94_2 : isF 94 4 2 (95 + 2) = true := rfl
theorem f_94_3 : isF 94 4 3 (96 + 2) = true := rfl
theorem f_94_4 : isF 94 4 4 (97 + 2) = true := rfl
theorem f_94_5 : isF 94 4 5 0 = true := rfl
theorem f_94_6 : isF 94 4 6 0 = true := rfl
theorem f_94_7 : isF 94 4 7 0 = true := rfl
theorem a_95 : isJ 95 26 = true := rfl
theorem a_96 : isI 96 0 26 = true := rfl
theorem a_97 : isI 97 0 26 = true := rfl
theorem o_98 : isC 98 7 = true := rfl
theorem f_98_0 : isF 98 7 0 (2 + 2) = true := rfl
theorem f_98_1 : isF 98 7 1 (99 + 2) = true := rfl
theorem f_98_2 : isF 98 7 2 0 = true := rfl
theorem f_98_3 : isF 98 7 3 0 = true := rfl
theorem f_98_4 : isF 98 7 4 0 = true := rfl
theorem f_98_5 : isF 98 7 5 0 = true := rfl
theorem f_98_6 : isF 98 7 6 0 = true := rfl
theorem f_98_7 : isF 98 7 7 1 = true := rfl
theorem a_99 : isJ 99 30 = true := rfl
theorem o_100 : isC 100 2 = true := rfl
theorem f_100_0 : isF 100 2 0 (3 + 2) = true := rfl
theorem f_100_1 : isF 100 2 1 (101 + 2) = true := rfl
theorem f_100_2 : isF 100 2 2 (102 + 2) = true := rfl
theorem f_100_3 : isF 100 2 3 0 = true := rfl
theorem f_100_4 : isF 100 2 4 (103 + 2) = true := rfl
theorem f_100_5 : isF 100 2 5 (104 + 2) = true := rfl
theorem f_100_6 : isF 100 2 6 (109 + 2) = true := rfl
theorem f_100_7 : isF 100 2 7 (110 + 2) = true := rfl
theorem a_101 : isI 101 0 6 = true := rfl
theorem a_102 : isI 102 3 10 = true := rfl
theorem a_103 : isI 103 0 10 = true := rfl
theorem a_104 : isQ 104 5 4 = true := rfl
theorem a_109 : isJ 109 10 = true := rfl
theorem a_110 : isI 110 0 10 = true := rfl
theorem o_111 : isC 111 1 = true := rfl
theorem f_111_0 : isF 111 1 0 (3 + 2) = true := rfl
theorem f_111_1 : isF 111 1 1 (100 + 2) = true := rfl
theorem f_111_2 : isF 111 1 2 (112 + 2) = true := rfl
theorem f_111_3 : isF 111 1 3 (113 + 2) = true := rfl
theorem f_111_4 : isF 111 1 4 0 = true := rfl
theorem f_111_5 : isF 111 1 5 0 = true := rfl
theorem f_111_6 : isF 111 1 6 1 = true := rfl
theorem f_111_7 : isF 111 1 7 0 = true := rfl
theorem f_111_8 : isF 111 1 8 (114 + 2) = true := rfl
theorem f_111_9 : isF 111 1 9 0 = true := rfl
theorem f_111_10 : isF 111 1 10 0 = true := rfl
theorem a_112 : isI 112 0 10 = true := rfl
theorem a_113 : isJ 113 11 = true := rfl
theorem a_114 : isI 114 0 6 = true := rfl
theorem o_115 : isC 115 5 = true := rfl
theorem f_115_0 : isF 115 5 0 (3 + 2) = true := rfl
theorem f_115_1 : isF 115 5 1 (100 + 2) = true := rfl
theorem f_115_2 : isF 115 5 2 (116 + 2) = true := rfl
theorem f_115_3 : isF 115 5 3 (117 + 2) = true := rfl
theorem f_115_4 : isF 115 5 4 0 = true := rfl
theorem a_116 : isI 116 0 11 = true := rfl
theorem a_117 : isI 117 0 11 = true := rfl
theorem o_118 : isC 118 0 = true := rfl
theorem f_118_0 : isF 118 0 0 (119 + 2) = true := rfl
theorem f_118_1 : isF 118 0 1 0 = true := rfl
theorem f_118_2 : isF 118 0 2 0 = true := rfl
theorem a_119 : isQ 119 5 12 = true := rfl
theorem o_132 : isC 132 3 = true := rfl
theorem f_132_0 : isF 132 3 0 (133 + 2) = true := rfl
theorem f_132_1 : isF 132 3 1 0 = true := rfl
theorem a_133 : isI 133 2 480 = true := rfl
theorem o_134 : isC 134 8 = true := rfl
theorem f_134_0 : isF 134 8 0 (135 + 2) = true := rfl
theorem f_134_1 : isF 134 8 1 (136 + 2) = true := rfl
theorem f_134_2 : isF 134 8 2 (137 + 2) = true := rfl
theorem f_134_3 : isF 134 8 3 (144 + 2) = true := rfl
theorem f_134_4 : isF 134 8 4 (149 + 2) = true := rfl
theorem f_134_5 : isF 134 8 5 (160 + 2) = true := rfl
theorem f_134_6 : isF 134 8 6 (161 + 2) = true := rfl
theorem f_134_7 : isF 134 8 7 (174 + 2) = true := rfl
theorem a_135 : isI 135 0 14 = true := rfl
theorem a_136 : isI 136 0 6 = true := rfl
theorem a_137 : isQ 137 5 6 = true := rfl
theorem a_144 : isQ 144 5 4 = true := rfl
theorem a_149 : isQ 149 5 10 = true := rfl
theorem a_160 : isJ 160 10 = true := rfl
theorem a_161 : isQ 161 5 12 = true := rfl
theorem a_174 : isQ 174 5 4 = true := rfl
theorem o_179 : isC 179 8 = true := rfl
theorem f_179_0 : isF 179 8 0 (180 + 2) = true := rfl
theorem f_179_1 : isF 179 8 1 (181 + 2) = true := rfl
theorem f_179_2 : isF 179 8 2 (182 + 2) = true := rfl
theorem f_179_3 : isF 179 8 3 (189 + 2) = true := rfl
theorem f_179_4 : isF 179 8 4 (194 + 2) = true := rfl
theorem f_179_5 : isF 179 8 5 (205 + 2) = true := rfl
theorem f_179_6 : isF 179 8 6 (206 + 2) = true := rfl
theorem f_179_7 : isF 179 8 7 (219 + 2) = true := rfl
theorem a_180 : isI 180 0 14 = true := rfl
theorem a_181 : isI 181 0 6 = true := rfl
theorem a_182 : isQ 182 5 6 = true := rfl
theorem a_189 : isQ 189 5 4 = true := rfl
theorem a_194 : isQ 194 5 10 = true := rfl
theorem a_205 : isJ 205 10 = true := rfl
theorem a_206 : isQ 206 5 12 = true := rfl
theorem a_219 : isQ 219 5 4 = true := rfl
theorem o_224 : isC 224 10 = true := rfl
theorem f_224_0 : isF 224 10 0 0 = true := rfl
theorem f_224_1 : isF 224 10 1 (225 + 2) = true := rfl
theorem f_224_2 : isF 224 10 2 (226 + 2) = true := rfl
theorem f_224_3 : isF 224 10 3 (227 + 2) = true := rfl
theorem f_224_4 : isF 224 10 4 (228 + 2) = true := rfl
theorem f_224_5 : isF 224 10 5 (229 + 2) = true := rfl
theorem f_224_6 : isF 224 10 6 0 = true := rfl
theorem f_224_7 : isF 224 10 7 (230 + 2) = true := rfl
theorem f_224_8 : isF 224 10 8 0 = true := rfl
theorem f_224_9 : isF 224 10 9 0 = true := rfl
theorem f_224_10 : isF 224 10 10 0 = true := rfl
theorem f_224_11 : isF 224 10 11 0 = true := rfl
theorem f_224_12 : isF 224 10 12 0 = true := rfl
theorem f_224_13 : isF 224 10 13 0 = true := rfl
theorem f_224_14 : isF 224 10 14 1 = true := rfl
theorem f_224_15 : isF 224 10 15 0 = true := rfl
theorem f_224_16 : isF 224 10 16 0 = true := rfl
theorem f_224_17 : isF 224 10 17 (231 + 2) = true := rfl
theorem f_224_18 : isF 224 10 18 (232 + 2) = true := rfl
theorem f_224_19 : isF 224 10 19 (233 + 2) = true := rfl
theorem f_224_20 : isF 224 10 20 0 = true := rfl
theorem f_224_21 : isF 224 10 21 (234 + 2) = true := rfl
theorem f_224_22 : isF 224 10 22 0 = true := rfl
theorem f_224_23 : isF 224 10 23 0 = true := rfl
theorem f_224_24 : isF 224 10 24 0 = true := rfl
theorem f_224_25 : isF 224 10 25 0 = true := rfl
theorem f_224_26 : isF 224 10 26 (235 + 2) = true := rfl
theorem f_224_27 : isF 224 10 27 0 = true := rfl
theorem f_224_28 : isF 224 10 28 0 = true := rfl
theorem f_224_29 : isF 224 10 29 (236 + 2) = true := rfl
theorem f_224_30 : isF 224 10 30 0 = true := rfl
theorem f_224_31 : isF 224 10 31 0 = true := rfl
theorem f_224_32 : isF 224 10 32 (237 + 2) = true := rfl
theorem f_224_33 : isF 224 10 33 0 = true := rfl
theorem a_225 : isI 225 0 232 = true := rfl
theorem a_226 : isI 226 0 232 = true := rfl
theorem a_227 : isI 227 0 2784 = true := rfl
theorem a_228 : isI 228 0 464 = true := rfl
theorem a_229 : isI 229 3 2 = true := rfl
theorem a_230 : isI 230 2 900 = true := rfl
theorem a_231 : isJ 231 26 = true := rfl
theorem a_232 : isI 232 0 26 = true := rfl
theorem a_233 : isI 233 0 26 = true := rfl
theorem a_234 : isJ 234 10 = true := rfl
theorem a_235 : isJ 235 12 = true := rfl
theorem a_236 : isI 236 0 6 = true := rfl
theorem a_237 : isI 237 0 600 = true := rfl
theorem a_238 : isJ 238 1 = true := rfl
theorem r_6 : ∀ r, r < 6 → isI (7 + r) 0 4 = true := by decide
theorem q_6 (i : Nat) (h : i < 6) : ptQ 6 i = some (7 + i) := by
  unfold ptQ
  rw [if_neg (by decide), if_pos (show i < lnL.getD 6 0 from h)]
theorem r_13 : ∀ r, r < 4 → isI (14 + r) 0 2 = true := by decide
theorem q_13 (i : Nat) (h : i < 4) : ptQ 13 i = some (14 + i) := by
  unfold ptQ
  rw [if_neg (by decide), if_pos (show i < lnL.getD 13 0 from h)]
theorem r_18 : ∀ r, r < 10 → isI (19 + r) 0 12 = true := by decide
theorem q_18 (i : Nat) (h : i < 10) : ptQ 18 i = some (19 + i) := by
  unfold ptQ
  rw [if_neg (by decide), if_pos (show i < lnL.getD 18 0 from h)]
theorem r_30 : ∀ r, r < 12 → isI (31 + r) 0 4 = true := by decide
theorem q_30 (i : Nat) (h : i < 12) : ptQ 30 i = some (31 + i) := by
  unfold ptQ
  rw [if_neg (by decide), if_pos (show i < lnL.getD 30 0 from h)]
theorem r_43 : ∀ r, r < 4 → isI (44 + r) 0 2 = true := by decide
theorem q_43 (i : Nat) (h : i < 4) : ptQ 43 i = some (44 + i) := by
  unfold ptQ
  rw [if_neg (by decide), if_pos (show i < lnL.getD 43 0 from h)]
theorem r_51 : ∀ r, r < 6 → isI (52 + r) 0 4 = true := by decide
theorem q_51 (i : Nat) (h : i < 6) : ptQ 51 i = some (52 + i) := by
  unfold ptQ
  rw [if_neg (by decide), if_pos (show i < lnL.getD 51 0 from h)]
theorem r_58 : ∀ r, r < 4 → isI (59 + r) 0 2 = true := by decide
theorem q_58 (i : Nat) (h : i < 4) : ptQ 58 i = some (59 + i) := by
  unfold ptQ
  rw [if_neg (by decide), if_pos (show i < lnL.getD 58 0 from h)]
theorem r_63 : ∀ r, r < 10 → isI (64 + r) 0 12 = true := by decide
theorem q_63 (i : Nat) (h : i < 10) : ptQ 63 i = some (64 + i) := by
  unfold ptQ
  rw [if_neg (by decide), if_pos (show i < lnL.getD 63 0 from h)]
theorem r_75 : ∀ r, r < 12 → isI (76 + r) 0 4 = true := by decide
theorem q_75 (i : Nat) (h : i < 12) : ptQ 75 i = some (76 + i) := by
  unfold ptQ
  rw [if_neg (by decide), if_pos (show i < lnL.getD 75 0 from h)]
theorem r_88 : ∀ r, r < 4 → isI (89 + r) 0 2 = true := by decide
theorem q_88 (i : Nat) (h : i < 4) : ptQ 88 i = some (89 + i) := by
  unfold ptQ
  rw [if_neg (by decide), if_pos (show i < lnL.getD 88 0 from h)]
theorem r_137 : ∀ r, r < 6 → isI (138 + r) 0 4 = true := by decide
theorem q_137 (i : Nat) (h : i < 6) : ptQ 137 i = some (138 + i) := by
  unfold ptQ
  rw [if_neg (by decide), if_pos (show i < lnL.getD 137 0 from h)]
theorem r_144 : ∀ r, r < 4 → isI (145 + r) 0 2 = true := by decide
theorem q_144 (i : Nat) (h : i < 4) : ptQ 144 i = some (145 + i) := by
  unfold ptQ
  rw [if_neg (by decide), if_pos (show i < lnL.getD 144 0 from h)]
theorem r_149 : ∀ r, r < 10 → isI (150 + r) 0 12 = true := by decide
theorem q_149 (i : Nat) (h : i < 10) : ptQ 149 i = some (150 + i) := by
  unfold ptQ
  rw [if_neg (by decide), if_pos (show i < lnL.getD 149 0 from h)]
theorem r_161 : ∀ r, r < 12 → isI (162 + r) 0 4 = true := by decide
theorem q_161 (i : Nat) (h : i < 12) : ptQ 161 i = some (162 + i) := by
  unfold ptQ
  rw [if_neg (by decide), if_pos (show i < lnL.getD 161 0 from h)]
theorem r_174 : ∀ r, r < 4 → isI (175 + r) 0 2 = true := by decide
theorem q_174 (i : Nat) (h : i < 4) : ptQ 174 i = some (175 + i) := by
  unfold ptQ
  rw [if_neg (by decide), if_pos (show i < lnL.getD 174 0 from h)]
theorem r_182 : ∀ r, r < 6 → isI (183 + r) 0 4 = true := by decide
theorem q_182 (i : Nat) (h : i < 6) : ptQ 182 i = some (183 + i) := by
  unfold ptQ
  rw [if_neg (by decide), if_pos (show i < lnL.getD 182 0 from h)]
theorem r_189 : ∀ r, r < 4 → isI (190 + r) 0 2 = true := by decide
theorem q_189 (i : Nat) (h : i < 4) : ptQ 189 i = some (190 + i) := by
  unfold ptQ
  rw [if_neg (by decide), if_pos (show i < lnL.getD 189 0 from h)]
theorem r_194 : ∀ r, r < 10 → isI (195 + r) 0 12 = true := by decide
theorem q_194 (i : Nat) (h : i < 10) : ptQ 194 i = some (195 + i) := by
  unfold ptQ
  rw [if_neg (by decide), if_pos (show i < lnL.getD 194 0 from h)]
theorem r_206 : ∀ r, r < 12 → isI (207 + r) 0 4 = true := by decide
theorem q_206 (i : Nat) (h : i < 12) : ptQ 206 i = some (207 + i) := by
  unfold ptQ
  rw [if_neg (by decide), if_pos (show i < lnL.getD 206 0 from h)]
theorem r_219 : ∀ r, r < 4 → isI (220 + r) 0 2 = true := by decide
theorem q_219 (i : Nat) (h : i < 4) : ptQ 219 i = some (220 + i) := by
  unfold ptQ
  rw [if_neg (by decide), if_pos (show i < lnL.getD 219 0 from h)]
theorem r_119 : ∀ r, r < 12 → isI (120 + r) 0 4 = true := by decide
theorem q_119 (i : Nat) (h : i < 12) : ptQ 119 i = some (120 + i) := by
  unfold ptQ
  rw [if_neg (by decide), if_pos (show i < lnL.getD 119 0 from h)]
theorem r_104 : ∀ r, r < 4 → isI (105 + r) 0 10 = true := by decide
theorem q_104 (i : Nat) (h : i < 4) : ptQ 104 i = some (105 + i) := by
  unfold ptQ
  rw [if_neg (by decide), if_pos (show i < lnL.getD 104 0 from h)]
