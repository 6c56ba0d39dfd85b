/-! the cells that the run has made, by number: what each is, what it refers to for good -/
def SHl : List (Nat × Nat) := [(11, 0), (9, 0), (50, 240), (6, 0), (50, 36), (6, 0), (50, 36), (4, 0), (7, 0), (50, 64), (55, 5), (56, 5), (7, 0), (50, 5), (1, 0), (7, 0), (50, 6), (7, 0), (50, 64), (5, 0), (8, 0), (50, 146), (7, 0), (50, 30), (7, 0), (50, 30), (7, 0), (50, 61), (7, 0), (50, 61), (7, 0), (50, 7), (7, 0), (50, 12), (7, 0), (50, 36), (10, 0), (8, 0), (50, 146), (7, 0), (50, 10), (7, 0), (50, 10), (7, 0), (50, 10), (7, 0), (50, 366), (2, 0), (57, 40), (8, 0), (50, 146), (8, 0), (50, 146), (8, 0), (50, 146), (8, 0), (50, 146), (8, 0), (50, 146), (8, 0), (50, 146), (8, 0), (50, 146), (8, 0), (50, 146), (8, 0), (50, 146), (8, 0), (50, 146), (8, 0), (50, 146), (8, 0), (50, 146), (8, 0), (50, 146), (8, 0), (50, 146), (8, 0), (50, 146), (8, 0), (50, 146), (8, 0), (50, 146), (8, 0), (50, 146), (8, 0), (50, 146), (8, 0), (50, 146), (8, 0), (50, 146), (8, 0), (50, 146), (8, 0), (50, 146), (8, 0), (50, 146), (8, 0), (50, 146), (8, 0), (50, 146), (8, 0), (50, 146), (8, 0), (50, 146), (8, 0), (50, 146), (8, 0), (50, 146), (8, 0), (50, 146), (8, 0), (50, 146), (8, 0), (50, 146), (8, 0), (50, 146), (8, 0), (50, 146), (8, 0), (50, 146), (8, 0), (50, 146), (8, 0), (50, 146), (8, 0), (50, 146), (8, 0), (50, 146), (8, 0), (50, 146), (8, 0), (50, 146), (3, 0), (50, 240), (3, 0), (50, 240), (3, 0), (50, 240), (3, 0), (50, 240), (3, 0), (50, 240), (0, 0), (50, 60), (0, 0), (50, 60), (0, 0), (50, 60), (0, 0), (50, 60), (0, 0), (50, 60), (12, 0), (51, 240), (51, 960), (50, 4), (50, 128), (50, 3), (50, 3), (50, 12), (50, 12), (50, 18), (50, 18), (50, 300), (50, 5), (50, 417), (50, 236), (50, 5), (54, 8191), (50, 8191), (50, 16680), (50, 732), (50, 30), (50, 366), (52, 6), (50, 72), (50, 30), (50, 417), (54, 1)]
def RFl : List (Nat × Nat × Nat) := [(100, 0, 101), (100, 1, 103), (100, 2, 105), (100, 3, 107), (100, 4, 110), (100, 5, 111), (100, 6, 112), (100, 7, 114), (100, 8, 119), (100, 9, 136), (100, 10, 147), (100, 11, 229), (100, 12, 231), (101, 0, 102), (103, 0, 104), (105, 0, 106), (107, 0, 108), (108, 0, 109), (110, 0, 233), (110, 1, 235), (110, 2, 237), (110, 3, 239), (110, 4, 241), (111, 0, 243), (111, 1, 245), (111, 2, 247), (111, 3, 249), (111, 4, 251), (112, 0, 113), (114, 0, 103), (114, 1, 115), (114, 2, 117), (115, 0, 116), (117, 0, 118), (119, 0, 103), (119, 1, 114), (119, 2, 120), (119, 3, 122), (119, 4, 124), (119, 5, 126), (119, 6, 128), (119, 7, 130), (119, 8, 132), (119, 9, 134), (120, 0, 121), (122, 0, 123), (124, 0, 125), (126, 0, 127), (128, 0, 129), (130, 0, 131), (132, 0, 133), (134, 0, 135), (136, 0, 103), (136, 1, 114), (136, 2, 137), (136, 3, 139), (136, 4, 141), (136, 5, 143), (136, 6, 145), (137, 0, 138), (139, 0, 140), (141, 0, 142), (143, 0, 144), (145, 0, 146), (147, 0, 148), (148, 0, 149), (148, 1, 151), (148, 2, 153), (148, 3, 155), (148, 4, 157), (148, 5, 159), (148, 6, 161), (148, 7, 163), (148, 8, 165), (148, 9, 167), (148, 10, 169), (148, 11, 171), (148, 12, 173), (148, 13, 175), (148, 14, 177), (148, 15, 179), (148, 16, 181), (148, 17, 183), (148, 18, 185), (148, 19, 187), (148, 20, 189), (148, 21, 191), (148, 22, 193), (148, 23, 195), (148, 24, 197), (148, 25, 199), (148, 26, 201), (148, 27, 203), (148, 28, 205), (148, 29, 207), (148, 30, 209), (148, 31, 211), (148, 32, 213), (148, 33, 215), (148, 34, 217), (148, 35, 219), (148, 36, 221), (148, 37, 223), (148, 38, 225), (148, 39, 227), (149, 0, 150), (151, 0, 152), (153, 0, 154), (155, 0, 156), (157, 0, 158), (159, 0, 160), (161, 0, 162), (163, 0, 164), (165, 0, 166), (167, 0, 168), (169, 0, 170), (171, 0, 172), (173, 0, 174), (175, 0, 176), (177, 0, 178), (179, 0, 180), (181, 0, 182), (183, 0, 184), (185, 0, 186), (187, 0, 188), (189, 0, 190), (191, 0, 192), (193, 0, 194), (195, 0, 196), (197, 0, 198), (199, 0, 200), (201, 0, 202), (203, 0, 204), (205, 0, 206), (207, 0, 208), (209, 0, 210), (211, 0, 212), (213, 0, 214), (215, 0, 216), (217, 0, 218), (219, 0, 220), (221, 0, 222), (223, 0, 224), (225, 0, 226), (227, 0, 228), (229, 0, 230), (231, 0, 232), (233, 0, 234), (235, 0, 236), (237, 0, 238), (239, 0, 240), (241, 0, 242), (243, 0, 244), (245, 0, 246), (247, 0, 248), (249, 0, 250), (251, 0, 252), (253, 1, 254), (253, 2, 255), (253, 3, 256), (253, 4, 257), (253, 18, 258), (253, 19, 259), (253, 20, 260), (253, 21, 261), (253, 22, 262), (253, 23, 263), (253, 24, 264), (253, 25, 265), (253, 32, 266), (253, 33, 267), (253, 34, 268), (253, 37, 269), (253, 38, 270), (253, 40, 271), (253, 43, 272), (253, 44, 273), (253, 46, 274), (253, 47, 275), (253, 48, 276), (253, 49, 277), (253, 50, 278)]
def WF (Z : Zt) (R : Rt) : Prop := 280 ≤ Z.1 ∧ (∀ (i : Nat) (q : Nat × Nat), SHl[i]? = some q → Z.2 (100 + i) = q) ∧ ∀ (i : Nat) (q : Nat × Nat × Nat), RFl[i]? = some q → R q.1 q.2.1 = some q.2.2
theorem WF.sh {Z : Zt} {R : Rt} (h : WF Z R) (i k n : Nat) (hi : i < 180) (hs : SHl[i]? = some (k, n)) : 100 ≤ 100 + i ∧ 100 + i < Z.1 ∧ Z.2 (100 + i) = (k, n) := ⟨by omega, by have := h.1; omega, h.2.1 i _ hs⟩
theorem o_100 {Z : Zt} {R : Rt} (h : WF Z R) : ob Z 100 11 := h.sh 0 11 0 (by decide) rfl
theorem o_101 {Z : Zt} {R : Rt} (h : WF Z R) : ob Z 101 9 := h.sh 1 9 0 (by decide) rfl
theorem a_102 {Z : Zt} {R : Rt} (h : WF Z R) : ar Z 102 50 240 := h.sh 2 50 240 (by decide) rfl
theorem o_103 {Z : Zt} {R : Rt} (h : WF Z R) : ob Z 103 6 := h.sh 3 6 0 (by decide) rfl
theorem a_104 {Z : Zt} {R : Rt} (h : WF Z R) : ar Z 104 50 36 := h.sh 4 50 36 (by decide) rfl
theorem o_105 {Z : Zt} {R : Rt} (h : WF Z R) : ob Z 105 6 := h.sh 5 6 0 (by decide) rfl
theorem a_106 {Z : Zt} {R : Rt} (h : WF Z R) : ar Z 106 50 36 := h.sh 6 50 36 (by decide) rfl
theorem o_107 {Z : Zt} {R : Rt} (h : WF Z R) : ob Z 107 4 := h.sh 7 4 0 (by decide) rfl
theorem o_108 {Z : Zt} {R : Rt} (h : WF Z R) : ob Z 108 7 := h.sh 8 7 0 (by decide) rfl
theorem a_109 {Z : Zt} {R : Rt} (h : WF Z R) : ar Z 109 50 64 := h.sh 9 50 64 (by decide) rfl
theorem a_110 {Z : Zt} {R : Rt} (h : WF Z R) : ar Z 110 55 5 := h.sh 10 55 5 (by decide) rfl
theorem a_111 {Z : Zt} {R : Rt} (h : WF Z R) : ar Z 111 56 5 := h.sh 11 56 5 (by decide) rfl
theorem o_112 {Z : Zt} {R : Rt} (h : WF Z R) : ob Z 112 7 := h.sh 12 7 0 (by decide) rfl
theorem a_113 {Z : Zt} {R : Rt} (h : WF Z R) : ar Z 113 50 5 := h.sh 13 50 5 (by decide) rfl
theorem o_114 {Z : Zt} {R : Rt} (h : WF Z R) : ob Z 114 1 := h.sh 14 1 0 (by decide) rfl
theorem o_115 {Z : Zt} {R : Rt} (h : WF Z R) : ob Z 115 7 := h.sh 15 7 0 (by decide) rfl
theorem a_116 {Z : Zt} {R : Rt} (h : WF Z R) : ar Z 116 50 6 := h.sh 16 50 6 (by decide) rfl
theorem o_117 {Z : Zt} {R : Rt} (h : WF Z R) : ob Z 117 7 := h.sh 17 7 0 (by decide) rfl
theorem a_118 {Z : Zt} {R : Rt} (h : WF Z R) : ar Z 118 50 64 := h.sh 18 50 64 (by decide) rfl
theorem o_119 {Z : Zt} {R : Rt} (h : WF Z R) : ob Z 119 5 := h.sh 19 5 0 (by decide) rfl
theorem o_120 {Z : Zt} {R : Rt} (h : WF Z R) : ob Z 120 8 := h.sh 20 8 0 (by decide) rfl
theorem a_121 {Z : Zt} {R : Rt} (h : WF Z R) : ar Z 121 50 146 := h.sh 21 50 146 (by decide) rfl
theorem o_122 {Z : Zt} {R : Rt} (h : WF Z R) : ob Z 122 7 := h.sh 22 7 0 (by decide) rfl
theorem a_123 {Z : Zt} {R : Rt} (h : WF Z R) : ar Z 123 50 30 := h.sh 23 50 30 (by decide) rfl
theorem o_124 {Z : Zt} {R : Rt} (h : WF Z R) : ob Z 124 7 := h.sh 24 7 0 (by decide) rfl
theorem a_125 {Z : Zt} {R : Rt} (h : WF Z R) : ar Z 125 50 30 := h.sh 25 50 30 (by decide) rfl
theorem o_126 {Z : Zt} {R : Rt} (h : WF Z R) : ob Z 126 7 := h.sh 26 7 0 (by decide) rfl
theorem a_127 {Z : Zt} {R : Rt} (h : WF Z R) : ar Z 127 50 61 := h.sh 27 50 61 (by decide) rfl
theorem o_128 {Z : Zt} {R : Rt} (h : WF Z R) : ob Z 128 7 := h.sh 28 7 0 (by decide) rfl
theorem a_129 {Z : Zt} {R : Rt} (h : WF Z R) : ar Z 129 50 61 := h.sh 29 50 61 (by decide) rfl
theorem o_130 {Z : Zt} {R : Rt} (h : WF Z R) : ob Z 130 7 := h.sh 30 7 0 (by decide) rfl
theorem a_131 {Z : Zt} {R : Rt} (h : WF Z R) : ar Z 131 50 7 := h.sh 31 50 7 (by decide) rfl
theorem o_132 {Z : Zt} {R : Rt} (h : WF Z R) : ob Z 132 7 := h.sh 32 7 0 (by decide) rfl
theorem a_133 {Z : Zt} {R : Rt} (h : WF Z R) : ar Z 133 50 12 := h.sh 33 50 12 (by decide) rfl
theorem o_134 {Z : Zt} {R : Rt} (h : WF Z R) : ob Z 134 7 := h.sh 34 7 0 (by decide) rfl
theorem a_135 {Z : Zt} {R : Rt} (h : WF Z R) : ar Z 135 50 36 := h.sh 35 50 36 (by decide) rfl
theorem o_136 {Z : Zt} {R : Rt} (h : WF Z R) : ob Z 136 10 := h.sh 36 10 0 (by decide) rfl
theorem o_137 {Z : Zt} {R : Rt} (h : WF Z R) : ob Z 137 8 := h.sh 37 8 0 (by decide) rfl
theorem a_138 {Z : Zt} {R : Rt} (h : WF Z R) : ar Z 138 50 146 := h.sh 38 50 146 (by decide) rfl
theorem o_139 {Z : Zt} {R : Rt} (h : WF Z R) : ob Z 139 7 := h.sh 39 7 0 (by decide) rfl
theorem a_140 {Z : Zt} {R : Rt} (h : WF Z R) : ar Z 140 50 10 := h.sh 40 50 10 (by decide) rfl
theorem o_141 {Z : Zt} {R : Rt} (h : WF Z R) : ob Z 141 7 := h.sh 41 7 0 (by decide) rfl
theorem a_142 {Z : Zt} {R : Rt} (h : WF Z R) : ar Z 142 50 10 := h.sh 42 50 10 (by decide) rfl
theorem o_143 {Z : Zt} {R : Rt} (h : WF Z R) : ob Z 143 7 := h.sh 43 7 0 (by decide) rfl
theorem a_144 {Z : Zt} {R : Rt} (h : WF Z R) : ar Z 144 50 10 := h.sh 44 50 10 (by decide) rfl
theorem o_145 {Z : Zt} {R : Rt} (h : WF Z R) : ob Z 145 7 := h.sh 45 7 0 (by decide) rfl
theorem a_146 {Z : Zt} {R : Rt} (h : WF Z R) : ar Z 146 50 366 := h.sh 46 50 366 (by decide) rfl
theorem o_147 {Z : Zt} {R : Rt} (h : WF Z R) : ob Z 147 2 := h.sh 47 2 0 (by decide) rfl
theorem a_148 {Z : Zt} {R : Rt} (h : WF Z R) : ar Z 148 57 40 := h.sh 48 57 40 (by decide) rfl
theorem o_149 {Z : Zt} {R : Rt} (h : WF Z R) : ob Z 149 8 := h.sh 49 8 0 (by decide) rfl
theorem a_150 {Z : Zt} {R : Rt} (h : WF Z R) : ar Z 150 50 146 := h.sh 50 50 146 (by decide) rfl
theorem o_151 {Z : Zt} {R : Rt} (h : WF Z R) : ob Z 151 8 := h.sh 51 8 0 (by decide) rfl
theorem a_152 {Z : Zt} {R : Rt} (h : WF Z R) : ar Z 152 50 146 := h.sh 52 50 146 (by decide) rfl
theorem o_153 {Z : Zt} {R : Rt} (h : WF Z R) : ob Z 153 8 := h.sh 53 8 0 (by decide) rfl
theorem a_154 {Z : Zt} {R : Rt} (h : WF Z R) : ar Z 154 50 146 := h.sh 54 50 146 (by decide) rfl
theorem o_155 {Z : Zt} {R : Rt} (h : WF Z R) : ob Z 155 8 := h.sh 55 8 0 (by decide) rfl
theorem a_156 {Z : Zt} {R : Rt} (h : WF Z R) : ar Z 156 50 146 := h.sh 56 50 146 (by decide) rfl
theorem o_157 {Z : Zt} {R : Rt} (h : WF Z R) : ob Z 157 8 := h.sh 57 8 0 (by decide) rfl
theorem a_158 {Z : Zt} {R : Rt} (h : WF Z R) : ar Z 158 50 146 := h.sh 58 50 146 (by decide) rfl
theorem o_159 {Z : Zt} {R : Rt} (h : WF Z R) : ob Z 159 8 := h.sh 59 8 0 (by decide) rfl
theorem a_160 {Z : Zt} {R : Rt} (h : WF Z R) : ar Z 160 50 146 := h.sh 60 50 146 (by decide) rfl
theorem o_161 {Z : Zt} {R : Rt} (h : WF Z R) : ob Z 161 8 := h.sh 61 8 0 (by decide) rfl
theorem a_162 {Z : Zt} {R : Rt} (h : WF Z R) : ar Z 162 50 146 := h.sh 62 50 146 (by decide) rfl
theorem o_163 {Z : Zt} {R : Rt} (h : WF Z R) : ob Z 163 8 := h.sh 63 8 0 (by decide) rfl
theorem a_164 {Z : Zt} {R : Rt} (h : WF Z R) : ar Z 164 50 146 := h.sh 64 50 146 (by decide) rfl
theorem o_165 {Z : Zt} {R : Rt} (h : WF Z R) : ob Z 165 8 := h.sh 65 8 0 (by decide) rfl
theorem a_166 {Z : Zt} {R : Rt} (h : WF Z R) : ar Z 166 50 146 := h.sh 66 50 146 (by decide) rfl
theorem o_167 {Z : Zt} {R : Rt} (h : WF Z R) : ob Z 167 8 := h.sh 67 8 0 (by decide) rfl
theorem a_168 {Z : Zt} {R : Rt} (h : WF Z R) : ar Z 168 50 146 := h.sh 68 50 146 (by decide) rfl
theorem o_169 {Z : Zt} {R : Rt} (h : WF Z R) : ob Z 169 8 := h.sh 69 8 0 (by decide) rfl
theorem a_170 {Z : Zt} {R : Rt} (h : WF Z R) : ar Z 170 50 146 := h.sh 70 50 146 (by decide) rfl
theorem o_171 {Z : Zt} {R : Rt} (h : WF Z R) : ob Z 171 8 := h.sh 71 8 0 (by decide) rfl
theorem a_172 {Z : Zt} {R : Rt} (h : WF Z R) : ar Z 172 50 146 := h.sh 72 50 146 (by decide) rfl
theorem o_173 {Z : Zt} {R : Rt} (h : WF Z R) : ob Z 173 8 := h.sh 73 8 0 (by decide) rfl
theorem a_174 {Z : Zt} {R : Rt} (h : WF Z R) : ar Z 174 50 146 := h.sh 74 50 146 (by decide) rfl
theorem o_175 {Z : Zt} {R : Rt} (h : WF Z R) : ob Z 175 8 := h.sh 75 8 0 (by decide) rfl
theorem a_176 {Z : Zt} {R : Rt} (h : WF Z R) : ar Z 176 50 146 := h.sh 76 50 146 (by decide) rfl
theorem o_177 {Z : Zt} {R : Rt} (h : WF Z R) : ob Z 177 8 := h.sh 77 8 0 (by decide) rfl
theorem a_178 {Z : Zt} {R : Rt} (h : WF Z R) : ar Z 178 50 146 := h.sh 78 50 146 (by decide) rfl
theorem o_179 {Z : Zt} {R : Rt} (h : WF Z R) : ob Z 179 8 := h.sh 79 8 0 (by decide) rfl
theorem a_180 {Z : Zt} {R : Rt} (h : WF Z R) : ar Z 180 50 146 := h.sh 80 50 146 (by decide) rfl
theorem o_181 {Z : Zt} {R : Rt} (h : WF Z R) : ob Z 181 8 := h.sh 81 8 0 (by decide) rfl
theorem a_182 {Z : Zt} {R : Rt} (h : WF Z R) : ar Z 182 50 146 := h.sh 82 50 146 (by decide) rfl
theorem o_183 {Z : Zt} {R : Rt} (h : WF Z R) : ob Z 183 8 := h.sh 83 8 0 (by decide) rfl
theorem a_184 {Z : Zt} {R : Rt} (h : WF Z R) : ar Z 184 50 146 := h.sh 84 50 146 (by decide) rfl
theorem o_185 {Z : Zt} {R : Rt} (h : WF Z R) : ob Z 185 8 := h.sh 85 8 0 (by decide) rfl
theorem a_186 {Z : Zt} {R : Rt} (h : WF Z R) : ar Z 186 50 146 := h.sh 86 50 146 (by decide) rfl
theorem o_187 {Z : Zt} {R : Rt} (h : WF Z R) : ob Z 187 8 := h.sh 87 8 0 (by decide) rfl
theorem a_188 {Z : Zt} {R : Rt} (h : WF Z R) : ar Z 188 50 146 := h.sh 88 50 146 (by decide) rfl
theorem o_189 {Z : Zt} {R : Rt} (h : WF Z R) : ob Z 189 8 := h.sh 89 8 0 (by decide) rfl
theorem a_190 {Z : Zt} {R : Rt} (h : WF Z R) : ar Z 190 50 146 := h.sh 90 50 146 (by decide) rfl
theorem o_191 {Z : Zt} {R : Rt} (h : WF Z R) : ob Z 191 8 := h.sh 91 8 0 (by decide) rfl
theorem a_192 {Z : Zt} {R : Rt} (h : WF Z R) : ar Z 192 50 146 := h.sh 92 50 146 (by decide) rfl
theorem o_193 {Z : Zt} {R : Rt} (h : WF Z R) : ob Z 193 8 := h.sh 93 8 0 (by decide) rfl
theorem a_194 {Z : Zt} {R : Rt} (h : WF Z R) : ar Z 194 50 146 := h.sh 94 50 146 (by decide) rfl
theorem o_195 {Z : Zt} {R : Rt} (h : WF Z R) : ob Z 195 8 := h.sh 95 8 0 (by decide) rfl
theorem a_196 {Z : Zt} {R : Rt} (h : WF Z R) : ar Z 196 50 146 := h.sh 96 50 146 (by decide) rfl
theorem o_197 {Z : Zt} {R : Rt} (h : WF Z R) : ob Z 197 8 := h.sh 97 8 0 (by decide) rfl
theorem a_198 {Z : Zt} {R : Rt} (h : WF Z R) : ar Z 198 50 146 := h.sh 98 50 146 (by decide) rfl
theorem o_199 {Z : Zt} {R : Rt} (h : WF Z R) : ob Z 199 8 := h.sh 99 8 0 (by decide) rfl
theorem a_200 {Z : Zt} {R : Rt} (h : WF Z R) : ar Z 200 50 146 := h.sh 100 50 146 (by decide) rfl
theorem o_201 {Z : Zt} {R : Rt} (h : WF Z R) : ob Z 201 8 := h.sh 101 8 0 (by decide) rfl
theorem a_202 {Z : Zt} {R : Rt} (h : WF Z R) : ar Z 202 50 146 := h.sh 102 50 146 (by decide) rfl
theorem o_203 {Z : Zt} {R : Rt} (h : WF Z R) : ob Z 203 8 := h.sh 103 8 0 (by decide) rfl
theorem a_204 {Z : Zt} {R : Rt} (h : WF Z R) : ar Z 204 50 146 := h.sh 104 50 146 (by decide) rfl
theorem o_205 {Z : Zt} {R : Rt} (h : WF Z R) : ob Z 205 8 := h.sh 105 8 0 (by decide) rfl
theorem a_206 {Z : Zt} {R : Rt} (h : WF Z R) : ar Z 206 50 146 := h.sh 106 50 146 (by decide) rfl
theorem o_207 {Z : Zt} {R : Rt} (h : WF Z R) : ob Z 207 8 := h.sh 107 8 0 (by decide) rfl
theorem a_208 {Z : Zt} {R : Rt} (h : WF Z R) : ar Z 208 50 146 := h.sh 108 50 146 (by decide) rfl
theorem o_209 {Z : Zt} {R : Rt} (h : WF Z R) : ob Z 209 8 := h.sh 109 8 0 (by decide) rfl
theorem a_210 {Z : Zt} {R : Rt} (h : WF Z R) : ar Z 210 50 146 := h.sh 110 50 146 (by decide) rfl
theorem o_211 {Z : Zt} {R : Rt} (h : WF Z R) : ob Z 211 8 := h.sh 111 8 0 (by decide) rfl
theorem a_212 {Z : Zt} {R : Rt} (h : WF Z R) : ar Z 212 50 146 := h.sh 112 50 146 (by decide) rfl
theorem o_213 {Z : Zt} {R : Rt} (h : WF Z R) : ob Z 213 8 := h.sh 113 8 0 (by decide) rfl
theorem a_214 {Z : Zt} {R : Rt} (h : WF Z R) : ar Z 214 50 146 := h.sh 114 50 146 (by decide) rfl
theorem o_215 {Z : Zt} {R : Rt} (h : WF Z R) : ob Z 215 8 := h.sh 115 8 0 (by decide) rfl
theorem a_216 {Z : Zt} {R : Rt} (h : WF Z R) : ar Z 216 50 146 := h.sh 116 50 146 (by decide) rfl
theorem o_217 {Z : Zt} {R : Rt} (h : WF Z R) : ob Z 217 8 := h.sh 117 8 0 (by decide) rfl
theorem a_218 {Z : Zt} {R : Rt} (h : WF Z R) : ar Z 218 50 146 := h.sh 118 50 146 (by decide) rfl
theorem o_219 {Z : Zt} {R : Rt} (h : WF Z R) : ob Z 219 8 := h.sh 119 8 0 (by decide) rfl
theorem a_220 {Z : Zt} {R : Rt} (h : WF Z R) : ar Z 220 50 146 := h.sh 120 50 146 (by decide) rfl
theorem o_221 {Z : Zt} {R : Rt} (h : WF Z R) : ob Z 221 8 := h.sh 121 8 0 (by decide) rfl
theorem a_222 {Z : Zt} {R : Rt} (h : WF Z R) : ar Z 222 50 146 := h.sh 122 50 146 (by decide) rfl
theorem o_223 {Z : Zt} {R : Rt} (h : WF Z R) : ob Z 223 8 := h.sh 123 8 0 (by decide) rfl
theorem a_224 {Z : Zt} {R : Rt} (h : WF Z R) : ar Z 224 50 146 := h.sh 124 50 146 (by decide) rfl
theorem o_225 {Z : Zt} {R : Rt} (h : WF Z R) : ob Z 225 8 := h.sh 125 8 0 (by decide) rfl
theorem a_226 {Z : Zt} {R : Rt} (h : WF Z R) : ar Z 226 50 146 := h.sh 126 50 146 (by decide) rfl
theorem o_227 {Z : Zt} {R : Rt} (h : WF Z R) : ob Z 227 8 := h.sh 127 8 0 (by decide) rfl
theorem a_228 {Z : Zt} {R : Rt} (h : WF Z R) : ar Z 228 50 146 := h.sh 128 50 146 (by decide) rfl
theorem o_229 {Z : Zt} {R : Rt} (h : WF Z R) : ob Z 229 8 := h.sh 129 8 0 (by decide) rfl
theorem a_230 {Z : Zt} {R : Rt} (h : WF Z R) : ar Z 230 50 146 := h.sh 130 50 146 (by decide) rfl
theorem o_231 {Z : Zt} {R : Rt} (h : WF Z R) : ob Z 231 8 := h.sh 131 8 0 (by decide) rfl
theorem a_232 {Z : Zt} {R : Rt} (h : WF Z R) : ar Z 232 50 146 := h.sh 132 50 146 (by decide) rfl
theorem o_233 {Z : Zt} {R : Rt} (h : WF Z R) : ob Z 233 3 := h.sh 133 3 0 (by decide) rfl
theorem a_234 {Z : Zt} {R : Rt} (h : WF Z R) : ar Z 234 50 240 := h.sh 134 50 240 (by decide) rfl
theorem o_235 {Z : Zt} {R : Rt} (h : WF Z R) : ob Z 235 3 := h.sh 135 3 0 (by decide) rfl
theorem a_236 {Z : Zt} {R : Rt} (h : WF Z R) : ar Z 236 50 240 := h.sh 136 50 240 (by decide) rfl
theorem o_237 {Z : Zt} {R : Rt} (h : WF Z R) : ob Z 237 3 := h.sh 137 3 0 (by decide) rfl
theorem a_238 {Z : Zt} {R : Rt} (h : WF Z R) : ar Z 238 50 240 := h.sh 138 50 240 (by decide) rfl
theorem o_239 {Z : Zt} {R : Rt} (h : WF Z R) : ob Z 239 3 := h.sh 139 3 0 (by decide) rfl
theorem a_240 {Z : Zt} {R : Rt} (h : WF Z R) : ar Z 240 50 240 := h.sh 140 50 240 (by decide) rfl
theorem o_241 {Z : Zt} {R : Rt} (h : WF Z R) : ob Z 241 3 := h.sh 141 3 0 (by decide) rfl
theorem a_242 {Z : Zt} {R : Rt} (h : WF Z R) : ar Z 242 50 240 := h.sh 142 50 240 (by decide) rfl
theorem o_243 {Z : Zt} {R : Rt} (h : WF Z R) : ob Z 243 0 := h.sh 143 0 0 (by decide) rfl
theorem a_244 {Z : Zt} {R : Rt} (h : WF Z R) : ar Z 244 50 60 := h.sh 144 50 60 (by decide) rfl
theorem o_245 {Z : Zt} {R : Rt} (h : WF Z R) : ob Z 245 0 := h.sh 145 0 0 (by decide) rfl
theorem a_246 {Z : Zt} {R : Rt} (h : WF Z R) : ar Z 246 50 60 := h.sh 146 50 60 (by decide) rfl
theorem o_247 {Z : Zt} {R : Rt} (h : WF Z R) : ob Z 247 0 := h.sh 147 0 0 (by decide) rfl
theorem a_248 {Z : Zt} {R : Rt} (h : WF Z R) : ar Z 248 50 60 := h.sh 148 50 60 (by decide) rfl
theorem o_249 {Z : Zt} {R : Rt} (h : WF Z R) : ob Z 249 0 := h.sh 149 0 0 (by decide) rfl
theorem a_250 {Z : Zt} {R : Rt} (h : WF Z R) : ar Z 250 50 60 := h.sh 150 50 60 (by decide) rfl
theorem o_251 {Z : Zt} {R : Rt} (h : WF Z R) : ob Z 251 0 := h.sh 151 0 0 (by decide) rfl
theorem a_252 {Z : Zt} {R : Rt} (h : WF Z R) : ar Z 252 50 60 := h.sh 152 50 60 (by decide) rfl
theorem o_253 {Z : Zt} {R : Rt} (h : WF Z R) : ob Z 253 12 := h.sh 153 12 0 (by decide) rfl
theorem a_254 {Z : Zt} {R : Rt} (h : WF Z R) : ar Z 254 51 240 := h.sh 154 51 240 (by decide) rfl
theorem a_255 {Z : Zt} {R : Rt} (h : WF Z R) : ar Z 255 51 960 := h.sh 155 51 960 (by decide) rfl
theorem a_256 {Z : Zt} {R : Rt} (h : WF Z R) : ar Z 256 50 4 := h.sh 156 50 4 (by decide) rfl
theorem a_257 {Z : Zt} {R : Rt} (h : WF Z R) : ar Z 257 50 128 := h.sh 157 50 128 (by decide) rfl
theorem a_258 {Z : Zt} {R : Rt} (h : WF Z R) : ar Z 258 50 3 := h.sh 158 50 3 (by decide) rfl
theorem a_259 {Z : Zt} {R : Rt} (h : WF Z R) : ar Z 259 50 3 := h.sh 159 50 3 (by decide) rfl
theorem a_260 {Z : Zt} {R : Rt} (h : WF Z R) : ar Z 260 50 12 := h.sh 160 50 12 (by decide) rfl
theorem a_261 {Z : Zt} {R : Rt} (h : WF Z R) : ar Z 261 50 12 := h.sh 161 50 12 (by decide) rfl
theorem a_262 {Z : Zt} {R : Rt} (h : WF Z R) : ar Z 262 50 18 := h.sh 162 50 18 (by decide) rfl
theorem a_263 {Z : Zt} {R : Rt} (h : WF Z R) : ar Z 263 50 18 := h.sh 163 50 18 (by decide) rfl
theorem a_264 {Z : Zt} {R : Rt} (h : WF Z R) : ar Z 264 50 300 := h.sh 164 50 300 (by decide) rfl
theorem a_265 {Z : Zt} {R : Rt} (h : WF Z R) : ar Z 265 50 5 := h.sh 165 50 5 (by decide) rfl
theorem a_266 {Z : Zt} {R : Rt} (h : WF Z R) : ar Z 266 50 417 := h.sh 166 50 417 (by decide) rfl
theorem a_267 {Z : Zt} {R : Rt} (h : WF Z R) : ar Z 267 50 236 := h.sh 167 50 236 (by decide) rfl
theorem a_268 {Z : Zt} {R : Rt} (h : WF Z R) : ar Z 268 50 5 := h.sh 168 50 5 (by decide) rfl
theorem a_269 {Z : Zt} {R : Rt} (h : WF Z R) : ar Z 269 54 8191 := h.sh 169 54 8191 (by decide) rfl
theorem a_270 {Z : Zt} {R : Rt} (h : WF Z R) : ar Z 270 50 8191 := h.sh 170 50 8191 (by decide) rfl
theorem a_271 {Z : Zt} {R : Rt} (h : WF Z R) : ar Z 271 50 16680 := h.sh 171 50 16680 (by decide) rfl
theorem a_272 {Z : Zt} {R : Rt} (h : WF Z R) : ar Z 272 50 732 := h.sh 172 50 732 (by decide) rfl
theorem a_273 {Z : Zt} {R : Rt} (h : WF Z R) : ar Z 273 50 30 := h.sh 173 50 30 (by decide) rfl
theorem a_274 {Z : Zt} {R : Rt} (h : WF Z R) : ar Z 274 50 366 := h.sh 174 50 366 (by decide) rfl
theorem a_275 {Z : Zt} {R : Rt} (h : WF Z R) : ar Z 275 52 6 := h.sh 175 52 6 (by decide) rfl
theorem a_276 {Z : Zt} {R : Rt} (h : WF Z R) : ar Z 276 50 72 := h.sh 176 50 72 (by decide) rfl
theorem a_277 {Z : Zt} {R : Rt} (h : WF Z R) : ar Z 277 50 30 := h.sh 177 50 30 (by decide) rfl
theorem a_278 {Z : Zt} {R : Rt} (h : WF Z R) : ar Z 278 50 417 := h.sh 178 50 417 (by decide) rfl
theorem a_279 {Z : Zt} {R : Rt} (h : WF Z R) : ar Z 279 54 1 := h.sh 179 54 1 (by decide) rfl
theorem r_100_0 {Z : Zt} {R : Rt} (h : WF Z R) : R 100 0 = some 101 := h.2.2 0 (100, 0, 101) rfl
theorem r_100_1 {Z : Zt} {R : Rt} (h : WF Z R) : R 100 1 = some 103 := h.2.2 1 (100, 1, 103) rfl
theorem r_100_2 {Z : Zt} {R : Rt} (h : WF Z R) : R 100 2 = some 105 := h.2.2 2 (100, 2, 105) rfl
theorem r_100_3 {Z : Zt} {R : Rt} (h : WF Z R) : R 100 3 = some 107 := h.2.2 3 (100, 3, 107) rfl
theorem r_100_4 {Z : Zt} {R : Rt} (h : WF Z R) : R 100 4 = some 110 := h.2.2 4 (100, 4, 110) rfl
theorem r_100_5 {Z : Zt} {R : Rt} (h : WF Z R) : R 100 5 = some 111 := h.2.2 5 (100, 5, 111) rfl
theorem r_100_6 {Z : Zt} {R : Rt} (h : WF Z R) : R 100 6 = some 112 := h.2.2 6 (100, 6, 112) rfl
theorem r_100_7 {Z : Zt} {R : Rt} (h : WF Z R) : R 100 7 = some 114 := h.2.2 7 (100, 7, 114) rfl
theorem r_100_8 {Z : Zt} {R : Rt} (h : WF Z R) : R 100 8 = some 119 := h.2.2 8 (100, 8, 119) rfl
theorem r_100_9 {Z : Zt} {R : Rt} (h : WF Z R) : R 100 9 = some 136 := h.2.2 9 (100, 9, 136) rfl
theorem r_100_10 {Z : Zt} {R : Rt} (h : WF Z R) : R 100 10 = some 147 := h.2.2 10 (100, 10, 147) rfl
theorem r_100_11 {Z : Zt} {R : Rt} (h : WF Z R) : R 100 11 = some 229 := h.2.2 11 (100, 11, 229) rfl
theorem r_100_12 {Z : Zt} {R : Rt} (h : WF Z R) : R 100 12 = some 231 := h.2.2 12 (100, 12, 231) rfl
theorem r_101_0 {Z : Zt} {R : Rt} (h : WF Z R) : R 101 0 = some 102 := h.2.2 13 (101, 0, 102) rfl
theorem r_103_0 {Z : Zt} {R : Rt} (h : WF Z R) : R 103 0 = some 104 := h.2.2 14 (103, 0, 104) rfl
theorem r_105_0 {Z : Zt} {R : Rt} (h : WF Z R) : R 105 0 = some 106 := h.2.2 15 (105, 0, 106) rfl
theorem r_107_0 {Z : Zt} {R : Rt} (h : WF Z R) : R 107 0 = some 108 := h.2.2 16 (107, 0, 108) rfl
theorem r_108_0 {Z : Zt} {R : Rt} (h : WF Z R) : R 108 0 = some 109 := h.2.2 17 (108, 0, 109) rfl
theorem r_110_0 {Z : Zt} {R : Rt} (h : WF Z R) : R 110 0 = some 233 := h.2.2 18 (110, 0, 233) rfl
theorem r_110_1 {Z : Zt} {R : Rt} (h : WF Z R) : R 110 1 = some 235 := h.2.2 19 (110, 1, 235) rfl
theorem r_110_2 {Z : Zt} {R : Rt} (h : WF Z R) : R 110 2 = some 237 := h.2.2 20 (110, 2, 237) rfl
theorem r_110_3 {Z : Zt} {R : Rt} (h : WF Z R) : R 110 3 = some 239 := h.2.2 21 (110, 3, 239) rfl
theorem r_110_4 {Z : Zt} {R : Rt} (h : WF Z R) : R 110 4 = some 241 := h.2.2 22 (110, 4, 241) rfl
theorem r_111_0 {Z : Zt} {R : Rt} (h : WF Z R) : R 111 0 = some 243 := h.2.2 23 (111, 0, 243) rfl
theorem r_111_1 {Z : Zt} {R : Rt} (h : WF Z R) : R 111 1 = some 245 := h.2.2 24 (111, 1, 245) rfl
theorem r_111_2 {Z : Zt} {R : Rt} (h : WF Z R) : R 111 2 = some 247 := h.2.2 25 (111, 2, 247) rfl
theorem r_111_3 {Z : Zt} {R : Rt} (h : WF Z R) : R 111 3 = some 249 := h.2.2 26 (111, 3, 249) rfl
theorem r_111_4 {Z : Zt} {R : Rt} (h : WF Z R) : R 111 4 = some 251 := h.2.2 27 (111, 4, 251) rfl
theorem r_112_0 {Z : Zt} {R : Rt} (h : WF Z R) : R 112 0 = some 113 := h.2.2 28 (112, 0, 113) rfl
theorem r_114_0 {Z : Zt} {R : Rt} (h : WF Z R) : R 114 0 = some 103 := h.2.2 29 (114, 0, 103) rfl
theorem r_114_1 {Z : Zt} {R : Rt} (h : WF Z R) : R 114 1 = some 115 := h.2.2 30 (114, 1, 115) rfl
theorem r_114_2 {Z : Zt} {R : Rt} (h : WF Z R) : R 114 2 = some 117 := h.2.2 31 (114, 2, 117) rfl
theorem r_115_0 {Z : Zt} {R : Rt} (h : WF Z R) : R 115 0 = some 116 := h.2.2 32 (115, 0, 116) rfl
theorem r_117_0 {Z : Zt} {R : Rt} (h : WF Z R) : R 117 0 = some 118 := h.2.2 33 (117, 0, 118) rfl
theorem r_119_0 {Z : Zt} {R : Rt} (h : WF Z R) : R 119 0 = some 103 := h.2.2 34 (119, 0, 103) rfl
theorem r_119_1 {Z : Zt} {R : Rt} (h : WF Z R) : R 119 1 = some 114 := h.2.2 35 (119, 1, 114) rfl
theorem r_119_2 {Z : Zt} {R : Rt} (h : WF Z R) : R 119 2 = some 120 := h.2.2 36 (119, 2, 120) rfl
theorem r_119_3 {Z : Zt} {R : Rt} (h : WF Z R) : R 119 3 = some 122 := h.2.2 37 (119, 3, 122) rfl
theorem r_119_4 {Z : Zt} {R : Rt} (h : WF Z R) : R 119 4 = some 124 := h.2.2 38 (119, 4, 124) rfl
theorem r_119_5 {Z : Zt} {R : Rt} (h : WF Z R) : R 119 5 = some 126 := h.2.2 39 (119, 5, 126) rfl
theorem r_119_6 {Z : Zt} {R : Rt} (h : WF Z R) : R 119 6 = some 128 := h.2.2 40 (119, 6, 128) rfl
theorem r_119_7 {Z : Zt} {R : Rt} (h : WF Z R) : R 119 7 = some 130 := h.2.2 41 (119, 7, 130) rfl
theorem r_119_8 {Z : Zt} {R : Rt} (h : WF Z R) : R 119 8 = some 132 := h.2.2 42 (119, 8, 132) rfl
theorem r_119_9 {Z : Zt} {R : Rt} (h : WF Z R) : R 119 9 = some 134 := h.2.2 43 (119, 9, 134) rfl
theorem r_120_0 {Z : Zt} {R : Rt} (h : WF Z R) : R 120 0 = some 121 := h.2.2 44 (120, 0, 121) rfl
theorem r_122_0 {Z : Zt} {R : Rt} (h : WF Z R) : R 122 0 = some 123 := h.2.2 45 (122, 0, 123) rfl
theorem r_124_0 {Z : Zt} {R : Rt} (h : WF Z R) : R 124 0 = some 125 := h.2.2 46 (124, 0, 125) rfl
theorem r_126_0 {Z : Zt} {R : Rt} (h : WF Z R) : R 126 0 = some 127 := h.2.2 47 (126, 0, 127) rfl
theorem r_128_0 {Z : Zt} {R : Rt} (h : WF Z R) : R 128 0 = some 129 := h.2.2 48 (128, 0, 129) rfl
theorem r_130_0 {Z : Zt} {R : Rt} (h : WF Z R) : R 130 0 = some 131 := h.2.2 49 (130, 0, 131) rfl
theorem r_132_0 {Z : Zt} {R : Rt} (h : WF Z R) : R 132 0 = some 133 := h.2.2 50 (132, 0, 133) rfl
theorem r_134_0 {Z : Zt} {R : Rt} (h : WF Z R) : R 134 0 = some 135 := h.2.2 51 (134, 0, 135) rfl
theorem r_136_0 {Z : Zt} {R : Rt} (h : WF Z R) : R 136 0 = some 103 := h.2.2 52 (136, 0, 103) rfl
theorem r_136_1 {Z : Zt} {R : Rt} (h : WF Z R) : R 136 1 = some 114 := h.2.2 53 (136, 1, 114) rfl
theorem r_136_2 {Z : Zt} {R : Rt} (h : WF Z R) : R 136 2 = some 137 := h.2.2 54 (136, 2, 137) rfl
theorem r_136_3 {Z : Zt} {R : Rt} (h : WF Z R) : R 136 3 = some 139 := h.2.2 55 (136, 3, 139) rfl
theorem r_136_4 {Z : Zt} {R : Rt} (h : WF Z R) : R 136 4 = some 141 := h.2.2 56 (136, 4, 141) rfl
theorem r_136_5 {Z : Zt} {R : Rt} (h : WF Z R) : R 136 5 = some 143 := h.2.2 57 (136, 5, 143) rfl
theorem r_136_6 {Z : Zt} {R : Rt} (h : WF Z R) : R 136 6 = some 145 := h.2.2 58 (136, 6, 145) rfl
theorem r_137_0 {Z : Zt} {R : Rt} (h : WF Z R) : R 137 0 = some 138 := h.2.2 59 (137, 0, 138) rfl
theorem r_139_0 {Z : Zt} {R : Rt} (h : WF Z R) : R 139 0 = some 140 := h.2.2 60 (139, 0, 140) rfl
theorem r_141_0 {Z : Zt} {R : Rt} (h : WF Z R) : R 141 0 = some 142 := h.2.2 61 (141, 0, 142) rfl
theorem r_143_0 {Z : Zt} {R : Rt} (h : WF Z R) : R 143 0 = some 144 := h.2.2 62 (143, 0, 144) rfl
theorem r_145_0 {Z : Zt} {R : Rt} (h : WF Z R) : R 145 0 = some 146 := h.2.2 63 (145, 0, 146) rfl
theorem r_147_0 {Z : Zt} {R : Rt} (h : WF Z R) : R 147 0 = some 148 := h.2.2 64 (147, 0, 148) rfl
theorem r_149_0 {Z : Zt} {R : Rt} (h : WF Z R) : R 149 0 = some 150 := h.2.2 105 (149, 0, 150) rfl
theorem r_151_0 {Z : Zt} {R : Rt} (h : WF Z R) : R 151 0 = some 152 := h.2.2 106 (151, 0, 152) rfl
theorem r_153_0 {Z : Zt} {R : Rt} (h : WF Z R) : R 153 0 = some 154 := h.2.2 107 (153, 0, 154) rfl
theorem r_155_0 {Z : Zt} {R : Rt} (h : WF Z R) : R 155 0 = some 156 := h.2.2 108 (155, 0, 156) rfl
theorem r_157_0 {Z : Zt} {R : Rt} (h : WF Z R) : R 157 0 = some 158 := h.2.2 109 (157, 0, 158) rfl
theorem r_159_0 {Z : Zt} {R : Rt} (h : WF Z R) : R 159 0 = some 160 := h.2.2 110 (159, 0, 160) rfl
theorem r_161_0 {Z : Zt} {R : Rt} (h : WF Z R) : R 161 0 = some 162 := h.2.2 111 (161, 0, 162) rfl
theorem r_163_0 {Z : Zt} {R : Rt} (h : WF Z R) : R 163 0 = some 164 := h.2.2 112 (163, 0, 164) rfl
theorem r_165_0 {Z : Zt} {R : Rt} (h : WF Z R) : R 165 0 = some 166 := h.2.2 113 (165, 0, 166) rfl
theorem r_167_0 {Z : Zt} {R : Rt} (h : WF Z R) : R 167 0 = some 168 := h.2.2 114 (167, 0, 168) rfl
theorem r_169_0 {Z : Zt} {R : Rt} (h : WF Z R) : R 169 0 = some 170 := h.2.2 115 (169, 0, 170) rfl
theorem r_171_0 {Z : Zt} {R : Rt} (h : WF Z R) : R 171 0 = some 172 := h.2.2 116 (171, 0, 172) rfl
theorem r_173_0 {Z : Zt} {R : Rt} (h : WF Z R) : R 173 0 = some 174 := h.2.2 117 (173, 0, 174) rfl
theorem r_175_0 {Z : Zt} {R : Rt} (h : WF Z R) : R 175 0 = some 176 := h.2.2 118 (175, 0, 176) rfl
theorem r_177_0 {Z : Zt} {R : Rt} (h : WF Z R) : R 177 0 = some 178 := h.2.2 119 (177, 0, 178) rfl
theorem r_179_0 {Z : Zt} {R : Rt} (h : WF Z R) : R 179 0 = some 180 := h.2.2 120 (179, 0, 180) rfl
theorem r_181_0 {Z : Zt} {R : Rt} (h : WF Z R) : R 181 0 = some 182 := h.2.2 121 (181, 0, 182) rfl
theorem r_183_0 {Z : Zt} {R : Rt} (h : WF Z R) : R 183 0 = some 184 := h.2.2 122 (183, 0, 184) rfl
theorem r_185_0 {Z : Zt} {R : Rt} (h : WF Z R) : R 185 0 = some 186 := h.2.2 123 (185, 0, 186) rfl
theorem r_187_0 {Z : Zt} {R : Rt} (h : WF Z R) : R 187 0 = some 188 := h.2.2 124 (187, 0, 188) rfl
theorem r_189_0 {Z : Zt} {R : Rt} (h : WF Z R) : R 189 0 = some 190 := h.2.2 125 (189, 0, 190) rfl
theorem r_191_0 {Z : Zt} {R : Rt} (h : WF Z R) : R 191 0 = some 192 := h.2.2 126 (191, 0, 192) rfl
theorem r_193_0 {Z : Zt} {R : Rt} (h : WF Z R) : R 193 0 = some 194 := h.2.2 127 (193, 0, 194) rfl
theorem r_195_0 {Z : Zt} {R : Rt} (h : WF Z R) : R 195 0 = some 196 := h.2.2 128 (195, 0, 196) rfl
theorem r_197_0 {Z : Zt} {R : Rt} (h : WF Z R) : R 197 0 = some 198 := h.2.2 129 (197, 0, 198) rfl
theorem r_199_0 {Z : Zt} {R : Rt} (h : WF Z R) : R 199 0 = some 200 := h.2.2 130 (199, 0, 200) rfl
theorem r_201_0 {Z : Zt} {R : Rt} (h : WF Z R) : R 201 0 = some 202 := h.2.2 131 (201, 0, 202) rfl
theorem r_203_0 {Z : Zt} {R : Rt} (h : WF Z R) : R 203 0 = some 204 := h.2.2 132 (203, 0, 204) rfl
theorem r_205_0 {Z : Zt} {R : Rt} (h : WF Z R) : R 205 0 = some 206 := h.2.2 133 (205, 0, 206) rfl
theorem r_207_0 {Z : Zt} {R : Rt} (h : WF Z R) : R 207 0 = some 208 := h.2.2 134 (207, 0, 208) rfl
theorem r_209_0 {Z : Zt} {R : Rt} (h : WF Z R) : R 209 0 = some 210 := h.2.2 135 (209, 0, 210) rfl
theorem r_211_0 {Z : Zt} {R : Rt} (h : WF Z R) : R 211 0 = some 212 := h.2.2 136 (211, 0, 212) rfl
theorem r_213_0 {Z : Zt} {R : Rt} (h : WF Z R) : R 213 0 = some 214 := h.2.2 137 (213, 0, 214) rfl
theorem r_215_0 {Z : Zt} {R : Rt} (h : WF Z R) : R 215 0 = some 216 := h.2.2 138 (215, 0, 216) rfl
theorem r_217_0 {Z : Zt} {R : Rt} (h : WF Z R) : R 217 0 = some 218 := h.2.2 139 (217, 0, 218) rfl
theorem r_219_0 {Z : Zt} {R : Rt} (h : WF Z R) : R 219 0 = some 220 := h.2.2 140 (219, 0, 220) rfl
theorem r_221_0 {Z : Zt} {R : Rt} (h : WF Z R) : R 221 0 = some 222 := h.2.2 141 (221, 0, 222) rfl
theorem r_223_0 {Z : Zt} {R : Rt} (h : WF Z R) : R 223 0 = some 224 := h.2.2 142 (223, 0, 224) rfl
theorem r_225_0 {Z : Zt} {R : Rt} (h : WF Z R) : R 225 0 = some 226 := h.2.2 143 (225, 0, 226) rfl
theorem r_227_0 {Z : Zt} {R : Rt} (h : WF Z R) : R 227 0 = some 228 := h.2.2 144 (227, 0, 228) rfl
theorem r_229_0 {Z : Zt} {R : Rt} (h : WF Z R) : R 229 0 = some 230 := h.2.2 145 (229, 0, 230) rfl
theorem r_231_0 {Z : Zt} {R : Rt} (h : WF Z R) : R 231 0 = some 232 := h.2.2 146 (231, 0, 232) rfl
theorem r_233_0 {Z : Zt} {R : Rt} (h : WF Z R) : R 233 0 = some 234 := h.2.2 147 (233, 0, 234) rfl
theorem r_235_0 {Z : Zt} {R : Rt} (h : WF Z R) : R 235 0 = some 236 := h.2.2 148 (235, 0, 236) rfl
theorem r_237_0 {Z : Zt} {R : Rt} (h : WF Z R) : R 237 0 = some 238 := h.2.2 149 (237, 0, 238) rfl
theorem r_239_0 {Z : Zt} {R : Rt} (h : WF Z R) : R 239 0 = some 240 := h.2.2 150 (239, 0, 240) rfl
theorem r_241_0 {Z : Zt} {R : Rt} (h : WF Z R) : R 241 0 = some 242 := h.2.2 151 (241, 0, 242) rfl
theorem r_243_0 {Z : Zt} {R : Rt} (h : WF Z R) : R 243 0 = some 244 := h.2.2 152 (243, 0, 244) rfl
theorem r_245_0 {Z : Zt} {R : Rt} (h : WF Z R) : R 245 0 = some 246 := h.2.2 153 (245, 0, 246) rfl
theorem r_247_0 {Z : Zt} {R : Rt} (h : WF Z R) : R 247 0 = some 248 := h.2.2 154 (247, 0, 248) rfl
theorem r_249_0 {Z : Zt} {R : Rt} (h : WF Z R) : R 249 0 = some 250 := h.2.2 155 (249, 0, 250) rfl
theorem r_251_0 {Z : Zt} {R : Rt} (h : WF Z R) : R 251 0 = some 252 := h.2.2 156 (251, 0, 252) rfl
theorem r_253_1 {Z : Zt} {R : Rt} (h : WF Z R) : R 253 1 = some 254 := h.2.2 157 (253, 1, 254) rfl
theorem r_253_2 {Z : Zt} {R : Rt} (h : WF Z R) : R 253 2 = some 255 := h.2.2 158 (253, 2, 255) rfl
theorem r_253_3 {Z : Zt} {R : Rt} (h : WF Z R) : R 253 3 = some 256 := h.2.2 159 (253, 3, 256) rfl
theorem r_253_4 {Z : Zt} {R : Rt} (h : WF Z R) : R 253 4 = some 257 := h.2.2 160 (253, 4, 257) rfl
theorem r_253_18 {Z : Zt} {R : Rt} (h : WF Z R) : R 253 18 = some 258 := h.2.2 161 (253, 18, 258) rfl
theorem r_253_19 {Z : Zt} {R : Rt} (h : WF Z R) : R 253 19 = some 259 := h.2.2 162 (253, 19, 259) rfl
theorem r_253_20 {Z : Zt} {R : Rt} (h : WF Z R) : R 253 20 = some 260 := h.2.2 163 (253, 20, 260) rfl
theorem r_253_21 {Z : Zt} {R : Rt} (h : WF Z R) : R 253 21 = some 261 := h.2.2 164 (253, 21, 261) rfl
theorem r_253_22 {Z : Zt} {R : Rt} (h : WF Z R) : R 253 22 = some 262 := h.2.2 165 (253, 22, 262) rfl
theorem r_253_23 {Z : Zt} {R : Rt} (h : WF Z R) : R 253 23 = some 263 := h.2.2 166 (253, 23, 263) rfl
theorem r_253_24 {Z : Zt} {R : Rt} (h : WF Z R) : R 253 24 = some 264 := h.2.2 167 (253, 24, 264) rfl
theorem r_253_25 {Z : Zt} {R : Rt} (h : WF Z R) : R 253 25 = some 265 := h.2.2 168 (253, 25, 265) rfl
theorem r_253_32 {Z : Zt} {R : Rt} (h : WF Z R) : R 253 32 = some 266 := h.2.2 169 (253, 32, 266) rfl
theorem r_253_33 {Z : Zt} {R : Rt} (h : WF Z R) : R 253 33 = some 267 := h.2.2 170 (253, 33, 267) rfl
theorem r_253_34 {Z : Zt} {R : Rt} (h : WF Z R) : R 253 34 = some 268 := h.2.2 171 (253, 34, 268) rfl
theorem r_253_37 {Z : Zt} {R : Rt} (h : WF Z R) : R 253 37 = some 269 := h.2.2 172 (253, 37, 269) rfl
theorem r_253_38 {Z : Zt} {R : Rt} (h : WF Z R) : R 253 38 = some 270 := h.2.2 173 (253, 38, 270) rfl
theorem r_253_40 {Z : Zt} {R : Rt} (h : WF Z R) : R 253 40 = some 271 := h.2.2 174 (253, 40, 271) rfl
theorem r_253_43 {Z : Zt} {R : Rt} (h : WF Z R) : R 253 43 = some 272 := h.2.2 175 (253, 43, 272) rfl
theorem r_253_44 {Z : Zt} {R : Rt} (h : WF Z R) : R 253 44 = some 273 := h.2.2 176 (253, 44, 273) rfl
theorem r_253_46 {Z : Zt} {R : Rt} (h : WF Z R) : R 253 46 = some 274 := h.2.2 177 (253, 46, 274) rfl
theorem r_253_47 {Z : Zt} {R : Rt} (h : WF Z R) : R 253 47 = some 275 := h.2.2 178 (253, 47, 275) rfl
theorem r_253_48 {Z : Zt} {R : Rt} (h : WF Z R) : R 253 48 = some 276 := h.2.2 179 (253, 48, 276) rfl
theorem r_253_49 {Z : Zt} {R : Rt} (h : WF Z R) : R 253 49 = some 277 := h.2.2 180 (253, 49, 277) rfl
theorem r_253_50 {Z : Zt} {R : Rt} (h : WF Z R) : R 253 50 = some 278 := h.2.2 181 (253, 50, 278) rfl
theorem w_103r {Z : Zt} {R : Rt} (h : WF Z R) : rwo Z R 103 6 36 := ⟨o_103 h, r_103_0 h, a_104 h⟩
theorem w_105r {Z : Zt} {R : Rt} (h : WF Z R) : rwo Z R 105 6 36 := ⟨o_105 h, r_105_0 h, a_106 h⟩
theorem w_108r {Z : Zt} {R : Rt} (h : WF Z R) : rwo Z R 108 7 64 := ⟨o_108 h, r_108_0 h, a_109 h⟩
theorem w_112r {Z : Zt} {R : Rt} (h : WF Z R) : rwo Z R 112 7 5 := ⟨o_112 h, r_112_0 h, a_113 h⟩
theorem w_115r {Z : Zt} {R : Rt} (h : WF Z R) : rwo Z R 115 7 6 := ⟨o_115 h, r_115_0 h, a_116 h⟩
theorem w_117r {Z : Zt} {R : Rt} (h : WF Z R) : rwo Z R 117 7 64 := ⟨o_117 h, r_117_0 h, a_118 h⟩
theorem w_120r {Z : Zt} {R : Rt} (h : WF Z R) : rwo Z R 120 8 146 := ⟨o_120 h, r_120_0 h, a_121 h⟩
theorem w_122r {Z : Zt} {R : Rt} (h : WF Z R) : rwo Z R 122 7 30 := ⟨o_122 h, r_122_0 h, a_123 h⟩
theorem w_124r {Z : Zt} {R : Rt} (h : WF Z R) : rwo Z R 124 7 30 := ⟨o_124 h, r_124_0 h, a_125 h⟩
theorem w_126r {Z : Zt} {R : Rt} (h : WF Z R) : rwo Z R 126 7 61 := ⟨o_126 h, r_126_0 h, a_127 h⟩
theorem w_128r {Z : Zt} {R : Rt} (h : WF Z R) : rwo Z R 128 7 61 := ⟨o_128 h, r_128_0 h, a_129 h⟩
theorem w_130r {Z : Zt} {R : Rt} (h : WF Z R) : rwo Z R 130 7 7 := ⟨o_130 h, r_130_0 h, a_131 h⟩
theorem w_132r {Z : Zt} {R : Rt} (h : WF Z R) : rwo Z R 132 7 12 := ⟨o_132 h, r_132_0 h, a_133 h⟩
theorem w_134r {Z : Zt} {R : Rt} (h : WF Z R) : rwo Z R 134 7 36 := ⟨o_134 h, r_134_0 h, a_135 h⟩
theorem w_137r {Z : Zt} {R : Rt} (h : WF Z R) : rwo Z R 137 8 146 := ⟨o_137 h, r_137_0 h, a_138 h⟩
theorem w_139r {Z : Zt} {R : Rt} (h : WF Z R) : rwo Z R 139 7 10 := ⟨o_139 h, r_139_0 h, a_140 h⟩
theorem w_141r {Z : Zt} {R : Rt} (h : WF Z R) : rwo Z R 141 7 10 := ⟨o_141 h, r_141_0 h, a_142 h⟩
theorem w_143r {Z : Zt} {R : Rt} (h : WF Z R) : rwo Z R 143 7 10 := ⟨o_143 h, r_143_0 h, a_144 h⟩
theorem w_145r {Z : Zt} {R : Rt} (h : WF Z R) : rwo Z R 145 7 366 := ⟨o_145 h, r_145_0 h, a_146 h⟩
theorem w_149r {Z : Zt} {R : Rt} (h : WF Z R) : rwo Z R 149 8 146 := ⟨o_149 h, r_149_0 h, a_150 h⟩
theorem w_151r {Z : Zt} {R : Rt} (h : WF Z R) : rwo Z R 151 8 146 := ⟨o_151 h, r_151_0 h, a_152 h⟩
theorem w_153r {Z : Zt} {R : Rt} (h : WF Z R) : rwo Z R 153 8 146 := ⟨o_153 h, r_153_0 h, a_154 h⟩
theorem w_155r {Z : Zt} {R : Rt} (h : WF Z R) : rwo Z R 155 8 146 := ⟨o_155 h, r_155_0 h, a_156 h⟩
theorem w_157r {Z : Zt} {R : Rt} (h : WF Z R) : rwo Z R 157 8 146 := ⟨o_157 h, r_157_0 h, a_158 h⟩
theorem w_159r {Z : Zt} {R : Rt} (h : WF Z R) : rwo Z R 159 8 146 := ⟨o_159 h, r_159_0 h, a_160 h⟩
theorem w_161r {Z : Zt} {R : Rt} (h : WF Z R) : rwo Z R 161 8 146 := ⟨o_161 h, r_161_0 h, a_162 h⟩
theorem w_163r {Z : Zt} {R : Rt} (h : WF Z R) : rwo Z R 163 8 146 := ⟨o_163 h, r_163_0 h, a_164 h⟩
theorem w_165r {Z : Zt} {R : Rt} (h : WF Z R) : rwo Z R 165 8 146 := ⟨o_165 h, r_165_0 h, a_166 h⟩
theorem w_167r {Z : Zt} {R : Rt} (h : WF Z R) : rwo Z R 167 8 146 := ⟨o_167 h, r_167_0 h, a_168 h⟩
theorem w_169r {Z : Zt} {R : Rt} (h : WF Z R) : rwo Z R 169 8 146 := ⟨o_169 h, r_169_0 h, a_170 h⟩
theorem w_171r {Z : Zt} {R : Rt} (h : WF Z R) : rwo Z R 171 8 146 := ⟨o_171 h, r_171_0 h, a_172 h⟩
theorem w_173r {Z : Zt} {R : Rt} (h : WF Z R) : rwo Z R 173 8 146 := ⟨o_173 h, r_173_0 h, a_174 h⟩
theorem w_175r {Z : Zt} {R : Rt} (h : WF Z R) : rwo Z R 175 8 146 := ⟨o_175 h, r_175_0 h, a_176 h⟩
theorem w_177r {Z : Zt} {R : Rt} (h : WF Z R) : rwo Z R 177 8 146 := ⟨o_177 h, r_177_0 h, a_178 h⟩
theorem w_179r {Z : Zt} {R : Rt} (h : WF Z R) : rwo Z R 179 8 146 := ⟨o_179 h, r_179_0 h, a_180 h⟩
theorem w_181r {Z : Zt} {R : Rt} (h : WF Z R) : rwo Z R 181 8 146 := ⟨o_181 h, r_181_0 h, a_182 h⟩
theorem w_183r {Z : Zt} {R : Rt} (h : WF Z R) : rwo Z R 183 8 146 := ⟨o_183 h, r_183_0 h, a_184 h⟩
theorem w_185r {Z : Zt} {R : Rt} (h : WF Z R) : rwo Z R 185 8 146 := ⟨o_185 h, r_185_0 h, a_186 h⟩
theorem w_187r {Z : Zt} {R : Rt} (h : WF Z R) : rwo Z R 187 8 146 := ⟨o_187 h, r_187_0 h, a_188 h⟩
theorem w_189r {Z : Zt} {R : Rt} (h : WF Z R) : rwo Z R 189 8 146 := ⟨o_189 h, r_189_0 h, a_190 h⟩
theorem w_191r {Z : Zt} {R : Rt} (h : WF Z R) : rwo Z R 191 8 146 := ⟨o_191 h, r_191_0 h, a_192 h⟩
theorem w_193r {Z : Zt} {R : Rt} (h : WF Z R) : rwo Z R 193 8 146 := ⟨o_193 h, r_193_0 h, a_194 h⟩
theorem w_195r {Z : Zt} {R : Rt} (h : WF Z R) : rwo Z R 195 8 146 := ⟨o_195 h, r_195_0 h, a_196 h⟩
theorem w_197r {Z : Zt} {R : Rt} (h : WF Z R) : rwo Z R 197 8 146 := ⟨o_197 h, r_197_0 h, a_198 h⟩
theorem w_199r {Z : Zt} {R : Rt} (h : WF Z R) : rwo Z R 199 8 146 := ⟨o_199 h, r_199_0 h, a_200 h⟩
theorem w_201r {Z : Zt} {R : Rt} (h : WF Z R) : rwo Z R 201 8 146 := ⟨o_201 h, r_201_0 h, a_202 h⟩
theorem w_203r {Z : Zt} {R : Rt} (h : WF Z R) : rwo Z R 203 8 146 := ⟨o_203 h, r_203_0 h, a_204 h⟩
theorem w_205r {Z : Zt} {R : Rt} (h : WF Z R) : rwo Z R 205 8 146 := ⟨o_205 h, r_205_0 h, a_206 h⟩
theorem w_207r {Z : Zt} {R : Rt} (h : WF Z R) : rwo Z R 207 8 146 := ⟨o_207 h, r_207_0 h, a_208 h⟩
theorem w_209r {Z : Zt} {R : Rt} (h : WF Z R) : rwo Z R 209 8 146 := ⟨o_209 h, r_209_0 h, a_210 h⟩
theorem w_211r {Z : Zt} {R : Rt} (h : WF Z R) : rwo Z R 211 8 146 := ⟨o_211 h, r_211_0 h, a_212 h⟩
theorem w_213r {Z : Zt} {R : Rt} (h : WF Z R) : rwo Z R 213 8 146 := ⟨o_213 h, r_213_0 h, a_214 h⟩
theorem w_215r {Z : Zt} {R : Rt} (h : WF Z R) : rwo Z R 215 8 146 := ⟨o_215 h, r_215_0 h, a_216 h⟩
theorem w_217r {Z : Zt} {R : Rt} (h : WF Z R) : rwo Z R 217 8 146 := ⟨o_217 h, r_217_0 h, a_218 h⟩
theorem w_219r {Z : Zt} {R : Rt} (h : WF Z R) : rwo Z R 219 8 146 := ⟨o_219 h, r_219_0 h, a_220 h⟩
theorem w_221r {Z : Zt} {R : Rt} (h : WF Z R) : rwo Z R 221 8 146 := ⟨o_221 h, r_221_0 h, a_222 h⟩
theorem w_223r {Z : Zt} {R : Rt} (h : WF Z R) : rwo Z R 223 8 146 := ⟨o_223 h, r_223_0 h, a_224 h⟩
theorem w_225r {Z : Zt} {R : Rt} (h : WF Z R) : rwo Z R 225 8 146 := ⟨o_225 h, r_225_0 h, a_226 h⟩
theorem w_227r {Z : Zt} {R : Rt} (h : WF Z R) : rwo Z R 227 8 146 := ⟨o_227 h, r_227_0 h, a_228 h⟩
theorem w_229r {Z : Zt} {R : Rt} (h : WF Z R) : rwo Z R 229 8 146 := ⟨o_229 h, r_229_0 h, a_230 h⟩
theorem w_231r {Z : Zt} {R : Rt} (h : WF Z R) : rwo Z R 231 8 146 := ⟨o_231 h, r_231_0 h, a_232 h⟩
theorem w_233r {Z : Zt} {R : Rt} (h : WF Z R) : rwo Z R 233 3 240 := ⟨o_233 h, r_233_0 h, a_234 h⟩
theorem w_235r {Z : Zt} {R : Rt} (h : WF Z R) : rwo Z R 235 3 240 := ⟨o_235 h, r_235_0 h, a_236 h⟩
theorem w_237r {Z : Zt} {R : Rt} (h : WF Z R) : rwo Z R 237 3 240 := ⟨o_237 h, r_237_0 h, a_238 h⟩
theorem w_239r {Z : Zt} {R : Rt} (h : WF Z R) : rwo Z R 239 3 240 := ⟨o_239 h, r_239_0 h, a_240 h⟩
theorem w_241r {Z : Zt} {R : Rt} (h : WF Z R) : rwo Z R 241 3 240 := ⟨o_241 h, r_241_0 h, a_242 h⟩
theorem w_243r {Z : Zt} {R : Rt} (h : WF Z R) : rwo Z R 243 0 60 := ⟨o_243 h, r_243_0 h, a_244 h⟩
theorem w_245r {Z : Zt} {R : Rt} (h : WF Z R) : rwo Z R 245 0 60 := ⟨o_245 h, r_245_0 h, a_246 h⟩
theorem w_247r {Z : Zt} {R : Rt} (h : WF Z R) : rwo Z R 247 0 60 := ⟨o_247 h, r_247_0 h, a_248 h⟩
theorem w_249r {Z : Zt} {R : Rt} (h : WF Z R) : rwo Z R 249 0 60 := ⟨o_249 h, r_249_0 h, a_250 h⟩
theorem w_251r {Z : Zt} {R : Rt} (h : WF Z R) : rwo Z R 251 0 60 := ⟨o_251 h, r_251_0 h, a_252 h⟩
theorem r_sts {Z : Zt} {R : Rt} (h : WF Z R) {i : Nat} (hi : i < 40) : R 148 i = some (149 + 2 * i) := by
  have hq : ∀ i, i < 40 → RFl[65 + i]? = some (148, i, 149 + 2 * i) := by decide +kernel
  exact h.2.2 _ _ (hq i hi)
theorem w_sts {Z : Zt} {R : Rt} (h : WF Z R) {i : Nat} (hi : i < 40) : rwo Z R (149 + 2 * i) 8 146 := by
  have hs : ∀ i, i < 40 → SHl[49 + 2 * i]? = some (8, 0) ∧ SHl[50 + 2 * i]? = some (50, 146) := by decide +kernel
  have hr : ∀ i, i < 40 → ∃ k, k < 182 ∧ RFl[k]? = some (149 + 2 * i, 0, 149 + 2 * i + 1) := by
    intro i hi
    have hr0 : ∀ i, i < 40 → (List.range 182).any (fun k => decide (RFl[k]? = some (149 + 2 * i, 0, 149 + 2 * i + 1))) = true := by decide +kernel
    obtain ⟨k, h1, h2⟩ := List.any_eq_true.mp (hr0 i hi)
    exact ⟨k, List.mem_range.mp h1, of_decide_eq_true h2⟩
  obtain ⟨k, -, hk⟩ := hr i hi
  have h0 := h.sh _ _ _ (by omega) (hs i hi).1
  have h1 := h.sh _ _ _ (by omega) (hs i hi).2
  refine ⟨?_, h.2.2 _ _ hk, ?_⟩
  · rw [show 149 + 2 * i = 100 + (49 + 2 * i) by omega]; exact h0
  · rw [show 149 + 2 * i + 1 = 100 + (50 + 2 * i) by omega]; exact h1
theorem r_laws {Z : Zt} {R : Rt} (h : WF Z R) {i : Nat} (hi : i < 5) : R 110 i = some (233 + 2 * i) := by
  have hq : ∀ i, i < 5 → RFl[18 + i]? = some (110, i, 233 + 2 * i) := by decide +kernel
  exact h.2.2 _ _ (hq i hi)
theorem w_laws {Z : Zt} {R : Rt} (h : WF Z R) {i : Nat} (hi : i < 5) : rwo Z R (233 + 2 * i) 3 240 := by
  have h5 : i = 0 ∨ i = 1 ∨ i = 2 ∨ i = 3 ∨ i = 4 := by omega
  rcases h5 with rfl | rfl | rfl | rfl | rfl
  · exact w_233r h
  · exact w_235r h
  · exact w_237r h
  · exact w_239r h
  · exact w_241r h
theorem r_cals {Z : Zt} {R : Rt} (h : WF Z R) {i : Nat} (hi : i < 5) : R 111 i = some (243 + 2 * i) := by
  have hq : ∀ i, i < 5 → RFl[23 + i]? = some (111, i, 243 + 2 * i) := by decide +kernel
  exact h.2.2 _ _ (hq i hi)
theorem w_cals {Z : Zt} {R : Rt} (h : WF Z R) {i : Nat} (hi : i < 5) : rwo Z R (243 + 2 * i) 0 60 := by
  have h5 : i = 0 ∨ i = 1 ∨ i = 2 ∨ i = 3 ∨ i = 4 := by omega
  rcases h5 with rfl | rfl | rfl | rfl | rfl
  · exact w_243r h
  · exact w_245r h
  · exact w_247r h
  · exact w_249r h
  · exact w_251r h
