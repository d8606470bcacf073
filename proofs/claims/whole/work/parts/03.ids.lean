/-! ids of the cells: 0 the script; 1 .. 166 stand behind the two constructors; the rest is made later -/
def xKL : List (Nat × Nat) := [(99, 0), (11, 0), (9, 0), (13, 100), (3, 0), (16, 8), (8, 0), (13, 12), (13, 4), (13, 4), (13, 4), (8, 0), (13, 12), (13, 4), (13, 4), (13, 4), (8, 0), (13, 12), (13, 4), (13, 4), (13, 4), (8, 0), (13, 12), (13, 4), (13, 4), (13, 4), (8, 0), (13, 12), (13, 4), (13, 4), (13, 4), (8, 0), (13, 12), (13, 4), (13, 4), (13, 4), (8, 0), (13, 12), (13, 4), (13, 4), (13, 4), (8, 0), (13, 12), (13, 4), (13, 4), (13, 4), (1, 0), (13, 4), (13, 4), (13, 4), (13, 4), (13, 4), (13, 4), (13, 4), (13, 32), (4, 0), (0, 0), (13, 60), (13, 60), (13, 4), (13, 4), (13, 35), (13, 96), (13, 96), (13, 0), (14, 0), (2, 0), (15, 4), (13, 4), (13, 4), (13, 4), (13, 4), (18, 4), (13, 300), (13, 300), (13, 300), (13, 300), (13, 4), (18, 4), (13, 0), (13, 0), (13, 0), (13, 0), (17, 4), (0, 0), (13, 60), (13, 60), (16, 4), (7, 0), (18, 6), (13, 8), (13, 8), (13, 8), (13, 8), (13, 8), (13, 8), (13, 6), (13, 8), (13, 8), (10, 0), (13, 30), (8, 0), (13, 12), (13, 4), (13, 4), (13, 4), (10, 0), (13, 30), (8, 0), (13, 12), (13, 4), (13, 4), (13, 4), (10, 0), (13, 30), (8, 0), (13, 12), (13, 4), (13, 4), (13, 4), (10, 0), (13, 30), (8, 0), (13, 12), (13, 4), (13, 4), (13, 4), (12, 0), (13, 100), (13, 240), (13, 20), (13, 4), (13, 4), (13, 4), (13, 4), (13, 4), (13, 120), (13, 4), (13, 48), (13, 4), (13, 48), (13, 6), (13, 96), (13, 8), (13, 4), (13, 4), (13, 35), (13, 35), (13, 36000), (13, 1500), (13, 1500), (13, 6000), (15, 6000), (13, 1500), (13, 4096), (13, 60), (13, 60), (13, 1500), (13, 1501), (13, 1501), (13, 1204), (13, 4), (13, 60), (13, 30), (13, 12), (13, 4), (13, 4), (13, 6561), (14, 6561), (13, 1500), (13, 1500), (13, 1500), (13, 1500), (5, 0), (6, 0), (18, 2), (13, 32), (13, 32), (13, 2), (6, 0), (18, 2), (13, 32), (13, 32), (13, 2), (14, 1500), (13, 1500), (13, 4096), (13, 6000), (15, 6000), (13, 1500), (13, 1500), (13, 6000), (15, 1500), (13, 1500), (13, 1500)]
def xK (i : Nat) : Nat × Nat := xKL.getD i (99, 0)
theorem k_0 : xK 0 = (99, 0) := rfl
theorem k_1 : xK 1 = (11, 0) := rfl
theorem k_2 : xK 2 = (9, 0) := rfl
theorem k_3 : xK 3 = (13, 100) := rfl
theorem k_4 : xK 4 = (3, 0) := rfl
theorem k_5 : xK 5 = (16, 8) := rfl
theorem k_6 : xK 6 = (8, 0) := rfl
theorem k_7 : xK 7 = (13, 12) := rfl
theorem k_8 : xK 8 = (13, 4) := rfl
theorem k_9 : xK 9 = (13, 4) := rfl
theorem k_10 : xK 10 = (13, 4) := rfl
theorem k_11 : xK 11 = (8, 0) := rfl
theorem k_12 : xK 12 = (13, 12) := rfl
theorem k_13 : xK 13 = (13, 4) := rfl
theorem k_14 : xK 14 = (13, 4) := rfl
theorem k_15 : xK 15 = (13, 4) := rfl
theorem k_16 : xK 16 = (8, 0) := rfl
theorem k_17 : xK 17 = (13, 12) := rfl
theorem k_18 : xK 18 = (13, 4) := rfl
theorem k_19 : xK 19 = (13, 4) := rfl
theorem k_20 : xK 20 = (13, 4) := rfl
theorem k_21 : xK 21 = (8, 0) := rfl
theorem k_22 : xK 22 = (13, 12) := rfl
theorem k_23 : xK 23 = (13, 4) := rfl
theorem k_24 : xK 24 = (13, 4) := rfl
theorem k_25 : xK 25 = (13, 4) := rfl
theorem k_26 : xK 26 = (8, 0) := rfl
theorem k_27 : xK 27 = (13, 12) := rfl
theorem k_28 : xK 28 = (13, 4) := rfl
theorem k_29 : xK 29 = (13, 4) := rfl
theorem k_30 : xK 30 = (13, 4) := rfl
theorem k_31 : xK 31 = (8, 0) := rfl
theorem k_32 : xK 32 = (13, 12) := rfl
theorem k_33 : xK 33 = (13, 4) := rfl
theorem k_34 : xK 34 = (13, 4) := rfl
theorem k_35 : xK 35 = (13, 4) := rfl
theorem k_36 : xK 36 = (8, 0) := rfl
theorem k_37 : xK 37 = (13, 12) := rfl
theorem k_38 : xK 38 = (13, 4) := rfl
theorem k_39 : xK 39 = (13, 4) := rfl
theorem k_40 : xK 40 = (13, 4) := rfl
theorem k_41 : xK 41 = (8, 0) := rfl
theorem k_42 : xK 42 = (13, 12) := rfl
theorem k_43 : xK 43 = (13, 4) := rfl
theorem k_44 : xK 44 = (13, 4) := rfl
theorem k_45 : xK 45 = (13, 4) := rfl
theorem k_46 : xK 46 = (1, 0) := rfl
theorem k_47 : xK 47 = (13, 4) := rfl
theorem k_48 : xK 48 = (13, 4) := rfl
theorem k_49 : xK 49 = (13, 4) := rfl
theorem k_50 : xK 50 = (13, 4) := rfl
theorem k_51 : xK 51 = (13, 4) := rfl
theorem k_52 : xK 52 = (13, 4) := rfl
theorem k_53 : xK 53 = (13, 4) := rfl
theorem k_54 : xK 54 = (13, 32) := rfl
theorem k_55 : xK 55 = (4, 0) := rfl
theorem k_56 : xK 56 = (0, 0) := rfl
theorem k_57 : xK 57 = (13, 60) := rfl
theorem k_58 : xK 58 = (13, 60) := rfl
theorem k_59 : xK 59 = (13, 4) := rfl
theorem k_60 : xK 60 = (13, 4) := rfl
theorem k_61 : xK 61 = (13, 35) := rfl
theorem k_62 : xK 62 = (13, 96) := rfl
theorem k_63 : xK 63 = (13, 96) := rfl
theorem k_64 : xK 64 = (13, 0) := rfl
theorem k_65 : xK 65 = (14, 0) := rfl
theorem k_66 : xK 66 = (2, 0) := rfl
theorem k_67 : xK 67 = (15, 4) := rfl
theorem k_68 : xK 68 = (13, 4) := rfl
theorem k_69 : xK 69 = (13, 4) := rfl
theorem k_70 : xK 70 = (13, 4) := rfl
theorem k_71 : xK 71 = (13, 4) := rfl
theorem k_72 : xK 72 = (18, 4) := rfl
theorem k_73 : xK 73 = (13, 300) := rfl
theorem k_74 : xK 74 = (13, 300) := rfl
theorem k_75 : xK 75 = (13, 300) := rfl
theorem k_76 : xK 76 = (13, 300) := rfl
theorem k_77 : xK 77 = (13, 4) := rfl
theorem k_78 : xK 78 = (18, 4) := rfl
theorem k_79 : xK 79 = (13, 0) := rfl
theorem k_80 : xK 80 = (13, 0) := rfl
theorem k_81 : xK 81 = (13, 0) := rfl
theorem k_82 : xK 82 = (13, 0) := rfl
theorem k_83 : xK 83 = (17, 4) := rfl
theorem k_84 : xK 84 = (0, 0) := rfl
theorem k_85 : xK 85 = (13, 60) := rfl
theorem k_86 : xK 86 = (13, 60) := rfl
theorem k_87 : xK 87 = (16, 4) := rfl
theorem k_88 : xK 88 = (7, 0) := rfl
theorem k_89 : xK 89 = (18, 6) := rfl
theorem k_90 : xK 90 = (13, 8) := rfl
theorem k_91 : xK 91 = (13, 8) := rfl
theorem k_92 : xK 92 = (13, 8) := rfl
theorem k_93 : xK 93 = (13, 8) := rfl
theorem k_94 : xK 94 = (13, 8) := rfl
theorem k_95 : xK 95 = (13, 8) := rfl
theorem k_96 : xK 96 = (13, 6) := rfl
theorem k_97 : xK 97 = (13, 8) := rfl
theorem k_98 : xK 98 = (13, 8) := rfl
theorem k_99 : xK 99 = (10, 0) := rfl
theorem k_100 : xK 100 = (13, 30) := rfl
theorem k_101 : xK 101 = (8, 0) := rfl
theorem k_102 : xK 102 = (13, 12) := rfl
theorem k_103 : xK 103 = (13, 4) := rfl
theorem k_104 : xK 104 = (13, 4) := rfl
theorem k_105 : xK 105 = (13, 4) := rfl
theorem k_106 : xK 106 = (10, 0) := rfl
theorem k_107 : xK 107 = (13, 30) := rfl
theorem k_108 : xK 108 = (8, 0) := rfl
theorem k_109 : xK 109 = (13, 12) := rfl
theorem k_110 : xK 110 = (13, 4) := rfl
theorem k_111 : xK 111 = (13, 4) := rfl
theorem k_112 : xK 112 = (13, 4) := rfl
theorem k_113 : xK 113 = (10, 0) := rfl
theorem k_114 : xK 114 = (13, 30) := rfl
theorem k_115 : xK 115 = (8, 0) := rfl
theorem k_116 : xK 116 = (13, 12) := rfl
theorem k_117 : xK 117 = (13, 4) := rfl
theorem k_118 : xK 118 = (13, 4) := rfl
theorem k_119 : xK 119 = (13, 4) := rfl
theorem k_120 : xK 120 = (10, 0) := rfl
theorem k_121 : xK 121 = (13, 30) := rfl
theorem k_122 : xK 122 = (8, 0) := rfl
theorem k_123 : xK 123 = (13, 12) := rfl
theorem k_124 : xK 124 = (13, 4) := rfl
theorem k_125 : xK 125 = (13, 4) := rfl
theorem k_126 : xK 126 = (13, 4) := rfl
theorem k_127 : xK 127 = (12, 0) := rfl
theorem k_128 : xK 128 = (13, 100) := rfl
theorem k_129 : xK 129 = (13, 240) := rfl
theorem k_130 : xK 130 = (13, 20) := rfl
theorem k_131 : xK 131 = (13, 4) := rfl
theorem k_132 : xK 132 = (13, 4) := rfl
theorem k_133 : xK 133 = (13, 4) := rfl
theorem k_134 : xK 134 = (13, 4) := rfl
theorem k_135 : xK 135 = (13, 4) := rfl
theorem k_136 : xK 136 = (13, 120) := rfl
theorem k_137 : xK 137 = (13, 4) := rfl
theorem k_138 : xK 138 = (13, 48) := rfl
theorem k_139 : xK 139 = (13, 4) := rfl
theorem k_140 : xK 140 = (13, 48) := rfl
theorem k_141 : xK 141 = (13, 6) := rfl
theorem k_142 : xK 142 = (13, 96) := rfl
theorem k_143 : xK 143 = (13, 8) := rfl
theorem k_144 : xK 144 = (13, 4) := rfl
theorem k_145 : xK 145 = (13, 4) := rfl
theorem k_146 : xK 146 = (13, 35) := rfl
theorem k_147 : xK 147 = (13, 35) := rfl
theorem k_148 : xK 148 = (13, 36000) := rfl
theorem k_149 : xK 149 = (13, 1500) := rfl
theorem k_150 : xK 150 = (13, 1500) := rfl
theorem k_151 : xK 151 = (13, 6000) := rfl
theorem k_152 : xK 152 = (15, 6000) := rfl
theorem k_153 : xK 153 = (13, 1500) := rfl
theorem k_154 : xK 154 = (13, 4096) := rfl
theorem k_155 : xK 155 = (13, 60) := rfl
theorem k_156 : xK 156 = (13, 60) := rfl
theorem k_157 : xK 157 = (13, 1500) := rfl
theorem k_158 : xK 158 = (13, 1501) := rfl
theorem k_159 : xK 159 = (13, 1501) := rfl
theorem k_160 : xK 160 = (13, 1204) := rfl
theorem k_161 : xK 161 = (13, 4) := rfl
theorem k_162 : xK 162 = (13, 60) := rfl
theorem k_163 : xK 163 = (13, 30) := rfl
theorem k_164 : xK 164 = (13, 12) := rfl
theorem k_165 : xK 165 = (13, 4) := rfl
theorem k_166 : xK 166 = (13, 4) := rfl
theorem k_167 : xK 167 = (13, 6561) := rfl
theorem k_168 : xK 168 = (14, 6561) := rfl
theorem k_169 : xK 169 = (13, 1500) := rfl
theorem k_170 : xK 170 = (13, 1500) := rfl
theorem k_171 : xK 171 = (13, 1500) := rfl
theorem k_172 : xK 172 = (13, 1500) := rfl
theorem k_173 : xK 173 = (5, 0) := rfl
theorem k_174 : xK 174 = (6, 0) := rfl
theorem k_175 : xK 175 = (18, 2) := rfl
theorem k_176 : xK 176 = (13, 32) := rfl
theorem k_177 : xK 177 = (13, 32) := rfl
theorem k_178 : xK 178 = (13, 2) := rfl
theorem k_179 : xK 179 = (6, 0) := rfl
theorem k_180 : xK 180 = (18, 2) := rfl
theorem k_181 : xK 181 = (13, 32) := rfl
theorem k_182 : xK 182 = (13, 32) := rfl
theorem k_183 : xK 183 = (13, 2) := rfl
theorem k_184 : xK 184 = (14, 1500) := rfl
theorem k_185 : xK 185 = (13, 1500) := rfl
theorem k_186 : xK 186 = (13, 4096) := rfl
theorem k_187 : xK 187 = (13, 6000) := rfl
theorem k_188 : xK 188 = (15, 6000) := rfl
theorem k_189 : xK 189 = (13, 1500) := rfl
theorem k_190 : xK 190 = (13, 1500) := rfl
theorem k_191 : xK 191 = (13, 6000) := rfl
theorem k_192 : xK 192 = (15, 1500) := rfl
theorem k_193 : xK 193 = (13, 1500) := rfl
theorem k_194 : xK 194 = (13, 1500) := rfl
def xFT : Nat → List Nat := fun c => match c with
  | 0 => [2, 2, 0]
  | 1 => [2, 2, 2, 2, 2, 2, 2, 2, 2, 2, 2, 0, 1, 3]
  | 2 => [2, 2, 2, 2, 2, 2, 2, 2, 2]
  | 3 => [2, 0]
  | 4 => [2, 2, 2, 2, 2, 2, 0]
  | 5 => [2, 2, 2, 2, 2, 2, 2, 2, 2, 2, 2, 2, 2, 0, 0, 3, 3]
  | 6 => [2, 2, 0, 1, 0]
  | 7 => [2, 2, 2, 2, 0, 0, 3]
  | 8 => [2, 2, 2, 2, 0, 0]
  | 9 => [2, 0]
  | 10 => [2, 0]
  | 11 => [2, 2, 2, 2, 2, 2, 2, 2]
  | 12 => [2, 0, 2, 2, 0, 0, 2, 2, 2, 2, 2, 2, 2, 2, 2, 2, 2, 0, 2, 2, 2, 2, 0, 2, 2, 0, 2, 2, 2, 2, 2, 2, 2, 0, 3, 2, 2, 0, 0, 0, 0, 2, 2, 2, 2, 2, 2, 2, 0, 2, 0, 2, 2]
  | _ => []
/-- final fields and the places of arrays of objects: (cell, place, cell) -/
def xFL : List (Nat × Nat × Nat) := [(2, 0, 3), (1, 0, 2), (4, 0, 5), (6, 0, 7), (6, 1, 8), (6, 2, 9), (6, 3, 10), (5, 0, 6), (11, 0, 12), (11, 1, 13), (11, 2, 14), (11, 3, 15), (5, 1, 11), (16, 0, 17), (16, 1, 18), (16, 2, 19), (16, 3, 20), (5, 2, 16), (21, 0, 22), (21, 1, 23), (21, 2, 24), (21, 3, 25), (5, 3, 21), (26, 0, 27), (26, 1, 28), (26, 2, 29), (26, 3, 30), (5, 4, 26), (31, 0, 32), (31, 1, 33), (31, 2, 34), (31, 3, 35), (5, 5, 31), (36, 0, 37), (36, 1, 38), (36, 2, 39), (36, 3, 40), (5, 6, 36), (41, 0, 42), (41, 1, 43), (41, 2, 44), (41, 3, 45), (5, 7, 41), (1, 1, 4), (46, 0, 47), (46, 1, 48), (46, 2, 49), (46, 3, 50), (46, 4, 51), (46, 5, 52), (46, 6, 53), (46, 7, 54), (56, 0, 57), (56, 1, 58), (55, 0, 56), (55, 1, 59), (55, 2, 60), (55, 3, 61), (55, 4, 62), (55, 5, 63), (46, 8, 55), (1, 2, 46), (66, 0, 67), (66, 1, 68), (66, 2, 69), (66, 3, 70), (66, 4, 71), (66, 5, 72), (72, 0, 73), (72, 1, 74), (72, 2, 75), (72, 3, 76), (66, 6, 77), (66, 7, 78), (1, 3, 66), (1, 4, 83), (84, 0, 85), (84, 1, 86), (1, 5, 84), (1, 6, 87), (88, 0, 89), (89, 0, 90), (89, 1, 91), (89, 2, 92), (89, 3, 93), (89, 4, 94), (89, 5, 95), (88, 1, 96), (88, 2, 97), (88, 3, 98), (1, 7, 88), (99, 0, 100), (83, 0, 99), (101, 0, 102), (101, 1, 103), (101, 2, 104), (101, 3, 105), (87, 0, 101), (106, 0, 107), (83, 1, 106), (108, 0, 109), (108, 1, 110), (108, 2, 111), (108, 3, 112), (87, 1, 108), (113, 0, 114), (83, 2, 113), (115, 0, 116), (115, 1, 117), (115, 2, 118), (115, 3, 119), (87, 2, 115), (120, 0, 121), (83, 3, 120), (122, 0, 123), (122, 1, 124), (122, 2, 125), (122, 3, 126), (87, 3, 122), (127, 0, 128), (127, 2, 129), (127, 3, 130), (127, 6, 131), (127, 7, 132), (127, 8, 133), (127, 9, 134), (127, 10, 135), (127, 11, 136), (127, 12, 137), (127, 13, 138), (127, 14, 139), (127, 15, 140), (127, 16, 141), (127, 18, 142), (127, 19, 143), (127, 20, 144), (127, 21, 145), (127, 23, 146), (127, 24, 147), (127, 26, 148), (127, 27, 149), (127, 28, 150), (127, 29, 151), (127, 30, 152), (127, 31, 153), (127, 32, 154), (127, 35, 155), (127, 36, 156), (127, 41, 157), (127, 42, 158), (127, 43, 159), (127, 44, 160), (127, 45, 161), (127, 46, 162), (127, 47, 163), (127, 49, 164), (127, 51, 165), (127, 52, 166)]
def xGL : List (Nat × Nat × Nat) := [(174, 0, 175), (175, 0, 176), (175, 1, 177), (174, 1, 178), (173, 0, 174), (179, 0, 180), (180, 0, 181), (180, 1, 182), (179, 1, 183), (173, 1, 179), (173, 2, 184), (173, 3, 185), (173, 4, 186), (173, 5, 187), (173, 6, 188), (173, 7, 189), (173, 8, 190), (173, 9, 191), (173, 10, 192), (173, 11, 193), (173, 12, 194)]
def x_Fin (l : List (Nat × Nat × Nat)) (G : Nat → Nat → Int) : Prop := ∀ t ∈ l, G t.1 t.2.1 = ((t.2.2 : Nat) : Int)
theorem f_2_0 {G : Nat → Nat → Int} (h : x_Fin xFL G) : G 2 0 = ((3 : Nat) : Int) := h (2, 0, 3) (List.mem_of_getElem? (i := 0) rfl)
theorem f_1_0 {G : Nat → Nat → Int} (h : x_Fin xFL G) : G 1 0 = ((2 : Nat) : Int) := h (1, 0, 2) (List.mem_of_getElem? (i := 1) rfl)
theorem f_4_0 {G : Nat → Nat → Int} (h : x_Fin xFL G) : G 4 0 = ((5 : Nat) : Int) := h (4, 0, 5) (List.mem_of_getElem? (i := 2) rfl)
theorem f_6_0 {G : Nat → Nat → Int} (h : x_Fin xFL G) : G 6 0 = ((7 : Nat) : Int) := h (6, 0, 7) (List.mem_of_getElem? (i := 3) rfl)
theorem f_6_1 {G : Nat → Nat → Int} (h : x_Fin xFL G) : G 6 1 = ((8 : Nat) : Int) := h (6, 1, 8) (List.mem_of_getElem? (i := 4) rfl)
theorem f_6_2 {G : Nat → Nat → Int} (h : x_Fin xFL G) : G 6 2 = ((9 : Nat) : Int) := h (6, 2, 9) (List.mem_of_getElem? (i := 5) rfl)
theorem f_6_3 {G : Nat → Nat → Int} (h : x_Fin xFL G) : G 6 3 = ((10 : Nat) : Int) := h (6, 3, 10) (List.mem_of_getElem? (i := 6) rfl)
theorem f_5_0 {G : Nat → Nat → Int} (h : x_Fin xFL G) : G 5 0 = ((6 : Nat) : Int) := h (5, 0, 6) (List.mem_of_getElem? (i := 7) rfl)
theorem f_11_0 {G : Nat → Nat → Int} (h : x_Fin xFL G) : G 11 0 = ((12 : Nat) : Int) := h (11, 0, 12) (List.mem_of_getElem? (i := 8) rfl)
theorem f_11_1 {G : Nat → Nat → Int} (h : x_Fin xFL G) : G 11 1 = ((13 : Nat) : Int) := h (11, 1, 13) (List.mem_of_getElem? (i := 9) rfl)
theorem f_11_2 {G : Nat → Nat → Int} (h : x_Fin xFL G) : G 11 2 = ((14 : Nat) : Int) := h (11, 2, 14) (List.mem_of_getElem? (i := 10) rfl)
theorem f_11_3 {G : Nat → Nat → Int} (h : x_Fin xFL G) : G 11 3 = ((15 : Nat) : Int) := h (11, 3, 15) (List.mem_of_getElem? (i := 11) rfl)
theorem f_5_1 {G : Nat → Nat → Int} (h : x_Fin xFL G) : G 5 1 = ((11 : Nat) : Int) := h (5, 1, 11) (List.mem_of_getElem? (i := 12) rfl)
theorem f_16_0 {G : Nat → Nat → Int} (h : x_Fin xFL G) : G 16 0 = ((17 : Nat) : Int) := h (16, 0, 17) (List.mem_of_getElem? (i := 13) rfl)
theorem f_16_1 {G : Nat → Nat → Int} (h : x_Fin xFL G) : G 16 1 = ((18 : Nat) : Int) := h (16, 1, 18) (List.mem_of_getElem? (i := 14) rfl)
theorem f_16_2 {G : Nat → Nat → Int} (h : x_Fin xFL G) : G 16 2 = ((19 : Nat) : Int) := h (16, 2, 19) (List.mem_of_getElem? (i := 15) rfl)
theorem f_16_3 {G : Nat → Nat → Int} (h : x_Fin xFL G) : G 16 3 = ((20 : Nat) : Int) := h (16, 3, 20) (List.mem_of_getElem? (i := 16) rfl)
theorem f_5_2 {G : Nat → Nat → Int} (h : x_Fin xFL G) : G 5 2 = ((16 : Nat) : Int) := h (5, 2, 16) (List.mem_of_getElem? (i := 17) rfl)
theorem f_21_0 {G : Nat → Nat → Int} (h : x_Fin xFL G) : G 21 0 = ((22 : Nat) : Int) := h (21, 0, 22) (List.mem_of_getElem? (i := 18) rfl)
theorem f_21_1 {G : Nat → Nat → Int} (h : x_Fin xFL G) : G 21 1 = ((23 : Nat) : Int) := h (21, 1, 23) (List.mem_of_getElem? (i := 19) rfl)
theorem f_21_2 {G : Nat → Nat → Int} (h : x_Fin xFL G) : G 21 2 = ((24 : Nat) : Int) := h (21, 2, 24) (List.mem_of_getElem? (i := 20) rfl)
theorem f_21_3 {G : Nat → Nat → Int} (h : x_Fin xFL G) : G 21 3 = ((25 : Nat) : Int) := h (21, 3, 25) (List.mem_of_getElem? (i := 21) rfl)
theorem f_5_3 {G : Nat → Nat → Int} (h : x_Fin xFL G) : G 5 3 = ((21 : Nat) : Int) := h (5, 3, 21) (List.mem_of_getElem? (i := 22) rfl)
theorem f_26_0 {G : Nat → Nat → Int} (h : x_Fin xFL G) : G 26 0 = ((27 : Nat) : Int) := h (26, 0, 27) (List.mem_of_getElem? (i := 23) rfl)
theorem f_26_1 {G : Nat → Nat → Int} (h : x_Fin xFL G) : G 26 1 = ((28 : Nat) : Int) := h (26, 1, 28) (List.mem_of_getElem? (i := 24) rfl)
theorem f_26_2 {G : Nat → Nat → Int} (h : x_Fin xFL G) : G 26 2 = ((29 : Nat) : Int) := h (26, 2, 29) (List.mem_of_getElem? (i := 25) rfl)
theorem f_26_3 {G : Nat → Nat → Int} (h : x_Fin xFL G) : G 26 3 = ((30 : Nat) : Int) := h (26, 3, 30) (List.mem_of_getElem? (i := 26) rfl)
theorem f_5_4 {G : Nat → Nat → Int} (h : x_Fin xFL G) : G 5 4 = ((26 : Nat) : Int) := h (5, 4, 26) (List.mem_of_getElem? (i := 27) rfl)
theorem f_31_0 {G : Nat → Nat → Int} (h : x_Fin xFL G) : G 31 0 = ((32 : Nat) : Int) := h (31, 0, 32) (List.mem_of_getElem? (i := 28) rfl)
theorem f_31_1 {G : Nat → Nat → Int} (h : x_Fin xFL G) : G 31 1 = ((33 : Nat) : Int) := h (31, 1, 33) (List.mem_of_getElem? (i := 29) rfl)
theorem f_31_2 {G : Nat → Nat → Int} (h : x_Fin xFL G) : G 31 2 = ((34 : Nat) : Int) := h (31, 2, 34) (List.mem_of_getElem? (i := 30) rfl)
theorem f_31_3 {G : Nat → Nat → Int} (h : x_Fin xFL G) : G 31 3 = ((35 : Nat) : Int) := h (31, 3, 35) (List.mem_of_getElem? (i := 31) rfl)
theorem f_5_5 {G : Nat → Nat → Int} (h : x_Fin xFL G) : G 5 5 = ((31 : Nat) : Int) := h (5, 5, 31) (List.mem_of_getElem? (i := 32) rfl)
theorem f_36_0 {G : Nat → Nat → Int} (h : x_Fin xFL G) : G 36 0 = ((37 : Nat) : Int) := h (36, 0, 37) (List.mem_of_getElem? (i := 33) rfl)
theorem f_36_1 {G : Nat → Nat → Int} (h : x_Fin xFL G) : G 36 1 = ((38 : Nat) : Int) := h (36, 1, 38) (List.mem_of_getElem? (i := 34) rfl)
theorem f_36_2 {G : Nat → Nat → Int} (h : x_Fin xFL G) : G 36 2 = ((39 : Nat) : Int) := h (36, 2, 39) (List.mem_of_getElem? (i := 35) rfl)
theorem f_36_3 {G : Nat → Nat → Int} (h : x_Fin xFL G) : G 36 3 = ((40 : Nat) : Int) := h (36, 3, 40) (List.mem_of_getElem? (i := 36) rfl)
theorem f_5_6 {G : Nat → Nat → Int} (h : x_Fin xFL G) : G 5 6 = ((36 : Nat) : Int) := h (5, 6, 36) (List.mem_of_getElem? (i := 37) rfl)
theorem f_41_0 {G : Nat → Nat → Int} (h : x_Fin xFL G) : G 41 0 = ((42 : Nat) : Int) := h (41, 0, 42) (List.mem_of_getElem? (i := 38) rfl)
theorem f_41_1 {G : Nat → Nat → Int} (h : x_Fin xFL G) : G 41 1 = ((43 : Nat) : Int) := h (41, 1, 43) (List.mem_of_getElem? (i := 39) rfl)
theorem f_41_2 {G : Nat → Nat → Int} (h : x_Fin xFL G) : G 41 2 = ((44 : Nat) : Int) := h (41, 2, 44) (List.mem_of_getElem? (i := 40) rfl)
theorem f_41_3 {G : Nat → Nat → Int} (h : x_Fin xFL G) : G 41 3 = ((45 : Nat) : Int) := h (41, 3, 45) (List.mem_of_getElem? (i := 41) rfl)
theorem f_5_7 {G : Nat → Nat → Int} (h : x_Fin xFL G) : G 5 7 = ((41 : Nat) : Int) := h (5, 7, 41) (List.mem_of_getElem? (i := 42) rfl)
theorem f_1_1 {G : Nat → Nat → Int} (h : x_Fin xFL G) : G 1 1 = ((4 : Nat) : Int) := h (1, 1, 4) (List.mem_of_getElem? (i := 43) rfl)
theorem f_46_0 {G : Nat → Nat → Int} (h : x_Fin xFL G) : G 46 0 = ((47 : Nat) : Int) := h (46, 0, 47) (List.mem_of_getElem? (i := 44) rfl)
theorem f_46_1 {G : Nat → Nat → Int} (h : x_Fin xFL G) : G 46 1 = ((48 : Nat) : Int) := h (46, 1, 48) (List.mem_of_getElem? (i := 45) rfl)
theorem f_46_2 {G : Nat → Nat → Int} (h : x_Fin xFL G) : G 46 2 = ((49 : Nat) : Int) := h (46, 2, 49) (List.mem_of_getElem? (i := 46) rfl)
theorem f_46_3 {G : Nat → Nat → Int} (h : x_Fin xFL G) : G 46 3 = ((50 : Nat) : Int) := h (46, 3, 50) (List.mem_of_getElem? (i := 47) rfl)
theorem f_46_4 {G : Nat → Nat → Int} (h : x_Fin xFL G) : G 46 4 = ((51 : Nat) : Int) := h (46, 4, 51) (List.mem_of_getElem? (i := 48) rfl)
theorem f_46_5 {G : Nat → Nat → Int} (h : x_Fin xFL G) : G 46 5 = ((52 : Nat) : Int) := h (46, 5, 52) (List.mem_of_getElem? (i := 49) rfl)
theorem f_46_6 {G : Nat → Nat → Int} (h : x_Fin xFL G) : G 46 6 = ((53 : Nat) : Int) := h (46, 6, 53) (List.mem_of_getElem? (i := 50) rfl)
theorem f_46_7 {G : Nat → Nat → Int} (h : x_Fin xFL G) : G 46 7 = ((54 : Nat) : Int) := h (46, 7, 54) (List.mem_of_getElem? (i := 51) rfl)
theorem f_56_0 {G : Nat → Nat → Int} (h : x_Fin xFL G) : G 56 0 = ((57 : Nat) : Int) := h (56, 0, 57) (List.mem_of_getElem? (i := 52) rfl)
theorem f_56_1 {G : Nat → Nat → Int} (h : x_Fin xFL G) : G 56 1 = ((58 : Nat) : Int) := h (56, 1, 58) (List.mem_of_getElem? (i := 53) rfl)
theorem f_55_0 {G : Nat → Nat → Int} (h : x_Fin xFL G) : G 55 0 = ((56 : Nat) : Int) := h (55, 0, 56) (List.mem_of_getElem? (i := 54) rfl)
theorem f_55_1 {G : Nat → Nat → Int} (h : x_Fin xFL G) : G 55 1 = ((59 : Nat) : Int) := h (55, 1, 59) (List.mem_of_getElem? (i := 55) rfl)
theorem f_55_2 {G : Nat → Nat → Int} (h : x_Fin xFL G) : G 55 2 = ((60 : Nat) : Int) := h (55, 2, 60) (List.mem_of_getElem? (i := 56) rfl)
theorem f_55_3 {G : Nat → Nat → Int} (h : x_Fin xFL G) : G 55 3 = ((61 : Nat) : Int) := h (55, 3, 61) (List.mem_of_getElem? (i := 57) rfl)
theorem f_55_4 {G : Nat → Nat → Int} (h : x_Fin xFL G) : G 55 4 = ((62 : Nat) : Int) := h (55, 4, 62) (List.mem_of_getElem? (i := 58) rfl)
theorem f_55_5 {G : Nat → Nat → Int} (h : x_Fin xFL G) : G 55 5 = ((63 : Nat) : Int) := h (55, 5, 63) (List.mem_of_getElem? (i := 59) rfl)
theorem f_46_8 {G : Nat → Nat → Int} (h : x_Fin xFL G) : G 46 8 = ((55 : Nat) : Int) := h (46, 8, 55) (List.mem_of_getElem? (i := 60) rfl)
theorem f_1_2 {G : Nat → Nat → Int} (h : x_Fin xFL G) : G 1 2 = ((46 : Nat) : Int) := h (1, 2, 46) (List.mem_of_getElem? (i := 61) rfl)
theorem f_66_0 {G : Nat → Nat → Int} (h : x_Fin xFL G) : G 66 0 = ((67 : Nat) : Int) := h (66, 0, 67) (List.mem_of_getElem? (i := 62) rfl)
theorem f_66_1 {G : Nat → Nat → Int} (h : x_Fin xFL G) : G 66 1 = ((68 : Nat) : Int) := h (66, 1, 68) (List.mem_of_getElem? (i := 63) rfl)
theorem f_66_2 {G : Nat → Nat → Int} (h : x_Fin xFL G) : G 66 2 = ((69 : Nat) : Int) := h (66, 2, 69) (List.mem_of_getElem? (i := 64) rfl)
theorem f_66_3 {G : Nat → Nat → Int} (h : x_Fin xFL G) : G 66 3 = ((70 : Nat) : Int) := h (66, 3, 70) (List.mem_of_getElem? (i := 65) rfl)
theorem f_66_4 {G : Nat → Nat → Int} (h : x_Fin xFL G) : G 66 4 = ((71 : Nat) : Int) := h (66, 4, 71) (List.mem_of_getElem? (i := 66) rfl)
theorem f_66_5 {G : Nat → Nat → Int} (h : x_Fin xFL G) : G 66 5 = ((72 : Nat) : Int) := h (66, 5, 72) (List.mem_of_getElem? (i := 67) rfl)
theorem f_72_0 {G : Nat → Nat → Int} (h : x_Fin xFL G) : G 72 0 = ((73 : Nat) : Int) := h (72, 0, 73) (List.mem_of_getElem? (i := 68) rfl)
theorem f_72_1 {G : Nat → Nat → Int} (h : x_Fin xFL G) : G 72 1 = ((74 : Nat) : Int) := h (72, 1, 74) (List.mem_of_getElem? (i := 69) rfl)
theorem f_72_2 {G : Nat → Nat → Int} (h : x_Fin xFL G) : G 72 2 = ((75 : Nat) : Int) := h (72, 2, 75) (List.mem_of_getElem? (i := 70) rfl)
theorem f_72_3 {G : Nat → Nat → Int} (h : x_Fin xFL G) : G 72 3 = ((76 : Nat) : Int) := h (72, 3, 76) (List.mem_of_getElem? (i := 71) rfl)
theorem f_66_6 {G : Nat → Nat → Int} (h : x_Fin xFL G) : G 66 6 = ((77 : Nat) : Int) := h (66, 6, 77) (List.mem_of_getElem? (i := 72) rfl)
theorem f_66_7 {G : Nat → Nat → Int} (h : x_Fin xFL G) : G 66 7 = ((78 : Nat) : Int) := h (66, 7, 78) (List.mem_of_getElem? (i := 73) rfl)
theorem f_1_3 {G : Nat → Nat → Int} (h : x_Fin xFL G) : G 1 3 = ((66 : Nat) : Int) := h (1, 3, 66) (List.mem_of_getElem? (i := 74) rfl)
theorem f_1_4 {G : Nat → Nat → Int} (h : x_Fin xFL G) : G 1 4 = ((83 : Nat) : Int) := h (1, 4, 83) (List.mem_of_getElem? (i := 75) rfl)
theorem f_84_0 {G : Nat → Nat → Int} (h : x_Fin xFL G) : G 84 0 = ((85 : Nat) : Int) := h (84, 0, 85) (List.mem_of_getElem? (i := 76) rfl)
theorem f_84_1 {G : Nat → Nat → Int} (h : x_Fin xFL G) : G 84 1 = ((86 : Nat) : Int) := h (84, 1, 86) (List.mem_of_getElem? (i := 77) rfl)
theorem f_1_5 {G : Nat → Nat → Int} (h : x_Fin xFL G) : G 1 5 = ((84 : Nat) : Int) := h (1, 5, 84) (List.mem_of_getElem? (i := 78) rfl)
theorem f_1_6 {G : Nat → Nat → Int} (h : x_Fin xFL G) : G 1 6 = ((87 : Nat) : Int) := h (1, 6, 87) (List.mem_of_getElem? (i := 79) rfl)
theorem f_88_0 {G : Nat → Nat → Int} (h : x_Fin xFL G) : G 88 0 = ((89 : Nat) : Int) := h (88, 0, 89) (List.mem_of_getElem? (i := 80) rfl)
theorem f_89_0 {G : Nat → Nat → Int} (h : x_Fin xFL G) : G 89 0 = ((90 : Nat) : Int) := h (89, 0, 90) (List.mem_of_getElem? (i := 81) rfl)
theorem f_89_1 {G : Nat → Nat → Int} (h : x_Fin xFL G) : G 89 1 = ((91 : Nat) : Int) := h (89, 1, 91) (List.mem_of_getElem? (i := 82) rfl)
theorem f_89_2 {G : Nat → Nat → Int} (h : x_Fin xFL G) : G 89 2 = ((92 : Nat) : Int) := h (89, 2, 92) (List.mem_of_getElem? (i := 83) rfl)
theorem f_89_3 {G : Nat → Nat → Int} (h : x_Fin xFL G) : G 89 3 = ((93 : Nat) : Int) := h (89, 3, 93) (List.mem_of_getElem? (i := 84) rfl)
theorem f_89_4 {G : Nat → Nat → Int} (h : x_Fin xFL G) : G 89 4 = ((94 : Nat) : Int) := h (89, 4, 94) (List.mem_of_getElem? (i := 85) rfl)
theorem f_89_5 {G : Nat → Nat → Int} (h : x_Fin xFL G) : G 89 5 = ((95 : Nat) : Int) := h (89, 5, 95) (List.mem_of_getElem? (i := 86) rfl)
theorem f_88_1 {G : Nat → Nat → Int} (h : x_Fin xFL G) : G 88 1 = ((96 : Nat) : Int) := h (88, 1, 96) (List.mem_of_getElem? (i := 87) rfl)
theorem f_88_2 {G : Nat → Nat → Int} (h : x_Fin xFL G) : G 88 2 = ((97 : Nat) : Int) := h (88, 2, 97) (List.mem_of_getElem? (i := 88) rfl)
theorem f_88_3 {G : Nat → Nat → Int} (h : x_Fin xFL G) : G 88 3 = ((98 : Nat) : Int) := h (88, 3, 98) (List.mem_of_getElem? (i := 89) rfl)
theorem f_1_7 {G : Nat → Nat → Int} (h : x_Fin xFL G) : G 1 7 = ((88 : Nat) : Int) := h (1, 7, 88) (List.mem_of_getElem? (i := 90) rfl)
theorem f_99_0 {G : Nat → Nat → Int} (h : x_Fin xFL G) : G 99 0 = ((100 : Nat) : Int) := h (99, 0, 100) (List.mem_of_getElem? (i := 91) rfl)
theorem f_83_0 {G : Nat → Nat → Int} (h : x_Fin xFL G) : G 83 0 = ((99 : Nat) : Int) := h (83, 0, 99) (List.mem_of_getElem? (i := 92) rfl)
theorem f_101_0 {G : Nat → Nat → Int} (h : x_Fin xFL G) : G 101 0 = ((102 : Nat) : Int) := h (101, 0, 102) (List.mem_of_getElem? (i := 93) rfl)
theorem f_101_1 {G : Nat → Nat → Int} (h : x_Fin xFL G) : G 101 1 = ((103 : Nat) : Int) := h (101, 1, 103) (List.mem_of_getElem? (i := 94) rfl)
theorem f_101_2 {G : Nat → Nat → Int} (h : x_Fin xFL G) : G 101 2 = ((104 : Nat) : Int) := h (101, 2, 104) (List.mem_of_getElem? (i := 95) rfl)
theorem f_101_3 {G : Nat → Nat → Int} (h : x_Fin xFL G) : G 101 3 = ((105 : Nat) : Int) := h (101, 3, 105) (List.mem_of_getElem? (i := 96) rfl)
theorem f_87_0 {G : Nat → Nat → Int} (h : x_Fin xFL G) : G 87 0 = ((101 : Nat) : Int) := h (87, 0, 101) (List.mem_of_getElem? (i := 97) rfl)
theorem f_106_0 {G : Nat → Nat → Int} (h : x_Fin xFL G) : G 106 0 = ((107 : Nat) : Int) := h (106, 0, 107) (List.mem_of_getElem? (i := 98) rfl)
theorem f_83_1 {G : Nat → Nat → Int} (h : x_Fin xFL G) : G 83 1 = ((106 : Nat) : Int) := h (83, 1, 106) (List.mem_of_getElem? (i := 99) rfl)
theorem f_108_0 {G : Nat → Nat → Int} (h : x_Fin xFL G) : G 108 0 = ((109 : Nat) : Int) := h (108, 0, 109) (List.mem_of_getElem? (i := 100) rfl)
theorem f_108_1 {G : Nat → Nat → Int} (h : x_Fin xFL G) : G 108 1 = ((110 : Nat) : Int) := h (108, 1, 110) (List.mem_of_getElem? (i := 101) rfl)
theorem f_108_2 {G : Nat → Nat → Int} (h : x_Fin xFL G) : G 108 2 = ((111 : Nat) : Int) := h (108, 2, 111) (List.mem_of_getElem? (i := 102) rfl)
theorem f_108_3 {G : Nat → Nat → Int} (h : x_Fin xFL G) : G 108 3 = ((112 : Nat) : Int) := h (108, 3, 112) (List.mem_of_getElem? (i := 103) rfl)
theorem f_87_1 {G : Nat → Nat → Int} (h : x_Fin xFL G) : G 87 1 = ((108 : Nat) : Int) := h (87, 1, 108) (List.mem_of_getElem? (i := 104) rfl)
theorem f_113_0 {G : Nat → Nat → Int} (h : x_Fin xFL G) : G 113 0 = ((114 : Nat) : Int) := h (113, 0, 114) (List.mem_of_getElem? (i := 105) rfl)
theorem f_83_2 {G : Nat → Nat → Int} (h : x_Fin xFL G) : G 83 2 = ((113 : Nat) : Int) := h (83, 2, 113) (List.mem_of_getElem? (i := 106) rfl)
theorem f_115_0 {G : Nat → Nat → Int} (h : x_Fin xFL G) : G 115 0 = ((116 : Nat) : Int) := h (115, 0, 116) (List.mem_of_getElem? (i := 107) rfl)
theorem f_115_1 {G : Nat → Nat → Int} (h : x_Fin xFL G) : G 115 1 = ((117 : Nat) : Int) := h (115, 1, 117) (List.mem_of_getElem? (i := 108) rfl)
theorem f_115_2 {G : Nat → Nat → Int} (h : x_Fin xFL G) : G 115 2 = ((118 : Nat) : Int) := h (115, 2, 118) (List.mem_of_getElem? (i := 109) rfl)
theorem f_115_3 {G : Nat → Nat → Int} (h : x_Fin xFL G) : G 115 3 = ((119 : Nat) : Int) := h (115, 3, 119) (List.mem_of_getElem? (i := 110) rfl)
theorem f_87_2 {G : Nat → Nat → Int} (h : x_Fin xFL G) : G 87 2 = ((115 : Nat) : Int) := h (87, 2, 115) (List.mem_of_getElem? (i := 111) rfl)
theorem f_120_0 {G : Nat → Nat → Int} (h : x_Fin xFL G) : G 120 0 = ((121 : Nat) : Int) := h (120, 0, 121) (List.mem_of_getElem? (i := 112) rfl)
theorem f_83_3 {G : Nat → Nat → Int} (h : x_Fin xFL G) : G 83 3 = ((120 : Nat) : Int) := h (83, 3, 120) (List.mem_of_getElem? (i := 113) rfl)
theorem f_122_0 {G : Nat → Nat → Int} (h : x_Fin xFL G) : G 122 0 = ((123 : Nat) : Int) := h (122, 0, 123) (List.mem_of_getElem? (i := 114) rfl)
theorem f_122_1 {G : Nat → Nat → Int} (h : x_Fin xFL G) : G 122 1 = ((124 : Nat) : Int) := h (122, 1, 124) (List.mem_of_getElem? (i := 115) rfl)
theorem f_122_2 {G : Nat → Nat → Int} (h : x_Fin xFL G) : G 122 2 = ((125 : Nat) : Int) := h (122, 2, 125) (List.mem_of_getElem? (i := 116) rfl)
theorem f_122_3 {G : Nat → Nat → Int} (h : x_Fin xFL G) : G 122 3 = ((126 : Nat) : Int) := h (122, 3, 126) (List.mem_of_getElem? (i := 117) rfl)
theorem f_87_3 {G : Nat → Nat → Int} (h : x_Fin xFL G) : G 87 3 = ((122 : Nat) : Int) := h (87, 3, 122) (List.mem_of_getElem? (i := 118) rfl)
theorem f_127_0 {G : Nat → Nat → Int} (h : x_Fin xFL G) : G 127 0 = ((128 : Nat) : Int) := h (127, 0, 128) (List.mem_of_getElem? (i := 119) rfl)
theorem f_127_2 {G : Nat → Nat → Int} (h : x_Fin xFL G) : G 127 2 = ((129 : Nat) : Int) := h (127, 2, 129) (List.mem_of_getElem? (i := 120) rfl)
theorem f_127_3 {G : Nat → Nat → Int} (h : x_Fin xFL G) : G 127 3 = ((130 : Nat) : Int) := h (127, 3, 130) (List.mem_of_getElem? (i := 121) rfl)
theorem f_127_6 {G : Nat → Nat → Int} (h : x_Fin xFL G) : G 127 6 = ((131 : Nat) : Int) := h (127, 6, 131) (List.mem_of_getElem? (i := 122) rfl)
theorem f_127_7 {G : Nat → Nat → Int} (h : x_Fin xFL G) : G 127 7 = ((132 : Nat) : Int) := h (127, 7, 132) (List.mem_of_getElem? (i := 123) rfl)
theorem f_127_8 {G : Nat → Nat → Int} (h : x_Fin xFL G) : G 127 8 = ((133 : Nat) : Int) := h (127, 8, 133) (List.mem_of_getElem? (i := 124) rfl)
theorem f_127_9 {G : Nat → Nat → Int} (h : x_Fin xFL G) : G 127 9 = ((134 : Nat) : Int) := h (127, 9, 134) (List.mem_of_getElem? (i := 125) rfl)
theorem f_127_10 {G : Nat → Nat → Int} (h : x_Fin xFL G) : G 127 10 = ((135 : Nat) : Int) := h (127, 10, 135) (List.mem_of_getElem? (i := 126) rfl)
theorem f_127_11 {G : Nat → Nat → Int} (h : x_Fin xFL G) : G 127 11 = ((136 : Nat) : Int) := h (127, 11, 136) (List.mem_of_getElem? (i := 127) rfl)
theorem f_127_12 {G : Nat → Nat → Int} (h : x_Fin xFL G) : G 127 12 = ((137 : Nat) : Int) := h (127, 12, 137) (List.mem_of_getElem? (i := 128) rfl)
theorem f_127_13 {G : Nat → Nat → Int} (h : x_Fin xFL G) : G 127 13 = ((138 : Nat) : Int) := h (127, 13, 138) (List.mem_of_getElem? (i := 129) rfl)
theorem f_127_14 {G : Nat → Nat → Int} (h : x_Fin xFL G) : G 127 14 = ((139 : Nat) : Int) := h (127, 14, 139) (List.mem_of_getElem? (i := 130) rfl)
theorem f_127_15 {G : Nat → Nat → Int} (h : x_Fin xFL G) : G 127 15 = ((140 : Nat) : Int) := h (127, 15, 140) (List.mem_of_getElem? (i := 131) rfl)
theorem f_127_16 {G : Nat → Nat → Int} (h : x_Fin xFL G) : G 127 16 = ((141 : Nat) : Int) := h (127, 16, 141) (List.mem_of_getElem? (i := 132) rfl)
theorem f_127_18 {G : Nat → Nat → Int} (h : x_Fin xFL G) : G 127 18 = ((142 : Nat) : Int) := h (127, 18, 142) (List.mem_of_getElem? (i := 133) rfl)
theorem f_127_19 {G : Nat → Nat → Int} (h : x_Fin xFL G) : G 127 19 = ((143 : Nat) : Int) := h (127, 19, 143) (List.mem_of_getElem? (i := 134) rfl)
theorem f_127_20 {G : Nat → Nat → Int} (h : x_Fin xFL G) : G 127 20 = ((144 : Nat) : Int) := h (127, 20, 144) (List.mem_of_getElem? (i := 135) rfl)
theorem f_127_21 {G : Nat → Nat → Int} (h : x_Fin xFL G) : G 127 21 = ((145 : Nat) : Int) := h (127, 21, 145) (List.mem_of_getElem? (i := 136) rfl)
theorem f_127_23 {G : Nat → Nat → Int} (h : x_Fin xFL G) : G 127 23 = ((146 : Nat) : Int) := h (127, 23, 146) (List.mem_of_getElem? (i := 137) rfl)
theorem f_127_24 {G : Nat → Nat → Int} (h : x_Fin xFL G) : G 127 24 = ((147 : Nat) : Int) := h (127, 24, 147) (List.mem_of_getElem? (i := 138) rfl)
theorem f_127_26 {G : Nat → Nat → Int} (h : x_Fin xFL G) : G 127 26 = ((148 : Nat) : Int) := h (127, 26, 148) (List.mem_of_getElem? (i := 139) rfl)
theorem f_127_27 {G : Nat → Nat → Int} (h : x_Fin xFL G) : G 127 27 = ((149 : Nat) : Int) := h (127, 27, 149) (List.mem_of_getElem? (i := 140) rfl)
theorem f_127_28 {G : Nat → Nat → Int} (h : x_Fin xFL G) : G 127 28 = ((150 : Nat) : Int) := h (127, 28, 150) (List.mem_of_getElem? (i := 141) rfl)
theorem f_127_29 {G : Nat → Nat → Int} (h : x_Fin xFL G) : G 127 29 = ((151 : Nat) : Int) := h (127, 29, 151) (List.mem_of_getElem? (i := 142) rfl)
theorem f_127_30 {G : Nat → Nat → Int} (h : x_Fin xFL G) : G 127 30 = ((152 : Nat) : Int) := h (127, 30, 152) (List.mem_of_getElem? (i := 143) rfl)
theorem f_127_31 {G : Nat → Nat → Int} (h : x_Fin xFL G) : G 127 31 = ((153 : Nat) : Int) := h (127, 31, 153) (List.mem_of_getElem? (i := 144) rfl)
theorem f_127_32 {G : Nat → Nat → Int} (h : x_Fin xFL G) : G 127 32 = ((154 : Nat) : Int) := h (127, 32, 154) (List.mem_of_getElem? (i := 145) rfl)
theorem f_127_35 {G : Nat → Nat → Int} (h : x_Fin xFL G) : G 127 35 = ((155 : Nat) : Int) := h (127, 35, 155) (List.mem_of_getElem? (i := 146) rfl)
theorem f_127_36 {G : Nat → Nat → Int} (h : x_Fin xFL G) : G 127 36 = ((156 : Nat) : Int) := h (127, 36, 156) (List.mem_of_getElem? (i := 147) rfl)
theorem f_127_41 {G : Nat → Nat → Int} (h : x_Fin xFL G) : G 127 41 = ((157 : Nat) : Int) := h (127, 41, 157) (List.mem_of_getElem? (i := 148) rfl)
theorem f_127_42 {G : Nat → Nat → Int} (h : x_Fin xFL G) : G 127 42 = ((158 : Nat) : Int) := h (127, 42, 158) (List.mem_of_getElem? (i := 149) rfl)
theorem f_127_43 {G : Nat → Nat → Int} (h : x_Fin xFL G) : G 127 43 = ((159 : Nat) : Int) := h (127, 43, 159) (List.mem_of_getElem? (i := 150) rfl)
theorem f_127_44 {G : Nat → Nat → Int} (h : x_Fin xFL G) : G 127 44 = ((160 : Nat) : Int) := h (127, 44, 160) (List.mem_of_getElem? (i := 151) rfl)
theorem f_127_45 {G : Nat → Nat → Int} (h : x_Fin xFL G) : G 127 45 = ((161 : Nat) : Int) := h (127, 45, 161) (List.mem_of_getElem? (i := 152) rfl)
theorem f_127_46 {G : Nat → Nat → Int} (h : x_Fin xFL G) : G 127 46 = ((162 : Nat) : Int) := h (127, 46, 162) (List.mem_of_getElem? (i := 153) rfl)
theorem f_127_47 {G : Nat → Nat → Int} (h : x_Fin xFL G) : G 127 47 = ((163 : Nat) : Int) := h (127, 47, 163) (List.mem_of_getElem? (i := 154) rfl)
theorem f_127_49 {G : Nat → Nat → Int} (h : x_Fin xFL G) : G 127 49 = ((164 : Nat) : Int) := h (127, 49, 164) (List.mem_of_getElem? (i := 155) rfl)
theorem f_127_51 {G : Nat → Nat → Int} (h : x_Fin xFL G) : G 127 51 = ((165 : Nat) : Int) := h (127, 51, 165) (List.mem_of_getElem? (i := 156) rfl)
theorem f_127_52 {G : Nat → Nat → Int} (h : x_Fin xFL G) : G 127 52 = ((166 : Nat) : Int) := h (127, 52, 166) (List.mem_of_getElem? (i := 157) rfl)
theorem f_174_0 {G : Nat → Nat → Int} (h : x_Fin xGL G) : G 174 0 = ((175 : Nat) : Int) := h (174, 0, 175) (List.mem_of_getElem? (i := 0) rfl)
theorem f_175_0 {G : Nat → Nat → Int} (h : x_Fin xGL G) : G 175 0 = ((176 : Nat) : Int) := h (175, 0, 176) (List.mem_of_getElem? (i := 1) rfl)
theorem f_175_1 {G : Nat → Nat → Int} (h : x_Fin xGL G) : G 175 1 = ((177 : Nat) : Int) := h (175, 1, 177) (List.mem_of_getElem? (i := 2) rfl)
theorem f_174_1 {G : Nat → Nat → Int} (h : x_Fin xGL G) : G 174 1 = ((178 : Nat) : Int) := h (174, 1, 178) (List.mem_of_getElem? (i := 3) rfl)
theorem f_173_0 {G : Nat → Nat → Int} (h : x_Fin xGL G) : G 173 0 = ((174 : Nat) : Int) := h (173, 0, 174) (List.mem_of_getElem? (i := 4) rfl)
theorem f_179_0 {G : Nat → Nat → Int} (h : x_Fin xGL G) : G 179 0 = ((180 : Nat) : Int) := h (179, 0, 180) (List.mem_of_getElem? (i := 5) rfl)
theorem f_180_0 {G : Nat → Nat → Int} (h : x_Fin xGL G) : G 180 0 = ((181 : Nat) : Int) := h (180, 0, 181) (List.mem_of_getElem? (i := 6) rfl)
theorem f_180_1 {G : Nat → Nat → Int} (h : x_Fin xGL G) : G 180 1 = ((182 : Nat) : Int) := h (180, 1, 182) (List.mem_of_getElem? (i := 7) rfl)
theorem f_179_1 {G : Nat → Nat → Int} (h : x_Fin xGL G) : G 179 1 = ((183 : Nat) : Int) := h (179, 1, 183) (List.mem_of_getElem? (i := 8) rfl)
theorem f_173_1 {G : Nat → Nat → Int} (h : x_Fin xGL G) : G 173 1 = ((179 : Nat) : Int) := h (173, 1, 179) (List.mem_of_getElem? (i := 9) rfl)
theorem f_173_2 {G : Nat → Nat → Int} (h : x_Fin xGL G) : G 173 2 = ((184 : Nat) : Int) := h (173, 2, 184) (List.mem_of_getElem? (i := 10) rfl)
theorem f_173_3 {G : Nat → Nat → Int} (h : x_Fin xGL G) : G 173 3 = ((185 : Nat) : Int) := h (173, 3, 185) (List.mem_of_getElem? (i := 11) rfl)
theorem f_173_4 {G : Nat → Nat → Int} (h : x_Fin xGL G) : G 173 4 = ((186 : Nat) : Int) := h (173, 4, 186) (List.mem_of_getElem? (i := 12) rfl)
theorem f_173_5 {G : Nat → Nat → Int} (h : x_Fin xGL G) : G 173 5 = ((187 : Nat) : Int) := h (173, 5, 187) (List.mem_of_getElem? (i := 13) rfl)
theorem f_173_6 {G : Nat → Nat → Int} (h : x_Fin xGL G) : G 173 6 = ((188 : Nat) : Int) := h (173, 6, 188) (List.mem_of_getElem? (i := 14) rfl)
theorem f_173_7 {G : Nat → Nat → Int} (h : x_Fin xGL G) : G 173 7 = ((189 : Nat) : Int) := h (173, 7, 189) (List.mem_of_getElem? (i := 15) rfl)
theorem f_173_8 {G : Nat → Nat → Int} (h : x_Fin xGL G) : G 173 8 = ((190 : Nat) : Int) := h (173, 8, 190) (List.mem_of_getElem? (i := 16) rfl)
theorem f_173_9 {G : Nat → Nat → Int} (h : x_Fin xGL G) : G 173 9 = ((191 : Nat) : Int) := h (173, 9, 191) (List.mem_of_getElem? (i := 17) rfl)
theorem f_173_10 {G : Nat → Nat → Int} (h : x_Fin xGL G) : G 173 10 = ((192 : Nat) : Int) := h (173, 10, 192) (List.mem_of_getElem? (i := 18) rfl)
theorem f_173_11 {G : Nat → Nat → Int} (h : x_Fin xGL G) : G 173 11 = ((193 : Nat) : Int) := h (173, 11, 193) (List.mem_of_getElem? (i := 19) rfl)
theorem f_173_12 {G : Nat → Nat → Int} (h : x_Fin xGL G) : G 173 12 = ((194 : Nat) : Int) := h (173, 12, 194) (List.mem_of_getElem? (i := 20) rfl)
