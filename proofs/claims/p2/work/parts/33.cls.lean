theorem zq_2 : zcls 2 = 1 := by decide +kernel
theorem zq_3 : zcls 3 = 2 := by decide +kernel
theorem zq_4 : zcls 4 = 16 := by decide +kernel
theorem zq_5 : zcls 5 = 3 := by decide +kernel
theorem zq_6 : zcls 6 = 4 := by decide +kernel
theorem zq_7 : zcls 7 = 17 := by decide +kernel
theorem zq_8 : zcls 8 = 18 := by decide +kernel
theorem zq_9 : zcls 9 = 19 := by decide +kernel
theorem zq_10 : zcls 10 = 5 := by decide +kernel
theorem zq_11 : zcls 11 = 20 := by decide +kernel
theorem zq_12 : zcls 12 = 21 := by decide +kernel
theorem zq_13 : zcls 13 = 22 := by decide +kernel
theorem zq_14 : zcls 14 = 23 := by decide +kernel
theorem zq_15 : zcls 15 = 24 := by decide +kernel
theorem zq_16 : zcls 16 = 25 := by decide +kernel
theorem zq_17 : zcls 17 = 26 := by decide +kernel
theorem zq_18 : zcls 18 = 27 := by decide +kernel
theorem zq_19 : zcls 19 = 6 := by decide +kernel
theorem zq_20 : zcls 20 = 28 := by decide +kernel
theorem zq_21 : zcls 21 = 29 := by decide +kernel
theorem zq_22 : zcls 22 = 30 := by decide +kernel
theorem zq_23 : zcls 23 = 31 := by decide +kernel
theorem zq_24 : zcls 24 = 32 := by decide +kernel
theorem zq_25 : zcls 25 = 7 := by decide +kernel
theorem zq_26 : zcls 26 = 7 := by decide +kernel
theorem zq_27 : zcls 27 = 7 := by decide +kernel
theorem zq_28 : zcls 28 = 7 := by decide +kernel
theorem zq_29 : zcls 29 = 7 := by decide +kernel
theorem zq_30 : zcls 30 = 7 := by decide +kernel
theorem zq_31 : zcls 31 = 7 := by decide +kernel
theorem zq_32 : zcls 32 = 7 := by decide +kernel
theorem zq_33 : zcls 33 = 7 := by decide +kernel
theorem zq_34 : zcls 34 = 7 := by decide +kernel
theorem zq_35 : zcls 35 = 7 := by decide +kernel
theorem zq_36 : zcls 36 = 7 := by decide +kernel
theorem zq_37 : zcls 37 = 7 := by decide +kernel
theorem zq_38 : zcls 38 = 7 := by decide +kernel
theorem zq_39 : zcls 39 = 7 := by decide +kernel
theorem zq_40 : zcls 40 = 7 := by decide +kernel
theorem zq_41 : zcls 41 = 8 := by decide +kernel
theorem zq_42 : zcls 42 = 8 := by decide +kernel
theorem zq_43 : zcls 43 = 8 := by decide +kernel
theorem zq_44 : zcls 44 = 8 := by decide +kernel
theorem zq_45 : zcls 45 = 9 := by decide +kernel
theorem zq_46 : zcls 46 = 33 := by decide +kernel
theorem zq_47 : zcls 47 = 10 := by decide +kernel
theorem zq_48 : zcls 48 = 34 := by decide +kernel
theorem zq_49 : zcls 49 = 35 := by decide +kernel
theorem zq_50 : zcls 50 = 4 := by decide +kernel
theorem zq_51 : zcls 51 = 17 := by decide +kernel
theorem zq_52 : zcls 52 = 18 := by decide +kernel
theorem zq_53 : zcls 53 = 19 := by decide +kernel
theorem zq_54 : zcls 54 = 5 := by decide +kernel
theorem zq_55 : zcls 55 = 20 := by decide +kernel
theorem zq_56 : zcls 56 = 21 := by decide +kernel
theorem zq_57 : zcls 57 = 22 := by decide +kernel
theorem zq_58 : zcls 58 = 23 := by decide +kernel
theorem zq_59 : zcls 59 = 24 := by decide +kernel
theorem zq_60 : zcls 60 = 25 := by decide +kernel
theorem zq_61 : zcls 61 = 26 := by decide +kernel
theorem zq_62 : zcls 62 = 27 := by decide +kernel
theorem zq_63 : zcls 63 = 11 := by decide +kernel
theorem zq_64 : zcls 64 = 36 := by decide +kernel
theorem zq_65 : zcls 65 = 37 := by decide +kernel
theorem zq_66 : zcls 66 = 38 := by decide +kernel
theorem zq_67 : zcls 67 = 39 := by decide +kernel
theorem zq_68 : zcls 68 = 40 := by decide +kernel
theorem zq_69 : zcls 69 = 7 := by decide +kernel
theorem zq_70 : zcls 70 = 7 := by decide +kernel
theorem zq_71 : zcls 71 = 7 := by decide +kernel
theorem zq_72 : zcls 72 = 7 := by decide +kernel
theorem zq_73 : zcls 73 = 7 := by decide +kernel
theorem zq_74 : zcls 74 = 7 := by decide +kernel
theorem zq_75 : zcls 75 = 7 := by decide +kernel
theorem zq_76 : zcls 76 = 7 := by decide +kernel
theorem zq_77 : zcls 77 = 7 := by decide +kernel
theorem zq_78 : zcls 78 = 7 := by decide +kernel
theorem zq_79 : zcls 79 = 7 := by decide +kernel
theorem zq_80 : zcls 80 = 7 := by decide +kernel
theorem zq_81 : zcls 81 = 7 := by decide +kernel
theorem zq_82 : zcls 82 = 7 := by decide +kernel
theorem zq_83 : zcls 83 = 7 := by decide +kernel
theorem zq_84 : zcls 84 = 7 := by decide +kernel
theorem zq_85 : zcls 85 = 8 := by decide +kernel
theorem zq_86 : zcls 86 = 8 := by decide +kernel
theorem zq_87 : zcls 87 = 8 := by decide +kernel
theorem zq_88 : zcls 88 = 8 := by decide +kernel
theorem zq_89 : zcls 89 = 11 := by decide +kernel
theorem zq_90 : zcls 90 = 36 := by decide +kernel
theorem zq_91 : zcls 91 = 37 := by decide +kernel
theorem zq_92 : zcls 92 = 38 := by decide +kernel
theorem zq_93 : zcls 93 = 39 := by decide +kernel
theorem zq_94 : zcls 94 = 40 := by decide +kernel
theorem zq_95 : zcls 95 = 7 := by decide +kernel
theorem zq_96 : zcls 96 = 7 := by decide +kernel
theorem zq_97 : zcls 97 = 7 := by decide +kernel
theorem zq_98 : zcls 98 = 7 := by decide +kernel
theorem zq_99 : zcls 99 = 7 := by decide +kernel
theorem zq_100 : zcls 100 = 7 := by decide +kernel
theorem zq_101 : zcls 101 = 7 := by decide +kernel
theorem zq_102 : zcls 102 = 7 := by decide +kernel
theorem zq_103 : zcls 103 = 7 := by decide +kernel
theorem zq_104 : zcls 104 = 7 := by decide +kernel
theorem zq_105 : zcls 105 = 7 := by decide +kernel
theorem zq_106 : zcls 106 = 7 := by decide +kernel
theorem zq_107 : zcls 107 = 7 := by decide +kernel
theorem zq_108 : zcls 108 = 7 := by decide +kernel
theorem zq_109 : zcls 109 = 7 := by decide +kernel
theorem zq_110 : zcls 110 = 7 := by decide +kernel
theorem zq_111 : zcls 111 = 8 := by decide +kernel
theorem zq_112 : zcls 112 = 8 := by decide +kernel
theorem zq_113 : zcls 113 = 8 := by decide +kernel
theorem zq_114 : zcls 114 = 8 := by decide +kernel
theorem zq_115 : zcls 115 = 11 := by decide +kernel
theorem zq_116 : zcls 116 = 36 := by decide +kernel
theorem zq_117 : zcls 117 = 37 := by decide +kernel
theorem zq_118 : zcls 118 = 38 := by decide +kernel
theorem zq_119 : zcls 119 = 39 := by decide +kernel
theorem zq_120 : zcls 120 = 40 := by decide +kernel
theorem zq_121 : zcls 121 = 7 := by decide +kernel
theorem zq_122 : zcls 122 = 7 := by decide +kernel
theorem zq_123 : zcls 123 = 7 := by decide +kernel
theorem zq_124 : zcls 124 = 7 := by decide +kernel
theorem zq_125 : zcls 125 = 7 := by decide +kernel
theorem zq_126 : zcls 126 = 7 := by decide +kernel
theorem zq_127 : zcls 127 = 7 := by decide +kernel
theorem zq_128 : zcls 128 = 7 := by decide +kernel
theorem zq_129 : zcls 129 = 7 := by decide +kernel
theorem zq_130 : zcls 130 = 7 := by decide +kernel
theorem zq_131 : zcls 131 = 7 := by decide +kernel
theorem zq_132 : zcls 132 = 7 := by decide +kernel
theorem zq_133 : zcls 133 = 7 := by decide +kernel
theorem zq_134 : zcls 134 = 7 := by decide +kernel
theorem zq_135 : zcls 135 = 7 := by decide +kernel
theorem zq_136 : zcls 136 = 7 := by decide +kernel
theorem zq_137 : zcls 137 = 8 := by decide +kernel
theorem zq_138 : zcls 138 = 8 := by decide +kernel
theorem zq_139 : zcls 139 = 8 := by decide +kernel
theorem zq_140 : zcls 140 = 8 := by decide +kernel
theorem zq_141 : zcls 141 = 12 := by decide +kernel
theorem zq_142 : zcls 142 = 41 := by decide +kernel
theorem zq_143 : zcls 143 = 42 := by decide +kernel
theorem zq_144 : zcls 144 = 43 := by decide +kernel
theorem zq_145 : zcls 145 = 44 := by decide +kernel
theorem zq_146 : zcls 146 = 45 := by decide +kernel
theorem zq_147 : zcls 147 = 46 := by decide +kernel
theorem zq_148 : zcls 148 = 13 := by decide +kernel
theorem zq_149 : zcls 149 = 47 := by decide +kernel
theorem zq_150 : zcls 150 = 48 := by decide +kernel
theorem zq_151 : zcls 151 = 49 := by decide +kernel
theorem zq_152 : zcls 152 = 50 := by decide +kernel
theorem zq_153 : zcls 153 = 14 := by decide +kernel
theorem zq_154 : zcls 154 = 51 := by decide +kernel
theorem zq_155 : zcls 155 = 52 := by decide +kernel
theorem zq_156 : zcls 156 = 53 := by decide +kernel
theorem zq_157 : zcls 157 = 54 := by decide +kernel
theorem zq_158 : zcls 158 = 55 := by decide +kernel
theorem zq_159 : zcls 159 = 56 := by decide +kernel
theorem zq_160 : zcls 160 = 57 := by decide +kernel
theorem zq_161 : zcls 161 = 58 := by decide +kernel
theorem zq_162 : zcls 162 = 59 := by decide +kernel
theorem zq_163 : zcls 163 = 60 := by decide +kernel
theorem zq_164 : zcls 164 = 11 := by decide +kernel
theorem zq_165 : zcls 165 = 36 := by decide +kernel
theorem zq_166 : zcls 166 = 37 := by decide +kernel
theorem zq_167 : zcls 167 = 38 := by decide +kernel
theorem zq_168 : zcls 168 = 39 := by decide +kernel
theorem zq_169 : zcls 169 = 40 := by decide +kernel
theorem zq_170 : zcls 170 = 7 := by decide +kernel
theorem zq_171 : zcls 171 = 7 := by decide +kernel
theorem zq_172 : zcls 172 = 7 := by decide +kernel
theorem zq_173 : zcls 173 = 7 := by decide +kernel
theorem zq_174 : zcls 174 = 7 := by decide +kernel
theorem zq_175 : zcls 175 = 7 := by decide +kernel
theorem zq_176 : zcls 176 = 7 := by decide +kernel
theorem zq_177 : zcls 177 = 7 := by decide +kernel
theorem zq_178 : zcls 178 = 7 := by decide +kernel
theorem zq_179 : zcls 179 = 7 := by decide +kernel
theorem zq_180 : zcls 180 = 7 := by decide +kernel
theorem zq_181 : zcls 181 = 7 := by decide +kernel
theorem zq_182 : zcls 182 = 7 := by decide +kernel
theorem zq_183 : zcls 183 = 7 := by decide +kernel
theorem zq_184 : zcls 184 = 7 := by decide +kernel
theorem zq_185 : zcls 185 = 7 := by decide +kernel
theorem zq_186 : zcls 186 = 8 := by decide +kernel
theorem zq_187 : zcls 187 = 8 := by decide +kernel
theorem zq_188 : zcls 188 = 8 := by decide +kernel
theorem zq_189 : zcls 189 = 8 := by decide +kernel
theorem zq_190 : zcls 190 = 15 := by decide +kernel
theorem zq_191 : zcls 191 = 61 := by decide +kernel
theorem zq_192 : zcls 192 = 62 := by decide +kernel
theorem zq_193 : zcls 193 = 63 := by decide +kernel
theorem zq_194 : zcls 194 = 64 := by decide +kernel
theorem zq_195 : zcls 195 = 65 := by decide +kernel
theorem zq_196 : zcls 196 = 66 := by decide +kernel
theorem zq_197 : zcls 197 = 67 := by decide +kernel
theorem zq_198 : zcls 198 = 68 := by decide +kernel
theorem zq_199 : zcls 199 = 69 := by decide +kernel
theorem zq_200 : zcls 200 = 70 := by decide +kernel
theorem zq_201 : zcls 201 = 71 := by decide +kernel
theorem zq_202 : zcls 202 = 72 := by decide +kernel
theorem zq_203 : zcls 203 = 73 := by decide +kernel
theorem zq_204 : zcls 204 = 74 := by decide +kernel
theorem zq_205 : zcls 205 = 75 := by decide +kernel
theorem zq_206 : zcls 206 = 76 := by decide +kernel
theorem zq_207 : zcls 207 = 77 := by decide +kernel
theorem zq_208 : zcls 208 = 78 := by decide +kernel
theorem zq_209 : zcls 209 = 79 := by decide +kernel
theorem zq_210 : zcls 210 = 80 := by decide +kernel
theorem zq_211 : zcls 211 = 81 := by decide +kernel
theorem zq_212 : zcls 212 = 82 := by decide +kernel
theorem zq_213 : zcls 213 = 83 := by decide +kernel
theorem zq_214 : zcls 214 = 84 := by decide +kernel
theorem zq_215 : zcls 215 = 85 := by decide +kernel
theorem zq_216 : zcls 216 = 86 := by decide +kernel
theorem zq_217 : zcls 217 = 87 := by decide +kernel
theorem zq_218 : zcls 218 = 88 := by decide +kernel
theorem zq_219 : zcls 219 = 89 := by decide +kernel
theorem zq_220 : zcls 220 = 90 := by decide +kernel
theorem zq_221 : zcls 221 = 91 := by decide +kernel
theorem zq_222 : zcls 222 = 92 := by decide +kernel
theorem zq_223 : zcls 223 = 93 := by decide +kernel
theorem zq_224 : zcls 224 = 94 := by decide +kernel
theorem zq_225 : zcls 225 = 95 := by decide +kernel
theorem zq_226 : zcls 226 = 96 := by decide +kernel
theorem zq_227 : zcls 227 = 97 := by decide +kernel
theorem zq_228 : zcls 228 = 98 := by decide +kernel
theorem zq_229 : zcls 229 = 99 := by decide +kernel
theorem zq_230 : zcls 230 = 100 := by decide +kernel
theorem zq_231 : zcls 231 = 101 := by decide +kernel
theorem zq_232 : zcls 232 = 102 := by decide +kernel
theorem zq_233 : zcls 233 = 103 := by decide +kernel
theorem zc_4_6 {a : Int} (h : zcls a = 4) : zcls (a + 1) = 17 := zcls_st (k := 1) (by decide +kernel) (by decide) h
theorem zc_4_7 {a : Int} (h : zcls a = 4) : zcls (a + 2) = 18 := zcls_st (k := 2) (by decide +kernel) (by decide) h
theorem zc_4_8 {a : Int} (h : zcls a = 4) : zcls (a + 3) = 19 := zcls_st (k := 3) (by decide +kernel) (by decide) h
theorem zc_4_9 {a : Int} (h : zcls a = 4) : zcls (a + 4) = 5 := zcls_st (k := 4) (by decide +kernel) (by decide) h
theorem zc_4_10 {a : Int} (h : zcls a = 4) : zcls (a + 10) = 25 := zcls_st (k := 10) (by decide +kernel) (by decide) h
theorem zc_4_11 {a : Int} (h : zcls a = 4) : zcls (a + 11) = 26 := zcls_st (k := 11) (by decide +kernel) (by decide) h
theorem zc_4_12 {a : Int} (h : zcls a = 4) : zcls (a + 12) = 27 := zcls_st (k := 12) (by decide +kernel) (by decide) h
theorem zc_5_0 {a : Int} (h : zcls a = 5) : zcls (a + 1) = 20 := zcls_st (k := 1) (by decide +kernel) (by decide) h
theorem zc_5_1 {a : Int} (h : zcls a = 5) : zcls (a + 2) = 21 := zcls_st (k := 2) (by decide +kernel) (by decide) h
theorem zc_5_2 {a : Int} (h : zcls a = 5) : zcls (a + 3) = 22 := zcls_st (k := 3) (by decide +kernel) (by decide) h
theorem zc_5_3 {a : Int} (h : zcls a = 5) : zcls (a + 4) = 23 := zcls_st (k := 4) (by decide +kernel) (by decide) h
theorem zc_5_4 {a : Int} (h : zcls a = 5) : zcls (a + 5) = 24 := zcls_st (k := 5) (by decide +kernel) (by decide) h
theorem zc_11_1 {a : Int} (h : zcls a = 11) : zcls (a + 1) = 36 := zcls_st (k := 1) (by decide +kernel) (by decide) h
theorem zc_11_3 {a : Int} (h : zcls a = 11) : zcls (a + 2) = 37 := zcls_st (k := 2) (by decide +kernel) (by decide) h
theorem zc_11_5 {a : Int} (h : zcls a = 11) : zcls (a + 3) = 38 := zcls_st (k := 3) (by decide +kernel) (by decide) h
theorem zc_11_6 {a : Int} (h : zcls a = 11) : zcls (a + 4) = 39 := zcls_st (k := 4) (by decide +kernel) (by decide) h
theorem zc_11_7 {a : Int} (h : zcls a = 11) : zcls (a + 5) = 40 := zcls_st (k := 5) (by decide +kernel) (by decide) h
theorem zc_28_e {a i : Int} (h : zcls a = 28) (hi : 0 ≤ i ∧ i < 16) : zcls (a + 5 + i) = 7 := zcls_el (k := 5) (l := 16) (by decide +kernel) (by decide) h hi
theorem zc_29_e {a i : Int} (h : zcls a = 29) (hi : 0 ≤ i ∧ i < 4) : zcls (a + 20 + i) = 8 := zcls_el (k := 20) (l := 4) (by decide +kernel) (by decide) h hi
theorem zc_36_e {a i : Int} (h : zcls a = 36) (hi : 0 ≤ i ∧ i < 16) : zcls (a + 5 + i) = 7 := zcls_el (k := 5) (l := 16) (by decide +kernel) (by decide) h hi
theorem zc_37_e {a i : Int} (h : zcls a = 37) (hi : 0 ≤ i ∧ i < 4) : zcls (a + 20 + i) = 8 := zcls_el (k := 20) (l := 4) (by decide +kernel) (by decide) h hi
theorem zb_1 (p : Int) : zbd 1 p = some (0, 6) := rfl
theorem zb_2_1 : zbd 2 1 = some (0, 700) := rfl
theorem zb_2_2 : zbd 2 2 = some (-2147483648, 2147483647) := rfl
theorem zb_2_3 : zbd 2 3 = some (-2147483648, 2147483647) := rfl
theorem zb_2_9 : zbd 2 9 = some (0, 1) := rfl
theorem zb_3_4 : zbd 3 4 = some (-2147483648, 2147483647) := rfl
theorem zb_3_5 : zbd 3 5 = some (0, 16) := rfl
theorem zb_3_6 : zbd 3 6 = some (0, 1) := rfl
theorem zb_3_7 : zbd 3 7 = some (-2147483648, 2147483647) := rfl
theorem zb_3_8 : zbd 3 8 = some (0, 47) := rfl
theorem zb_3_9 : zbd 3 9 = some (-2147483648, 2147483647) := rfl
theorem zb_3_10 : zbd 3 10 = some (-2147483648, 2147483647) := rfl
theorem zb_4_0 : zbd 4 0 = some (1, 8) := rfl
theorem zb_4_1 : zbd 4 1 = some (1, 6) := rfl
theorem zb_4_2 : zbd 4 2 = some (1, 48) := rfl
theorem zb_4_3 : zbd 4 3 = some (0, 6) := rfl
theorem zb_4_4 : zbd 4 4 = some (0, 99) := rfl
theorem zb_4_5 : zbd 4 5 = some (0, 99999) := rfl
theorem zb_5_5 : zbd 5 5 = some (0, 64) := rfl
theorem zb_5_6 : zbd 5 6 = some (0, 64) := rfl
theorem zb_6_2 : zbd 6 2 = some (0, 16) := rfl
theorem zb_6_4 : zbd 6 4 = some (0, 4) := rfl
theorem zb_6_8 : zbd 6 8 = some (-2147483648, 2147483647) := rfl
theorem zb_6_9 : zbd 6 9 = some (-2147483648, 2147483647) := rfl
theorem zb_6_10 : zbd 6 10 = some (0, 3) := rfl
theorem zb_6_11 : zbd 6 11 = some (-2147483648, 2147483647) := rfl
theorem zb_7_0 : zbd 7 0 = some (0, 47) := rfl
theorem zb_7_1 : zbd 7 1 = some (0, 3) := rfl
theorem zb_7_2 : zbd 7 2 = some (0, 9) := rfl
theorem zb_7_3 : zbd 7 3 = some (-3, 3) := rfl
theorem zb_8_0 : zbd 8 0 = some (-2147483648, 2147483647) := rfl
theorem zb_8_1 : zbd 8 1 = some (0, 47) := rfl
theorem zb_8_2 : zbd 8 2 = some (0, 15) := rfl
theorem zb_8_3 : zbd 8 3 = some (0, 3) := rfl
theorem zb_8_4 : zbd 8 4 = some (-2147483648, 2147483647) := rfl
theorem zb_8_5 : zbd 8 5 = some (-2147483648, 2147483647) := rfl
theorem zb_8_6 : zbd 8 6 = some (-2147483648, 2147483647) := rfl
theorem zb_8_7 : zbd 8 7 = some (-2147483648, 2147483647) := rfl
theorem zb_9_2 : zbd 9 2 = some (0, 700) := rfl
theorem zb_9_3 : zbd 9 3 = some (0, 700) := rfl
theorem zb_9_4 : zbd 9 4 = some (0, 5) := rfl
theorem zb_9_5 : zbd 9 5 = some (-2147483648, 2147483647) := rfl
theorem zb_9_6 : zbd 9 6 = some (0, 700) := rfl
theorem zb_10_3 : zbd 10 3 = some (0, 72) := rfl
theorem zb_10_4 : zbd 10 4 = some (0, 8) := rfl
theorem zb_10_6 : zbd 10 6 = some (0, 1) := rfl
theorem zb_10_7 : zbd 10 7 = some (0, 1) := rfl
theorem zb_11_2 : zbd 11 2 = some (0, 16) := rfl
theorem zb_11_4 : zbd 11 4 = some (0, 4) := rfl
theorem zb_11_8 : zbd 11 8 = some (-2147483648, 2147483647) := rfl
theorem zb_11_9 : zbd 11 9 = some (-2147483648, 2147483647) := rfl
theorem zb_11_10 : zbd 11 10 = some (0, 3) := rfl
theorem zb_11_11 : zbd 11 11 = some (-2147483648, 2147483647) := rfl
theorem zb_12_6 : zbd 12 6 = some (0, 24) := rfl
theorem zb_12_7 : zbd 12 7 = some (-1, 24) := rfl
theorem zb_13_4 : zbd 13 4 = some (0, 20) := rfl
theorem zb_14_6 : zbd 14 6 = some (0, 161) := rfl
theorem zb_14_13 : zbd 14 13 = some (0, 3) := rfl
theorem zb_14_14 : zbd 14 14 = some (0, 9) := rfl
theorem zb_14_15 : zbd 14 15 = some (-2147483648, 2147483647) := rfl
theorem zb_14_18 : zbd 14 18 = some (0, 4) := rfl
theorem zb_15_1 : zbd 15 1 = some (0, 700) := rfl
theorem zb_15_2 : zbd 15 2 = some (-2147483648, 2147483647) := rfl
theorem zb_15_4 : zbd 15 4 = some (-2147483648, 2147483647) := rfl
theorem zb_15_5 : zbd 15 5 = some (-2147483648, 2147483647) := rfl
theorem zb_15_6 : zbd 15 6 = some (0, 700) := rfl
theorem zb_15_7 : zbd 15 7 = some (0, 700) := rfl
theorem zb_15_8 : zbd 15 8 = some (0, 6) := rfl
theorem zb_15_9 : zbd 15 9 = some (-2147483648, 2147483647) := rfl
theorem zb_15_10 : zbd 15 10 = some (0, 700) := rfl
theorem zb_15_11 : zbd 15 11 = some (-2147483648, 2147483647) := rfl
theorem zb_15_12 : zbd 15 12 = some (1, 8) := rfl
theorem zb_15_13 : zbd 15 13 = some (1, 6) := rfl
theorem zb_15_14 : zbd 15 14 = some (0, 12) := rfl
theorem zb_15_15 : zbd 15 15 = some (0, 4) := rfl
theorem zb_15_16 : zbd 15 16 = some (0, 64) := rfl
theorem zb_15_17 : zbd 15 17 = some (1, 8) := rfl
theorem zb_15_18 : zbd 15 18 = some (1, 6) := rfl
theorem zb_15_19 : zbd 15 19 = some (0, 12) := rfl
theorem zb_15_20 : zbd 15 20 = some (0, 4) := rfl
theorem zb_15_21 : zbd 15 21 = some (0, 64) := rfl
theorem zb_15_22 : zbd 15 22 = some (0, 16) := rfl
theorem zb_15_23 : zbd 15 23 = some (0, 1) := rfl
theorem zb_15_42 : zbd 15 42 = some (-2147483648, 2147483647) := rfl
theorem zb_15_45 : zbd 15 45 = some (0, 96) := rfl
theorem zb_15_46 : zbd 15 46 = some (0, 96) := rfl
theorem zb_15_47 : zbd 15 47 = some (0, 8) := rfl
theorem zb_15_48 : zbd 15 48 = some (0, 64) := rfl
theorem zb_15_49 : zbd 15 49 = some (0, 1) := rfl
theorem zb_15_50 : zbd 15 50 = some (0, 1) := rfl
theorem zb_15_53 : zbd 15 53 = some (0, 1) := rfl
theorem zb_15_62 : zbd 15 62 = some (-2147483648, 2147483647) := rfl
theorem zb_15_63 : zbd 15 63 = some (-9223372036854775808, 9223372036854775807) := rfl
theorem zb_15_64 : zbd 15 64 = some (-2147483648, 2147483647) := rfl
theorem zb_15_65 : zbd 15 65 = some (0, 1) := rfl
theorem zb_15_66 : zbd 15 66 = some (0, 1) := rfl
theorem zb_15_67 : zbd 15 67 = some (0, 1) := rfl
theorem zb_15_68 : zbd 15 68 = some (0, 1) := rfl
theorem zb_15_69 : zbd 15 69 = some (-2147483648, 2147483647) := rfl
theorem zb_15_71 : zbd 15 71 = some (-2147483648, 2147483647) := rfl
theorem zb_15_72 : zbd 15 72 = some (-2147483648, 2147483647) := rfl
theorem zb_15_73 : zbd 15 73 = some (-2147483648, 2147483647) := rfl
theorem zb_15_75 : zbd 15 75 = some (0, 4) := rfl
theorem zb_15_77 : zbd 15 77 = some (0, 24) := rfl
theorem zb_15_78 : zbd 15 78 = some (-1, 24) := rfl
theorem zb_15_81 : zbd 15 81 = some (0, 20) := rfl
theorem zb_15_83 : zbd 15 83 = some (0, 1) := rfl
theorem zb_15_88 : zbd 15 88 = some (-9223372036854775808, 9223372036854775807) := rfl
theorem zb_15_89 : zbd 15 89 = some (-2147483648, 2147483647) := rfl
theorem zb_15_90 : zbd 15 90 = some (-9223372036854775808, 9223372036854775807) := rfl
theorem zb_16 (p : Int) : zbd 16 p = some (-2147483648, 2147483647) := rfl
theorem zb_17 (p : Int) : zbd 17 p = some (0, 7) := rfl
theorem zb_18 (p : Int) : zbd 18 p = some (0, 5) := rfl
theorem zb_19 (p : Int) : zbd 19 p = some (0, 3) := rfl
theorem zb_20 (p : Int) : zbd 20 p = some (0, 17) := rfl
theorem zb_21 (p : Int) : zbd 21 p = some (-2147483648, 2147483647) := rfl
theorem zb_22 (p : Int) : zbd 22 p = some (-1, 64) := rfl
theorem zb_23 (p : Int) : zbd 23 p = some (-1, 64) := rfl
theorem zb_24 (p : Int) : zbd 24 p = some (-1000000000000, 1000000000000) := rfl
theorem zb_25 (p : Int) : zbd 25 p = some (0, 999) := rfl
theorem zb_26 (p : Int) : zbd 26 p = some (0, 100) := rfl
theorem zb_27_0 : zbd 27 0 = some (0, 15) := rfl
theorem zb_27_1 : zbd 27 1 = some (0, 9) := rfl
theorem zb_27_2 : zbd 27 2 = some (0, 3) := rfl
theorem zb_27_3 : zbd 27 3 = some (0, 3) := rfl
theorem zb_27_4 : zbd 27 4 = some (0, 1) := rfl
theorem zb_27_5 : zbd 27 5 = some (0, 5) := rfl
theorem zb_27_6 : zbd 27 6 = some (-2147483648, 2147483647) := rfl
theorem zb_30 (p : Int) : zbd 30 p = some (0, 1) := rfl
theorem zb_31 (p : Int) : zbd 31 p = some (0, 999000) := rfl
theorem zb_32 (p : Int) : zbd 32 p = some (-2147483648, 2147483647) := rfl
theorem zb_33 (p : Int) : zbd 33 p = some (-2147483648, 2147483647) := rfl
theorem zb_34 (p : Int) : zbd 34 p = some (0, 17) := rfl
theorem zb_35 (p : Int) : zbd 35 p = some (0, 1) := rfl
theorem zb_38 (p : Int) : zbd 38 p = some (0, 1) := rfl
theorem zb_39 (p : Int) : zbd 39 p = some (0, 999000) := rfl
theorem zb_40 (p : Int) : zbd 40 p = some (-2147483648, 2147483647) := rfl
theorem zb_41 (p : Int) : zbd 41 p = some (0, 200) := rfl
theorem zb_42 (p : Int) : zbd 42 p = some (0, 3) := rfl
theorem zb_43 (p : Int) : zbd 43 p = some (0, 16) := rfl
theorem zb_44 (p : Int) : zbd 44 p = some (0, 1) := rfl
theorem zb_45 (p : Int) : zbd 45 p = some (-1, 23) := rfl
theorem zb_46 (p : Int) : zbd 46 p = some (0, 1) := rfl
theorem zb_47 (p : Int) : zbd 47 p = some (0, 3) := rfl
theorem zb_48 (p : Int) : zbd 48 p = some (0, 3) := rfl
theorem zb_49 (p : Int) : zbd 49 p = some (0, 47) := rfl
theorem zb_50 (p : Int) : zbd 50 p = some (0, 9) := rfl
theorem zb_51 (p : Int) : zbd 51 p = some (-1, 191) := rfl
theorem zb_52 (p : Int) : zbd 52 p = some (0, 47) := rfl
theorem zb_53 (p : Int) : zbd 53 p = some (0, 1) := rfl
theorem zb_54 (p : Int) : zbd 54 p = some (-2147483648, 2147483647) := rfl
theorem zb_55 (p : Int) : zbd 55 p = some (-2147483648, 2147483647) := rfl
theorem zb_56 (p : Int) : zbd 56 p = some (-2147483648, 2147483647) := rfl
theorem zb_57 (p : Int) : zbd 57 p = some (-2147483648, 2147483647) := rfl
theorem zb_58 (p : Int) : zbd 58 p = some (0, 47) := rfl
theorem zb_59 (p : Int) : zbd 59 p = some (0, 999000) := rfl
theorem zb_60 (p : Int) : zbd 60 p = some (-2147483648, 2147483647) := rfl
theorem zb_61 (p : Int) : zbd 61 p = some (-2147483648, 2147483647) := rfl
theorem zb_62 (p : Int) : zbd 62 p = some (-2147483648, 2147483647) := rfl
theorem zb_63 (p : Int) : zbd 63 p = some (0, 1) := rfl
theorem zb_64 (p : Int) : zbd 64 p = some (-1, 99999) := rfl
theorem zb_65 (p : Int) : zbd 65 p = some (-2147483648, 2147483647) := rfl
theorem zb_66 (p : Int) : zbd 66 p = some (0, 1) := rfl
theorem zb_67 (p : Int) : zbd 67 p = some (0, 47) := rfl
theorem zb_68 (p : Int) : zbd 68 p = some (0, 3) := rfl
theorem zb_69 (p : Int) : zbd 69 p = some (0, 9) := rfl
theorem zb_70 (p : Int) : zbd 70 p = some (-2147483648, 2147483647) := rfl
theorem zb_71 (p : Int) : zbd 71 p = some (0, 47) := rfl
theorem zb_72 (p : Int) : zbd 72 p = some (0, 15) := rfl
theorem zb_73 (p : Int) : zbd 73 p = some (0, 3) := rfl
theorem zb_74 (p : Int) : zbd 74 p = some (0, 99) := rfl
theorem zb_75 (p : Int) : zbd 75 p = some (0, 1) := rfl
theorem zb_76 (p : Int) : zbd 76 p = some (0, 64) := rfl
theorem zb_77 (p : Int) : zbd 77 p = some (0, 64) := rfl
theorem zb_78 (p : Int) : zbd 78 p = some (0, 14) := rfl
theorem zb_79 (p : Int) : zbd 79 p = some (0, 9999) := rfl
theorem zb_80 (p : Int) : zbd 80 p = some (-1, 63) := rfl
theorem zb_81 (p : Int) : zbd 81 p = some (0, 14) := rfl
theorem zb_82 (p : Int) : zbd 82 p = some (0, 63) := rfl
theorem zb_83 (p : Int) : zbd 83 p = some (-2147483648, 2147483647) := rfl
theorem zb_84 (p : Int) : zbd 84 p = some (-1000000000000, 1000000000000) := rfl
theorem zb_85 (p : Int) : zbd 85 p = some (-3, 3) := rfl
theorem zb_86_0 : zbd 86 0 = some (0, 16) := rfl
theorem zb_86_1 : zbd 86 1 = some (0, 18) := rfl
theorem zb_87 (p : Int) : zbd 87 p = some (0, 47) := rfl
theorem zb_88 (p : Int) : zbd 88 p = some (-2147483648, 2147483647) := rfl
theorem zb_89 (p : Int) : zbd 89 p = some (-2147483648, 2147483647) := rfl
theorem zb_90 (p : Int) : zbd 90 p = some (-9223372036854775808, 9223372036854775807) := rfl
theorem zb_91 (p : Int) : zbd 91 p = some (-2147483648, 2147483647) := rfl
theorem zb_92 (p : Int) : zbd 92 p = some (-2147483648, 2147483647) := rfl
theorem zb_93 (p : Int) : zbd 93 p = some (-2147483648, 2147483647) := rfl
theorem zb_94 (p : Int) : zbd 94 p = some (0, 47) := rfl
theorem zb_95 (p : Int) : zbd 95 p = some (-2147483648, 2147483647) := rfl
theorem zb_96 (p : Int) : zbd 96 p = some (-2147483648, 2147483647) := rfl
theorem zb_97 (p : Int) : zbd 97 p = some (0, 1) := rfl
theorem zb_98 (p : Int) : zbd 98 p = some (-2147483648, 2147483647) := rfl
theorem zb_99 (p : Int) : zbd 99 p = some (-2147483648, 2147483647) := rfl
theorem zb_100 (p : Int) : zbd 100 p = some (-3, 3) := rfl
theorem zb_101 (p : Int) : zbd 101 p = some (-2147483648, 2147483647) := rfl
theorem zb_102 (p : Int) : zbd 102 p = some (-2147483648, 2147483647) := rfl
theorem zb_103 (p : Int) : zbd 103 p = some (-9223372036854775808, 9223372036854775807) := rfl
