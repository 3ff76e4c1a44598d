theorem zq_2 : zcls 2 = 1 := by decide +kernel
theorem zq_3 : zcls 3 = 2 := by decide +kernel
theorem zq_4 : zcls 4 = 29 := by decide +kernel
theorem zq_5 : zcls 5 = 3 := by decide +kernel
theorem zq_6 : zcls 6 = 4 := by decide +kernel
theorem zq_7 : zcls 7 = 30 := by decide +kernel
theorem zq_8 : zcls 8 = 31 := by decide +kernel
theorem zq_9 : zcls 9 = 32 := by decide +kernel
theorem zq_10 : zcls 10 = 5 := by decide +kernel
theorem zq_11 : zcls 11 = 33 := by decide +kernel
theorem zq_12 : zcls 12 = 34 := by decide +kernel
theorem zq_13 : zcls 13 = 35 := by decide +kernel
theorem zq_14 : zcls 14 = 36 := by decide +kernel
theorem zq_15 : zcls 15 = 37 := by decide +kernel
theorem zq_16 : zcls 16 = 38 := by decide +kernel
theorem zq_17 : zcls 17 = 39 := by decide +kernel
theorem zq_18 : zcls 18 = 40 := by decide +kernel
theorem zq_19 : zcls 19 = 6 := by decide +kernel
theorem zq_20 : zcls 20 = 41 := by decide +kernel
theorem zq_21 : zcls 21 = 42 := by decide +kernel
theorem zq_22 : zcls 22 = 43 := by decide +kernel
theorem zq_23 : zcls 23 = 44 := by decide +kernel
theorem zq_24 : zcls 24 = 45 := by decide +kernel
theorem zq_25 : zcls 25 = 7 := by decide +kernel
theorem zq_26 : zcls 26 = 7 := by decide +kernel
theorem zq_27 : zcls 27 = 7 := by decide +kernel
theorem zq_28 : zcls 28 = 7 := by decide +kernel
theorem zq_29 : zcls 29 = 7 := by decide +kernel
theorem zq_30 : zcls 30 = 7 := by decide +kernel
theorem zq_31 : zcls 31 = 7 := by decide +kernel
theorem zq_32 : zcls 32 = 7 := by decide +kernel
theorem zq_33 : zcls 33 = 7 := by decide +kernel
theorem zq_34 : zcls 34 = 7 := by decide +kernel
theorem zq_35 : zcls 35 = 7 := by decide +kernel
theorem zq_36 : zcls 36 = 7 := by decide +kernel
theorem zq_37 : zcls 37 = 7 := by decide +kernel
theorem zq_38 : zcls 38 = 7 := by decide +kernel
theorem zq_39 : zcls 39 = 7 := by decide +kernel
theorem zq_40 : zcls 40 = 7 := by decide +kernel
theorem zq_41 : zcls 41 = 8 := by decide +kernel
theorem zq_42 : zcls 42 = 8 := by decide +kernel
theorem zq_43 : zcls 43 = 8 := by decide +kernel
theorem zq_44 : zcls 44 = 8 := by decide +kernel
theorem zq_45 : zcls 45 = 9 := by decide +kernel
theorem zq_46 : zcls 46 = 46 := by decide +kernel
theorem zq_47 : zcls 47 = 10 := by decide +kernel
theorem zq_48 : zcls 48 = 47 := by decide +kernel
theorem zq_49 : zcls 49 = 48 := by decide +kernel
theorem zq_50 : zcls 50 = 11 := by decide +kernel
theorem zq_51 : zcls 51 = 49 := by decide +kernel
theorem zq_52 : zcls 52 = 50 := by decide +kernel
theorem zq_53 : zcls 53 = 51 := by decide +kernel
theorem zq_54 : zcls 54 = 12 := by decide +kernel
theorem zq_55 : zcls 55 = 52 := by decide +kernel
theorem zq_56 : zcls 56 = 53 := by decide +kernel
theorem zq_57 : zcls 57 = 54 := by decide +kernel
theorem zq_58 : zcls 58 = 55 := by decide +kernel
theorem zq_59 : zcls 59 = 56 := by decide +kernel
theorem zq_60 : zcls 60 = 57 := by decide +kernel
theorem zq_61 : zcls 61 = 58 := by decide +kernel
theorem zq_62 : zcls 62 = 59 := by decide +kernel
theorem zq_63 : zcls 63 = 13 := by decide +kernel
theorem zq_64 : zcls 64 = 60 := by decide +kernel
theorem zq_65 : zcls 65 = 61 := by decide +kernel
theorem zq_66 : zcls 66 = 62 := by decide +kernel
theorem zq_67 : zcls 67 = 63 := by decide +kernel
theorem zq_68 : zcls 68 = 64 := by decide +kernel
theorem zq_69 : zcls 69 = 14 := by decide +kernel
theorem zq_70 : zcls 70 = 14 := by decide +kernel
theorem zq_71 : zcls 71 = 14 := by decide +kernel
theorem zq_72 : zcls 72 = 14 := by decide +kernel
theorem zq_73 : zcls 73 = 14 := by decide +kernel
theorem zq_74 : zcls 74 = 14 := by decide +kernel
theorem zq_75 : zcls 75 = 14 := by decide +kernel
theorem zq_76 : zcls 76 = 14 := by decide +kernel
theorem zq_77 : zcls 77 = 14 := by decide +kernel
theorem zq_78 : zcls 78 = 14 := by decide +kernel
theorem zq_79 : zcls 79 = 14 := by decide +kernel
theorem zq_80 : zcls 80 = 14 := by decide +kernel
theorem zq_81 : zcls 81 = 14 := by decide +kernel
theorem zq_82 : zcls 82 = 14 := by decide +kernel
theorem zq_83 : zcls 83 = 14 := by decide +kernel
theorem zq_84 : zcls 84 = 14 := by decide +kernel
theorem zq_85 : zcls 85 = 15 := by decide +kernel
theorem zq_86 : zcls 86 = 15 := by decide +kernel
theorem zq_87 : zcls 87 = 15 := by decide +kernel
theorem zq_88 : zcls 88 = 15 := by decide +kernel
theorem zq_89 : zcls 89 = 16 := by decide +kernel
theorem zq_90 : zcls 90 = 65 := by decide +kernel
theorem zq_91 : zcls 91 = 66 := by decide +kernel
theorem zq_92 : zcls 92 = 67 := by decide +kernel
theorem zq_93 : zcls 93 = 68 := by decide +kernel
theorem zq_94 : zcls 94 = 69 := by decide +kernel
theorem zq_95 : zcls 95 = 17 := by decide +kernel
theorem zq_96 : zcls 96 = 17 := by decide +kernel
theorem zq_97 : zcls 97 = 17 := by decide +kernel
theorem zq_98 : zcls 98 = 17 := by decide +kernel
theorem zq_99 : zcls 99 = 17 := by decide +kernel
theorem zq_100 : zcls 100 = 17 := by decide +kernel
theorem zq_101 : zcls 101 = 17 := by decide +kernel
theorem zq_102 : zcls 102 = 17 := by decide +kernel
theorem zq_103 : zcls 103 = 17 := by decide +kernel
theorem zq_104 : zcls 104 = 17 := by decide +kernel
theorem zq_105 : zcls 105 = 17 := by decide +kernel
theorem zq_106 : zcls 106 = 17 := by decide +kernel
theorem zq_107 : zcls 107 = 17 := by decide +kernel
theorem zq_108 : zcls 108 = 17 := by decide +kernel
theorem zq_109 : zcls 109 = 17 := by decide +kernel
theorem zq_110 : zcls 110 = 17 := by decide +kernel
theorem zq_111 : zcls 111 = 18 := by decide +kernel
theorem zq_112 : zcls 112 = 18 := by decide +kernel
theorem zq_113 : zcls 113 = 18 := by decide +kernel
theorem zq_114 : zcls 114 = 18 := by decide +kernel
theorem zq_115 : zcls 115 = 19 := by decide +kernel
theorem zq_116 : zcls 116 = 70 := by decide +kernel
theorem zq_117 : zcls 117 = 71 := by decide +kernel
theorem zq_118 : zcls 118 = 72 := by decide +kernel
theorem zq_119 : zcls 119 = 73 := by decide +kernel
theorem zq_120 : zcls 120 = 74 := by decide +kernel
theorem zq_121 : zcls 121 = 20 := by decide +kernel
theorem zq_122 : zcls 122 = 20 := by decide +kernel
theorem zq_123 : zcls 123 = 20 := by decide +kernel
theorem zq_124 : zcls 124 = 20 := by decide +kernel
theorem zq_125 : zcls 125 = 20 := by decide +kernel
theorem zq_126 : zcls 126 = 20 := by decide +kernel
theorem zq_127 : zcls 127 = 20 := by decide +kernel
theorem zq_128 : zcls 128 = 20 := by decide +kernel
theorem zq_129 : zcls 129 = 20 := by decide +kernel
theorem zq_130 : zcls 130 = 20 := by decide +kernel
theorem zq_131 : zcls 131 = 20 := by decide +kernel
theorem zq_132 : zcls 132 = 20 := by decide +kernel
theorem zq_133 : zcls 133 = 20 := by decide +kernel
theorem zq_134 : zcls 134 = 20 := by decide +kernel
theorem zq_135 : zcls 135 = 20 := by decide +kernel
theorem zq_136 : zcls 136 = 20 := by decide +kernel
theorem zq_137 : zcls 137 = 21 := by decide +kernel
theorem zq_138 : zcls 138 = 21 := by decide +kernel
theorem zq_139 : zcls 139 = 21 := by decide +kernel
theorem zq_140 : zcls 140 = 21 := by decide +kernel
theorem zq_141 : zcls 141 = 22 := by decide +kernel
theorem zq_142 : zcls 142 = 75 := by decide +kernel
theorem zq_143 : zcls 143 = 76 := by decide +kernel
theorem zq_144 : zcls 144 = 77 := by decide +kernel
theorem zq_145 : zcls 145 = 78 := by decide +kernel
theorem zq_146 : zcls 146 = 79 := by decide +kernel
theorem zq_147 : zcls 147 = 80 := by decide +kernel
theorem zq_148 : zcls 148 = 23 := by decide +kernel
theorem zq_149 : zcls 149 = 81 := by decide +kernel
theorem zq_150 : zcls 150 = 82 := by decide +kernel
theorem zq_151 : zcls 151 = 83 := by decide +kernel
theorem zq_152 : zcls 152 = 84 := by decide +kernel
theorem zq_153 : zcls 153 = 24 := by decide +kernel
theorem zq_154 : zcls 154 = 85 := by decide +kernel
theorem zq_155 : zcls 155 = 86 := by decide +kernel
theorem zq_156 : zcls 156 = 87 := by decide +kernel
theorem zq_157 : zcls 157 = 88 := by decide +kernel
theorem zq_158 : zcls 158 = 89 := by decide +kernel
theorem zq_159 : zcls 159 = 90 := by decide +kernel
theorem zq_160 : zcls 160 = 91 := by decide +kernel
theorem zq_161 : zcls 161 = 92 := by decide +kernel
theorem zq_162 : zcls 162 = 93 := by decide +kernel
theorem zq_163 : zcls 163 = 94 := by decide +kernel
theorem zq_164 : zcls 164 = 25 := by decide +kernel
theorem zq_165 : zcls 165 = 95 := by decide +kernel
theorem zq_166 : zcls 166 = 96 := by decide +kernel
theorem zq_167 : zcls 167 = 97 := by decide +kernel
theorem zq_168 : zcls 168 = 98 := by decide +kernel
theorem zq_169 : zcls 169 = 99 := by decide +kernel
theorem zq_170 : zcls 170 = 26 := by decide +kernel
theorem zq_171 : zcls 171 = 26 := by decide +kernel
theorem zq_172 : zcls 172 = 26 := by decide +kernel
theorem zq_173 : zcls 173 = 26 := by decide +kernel
theorem zq_174 : zcls 174 = 26 := by decide +kernel
theorem zq_175 : zcls 175 = 26 := by decide +kernel
theorem zq_176 : zcls 176 = 26 := by decide +kernel
theorem zq_177 : zcls 177 = 26 := by decide +kernel
theorem zq_178 : zcls 178 = 26 := by decide +kernel
theorem zq_179 : zcls 179 = 26 := by decide +kernel
theorem zq_180 : zcls 180 = 26 := by decide +kernel
theorem zq_181 : zcls 181 = 26 := by decide +kernel
theorem zq_182 : zcls 182 = 26 := by decide +kernel
theorem zq_183 : zcls 183 = 26 := by decide +kernel
theorem zq_184 : zcls 184 = 26 := by decide +kernel
theorem zq_185 : zcls 185 = 26 := by decide +kernel
theorem zq_186 : zcls 186 = 27 := by decide +kernel
theorem zq_187 : zcls 187 = 27 := by decide +kernel
theorem zq_188 : zcls 188 = 27 := by decide +kernel
theorem zq_189 : zcls 189 = 27 := by decide +kernel
theorem zq_190 : zcls 190 = 28 := by decide +kernel
theorem zq_191 : zcls 191 = 100 := by decide +kernel
theorem zq_192 : zcls 192 = 101 := by decide +kernel
theorem zq_193 : zcls 193 = 102 := by decide +kernel
theorem zq_194 : zcls 194 = 103 := by decide +kernel
theorem zq_195 : zcls 195 = 104 := by decide +kernel
theorem zq_196 : zcls 196 = 105 := by decide +kernel
theorem zq_197 : zcls 197 = 106 := by decide +kernel
theorem zq_198 : zcls 198 = 107 := by decide +kernel
theorem zq_199 : zcls 199 = 108 := by decide +kernel
theorem zq_200 : zcls 200 = 109 := by decide +kernel
theorem zq_201 : zcls 201 = 110 := by decide +kernel
theorem zq_202 : zcls 202 = 111 := by decide +kernel
theorem zq_203 : zcls 203 = 112 := by decide +kernel
theorem zq_204 : zcls 204 = 113 := by decide +kernel
theorem zq_205 : zcls 205 = 114 := by decide +kernel
theorem zq_206 : zcls 206 = 115 := by decide +kernel
theorem zq_207 : zcls 207 = 116 := by decide +kernel
theorem zq_208 : zcls 208 = 117 := by decide +kernel
theorem zq_209 : zcls 209 = 118 := by decide +kernel
theorem zq_210 : zcls 210 = 119 := by decide +kernel
theorem zq_211 : zcls 211 = 120 := by decide +kernel
theorem zq_212 : zcls 212 = 121 := by decide +kernel
theorem zq_213 : zcls 213 = 122 := by decide +kernel
theorem zq_214 : zcls 214 = 123 := by decide +kernel
theorem zq_215 : zcls 215 = 124 := by decide +kernel
theorem zq_216 : zcls 216 = 125 := by decide +kernel
theorem zq_217 : zcls 217 = 126 := by decide +kernel
theorem zq_218 : zcls 218 = 127 := by decide +kernel
theorem zq_219 : zcls 219 = 128 := by decide +kernel
theorem zq_220 : zcls 220 = 129 := by decide +kernel
theorem zq_221 : zcls 221 = 130 := by decide +kernel
theorem zq_222 : zcls 222 = 131 := by decide +kernel
theorem zq_223 : zcls 223 = 132 := by decide +kernel
theorem zq_224 : zcls 224 = 133 := by decide +kernel
theorem zq_225 : zcls 225 = 134 := by decide +kernel
theorem zq_226 : zcls 226 = 135 := by decide +kernel
theorem zq_227 : zcls 227 = 136 := by decide +kernel
theorem zq_228 : zcls 228 = 137 := by decide +kernel
theorem zq_229 : zcls 229 = 138 := by decide +kernel
theorem zq_230 : zcls 230 = 139 := by decide +kernel
theorem zq_231 : zcls 231 = 140 := by decide +kernel
theorem zq_232 : zcls 232 = 141 := by decide +kernel
theorem zq_233 : zcls 233 = 142 := by decide +kernel
theorem zc_4_6 {a : Int} (h : zcls a = 4) : zcls (a + 1) = 30 := zcls_st (k := 1) (by decide +kernel) (by decide) h
theorem zc_4_7 {a : Int} (h : zcls a = 4) : zcls (a + 2) = 31 := zcls_st (k := 2) (by decide +kernel) (by decide) h
theorem zc_4_8 {a : Int} (h : zcls a = 4) : zcls (a + 3) = 32 := zcls_st (k := 3) (by decide +kernel) (by decide) h
theorem zc_4_9 {a : Int} (h : zcls a = 4) : zcls (a + 4) = 5 := zcls_st (k := 4) (by decide +kernel) (by decide) h
theorem zc_4_10 {a : Int} (h : zcls a = 4) : zcls (a + 10) = 38 := zcls_st (k := 10) (by decide +kernel) (by decide) h
theorem zc_4_11 {a : Int} (h : zcls a = 4) : zcls (a + 11) = 39 := zcls_st (k := 11) (by decide +kernel) (by decide) h
theorem zc_4_12 {a : Int} (h : zcls a = 4) : zcls (a + 12) = 40 := zcls_st (k := 12) (by decide +kernel) (by decide) h
theorem zc_5_0 {a : Int} (h : zcls a = 5) : zcls (a + 1) = 33 := zcls_st (k := 1) (by decide +kernel) (by decide) h
theorem zc_5_1 {a : Int} (h : zcls a = 5) : zcls (a + 2) = 34 := zcls_st (k := 2) (by decide +kernel) (by decide) h
theorem zc_5_2 {a : Int} (h : zcls a = 5) : zcls (a + 3) = 35 := zcls_st (k := 3) (by decide +kernel) (by decide) h
theorem zc_5_3 {a : Int} (h : zcls a = 5) : zcls (a + 4) = 36 := zcls_st (k := 4) (by decide +kernel) (by decide) h
theorem zc_5_4 {a : Int} (h : zcls a = 5) : zcls (a + 5) = 37 := zcls_st (k := 5) (by decide +kernel) (by decide) h
theorem zc_11_6 {a : Int} (h : zcls a = 11) : zcls (a + 1) = 49 := zcls_st (k := 1) (by decide +kernel) (by decide) h
theorem zc_11_7 {a : Int} (h : zcls a = 11) : zcls (a + 2) = 50 := zcls_st (k := 2) (by decide +kernel) (by decide) h
theorem zc_11_8 {a : Int} (h : zcls a = 11) : zcls (a + 3) = 51 := zcls_st (k := 3) (by decide +kernel) (by decide) h
theorem zc_11_9 {a : Int} (h : zcls a = 11) : zcls (a + 4) = 12 := zcls_st (k := 4) (by decide +kernel) (by decide) h
theorem zc_11_10 {a : Int} (h : zcls a = 11) : zcls (a + 10) = 57 := zcls_st (k := 10) (by decide +kernel) (by decide) h
theorem zc_11_11 {a : Int} (h : zcls a = 11) : zcls (a + 11) = 58 := zcls_st (k := 11) (by decide +kernel) (by decide) h
theorem zc_11_12 {a : Int} (h : zcls a = 11) : zcls (a + 12) = 59 := zcls_st (k := 12) (by decide +kernel) (by decide) h
theorem zc_12_0 {a : Int} (h : zcls a = 12) : zcls (a + 1) = 52 := zcls_st (k := 1) (by decide +kernel) (by decide) h
theorem zc_12_1 {a : Int} (h : zcls a = 12) : zcls (a + 2) = 53 := zcls_st (k := 2) (by decide +kernel) (by decide) h
theorem zc_12_2 {a : Int} (h : zcls a = 12) : zcls (a + 3) = 54 := zcls_st (k := 3) (by decide +kernel) (by decide) h
theorem zc_12_3 {a : Int} (h : zcls a = 12) : zcls (a + 4) = 55 := zcls_st (k := 4) (by decide +kernel) (by decide) h
theorem zc_12_4 {a : Int} (h : zcls a = 12) : zcls (a + 5) = 56 := zcls_st (k := 5) (by decide +kernel) (by decide) h
theorem zc_13_1 {a : Int} (h : zcls a = 13) : zcls (a + 1) = 60 := zcls_st (k := 1) (by decide +kernel) (by decide) h
theorem zc_13_3 {a : Int} (h : zcls a = 13) : zcls (a + 2) = 61 := zcls_st (k := 2) (by decide +kernel) (by decide) h
theorem zc_13_5 {a : Int} (h : zcls a = 13) : zcls (a + 3) = 62 := zcls_st (k := 3) (by decide +kernel) (by decide) h
theorem zc_13_6 {a : Int} (h : zcls a = 13) : zcls (a + 4) = 63 := zcls_st (k := 4) (by decide +kernel) (by decide) h
theorem zc_13_7 {a : Int} (h : zcls a = 13) : zcls (a + 5) = 64 := zcls_st (k := 5) (by decide +kernel) (by decide) h
theorem zc_16_1 {a : Int} (h : zcls a = 16) : zcls (a + 1) = 65 := zcls_st (k := 1) (by decide +kernel) (by decide) h
theorem zc_16_3 {a : Int} (h : zcls a = 16) : zcls (a + 2) = 66 := zcls_st (k := 2) (by decide +kernel) (by decide) h
theorem zc_16_5 {a : Int} (h : zcls a = 16) : zcls (a + 3) = 67 := zcls_st (k := 3) (by decide +kernel) (by decide) h
theorem zc_16_6 {a : Int} (h : zcls a = 16) : zcls (a + 4) = 68 := zcls_st (k := 4) (by decide +kernel) (by decide) h
theorem zc_16_7 {a : Int} (h : zcls a = 16) : zcls (a + 5) = 69 := zcls_st (k := 5) (by decide +kernel) (by decide) h
theorem zc_19_1 {a : Int} (h : zcls a = 19) : zcls (a + 1) = 70 := zcls_st (k := 1) (by decide +kernel) (by decide) h
theorem zc_19_3 {a : Int} (h : zcls a = 19) : zcls (a + 2) = 71 := zcls_st (k := 2) (by decide +kernel) (by decide) h
theorem zc_19_5 {a : Int} (h : zcls a = 19) : zcls (a + 3) = 72 := zcls_st (k := 3) (by decide +kernel) (by decide) h
theorem zc_19_6 {a : Int} (h : zcls a = 19) : zcls (a + 4) = 73 := zcls_st (k := 4) (by decide +kernel) (by decide) h
theorem zc_19_7 {a : Int} (h : zcls a = 19) : zcls (a + 5) = 74 := zcls_st (k := 5) (by decide +kernel) (by decide) h
theorem zc_25_1 {a : Int} (h : zcls a = 25) : zcls (a + 1) = 95 := zcls_st (k := 1) (by decide +kernel) (by decide) h
theorem zc_25_3 {a : Int} (h : zcls a = 25) : zcls (a + 2) = 96 := zcls_st (k := 2) (by decide +kernel) (by decide) h
theorem zc_25_5 {a : Int} (h : zcls a = 25) : zcls (a + 3) = 97 := zcls_st (k := 3) (by decide +kernel) (by decide) h
theorem zc_25_6 {a : Int} (h : zcls a = 25) : zcls (a + 4) = 98 := zcls_st (k := 4) (by decide +kernel) (by decide) h
theorem zc_25_7 {a : Int} (h : zcls a = 25) : zcls (a + 5) = 99 := zcls_st (k := 5) (by decide +kernel) (by decide) h
theorem zc_41_e {a i : Int} (h : zcls a = 41) (hi : 0 ≤ i ∧ i < 16) : zcls (a + 5 + i) = 7 := zcls_el (k := 5) (l := 16) (by decide +kernel) (by decide) h hi
theorem zc_42_e {a i : Int} (h : zcls a = 42) (hi : 0 ≤ i ∧ i < 4) : zcls (a + 20 + i) = 8 := zcls_el (k := 20) (l := 4) (by decide +kernel) (by decide) h hi
theorem zc_60_e {a i : Int} (h : zcls a = 60) (hi : 0 ≤ i ∧ i < 16) : zcls (a + 5 + i) = 14 := zcls_el (k := 5) (l := 16) (by decide +kernel) (by decide) h hi
theorem zc_61_e {a i : Int} (h : zcls a = 61) (hi : 0 ≤ i ∧ i < 4) : zcls (a + 20 + i) = 15 := zcls_el (k := 20) (l := 4) (by decide +kernel) (by decide) h hi
theorem zc_65_e {a i : Int} (h : zcls a = 65) (hi : 0 ≤ i ∧ i < 16) : zcls (a + 5 + i) = 17 := zcls_el (k := 5) (l := 16) (by decide +kernel) (by decide) h hi
theorem zc_66_e {a i : Int} (h : zcls a = 66) (hi : 0 ≤ i ∧ i < 4) : zcls (a + 20 + i) = 18 := zcls_el (k := 20) (l := 4) (by decide +kernel) (by decide) h hi
theorem zc_70_e {a i : Int} (h : zcls a = 70) (hi : 0 ≤ i ∧ i < 16) : zcls (a + 5 + i) = 20 := zcls_el (k := 5) (l := 16) (by decide +kernel) (by decide) h hi
theorem zc_71_e {a i : Int} (h : zcls a = 71) (hi : 0 ≤ i ∧ i < 4) : zcls (a + 20 + i) = 21 := zcls_el (k := 20) (l := 4) (by decide +kernel) (by decide) h hi
theorem zc_95_e {a i : Int} (h : zcls a = 95) (hi : 0 ≤ i ∧ i < 16) : zcls (a + 5 + i) = 26 := zcls_el (k := 5) (l := 16) (by decide +kernel) (by decide) h hi
theorem zc_96_e {a i : Int} (h : zcls a = 96) (hi : 0 ≤ i ∧ i < 4) : zcls (a + 20 + i) = 27 := zcls_el (k := 20) (l := 4) (by decide +kernel) (by decide) h hi
theorem zb_1 (p : Int) : zbd 1 p = some (0, 6) := rfl
theorem zb_2_1 : zbd 2 1 = some (0, 700) := by decide +kernel
theorem zb_2_2 : zbd 2 2 = some (-2147483648, 2147483647) := by decide +kernel
theorem zb_2_3 : zbd 2 3 = some (-2147483648, 2147483647) := by decide +kernel
theorem zb_2_9 : zbd 2 9 = some (0, 1) := by decide +kernel
theorem zb_3_4 : zbd 3 4 = some (-2147483648, 2147483647) := by decide +kernel
theorem zb_3_5 : zbd 3 5 = some (0, 16) := by decide +kernel
theorem zb_3_6 : zbd 3 6 = some (0, 1) := by decide +kernel
theorem zb_3_7 : zbd 3 7 = some (-2147483648, 2147483647) := by decide +kernel
theorem zb_3_8 : zbd 3 8 = some (0, 47) := by decide +kernel
theorem zb_3_9 : zbd 3 9 = some (-2147483648, 2147483647) := by decide +kernel
theorem zb_3_10 : zbd 3 10 = some (-2147483648, 2147483647) := by decide +kernel
theorem zb_4_0 : zbd 4 0 = some (1, 8) := by decide +kernel
theorem zb_4_1 : zbd 4 1 = some (1, 6) := by decide +kernel
theorem zb_4_2 : zbd 4 2 = some (1, 48) := by decide +kernel
theorem zb_4_3 : zbd 4 3 = some (0, 6) := by decide +kernel
theorem zb_4_4 : zbd 4 4 = some (0, 99) := by decide +kernel
theorem zb_4_5 : zbd 4 5 = some (0, 99999) := by decide +kernel
theorem zb_5_5 : zbd 5 5 = some (0, 64) := by decide +kernel
theorem zb_5_6 : zbd 5 6 = some (0, 64) := by decide +kernel
theorem zb_6_2 : zbd 6 2 = some (0, 16) := by decide +kernel
theorem zb_6_4 : zbd 6 4 = some (0, 4) := by decide +kernel
theorem zb_6_8 : zbd 6 8 = some (0, 9999) := by decide +kernel
theorem zb_6_9 : zbd 6 9 = some (-2147483648, 2147483647) := by decide +kernel
theorem zb_6_10 : zbd 6 10 = some (0, 3) := by decide +kernel
theorem zb_6_11 : zbd 6 11 = some (-2147483648, 2147483647) := by decide +kernel
theorem zb_7_0 : zbd 7 0 = some (0, 47) := by decide +kernel
theorem zb_7_1 : zbd 7 1 = some (0, 3) := by decide +kernel
theorem zb_7_2 : zbd 7 2 = some (0, 9) := by decide +kernel
theorem zb_7_3 : zbd 7 3 = some (-3, 3) := by decide +kernel
theorem zb_8_0 : zbd 8 0 = some (-2147483648, 2147483647) := by decide +kernel
theorem zb_8_1 : zbd 8 1 = some (0, 47) := by decide +kernel
theorem zb_8_2 : zbd 8 2 = some (0, 15) := by decide +kernel
theorem zb_8_3 : zbd 8 3 = some (0, 3) := by decide +kernel
theorem zb_8_4 : zbd 8 4 = some (-2147483648, 2147483647) := by decide +kernel
theorem zb_8_5 : zbd 8 5 = some (-2147483648, 2147483647) := by decide +kernel
theorem zb_8_6 : zbd 8 6 = some (-2147483648, 2147483647) := by decide +kernel
theorem zb_8_7 : zbd 8 7 = some (-2147483648, 2147483647) := by decide +kernel
theorem zb_9_2 : zbd 9 2 = some (0, 700) := by decide +kernel
theorem zb_9_3 : zbd 9 3 = some (0, 700) := by decide +kernel
theorem zb_9_4 : zbd 9 4 = some (0, 5) := by decide +kernel
theorem zb_9_5 : zbd 9 5 = some (-2147483648, 2147483647) := by decide +kernel
theorem zb_9_6 : zbd 9 6 = some (0, 700) := by decide +kernel
theorem zb_10_3 : zbd 10 3 = some (0, 72) := by decide +kernel
theorem zb_10_4 : zbd 10 4 = some (0, 8) := by decide +kernel
theorem zb_10_6 : zbd 10 6 = some (0, 1) := by decide +kernel
theorem zb_10_7 : zbd 10 7 = some (0, 1) := by decide +kernel
theorem zb_11_0 : zbd 11 0 = some (1, 8) := by decide +kernel
theorem zb_11_1 : zbd 11 1 = some (1, 6) := by decide +kernel
theorem zb_11_2 : zbd 11 2 = some (1, 48) := by decide +kernel
theorem zb_11_3 : zbd 11 3 = some (0, 6) := by decide +kernel
theorem zb_11_4 : zbd 11 4 = some (0, 99) := by decide +kernel
theorem zb_11_5 : zbd 11 5 = some (0, 99999) := by decide +kernel
theorem zb_12_5 : zbd 12 5 = some (0, 64) := by decide +kernel
theorem zb_12_6 : zbd 12 6 = some (0, 64) := by decide +kernel
theorem zb_13_2 : zbd 13 2 = some (0, 16) := by decide +kernel
theorem zb_13_4 : zbd 13 4 = some (0, 4) := by decide +kernel
theorem zb_13_8 : zbd 13 8 = some (0, 9999) := by decide +kernel
theorem zb_13_9 : zbd 13 9 = some (-2147483648, 2147483647) := by decide +kernel
theorem zb_13_10 : zbd 13 10 = some (0, 3) := by decide +kernel
theorem zb_13_11 : zbd 13 11 = some (-2147483648, 2147483647) := by decide +kernel
theorem zb_14_0 : zbd 14 0 = some (0, 47) := by decide +kernel
theorem zb_14_1 : zbd 14 1 = some (0, 3) := by decide +kernel
theorem zb_14_2 : zbd 14 2 = some (0, 9) := by decide +kernel
theorem zb_14_3 : zbd 14 3 = some (-3, 3) := by decide +kernel
theorem zb_15_0 : zbd 15 0 = some (-2147483648, 2147483647) := by decide +kernel
theorem zb_15_1 : zbd 15 1 = some (0, 47) := by decide +kernel
theorem zb_15_2 : zbd 15 2 = some (0, 15) := by decide +kernel
theorem zb_15_3 : zbd 15 3 = some (0, 3) := by decide +kernel
theorem zb_15_4 : zbd 15 4 = some (-2147483648, 2147483647) := by decide +kernel
theorem zb_15_5 : zbd 15 5 = some (-2147483648, 2147483647) := by decide +kernel
theorem zb_15_6 : zbd 15 6 = some (-2147483648, 2147483647) := by decide +kernel
theorem zb_15_7 : zbd 15 7 = some (-2147483648, 2147483647) := by decide +kernel
theorem zb_16_2 : zbd 16 2 = some (0, 16) := by decide +kernel
theorem zb_16_4 : zbd 16 4 = some (0, 4) := by decide +kernel
theorem zb_16_8 : zbd 16 8 = some (0, 9999) := by decide +kernel
theorem zb_16_9 : zbd 16 9 = some (-2147483648, 2147483647) := by decide +kernel
theorem zb_16_10 : zbd 16 10 = some (0, 3) := by decide +kernel
theorem zb_16_11 : zbd 16 11 = some (-2147483648, 2147483647) := by decide +kernel
theorem zb_17_0 : zbd 17 0 = some (0, 47) := by decide +kernel
theorem zb_17_1 : zbd 17 1 = some (0, 3) := by decide +kernel
theorem zb_17_2 : zbd 17 2 = some (0, 9) := by decide +kernel
theorem zb_17_3 : zbd 17 3 = some (-3, 3) := by decide +kernel
theorem zb_18_0 : zbd 18 0 = some (-2147483648, 2147483647) := by decide +kernel
theorem zb_18_1 : zbd 18 1 = some (0, 47) := by decide +kernel
theorem zb_18_2 : zbd 18 2 = some (0, 15) := by decide +kernel
theorem zb_18_3 : zbd 18 3 = some (0, 3) := by decide +kernel
theorem zb_18_4 : zbd 18 4 = some (-2147483648, 2147483647) := by decide +kernel
theorem zb_18_5 : zbd 18 5 = some (-2147483648, 2147483647) := by decide +kernel
theorem zb_18_6 : zbd 18 6 = some (-2147483648, 2147483647) := by decide +kernel
theorem zb_18_7 : zbd 18 7 = some (-2147483648, 2147483647) := by decide +kernel
theorem zb_19_2 : zbd 19 2 = some (0, 16) := by decide +kernel
theorem zb_19_4 : zbd 19 4 = some (0, 4) := by decide +kernel
theorem zb_19_8 : zbd 19 8 = some (0, 9999) := by decide +kernel
theorem zb_19_9 : zbd 19 9 = some (-2147483648, 2147483647) := by decide +kernel
theorem zb_19_10 : zbd 19 10 = some (0, 3) := by decide +kernel
theorem zb_19_11 : zbd 19 11 = some (-2147483648, 2147483647) := by decide +kernel
theorem zb_20_0 : zbd 20 0 = some (0, 47) := by decide +kernel
theorem zb_20_1 : zbd 20 1 = some (0, 3) := by decide +kernel
theorem zb_20_2 : zbd 20 2 = some (0, 9) := by decide +kernel
theorem zb_20_3 : zbd 20 3 = some (-3, 3) := by decide +kernel
theorem zb_21_0 : zbd 21 0 = some (-2147483648, 2147483647) := by decide +kernel
theorem zb_21_1 : zbd 21 1 = some (0, 47) := by decide +kernel
theorem zb_21_2 : zbd 21 2 = some (0, 15) := by decide +kernel
theorem zb_21_3 : zbd 21 3 = some (0, 3) := by decide +kernel
theorem zb_21_4 : zbd 21 4 = some (-2147483648, 2147483647) := by decide +kernel
theorem zb_21_5 : zbd 21 5 = some (-2147483648, 2147483647) := by decide +kernel
theorem zb_21_6 : zbd 21 6 = some (-2147483648, 2147483647) := by decide +kernel
theorem zb_21_7 : zbd 21 7 = some (-2147483648, 2147483647) := by decide +kernel
theorem zb_22_6 : zbd 22 6 = some (0, 24) := by decide +kernel
theorem zb_22_7 : zbd 22 7 = some (-1, 24) := by decide +kernel
theorem zb_23_4 : zbd 23 4 = some (0, 20) := by decide +kernel
theorem zb_24_6 : zbd 24 6 = some (0, 161) := by decide +kernel
theorem zb_24_13 : zbd 24 13 = some (0, 3) := by decide +kernel
theorem zb_24_14 : zbd 24 14 = some (0, 9) := by decide +kernel
theorem zb_24_15 : zbd 24 15 = some (-2147483648, 2147483647) := by decide +kernel
theorem zb_24_18 : zbd 24 18 = some (0, 4) := by decide +kernel
theorem zb_25_2 : zbd 25 2 = some (0, 16) := by decide +kernel
theorem zb_25_4 : zbd 25 4 = some (0, 4) := by decide +kernel
theorem zb_25_8 : zbd 25 8 = some (0, 20000) := by decide +kernel
theorem zb_25_9 : zbd 25 9 = some (-2147483648, 2147483647) := by decide +kernel
theorem zb_25_10 : zbd 25 10 = some (0, 3) := by decide +kernel
theorem zb_25_11 : zbd 25 11 = some (-2147483648, 2147483647) := by decide +kernel
theorem zb_26_0 : zbd 26 0 = some (0, 47) := by decide +kernel
theorem zb_26_1 : zbd 26 1 = some (0, 3) := by decide +kernel
theorem zb_26_2 : zbd 26 2 = some (0, 9) := by decide +kernel
theorem zb_26_3 : zbd 26 3 = some (-3, 3) := by decide +kernel
theorem zb_27_0 : zbd 27 0 = some (-2147483648, 2147483647) := by decide +kernel
theorem zb_27_1 : zbd 27 1 = some (0, 47) := by decide +kernel
theorem zb_27_2 : zbd 27 2 = some (0, 15) := by decide +kernel
theorem zb_27_3 : zbd 27 3 = some (0, 3) := by decide +kernel
theorem zb_27_4 : zbd 27 4 = some (-2147483648, 2147483647) := by decide +kernel
theorem zb_27_5 : zbd 27 5 = some (-2147483648, 2147483647) := by decide +kernel
theorem zb_27_6 : zbd 27 6 = some (-2147483648, 2147483647) := by decide +kernel
theorem zb_27_7 : zbd 27 7 = some (-2147483648, 2147483647) := by decide +kernel
theorem zb_28_1 : zbd 28 1 = some (0, 700) := by decide +kernel
theorem zb_28_2 : zbd 28 2 = some (-2147483648, 2147483647) := by decide +kernel
theorem zb_28_4 : zbd 28 4 = some (-2147483648, 2147483647) := by decide +kernel
theorem zb_28_5 : zbd 28 5 = some (-2147483648, 2147483647) := by decide +kernel
theorem zb_28_6 : zbd 28 6 = some (0, 700) := by decide +kernel
theorem zb_28_7 : zbd 28 7 = some (0, 700) := by decide +kernel
theorem zb_28_8 : zbd 28 8 = some (0, 6) := by decide +kernel
theorem zb_28_9 : zbd 28 9 = some (-2147483648, 2147483647) := by decide +kernel
theorem zb_28_10 : zbd 28 10 = some (0, 700) := by decide +kernel
theorem zb_28_11 : zbd 28 11 = some (-2147483648, 2147483647) := by decide +kernel
theorem zb_28_12 : zbd 28 12 = some (1, 8) := by decide +kernel
theorem zb_28_13 : zbd 28 13 = some (1, 6) := by decide +kernel
theorem zb_28_14 : zbd 28 14 = some (0, 12) := by decide +kernel
theorem zb_28_15 : zbd 28 15 = some (0, 4) := by decide +kernel
theorem zb_28_16 : zbd 28 16 = some (0, 64) := by decide +kernel
theorem zb_28_17 : zbd 28 17 = some (1, 8) := by decide +kernel
theorem zb_28_18 : zbd 28 18 = some (1, 6) := by decide +kernel
theorem zb_28_19 : zbd 28 19 = some (0, 12) := by decide +kernel
theorem zb_28_20 : zbd 28 20 = some (0, 4) := by decide +kernel
theorem zb_28_21 : zbd 28 21 = some (0, 64) := by decide +kernel
theorem zb_28_22 : zbd 28 22 = some (0, 16) := by decide +kernel
theorem zb_28_23 : zbd 28 23 = some (0, 1) := by decide +kernel
theorem zb_28_42 : zbd 28 42 = some (-2147483648, 2147483647) := by decide +kernel
theorem zb_28_45 : zbd 28 45 = some (0, 96) := by decide +kernel
theorem zb_28_46 : zbd 28 46 = some (0, 96) := by decide +kernel
theorem zb_28_47 : zbd 28 47 = some (0, 8) := by decide +kernel
theorem zb_28_48 : zbd 28 48 = some (0, 64) := by decide +kernel
theorem zb_28_49 : zbd 28 49 = some (0, 1) := by decide +kernel
theorem zb_28_50 : zbd 28 50 = some (0, 1) := by decide +kernel
theorem zb_28_53 : zbd 28 53 = some (0, 1) := by decide +kernel
theorem zb_28_62 : zbd 28 62 = some (-2147483648, 2147483647) := by decide +kernel
theorem zb_28_63 : zbd 28 63 = some (-9223372036854775808, 9223372036854775807) := by decide +kernel
theorem zb_28_64 : zbd 28 64 = some (-2147483648, 2147483647) := by decide +kernel
theorem zb_28_65 : zbd 28 65 = some (0, 1) := by decide +kernel
theorem zb_28_66 : zbd 28 66 = some (0, 1) := by decide +kernel
theorem zb_28_67 : zbd 28 67 = some (0, 1) := by decide +kernel
theorem zb_28_68 : zbd 28 68 = some (0, 1) := by decide +kernel
theorem zb_28_69 : zbd 28 69 = some (-2147483648, 2147483647) := by decide +kernel
theorem zb_28_71 : zbd 28 71 = some (-2147483648, 2147483647) := by decide +kernel
theorem zb_28_72 : zbd 28 72 = some (-2147483648, 2147483647) := by decide +kernel
theorem zb_28_73 : zbd 28 73 = some (-2147483648, 2147483647) := by decide +kernel
theorem zb_28_75 : zbd 28 75 = some (0, 4) := by decide +kernel
theorem zb_28_77 : zbd 28 77 = some (0, 24) := by decide +kernel
theorem zb_28_78 : zbd 28 78 = some (-1, 24) := by decide +kernel
theorem zb_28_81 : zbd 28 81 = some (0, 20) := by decide +kernel
theorem zb_28_83 : zbd 28 83 = some (0, 1) := by decide +kernel
theorem zb_28_88 : zbd 28 88 = some (-9223372036854775808, 9223372036854775807) := by decide +kernel
theorem zb_28_89 : zbd 28 89 = some (-2147483648, 2147483647) := by decide +kernel
theorem zb_28_90 : zbd 28 90 = some (-9223372036854775808, 9223372036854775807) := by decide +kernel
theorem zb_29 (p : Int) : zbd 29 p = some (-2147483648, 2147483647) := rfl
theorem zb_30 (p : Int) : zbd 30 p = some (0, 7) := rfl
theorem zb_31 (p : Int) : zbd 31 p = some (0, 5) := rfl
theorem zb_32 (p : Int) : zbd 32 p = some (0, 3) := rfl
theorem zb_33 (p : Int) : zbd 33 p = some (0, 17) := rfl
theorem zb_34 (p : Int) : zbd 34 p = some (-2147483648, 2147483647) := rfl
theorem zb_35 (p : Int) : zbd 35 p = some (-1, 64) := rfl
theorem zb_36 (p : Int) : zbd 36 p = some (-1, 64) := rfl
theorem zb_37 (p : Int) : zbd 37 p = some (-9223372036854775808, 9223372036854775807) := rfl
theorem zb_38 (p : Int) : zbd 38 p = some (0, 999) := rfl
theorem zb_39 (p : Int) : zbd 39 p = some (0, 100) := rfl
theorem zb_40_0 : zbd 40 0 = some (0, 15) := by decide +kernel
theorem zb_40_1 : zbd 40 1 = some (0, 9) := by decide +kernel
theorem zb_40_2 : zbd 40 2 = some (0, 3) := by decide +kernel
theorem zb_40_3 : zbd 40 3 = some (0, 3) := by decide +kernel
theorem zb_40_4 : zbd 40 4 = some (0, 1) := by decide +kernel
theorem zb_40_5 : zbd 40 5 = some (0, 5) := by decide +kernel
theorem zb_40_6 : zbd 40 6 = some (-2147483648, 2147483647) := by decide +kernel
theorem zb_43 (p : Int) : zbd 43 p = some (0, 1) := rfl
theorem zb_44 (p : Int) : zbd 44 p = some (0, 999000) := rfl
theorem zb_45 (p : Int) : zbd 45 p = some (-2147483648, 2147483647) := rfl
theorem zb_46 (p : Int) : zbd 46 p = some (-2147483648, 2147483647) := rfl
theorem zb_47 (p : Int) : zbd 47 p = some (0, 17) := rfl
theorem zb_48 (p : Int) : zbd 48 p = some (0, 1) := rfl
theorem zb_49 (p : Int) : zbd 49 p = some (0, 7) := rfl
theorem zb_50 (p : Int) : zbd 50 p = some (0, 5) := rfl
theorem zb_51 (p : Int) : zbd 51 p = some (0, 3) := rfl
theorem zb_52 (p : Int) : zbd 52 p = some (0, 17) := rfl
theorem zb_53 (p : Int) : zbd 53 p = some (-2147483648, 2147483647) := rfl
theorem zb_54 (p : Int) : zbd 54 p = some (-1, 64) := rfl
theorem zb_55 (p : Int) : zbd 55 p = some (-1, 64) := rfl
theorem zb_56 (p : Int) : zbd 56 p = some (-9223372036854775808, 9223372036854775807) := rfl
theorem zb_57 (p : Int) : zbd 57 p = some (0, 999) := rfl
theorem zb_58 (p : Int) : zbd 58 p = some (0, 100) := rfl
theorem zb_59_0 : zbd 59 0 = some (0, 15) := by decide +kernel
theorem zb_59_1 : zbd 59 1 = some (0, 9) := by decide +kernel
theorem zb_59_2 : zbd 59 2 = some (0, 3) := by decide +kernel
theorem zb_59_3 : zbd 59 3 = some (0, 3) := by decide +kernel
theorem zb_59_4 : zbd 59 4 = some (0, 1) := by decide +kernel
theorem zb_59_5 : zbd 59 5 = some (0, 5) := by decide +kernel
theorem zb_59_6 : zbd 59 6 = some (-2147483648, 2147483647) := by decide +kernel
theorem zb_62 (p : Int) : zbd 62 p = some (0, 1) := rfl
theorem zb_63 (p : Int) : zbd 63 p = some (0, 999000) := rfl
theorem zb_64 (p : Int) : zbd 64 p = some (-2147483648, 2147483647) := rfl
theorem zb_67 (p : Int) : zbd 67 p = some (0, 1) := rfl
theorem zb_68 (p : Int) : zbd 68 p = some (0, 999000) := rfl
theorem zb_69 (p : Int) : zbd 69 p = some (-2147483648, 2147483647) := rfl
theorem zb_72 (p : Int) : zbd 72 p = some (0, 1) := rfl
theorem zb_73 (p : Int) : zbd 73 p = some (0, 999000) := rfl
theorem zb_74 (p : Int) : zbd 74 p = some (-2147483648, 2147483647) := rfl
theorem zb_75 (p : Int) : zbd 75 p = some (0, 200) := rfl
theorem zb_76 (p : Int) : zbd 76 p = some (0, 3) := rfl
theorem zb_77 (p : Int) : zbd 77 p = some (0, 16) := rfl
theorem zb_78 (p : Int) : zbd 78 p = some (0, 1) := rfl
theorem zb_79 (p : Int) : zbd 79 p = some (-1, 23) := rfl
theorem zb_80 (p : Int) : zbd 80 p = some (0, 1) := rfl
theorem zb_81 (p : Int) : zbd 81 p = some (0, 3) := rfl
theorem zb_82 (p : Int) : zbd 82 p = some (0, 3) := rfl
theorem zb_83 (p : Int) : zbd 83 p = some (0, 47) := rfl
theorem zb_84 (p : Int) : zbd 84 p = some (0, 9) := rfl
theorem zb_85 (p : Int) : zbd 85 p = some (-1, 191) := rfl
theorem zb_86 (p : Int) : zbd 86 p = some (0, 47) := rfl
theorem zb_87 (p : Int) : zbd 87 p = some (0, 1) := rfl
theorem zb_88 (p : Int) : zbd 88 p = some (-2147483648, 2147483647) := rfl
theorem zb_89 (p : Int) : zbd 89 p = some (-2147483648, 2147483647) := rfl
theorem zb_90 (p : Int) : zbd 90 p = some (-2147483648, 2147483647) := rfl
theorem zb_91 (p : Int) : zbd 91 p = some (-2147483648, 2147483647) := rfl
theorem zb_92 (p : Int) : zbd 92 p = some (0, 47) := rfl
theorem zb_93 (p : Int) : zbd 93 p = some (0, 999000) := rfl
theorem zb_94 (p : Int) : zbd 94 p = some (-2147483648, 2147483647) := rfl
theorem zb_97 (p : Int) : zbd 97 p = some (0, 1) := rfl
theorem zb_98 (p : Int) : zbd 98 p = some (0, 999000) := rfl
theorem zb_99 (p : Int) : zbd 99 p = some (-2147483648, 2147483647) := rfl
theorem zb_100 (p : Int) : zbd 100 p = some (-2147483648, 2147483647) := rfl
theorem zb_101 (p : Int) : zbd 101 p = some (-2147483648, 2147483647) := rfl
theorem zb_102 (p : Int) : zbd 102 p = some (0, 1) := rfl
theorem zb_103 (p : Int) : zbd 103 p = some (-1, 99999) := rfl
theorem zb_104 (p : Int) : zbd 104 p = some (0, 3) := rfl
theorem zb_105 (p : Int) : zbd 105 p = some (0, 1) := rfl
theorem zb_106 (p : Int) : zbd 106 p = some (0, 47) := rfl
theorem zb_107 (p : Int) : zbd 107 p = some (0, 3) := rfl
theorem zb_108 (p : Int) : zbd 108 p = some (0, 9) := rfl
theorem zb_109 (p : Int) : zbd 109 p = some (-2147483648, 2147483647) := rfl
theorem zb_110 (p : Int) : zbd 110 p = some (0, 47) := rfl
theorem zb_111 (p : Int) : zbd 111 p = some (0, 15) := rfl
theorem zb_112 (p : Int) : zbd 112 p = some (0, 3) := rfl
theorem zb_113 (p : Int) : zbd 113 p = some (0, 99) := rfl
theorem zb_114 (p : Int) : zbd 114 p = some (0, 1) := rfl
theorem zb_115 (p : Int) : zbd 115 p = some (0, 64) := rfl
theorem zb_116 (p : Int) : zbd 116 p = some (0, 64) := rfl
theorem zb_117 (p : Int) : zbd 117 p = some (0, 14) := rfl
theorem zb_118 (p : Int) : zbd 118 p = some (0, 9999) := rfl
theorem zb_119 (p : Int) : zbd 119 p = some (-1, 63) := rfl
theorem zb_120 (p : Int) : zbd 120 p = some (0, 14) := rfl
theorem zb_121 (p : Int) : zbd 121 p = some (0, 63) := rfl
theorem zb_122 (p : Int) : zbd 122 p = some (-2147483648, 2147483647) := rfl
theorem zb_123 (p : Int) : zbd 123 p = some (-9223372036854775808, 9223372036854775807) := rfl
theorem zb_124 (p : Int) : zbd 124 p = some (-3, 3) := rfl
theorem zb_125_0 : zbd 125 0 = some (0, 16) := by decide +kernel
theorem zb_125_1 : zbd 125 1 = some (0, 18) := by decide +kernel
theorem zb_126 (p : Int) : zbd 126 p = some (0, 47) := rfl
theorem zb_127 (p : Int) : zbd 127 p = some (-2147483648, 2147483647) := rfl
theorem zb_128 (p : Int) : zbd 128 p = some (-2147483648, 2147483647) := rfl
theorem zb_129 (p : Int) : zbd 129 p = some (-9223372036854775808, 9223372036854775807) := rfl
theorem zb_130 (p : Int) : zbd 130 p = some (-2147483648, 2147483647) := rfl
theorem zb_131 (p : Int) : zbd 131 p = some (-2147483648, 2147483647) := rfl
theorem zb_132 (p : Int) : zbd 132 p = some (-2147483648, 2147483647) := rfl
theorem zb_133 (p : Int) : zbd 133 p = some (0, 47) := rfl
theorem zb_134 (p : Int) : zbd 134 p = some (-2147483648, 2147483647) := rfl
theorem zb_135_0 : zbd 135 0 = some (-1, 200) := by decide +kernel
theorem zb_135_1 : zbd 135 1 = some (0, 23) := by decide +kernel
theorem zb_135_2 : zbd 135 2 = some (0, 16) := by decide +kernel
theorem zb_135_3 : zbd 135 3 = some (0, 1) := by decide +kernel
theorem zb_136 (p : Int) : zbd 136 p = some (0, 1) := rfl
theorem zb_137_0 : zbd 137 0 = some (0, 16) := by decide +kernel
theorem zb_137_1 : zbd 137 1 = some (-2147483648, 2147483647) := by decide +kernel
theorem zb_137_2 : zbd 137 2 = some (0, 47) := by decide +kernel
theorem zb_137_3 : zbd 137 3 = some (0, 47) := by decide +kernel
theorem zb_137_4 : zbd 137 4 = some (0, 47) := by decide +kernel
theorem zb_137_5 : zbd 137 5 = some (0, 47) := by decide +kernel
theorem zb_137_6 : zbd 137 6 = some (0, 1919) := by decide +kernel
theorem zb_137_7 : zbd 137 7 = some (0, 1919) := by decide +kernel
theorem zb_137_8 : zbd 137 8 = some (0, 1919) := by decide +kernel
theorem zb_137_9 : zbd 137 9 = some (0, 1919) := by decide +kernel
theorem zb_137_10 : zbd 137 10 = some (0, 1919) := by decide +kernel
theorem zb_137_11 : zbd 137 11 = some (0, 1919) := by decide +kernel
theorem zb_137_12 : zbd 137 12 = some (0, 1919) := by decide +kernel
theorem zb_137_13 : zbd 137 13 = some (0, 1919) := by decide +kernel
theorem zb_137_14 : zbd 137 14 = some (0, 1919) := by decide +kernel
theorem zb_137_15 : zbd 137 15 = some (0, 1919) := by decide +kernel
theorem zb_137_16 : zbd 137 16 = some (0, 1919) := by decide +kernel
theorem zb_137_17 : zbd 137 17 = some (0, 1919) := by decide +kernel
theorem zb_137_18 : zbd 137 18 = some (0, 1919) := by decide +kernel
theorem zb_137_19 : zbd 137 19 = some (0, 1919) := by decide +kernel
theorem zb_137_20 : zbd 137 20 = some (0, 1919) := by decide +kernel
theorem zb_137_21 : zbd 137 21 = some (0, 1919) := by decide +kernel
theorem zb_138_0 : zbd 138 0 = some (0, 16) := by decide +kernel
theorem zb_138_1 : zbd 138 1 = some (-2147483648, 2147483647) := by decide +kernel
theorem zb_138_2 : zbd 138 2 = some (0, 47) := by decide +kernel
theorem zb_138_3 : zbd 138 3 = some (0, 47) := by decide +kernel
theorem zb_138_4 : zbd 138 4 = some (0, 47) := by decide +kernel
theorem zb_138_5 : zbd 138 5 = some (0, 47) := by decide +kernel
theorem zb_138_6 : zbd 138 6 = some (0, 1919) := by decide +kernel
theorem zb_138_7 : zbd 138 7 = some (0, 1919) := by decide +kernel
theorem zb_138_8 : zbd 138 8 = some (0, 1919) := by decide +kernel
theorem zb_138_9 : zbd 138 9 = some (0, 1919) := by decide +kernel
theorem zb_138_10 : zbd 138 10 = some (0, 1919) := by decide +kernel
theorem zb_138_11 : zbd 138 11 = some (0, 1919) := by decide +kernel
theorem zb_138_12 : zbd 138 12 = some (0, 1919) := by decide +kernel
theorem zb_138_13 : zbd 138 13 = some (0, 1919) := by decide +kernel
theorem zb_138_14 : zbd 138 14 = some (0, 1919) := by decide +kernel
theorem zb_138_15 : zbd 138 15 = some (0, 1919) := by decide +kernel
theorem zb_138_16 : zbd 138 16 = some (0, 1919) := by decide +kernel
theorem zb_138_17 : zbd 138 17 = some (0, 1919) := by decide +kernel
theorem zb_138_18 : zbd 138 18 = some (0, 1919) := by decide +kernel
theorem zb_138_19 : zbd 138 19 = some (0, 1919) := by decide +kernel
theorem zb_138_20 : zbd 138 20 = some (0, 1919) := by decide +kernel
theorem zb_138_21 : zbd 138 21 = some (0, 1919) := by decide +kernel
theorem zb_139 (p : Int) : zbd 139 p = some (-3, 3) := rfl
theorem zb_140 (p : Int) : zbd 140 p = some (-2147483648, 2147483647) := rfl
theorem zb_141 (p : Int) : zbd 141 p = some (-2147483648, 2147483647) := rfl
theorem zb_142 (p : Int) : zbd 142 p = some (-9223372036854775808, 9223372036854775807) := rfl
