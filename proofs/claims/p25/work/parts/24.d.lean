set_option maxRecDepth 100000 in
theorem zt_wy97_ok : xw_in zt_wy97 [(1, 19), (8, 197), (0, 79)] = true := by decide +kernel
set_option maxRecDepth 100000 in
theorem zt_wy98_ok : xw_in zt_wy98 [(1, 19), (9, 23), (0, 94)] = true := by decide +kernel
set_option maxRecDepth 100000 in
theorem zt_wy99_ok : xw_in zt_wy99 [(1, 19), (8, 174), (0, 74)] = true := by decide +kernel
set_option maxRecDepth 100000 in
theorem zt_wy100_ok : xw_in zt_wy100 [(1, 19), (8, 185), (0, 76)] = true := by decide +kernel
set_option maxRecDepth 100000 in
theorem zt_wy101_ok : xw_in zt_wy101 [(1, 19), (8, 193), (0, 78)] = true := by decide +kernel
set_option maxRecDepth 100000 in
theorem zt_wy102_ok : xw_in zt_wy102 [(1, 19), (8, 201), (0, 80)] = true := by decide +kernel
set_option maxRecDepth 100000 in
theorem zt_wy103_ok : xw_in zt_wy103 [(1, 19), (8, 208), (0, 81)] = true := by decide +kernel
set_option maxRecDepth 100000 in
theorem zt_wy104_ok : xw_in zt_wy104 [(1, 19), (9, 19), (0, 93)] = true := by decide +kernel
set_option maxRecDepth 100000 in
theorem zt_wy105_ok : xw_in zt_wy105 [(1, 19), (8, 166), (0, 72)] = true := by decide +kernel
set_option maxRecDepth 100000 in
theorem zt_wy106_ok : xw_in zt_wy106 [(1, 19), (8, 136), (8, 137)] = true := by decide +kernel
set_option maxRecDepth 100000 in
theorem zt_wy107_ok : xw_in zt_wy107 [(1, 19), (9, 26), (9, 27)] = true := by decide +kernel
set_option maxRecDepth 100000 in
theorem zt_wy108_ok : xw_in zt_wy108 [(1, 19), (9, 30), (9, 31)] = true := by decide +kernel
set_option maxRecDepth 100000 in
theorem zt_wy109_ok : xw_in zt_wy109 [(1, 19), (9, 11)] = true := by decide +kernel
set_option maxRecDepth 100000 in
theorem zt_wy110_ok : xw_in zt_wy110 [(1, 19), (9, 0), (0, 89)] = true := by decide +kernel
set_option maxRecDepth 100000 in
theorem zt_wy111_ok : xw_in zt_wy111 [(1, 19), (9, 15), (0, 92)] = true := by decide +kernel
set_option maxRecDepth 100000 in
theorem zt_wy112_ok : xw_in zt_wy112 [(1, 19), (9, 8), (0, 91)] = true := by decide +kernel
set_option maxRecDepth 100000 in
theorem zt_wy113_ok : xw_in zt_wy113 [(1, 19), (8, 232), (0, 87)] = true := by decide +kernel
set_option maxRecDepth 100000 in
theorem zt_wy114_ok : xw_in zt_wy114 [(1, 19), (8, 224), (0, 85)] = true := by decide +kernel
set_option maxRecDepth 100000 in
theorem zt_wy115_ok : xw_in zt_wy115 [(1, 19), (8, 236), (0, 88)] = true := by decide +kernel
set_option maxRecDepth 100000 in
theorem zt_wy116_ok : xw_in zt_wy116 [(1, 19), (8, 220), (0, 84)] = true := by decide +kernel
set_option maxRecDepth 100000 in
theorem zt_wy117_ok : xw_in zt_wy117 [(1, 19), (9, 4), (0, 90)] = true := by decide +kernel
set_option maxRecDepth 100000 in
theorem zt_wy118_ok : xw_in zt_wy118 [(1, 19), (8, 212), (0, 82)] = true := by decide +kernel
set_option maxRecDepth 100000 in
theorem zt_wy119_ok : xw_in zt_wy119 [(1, 19), (7, 86), (0, 64)] = true := by decide +kernel
set_option maxRecDepth 100000 in
theorem zt_wy120_ok : xw_in zt_wy120 [(1, 19), (7, 95)] = true := by decide +kernel
set_option maxRecDepth 100000 in
theorem zt_wy121_ok : xw_in zt_wy121 [(1, 19), (7, 92), (0, 65)] = true := by decide +kernel
set_option maxRecDepth 100000 in
theorem zt_wy122_ok : xw_in zt_wy122 [(1, 19), (7, 82), (0, 63)] = true := by decide +kernel
set_option maxRecDepth 100000 in
theorem zt_wy123_ok : xw_in zt_wy123 [(1, 19), (9, 39), (0, 95)] = true := by decide +kernel
set_option maxRecDepth 100000 in
theorem zt_wy124_ok : xw_in zt_wy124 [(1, 19), (9, 54), (0, 97)] = true := by decide +kernel
set_option maxRecDepth 100000 in
theorem zt_wy125_ok : xw_in zt_wy125 [(1, 19), (9, 62), (0, 98)] = true := by decide +kernel
set_option maxRecDepth 100000 in
theorem zt_wy126_ok : xw_in zt_wy126 [(1, 19), (9, 188), (0, 117)] = true := by decide +kernel
set_option maxRecDepth 100000 in
theorem zt_wy127_ok : xw_in zt_wy127 [(1, 19), (7, 78), (0, 62)] = true := by decide +kernel
set_option maxRecDepth 100000 in
theorem zt_wy128_ok : xw_in zt_wy128 [(1, 19), (9, 86), (0, 103)] = true := by decide +kernel
set_option maxRecDepth 100000 in
theorem zt_wy129_ok : xw_in zt_wy129 [(1, 19), (9, 82), (0, 102)] = true := by decide +kernel
set_option maxRecDepth 100000 in
theorem zt_wy130_ok : xw_in zt_wy130 [(1, 19), (9, 66), (0, 99)] = true := by decide +kernel
set_option maxRecDepth 100000 in
theorem zt_wy131_ok : xw_in zt_wy131 [(1, 19), (9, 78), (0, 101)] = true := by decide +kernel
set_option maxRecDepth 100000 in
theorem zt_wy132_ok : xw_in zt_wy132 [(1, 19), (9, 70), (0, 100)] = true := by decide +kernel
set_option maxRecDepth 100000 in
theorem zt_wy133_ok : xw_in zt_wy133 [(1, 19), (10, 9), (0, 125)] = true := by decide +kernel
set_option maxRecDepth 100000 in
theorem zt_wy134_ok : xw_in zt_wy134 [(1, 19), (9, 152), (0, 112)] = true := by decide +kernel
set_option maxRecDepth 100000 in
theorem zt_wy135_ok : xw_in zt_wy135 [(1, 19), (9, 156), (0, 113)] = true := by decide +kernel
set_option maxRecDepth 100000 in
theorem zt_wy136_ok : xw_in zt_wy136 [(1, 19), (9, 135), (0, 109)] = true := by decide +kernel
set_option maxRecDepth 100000 in
theorem zt_wy137_ok : xw_in zt_wy137 [(1, 19), (9, 131), (0, 108)] = true := by decide +kernel
set_option maxRecDepth 100000 in
theorem zt_wy138_ok : xw_in zt_wy138 [(1, 19), (9, 143), (0, 110)] = true := by decide +kernel
set_option maxRecDepth 100000 in
theorem zt_wy139_ok : xw_in zt_wy139 [(1, 19), (9, 148), (0, 111)] = true := by decide +kernel
set_option maxRecDepth 100000 in
theorem zt_wy140_ok : xw_in zt_wy140 [(1, 19), (9, 127), (0, 107)] = true := by decide +kernel
set_option maxRecDepth 100000 in
theorem zt_wy141_ok : xw_in zt_wy141 [(1, 19), (9, 196), (0, 119)] = true := by decide +kernel
set_option maxRecDepth 100000 in
theorem zt_wy142_ok : xw_in zt_wy142 [(1, 19), (9, 43), (0, 96)] = true := by decide +kernel
set_option maxRecDepth 100000 in
theorem zt_wy143_ok : xw_in zt_wy143 [(1, 19), (9, 34), (9, 35)] = true := by decide +kernel
set_option maxRecDepth 100000 in
theorem zt_wy144_ok : xw_in zt_wy144 [(1, 19), (9, 49), (9, 50)] = true := by decide +kernel
set_option maxRecDepth 100000 in
theorem zt_wy145_ok : xw_in zt_wy145 [(1, 19), (9, 57), (9, 58)] = true := by decide +kernel
set_option maxRecDepth 100000 in
theorem zt_wy146_ok : xw_in zt_wy146 [(1, 19), (9, 73), (9, 74)] = true := by decide +kernel
set_option maxRecDepth 100000 in
theorem zt_wy147_ok : xw_in zt_wy147 [(1, 19), (9, 89), (9, 90)] = true := by decide +kernel
set_option maxRecDepth 100000 in
theorem zt_wy148_ok : xw_in zt_wy148 [(1, 19), (9, 94), (9, 95)] = true := by decide +kernel
set_option maxRecDepth 100000 in
theorem zt_wy149_ok : xw_in zt_wy149 [(1, 19), (9, 107), (0, 106)] = true := by decide +kernel
set_option maxRecDepth 100000 in
theorem zt_wy150_ok : xw_in zt_wy150 [(1, 19), (9, 110), (9, 111)] = true := by decide +kernel
set_option maxRecDepth 100000 in
theorem zt_wy151_ok : xw_in zt_wy151 [(1, 19), (9, 114), (9, 115)] = true := by decide +kernel
set_option maxRecDepth 100000 in
theorem zt_wy152_ok : xw_in zt_wy152 [(1, 19), (9, 118), (9, 119)] = true := by decide +kernel
set_option maxRecDepth 100000 in
theorem zt_wy153_ok : xw_in zt_wy153 [(1, 19), (9, 122), (9, 123)] = true := by decide +kernel
set_option maxRecDepth 100000 in
theorem zt_wy154_ok : xw_in zt_wy154 [(1, 19), (9, 159), (9, 160)] = true := by decide +kernel
set_option maxRecDepth 100000 in
theorem zt_wy155_ok : xw_in zt_wy155 [(1, 19), (9, 172), (0, 115)] = true := by decide +kernel
set_option maxRecDepth 100000 in
theorem zt_wy156_ok : xw_in zt_wy156 [(1, 19), (9, 168), (0, 114)] = true := by decide +kernel
set_option maxRecDepth 100000 in
theorem zt_wy157_ok : xw_in zt_wy157 [(1, 19), (9, 163), (9, 164)] = true := by decide +kernel
set_option maxRecDepth 100000 in
theorem zt_wy158_ok : xw_in zt_wy158 [(1, 19), (9, 175), (9, 176)] = true := by decide +kernel
set_option maxRecDepth 100000 in
theorem zt_wy159_ok : xw_in zt_wy159 [(1, 19), (9, 192), (0, 118)] = true := by decide +kernel
set_option maxRecDepth 100000 in
theorem zt_wy160_ok : xw_in zt_wy160 [(1, 19), (9, 184), (0, 116)] = true := by decide +kernel
set_option maxRecDepth 100000 in
theorem zt_wy161_ok : xw_in zt_wy161 [(1, 19), (9, 179), (9, 180)] = true := by decide +kernel
set_option maxRecDepth 100000 in
theorem zt_wy162_ok : xw_in zt_wy162 [(1, 19), (9, 199), (9, 200)] = true := by decide +kernel
set_option maxRecDepth 100000 in
theorem zt_wy163_ok : xw_in zt_wy163 [(1, 19), (9, 208), (0, 120)] = true := by decide +kernel
set_option maxRecDepth 100000 in
theorem zt_wy164_ok : xw_in zt_wy164 [(1, 19), (9, 203), (9, 204)] = true := by decide +kernel
set_option maxRecDepth 100000 in
theorem zt_wy165_ok : xw_in zt_wy165 [(1, 19), (9, 211), (9, 212)] = true := by decide +kernel
set_option maxRecDepth 100000 in
theorem zt_wy166_ok : xw_in zt_wy166 [(1, 19), (9, 224), (0, 122)] = true := by decide +kernel
set_option maxRecDepth 100000 in
theorem zt_wy167_ok : xw_in zt_wy167 [(1, 19), (9, 232), (0, 124)] = true := by decide +kernel
set_option maxRecDepth 100000 in
theorem zt_wy168_ok : xw_in zt_wy168 [(1, 19), (9, 228), (0, 123)] = true := by decide +kernel
set_option maxRecDepth 100000 in
theorem zt_wy169_ok : xw_in zt_wy169 [(1, 19), (9, 220), (0, 121)] = true := by decide +kernel
set_option maxRecDepth 100000 in
theorem zt_wy170_ok : xw_in zt_wy170 [(1, 19), (9, 215), (9, 216)] = true := by decide +kernel
set_option maxRecDepth 100000 in
theorem zt_wy171_ok : xw_in zt_wy171 [(1, 19), (9, 235), (9, 236)] = true := by decide +kernel
set_option maxRecDepth 100000 in
theorem zt_wy172_ok : xw_in zt_wy172 [(1, 19), (9, 239), (10, 0)] = true := by decide +kernel
set_option maxRecDepth 100000 in
theorem zt_wy173_ok : xw_in zt_wy173 [(1, 19), (10, 4), (10, 5)] = true := by decide +kernel
set_option maxRecDepth 100000 in
theorem zt_wy174_ok : xw_in zt_wy174 [(1, 19), (10, 12), (10, 13)] = true := by decide +kernel
set_option maxRecDepth 100000 in
theorem zt_wy175_ok : xw_in zt_wy175 [(1, 19), (10, 21), (0, 126)] = true := by decide +kernel
set_option maxRecDepth 100000 in
theorem zt_wy176_ok : xw_in zt_wy176 [(1, 19), (10, 16), (10, 17)] = true := by decide +kernel
set_option maxRecDepth 100000 in
theorem zt_wy177_ok : xw_in zt_wy177 [(1, 19), (10, 24), (10, 25)] = true := by decide +kernel
set_option maxRecDepth 100000 in
theorem zt_wy178_ok : xw_in zt_wy178 [(1, 19), (10, 33), (0, 127)] = true := by decide +kernel
set_option maxRecDepth 100000 in
theorem zt_wy179_ok : xw_in zt_wy179 [(1, 19), (10, 28), (10, 29)] = true := by decide +kernel
set_option maxRecDepth 100000 in
theorem zt_wy180_ok : xw_in zt_wy180 [(1, 19), (10, 36), (10, 37)] = true := by decide +kernel
set_option maxRecDepth 100000 in
theorem zt_wy181_ok : xw_in zt_wy181 [(1, 19), (10, 40), (10, 41)] = true := by decide +kernel
set_option maxRecDepth 100000 in
theorem zt_wy182_ok : xw_in zt_wy182 [(1, 19), (10, 49), (0, 128)] = true := by decide +kernel
set_option maxRecDepth 100000 in
theorem zt_wy183_ok : xw_in zt_wy183 [(1, 19), (10, 53), (0, 129)] = true := by decide +kernel
set_option maxRecDepth 100000 in
theorem zt_wy184_ok : xw_in zt_wy184 [(1, 19), (10, 44), (10, 45)] = true := by decide +kernel
set_option maxRecDepth 100000 in
theorem zt_wy185_ok : xw_in zt_wy185 [(1, 19), (10, 56), (10, 57)] = true := by decide +kernel
set_option maxRecDepth 100000 in
theorem zt_wy186_ok : xw_in zt_wy186 [(1, 19), (10, 65), (0, 130)] = true := by decide +kernel
set_option maxRecDepth 100000 in
theorem zt_wy187_ok : xw_in zt_wy187 [(1, 19), (10, 60), (10, 61)] = true := by decide +kernel
set_option maxRecDepth 100000 in
theorem zt_wy188_ok : xw_in zt_wy188 [(1, 19), (9, 103), (0, 105)] = true := by decide +kernel
set_option maxRecDepth 100000 in
theorem zt_wy189_ok : xw_in zt_wy189 [(1, 19), (10, 73), (0, 131)] = true := by decide +kernel
set_option maxRecDepth 100000 in
theorem zt_wy190_ok : xw_in zt_wy190 [(1, 19), (9, 99), (0, 104)] = true := by decide +kernel
set_option maxRecDepth 100000 in
theorem zt_wy191_ok : xw_in zt_wy191 [(1, 19), (10, 68), (10, 69)] = true := by decide +kernel
set_option maxRecDepth 100000 in
theorem zt_wy192_ok : xw_in zt_wy192 [(1, 19), (10, 76), (10, 77)] = true := by decide +kernel
set_option maxRecDepth 100000 in
theorem zt_wy193_ok : xw_in zt_wy193 [(1, 19), (10, 80), (10, 81)] = true := by decide +kernel
set_option maxRecDepth 100000 in
theorem zt_wy194_ok : xw_in zt_wy194 [(1, 19), (10, 89), (0, 132)] = true := by decide +kernel
set_option maxRecDepth 100000 in
theorem zt_wy195_ok : xw_in zt_wy195 [(1, 19), (10, 84), (10, 85)] = true := by decide +kernel
set_option maxRecDepth 100000 in
theorem zt_wy196_ok : xw_in zt_wy196 [(1, 7), (4, 54), (4, 55)] = true := by decide +kernel
set_option maxRecDepth 100000 in
theorem zt_wy197_ok : xw_in zt_wy197 [(1, 6), (4, 50), (4, 51)] = true := by decide +kernel
set_option maxRecDepth 100000 in
theorem zt_wy198_ok : xw_in zt_wy198 [(1, 13), (3, 212), (3, 213)] = true := by decide +kernel
set_option maxRecDepth 100000 in
theorem zt_wy199_ok : xw_in zt_wy199 [(1, 13), (3, 229), (0, 15)] = true := by decide +kernel
set_option maxRecDepth 100000 in
theorem zt_wy200_ok : xw_in zt_wy200 [(1, 13), (3, 233), (0, 16)] = true := by decide +kernel
set_option maxRecDepth 100000 in
theorem zt_wy201_ok : xw_in zt_wy201 [(1, 13), (4, 2), (0, 18)] = true := by decide +kernel
set_option maxRecDepth 100000 in
theorem zt_wy202_ok : xw_in zt_wy202 [(1, 13), (4, 10), (0, 20)] = true := by decide +kernel
set_option maxRecDepth 100000 in
theorem zt_wy203_ok : xw_in zt_wy203 [(1, 13), (4, 14), (0, 21)] = true := by decide +kernel
set_option maxRecDepth 100000 in
theorem zt_wy204_ok : xw_in zt_wy204 [(1, 13), (3, 237), (0, 17)] = true := by decide +kernel
set_option maxRecDepth 100000 in
theorem zt_wy205_ok : xw_in zt_wy205 [(1, 13), (4, 6), (0, 19)] = true := by decide +kernel
set_option maxRecDepth 100000 in
theorem zt_wy206_ok : xw_in zt_wy206 [(1, 13), (3, 219), (0, 14)] = true := by decide +kernel
set_option maxRecDepth 100000 in
theorem zt_wy207_ok : xw_in zt_wy207 [(1, 4), (3, 224), (3, 225)] = true := by decide +kernel
set_option maxRecDepth 100000 in
theorem zt_wy208_ok : xw_in zt_wy208 [(1, 4), (4, 75)] = true := by decide +kernel
set_option maxRecDepth 100000 in
theorem zt_wy209_ok : xw_in zt_wy209 [(1, 4), (4, 79)] = true := by decide +kernel
set_option maxRecDepth 100000 in
theorem zt_wy210_ok : xw_in zt_wy210 [(1, 5), (4, 177), (4, 178)] = true := by decide +kernel
set_option maxRecDepth 100000 in
theorem zt_wy211_ok : xw_in zt_wy211 [(1, 5), (4, 185), (4, 186)] = true := by decide +kernel
set_option maxRecDepth 100000 in
theorem zt_wy212_ok : xw_in zt_wy212 [(1, 5), (3, 204), (3, 205)] = true := by decide +kernel
set_option maxRecDepth 100000 in
theorem zt_wy213_ok : xw_in zt_wy213 [(1, 5), (3, 196), (3, 197)] = true := by decide +kernel
set_option maxRecDepth 100000 in
theorem zt_wy214_ok : xw_in zt_wy214 [(1, 5), (5, 64), (5, 65)] = true := by decide +kernel
set_option maxRecDepth 100000 in
theorem zt_wy215_ok : xw_in zt_wy215 [(1, 5), (5, 77), (0, 32)] = true := by decide +kernel
