set_option maxRecDepth 100000 in
theorem zt_wy126_ok : xw_in zt_wy126 [(1, 19), (10, 3), (10, 4)] = true := by decide +kernel
set_option maxRecDepth 100000 in
theorem zt_wy127_ok : xw_in zt_wy127 [(1, 3), (6, 23), (6, 24)] = true := by decide +kernel
set_option maxRecDepth 100000 in
theorem zt_wy128_ok : xw_in zt_wy128 [(1, 3), (6, 27)] = true := by decide +kernel
set_option maxRecDepth 100000 in
theorem zt_wy129_ok : xw_in zt_wy129 [(1, 1), (6, 31), (6, 32)] = true := by decide +kernel
set_option maxRecDepth 100000 in
theorem zt_wy130_ok : xw_in zt_wy130 [(1, 5), (6, 35), (6, 36)] = true := by decide +kernel
set_option maxRecDepth 100000 in
theorem zt_wy131_ok : xw_in zt_wy131 [(1, 19), (10, 8), (10, 9)] = true := by decide +kernel
set_option maxRecDepth 100000 in
theorem zt_wy132_ok : xw_in zt_wy132 [(1, 1), (6, 43), (6, 44)] = true := by decide +kernel
set_option maxRecDepth 100000 in
theorem zt_wy133_ok : xw_in zt_wy133 [(1, 19), (10, 16), (10, 17)] = true := by decide +kernel
set_option maxRecDepth 100000 in
theorem zt_wy134_ok : xw_in zt_wy134 [(1, 1), (6, 48), (6, 49)] = true := by decide +kernel
set_option maxRecDepth 100000 in
theorem zt_wy135_ok : xw_in zt_wy135 [(1, 19), (10, 20), (10, 21)] = true := by decide +kernel
set_option maxRecDepth 100000 in
theorem zt_wy136_ok : xw_in zt_wy136 [(1, 5), (6, 52), (6, 53)] = true := by decide +kernel
set_option maxRecDepth 100000 in
theorem zt_wy137_ok : xw_in zt_wy137 [(1, 1), (6, 60), (6, 61)] = true := by decide +kernel
set_option maxRecDepth 100000 in
theorem zt_wy138_ok : xw_in zt_wy138 [(1, 19), (10, 28), (10, 29)] = true := by decide +kernel
set_option maxRecDepth 100000 in
theorem zt_wy139_ok : xw_in zt_wy139 [(1, 1), (6, 68), (6, 69)] = true := by decide +kernel
set_option maxRecDepth 100000 in
theorem zt_wy140_ok : xw_in zt_wy140 [(1, 19), (10, 32), (10, 33)] = true := by decide +kernel
set_option maxRecDepth 100000 in
theorem zt_wy141_ok : xw_in zt_wy141 [(1, 1), (6, 76), (6, 77)] = true := by decide +kernel
set_option maxRecDepth 100000 in
theorem zt_wy142_ok : xw_in zt_wy142 [(1, 14), (6, 80), (6, 81)] = true := by decide +kernel
set_option maxRecDepth 100000 in
theorem zt_wy143_ok : xw_in zt_wy143 [(1, 19), (10, 40), (10, 41)] = true := by decide +kernel
set_option maxRecDepth 100000 in
theorem zt_wy144_ok : xw_in zt_wy144 [(1, 1), (6, 84), (6, 85)] = true := by decide +kernel
set_option maxRecDepth 100000 in
theorem zt_wy145_ok : xw_in zt_wy145 [(1, 19), (10, 44), (10, 45)] = true := by decide +kernel
set_option maxRecDepth 100000 in
theorem zt_wy146_ok : xw_in zt_wy146 [(1, 1), (6, 88), (6, 89)] = true := by decide +kernel
set_option maxRecDepth 100000 in
theorem zt_wy147_ok : xw_in zt_wy147 [(1, 19), (10, 48), (10, 49)] = true := by decide +kernel
set_option maxRecDepth 100000 in
theorem zt_wy148_ok : xw_in zt_wy148 [(1, 1), (6, 121), (6, 122)] = true := by decide +kernel
set_option maxRecDepth 100000 in
theorem zt_wy149_ok : xw_in zt_wy149 [(1, 19), (10, 60), (10, 61)] = true := by decide +kernel
set_option maxRecDepth 100000 in
theorem zt_wy150_ok : xw_in zt_wy150 [(1, 1), (6, 129), (6, 130)] = true := by decide +kernel
set_option maxRecDepth 100000 in
theorem zt_wy151_ok : xw_in zt_wy151 [(1, 19), (10, 64), (10, 65)] = true := by decide +kernel
set_option maxRecDepth 100000 in
theorem zt_wy152_ok : xw_in zt_wy152 [(1, 16), (6, 133), (6, 134)] = true := by decide +kernel
set_option maxRecDepth 100000 in
theorem zt_wy153_ok : xw_in zt_wy153 [(1, 5), (6, 137), (6, 138)] = true := by decide +kernel
set_option maxRecDepth 100000 in
theorem zt_wy154_ok : xw_in zt_wy154 [(1, 19), (10, 69), (0, 130)] = true := by decide +kernel
set_option maxRecDepth 100000 in
theorem zt_wy155_ok : xw_in zt_wy155 [(1, 1), (6, 141), (6, 142)] = true := by decide +kernel
set_option maxRecDepth 100000 in
theorem zt_wy156_ok : xw_in zt_wy156 [(1, 15), (6, 145), (6, 146)] = true := by decide +kernel
set_option maxRecDepth 100000 in
theorem zt_wy157_ok : xw_in zt_wy157 [(1, 19), (10, 72), (10, 73)] = true := by decide +kernel
set_option maxRecDepth 100000 in
theorem zt_wy158_ok : xw_in zt_wy158 [(1, 1), (6, 150), (6, 151)] = true := by decide +kernel
set_option maxRecDepth 100000 in
theorem zt_wy159_ok : xw_in zt_wy159 [(1, 19), (10, 80), (10, 81)] = true := by decide +kernel
set_option maxRecDepth 100000 in
theorem zt_wy160_ok : xw_in zt_wy160 [(1, 1), (6, 154), (6, 155)] = true := by decide +kernel
set_option maxRecDepth 100000 in
theorem zt_wy161_ok : xw_in zt_wy161 [(1, 19), (10, 84), (10, 85)] = true := by decide +kernel
set_option maxRecDepth 100000 in
theorem zt_wy162_ok : xw_in zt_wy162 [(1, 1), (6, 158), (6, 159)] = true := by decide +kernel
set_option maxRecDepth 100000 in
theorem zt_wy163_ok : xw_in zt_wy163 [(1, 19), (10, 88), (10, 89)] = true := by decide +kernel
set_option maxRecDepth 100000 in
theorem zt_wy164_ok : xw_in zt_wy164 [(1, 5), (6, 162), (6, 163)] = true := by decide +kernel
set_option maxRecDepth 100000 in
theorem zt_wy165_ok : xw_in zt_wy165 [(1, 19), (10, 93), (0, 132)] = true := by decide +kernel
set_option maxRecDepth 100000 in
theorem zt_wy166_ok : xw_in zt_wy166 [(1, 5), (6, 167), (6, 168)] = true := by decide +kernel
set_option maxRecDepth 100000 in
theorem zt_wy167_ok : xw_in zt_wy167 [(1, 14), (6, 100), (6, 101)] = true := by decide +kernel
set_option maxRecDepth 100000 in
theorem zt_wy168_ok : xw_in zt_wy168 [(1, 19), (10, 53), (0, 128)] = true := by decide +kernel
set_option maxRecDepth 100000 in
theorem zt_wy169_ok : xw_in zt_wy169 [(1, 5), (5, 203), (5, 204)] = true := by decide +kernel
set_option maxRecDepth 100000 in
theorem zt_wy170_ok : xw_in zt_wy170 [(1, 19), (9, 200), (0, 119)] = true := by decide +kernel
set_option maxRecDepth 100000 in
theorem zt_wy171_ok : xw_in zt_wy171 [(1, 1), (6, 178), (6, 179)] = true := by decide +kernel
set_option maxRecDepth 100000 in
theorem zt_wy172_ok : xw_in zt_wy172 [(1, 5), (7, 8), (7, 9)] = true := by decide +kernel
set_option maxRecDepth 100000 in
theorem zt_wy173_ok : xw_in zt_wy173 [(1, 5), (7, 12), (7, 13)] = true := by decide +kernel
set_option maxRecDepth 100000 in
theorem zt_wy174_ok : xw_in zt_wy174 [(1, 19), (9, 38), (9, 39)] = true := by decide +kernel
set_option maxRecDepth 100000 in
theorem zt_wy175_ok : xw_in zt_wy175 [(1, 19), (9, 47), (0, 96)] = true := by decide +kernel
set_option maxRecDepth 100000 in
theorem zt_wy176_ok : xw_in zt_wy176 [(1, 19), (8, 132), (8, 133)] = true := by decide +kernel
set_option maxRecDepth 100000 in
theorem zt_wx_ok : xw_in zt_wx [(1, 79), (1, 80), (1, 183), (2, 77), (2, 78), (1, 9), (2, 79), (1, 31), (1, 32), (4, 43), (4, 42), (1, 17)] = true := by decide +kernel
set_option maxRecDepth 100000 in
theorem zt_wj_ok : xw_in zt_wj [(1, 9), (1, 10), (1, 11), (2, 84), (10, 113), (10, 114), (2, 80), (2, 81), (2, 82), (2, 86), (2, 87), (2, 89), (2, 90), (2, 92), (2, 94), (2, 95), (2, 83), (2, 88), (2, 91), (2, 96)] = true := by decide +kernel
set_option maxRecDepth 100000 in
theorem zt_wv1_ok : xw_in zt_wv1 [(1, 20), (6, 203), (6, 212), (6, 215), (6, 218), (6, 220), (6, 204), (6, 205), (1, 31), (1, 32), (6, 206), (6, 211), (6, 216), (6, 236), (6, 193), (6, 237), (6, 195), (6, 238), (6, 197), (6, 207), (6, 209), (6, 199), (6, 232), (6, 233), (6, 235), (6, 199), (6, 223), (6, 224), (6, 225), (6, 226), (6, 226), (6, 227), (6, 228), (6, 229), (6, 229), (6, 230), (6, 231), (6, 232), (6, 222), (6, 182), (6, 190), (6, 191), (6, 192), (6, 194), (6, 196), (6, 198), (6, 202), (6, 201), (6, 200)] = true := by decide +kernel
set_option maxRecDepth 100000 in
theorem zt_wv2_ok : xw_in zt_wv2 [(1, 20), (6, 203), (6, 212), (6, 215), (6, 218), (6, 220), (6, 204), (6, 205), (1, 31), (1, 32), (6, 206), (6, 211), (6, 216), (6, 236), (6, 193), (6, 237), (6, 195), (6, 238), (6, 197), (6, 207), (6, 209), (6, 199), (6, 232), (6, 233), (6, 235), (6, 199), (7, 26), (7, 27), (7, 28), (6, 226), (6, 226), (6, 227), (6, 228), (6, 229), (6, 229), (6, 230), (6, 231), (6, 232), (7, 25), (7, 16), (7, 18), (6, 214), (7, 19), (7, 20), (7, 21), (7, 22), (6, 202), (6, 201), (7, 23)] = true := by decide +kernel
set_option maxRecDepth 100000 in
theorem zt_wv3_ok : xw_in zt_wv3 [(6, 181), (1, 23), (7, 15), (1, 24), (1, 0), (6, 172), (6, 173), (6, 174), (6, 175), (6, 176)] = true := by decide +kernel
