set_option maxRecDepth 100000 in
theorem zt_wy216_ok : xw_in zt_wy216 [(1, 5), (5, 69), (0, 31)] = true := by decide +kernel
set_option maxRecDepth 100000 in
theorem zt_wy217_ok : xw_in zt_wy217 [(1, 5), (5, 72), (5, 73)] = true := by decide +kernel
set_option maxRecDepth 100000 in
theorem zt_wy218_ok : xw_in zt_wy218 [(1, 5), (5, 94), (5, 95)] = true := by decide +kernel
set_option maxRecDepth 100000 in
theorem zt_wy219_ok : xw_in zt_wy219 [(1, 5), (5, 87), (0, 33)] = true := by decide +kernel
set_option maxRecDepth 100000 in
theorem zt_wy220_ok : xw_in zt_wy220 [(1, 5), (5, 91), (0, 34)] = true := by decide +kernel
set_option maxRecDepth 100000 in
theorem zt_wy221_ok : xw_in zt_wy221 [(1, 5), (5, 110), (0, 35)] = true := by decide +kernel
set_option maxRecDepth 100000 in
theorem zt_wy222_ok : xw_in zt_wy222 [(1, 5), (5, 114), (0, 36)] = true := by decide +kernel
set_option maxRecDepth 100000 in
theorem zt_wy223_ok : xw_in zt_wy223 [(1, 5), (5, 125), (5, 126)] = true := by decide +kernel
set_option maxRecDepth 100000 in
theorem zt_wy224_ok : xw_in zt_wy224 [(1, 5), (4, 202), (0, 27)] = true := by decide +kernel
set_option maxRecDepth 100000 in
theorem zt_wy225_ok : xw_in zt_wy225 [(1, 5), (4, 215), (4, 216)] = true := by decide +kernel
set_option maxRecDepth 100000 in
theorem zt_wy226_ok : xw_in zt_wy226 [(1, 5), (4, 197), (4, 198)] = true := by decide +kernel
set_option maxRecDepth 100000 in
theorem zt_wy227_ok : xw_in zt_wy227 [(1, 5), (4, 224), (4, 225)] = true := by decide +kernel
set_option maxRecDepth 100000 in
theorem zt_wy228_ok : xw_in zt_wy228 [(1, 5), (5, 6), (0, 28)] = true := by decide +kernel
set_option maxRecDepth 100000 in
theorem zt_wy229_ok : xw_in zt_wy229 [(1, 5), (5, 1), (5, 2)] = true := by decide +kernel
set_option maxRecDepth 100000 in
theorem zt_wy230_ok : xw_in zt_wy230 [(1, 5), (6, 35), (6, 36)] = true := by decide +kernel
set_option maxRecDepth 100000 in
theorem zt_wy231_ok : xw_in zt_wy231 [(1, 5), (7, 8), (7, 9)] = true := by decide +kernel
set_option maxRecDepth 100000 in
theorem zt_wy232_ok : xw_in zt_wy232 [(1, 5), (7, 12), (7, 13)] = true := by decide +kernel
set_option maxRecDepth 100000 in
theorem zt_wy233_ok : xw_in zt_wy233 [(1, 5), (6, 162), (6, 163)] = true := by decide +kernel
set_option maxRecDepth 100000 in
theorem zt_wy234_ok : xw_in zt_wy234 [(1, 5), (6, 137), (6, 138)] = true := by decide +kernel
set_option maxRecDepth 100000 in
theorem zt_wy235_ok : xw_in zt_wy235 [(1, 5), (6, 167), (6, 168)] = true := by decide +kernel
set_option maxRecDepth 100000 in
theorem zt_wy236_ok : xw_in zt_wy236 [(1, 5), (4, 189), (4, 190)] = true := by decide +kernel
set_option maxRecDepth 100000 in
theorem zt_wy237_ok : xw_in zt_wy237 [(1, 5), (4, 193), (4, 194)] = true := by decide +kernel
set_option maxRecDepth 100000 in
theorem zt_wy238_ok : xw_in zt_wy238 [(1, 5), (5, 208), (0, 45)] = true := by decide +kernel
set_option maxRecDepth 100000 in
theorem zt_wy239_ok : xw_in zt_wy239 [(1, 5), (5, 203), (5, 204)] = true := by decide +kernel
set_option maxRecDepth 100000 in
theorem zt_wy240_ok : xw_in zt_wy240 [(1, 5), (5, 221), (5, 222)] = true := by decide +kernel
set_option maxRecDepth 100000 in
theorem zt_wy241_ok : xw_in zt_wy241 [(1, 5), (6, 52), (6, 53)] = true := by decide +kernel
set_option maxRecDepth 100000 in
theorem zt_wy242_ok : xw_in zt_wy242 [(1, 5), (6, 57), (0, 49)] = true := by decide +kernel
set_option maxRecDepth 100000 in
theorem zt_wy243_ok : xw_in zt_wy243 [(1, 5), (6, 64), (6, 65)] = true := by decide +kernel
set_option maxRecDepth 100000 in
theorem zt_wy244_ok : xw_in zt_wy244 [(1, 3), (4, 235), (4, 236)] = true := by decide +kernel
set_option maxRecDepth 100000 in
theorem zt_wy245_ok : xw_in zt_wy245 [(1, 3), (5, 98), (5, 99)] = true := by decide +kernel
set_option maxRecDepth 100000 in
theorem zt_wy246_ok : xw_in zt_wy246 [(1, 3), (5, 105), (5, 106)] = true := by decide +kernel
set_option maxRecDepth 100000 in
theorem zt_wy247_ok : xw_in zt_wy247 [(1, 3), (4, 93), (4, 94)] = true := by decide +kernel
set_option maxRecDepth 100000 in
theorem zt_wy248_ok : xw_in zt_wy248 [(1, 3), (5, 9), (5, 10)] = true := by decide +kernel
set_option maxRecDepth 100000 in
theorem zt_wy249_ok : xw_in zt_wy249 [(1, 3), (4, 231), (4, 232)] = true := by decide +kernel
set_option maxRecDepth 100000 in
theorem zt_wy250_ok : xw_in zt_wy250 [(1, 3), (4, 97), (4, 98)] = true := by decide +kernel
set_option maxRecDepth 100000 in
theorem zt_wy251_ok : xw_in zt_wy251 [(1, 3), (4, 207), (4, 208)] = true := by decide +kernel
set_option maxRecDepth 100000 in
theorem zt_wy252_ok : xw_in zt_wy252 [(1, 3), (6, 39), (6, 40)] = true := by decide +kernel
set_option maxRecDepth 100000 in
theorem zt_wy253_ok : xw_in zt_wy253 [(1, 3), (4, 84)] = true := by decide +kernel
set_option maxRecDepth 100000 in
theorem zt_wy254_ok : xw_in zt_wy254 [(1, 3), (5, 82), (5, 83)] = true := by decide +kernel
set_option maxRecDepth 100000 in
theorem zt_wy255_ok : xw_in zt_wy255 [(1, 3), (6, 23), (6, 24)] = true := by decide +kernel
set_option maxRecDepth 100000 in
theorem zt_wy256_ok : xw_in zt_wy256 [(1, 3), (6, 27)] = true := by decide +kernel
set_option maxRecDepth 100000 in
theorem zt_wy257_ok : xw_in zt_wy257 [(1, 2), (3, 160), (0, 4)] = true := by decide +kernel
set_option maxRecDepth 100000 in
theorem zt_wy258_ok : xw_in zt_wy258 [(1, 2), (3, 152), (0, 3)] = true := by decide +kernel
set_option maxRecDepth 100000 in
theorem zt_wy259_ok : xw_in zt_wy259 [(1, 2), (3, 177), (0, 8)] = true := by decide +kernel
set_option maxRecDepth 100000 in
theorem zt_wy260_ok : xw_in zt_wy260 [(1, 2), (3, 172), (0, 7)] = true := by decide +kernel
set_option maxRecDepth 100000 in
theorem zt_wy261_ok : xw_in zt_wy261 [(1, 2), (3, 189), (0, 10)] = true := by decide +kernel
set_option maxRecDepth 100000 in
theorem zt_wy262_ok : xw_in zt_wy262 [(1, 2), (3, 193), (0, 11)] = true := by decide +kernel
set_option maxRecDepth 100000 in
theorem zt_wy263_ok : xw_in zt_wy263 [(1, 2), (3, 168), (0, 6)] = true := by decide +kernel
set_option maxRecDepth 100000 in
theorem zt_wy264_ok : xw_in zt_wy264 [(1, 2), (3, 164), (0, 5)] = true := by decide +kernel
set_option maxRecDepth 100000 in
theorem zt_wy265_ok : xw_in zt_wy265 [(1, 2), (4, 18), (0, 22)] = true := by decide +kernel
set_option maxRecDepth 100000 in
theorem zt_wy266_ok : xw_in zt_wy266 [(1, 2), (3, 185), (0, 9)] = true := by decide +kernel
set_option maxRecDepth 100000 in
theorem zt_wy267_ok : xw_in zt_wy267 [(1, 2), (3, 201), (0, 12)] = true := by decide +kernel
set_option maxRecDepth 100000 in
theorem zt_wy268_ok : xw_in zt_wy268 [(1, 2), (4, 22), (0, 23)] = true := by decide +kernel
set_option maxRecDepth 100000 in
theorem zt_wy269_ok : xw_in zt_wy269 [(1, 2), (4, 26), (0, 24)] = true := by decide +kernel
set_option maxRecDepth 100000 in
theorem zt_wy270_ok : xw_in zt_wy270 [(1, 2), (3, 209), (0, 13)] = true := by decide +kernel
set_option maxRecDepth 100000 in
theorem zt_wy271_ok : xw_in zt_wy271 [(1, 14), (6, 100), (6, 101)] = true := by decide +kernel
set_option maxRecDepth 100000 in
theorem zt_wy272_ok : xw_in zt_wy272 [(1, 14), (6, 72), (6, 73)] = true := by decide +kernel
set_option maxRecDepth 100000 in
theorem zt_wy273_ok : xw_in zt_wy273 [(1, 14), (6, 80), (6, 81)] = true := by decide +kernel
set_option maxRecDepth 100000 in
theorem zt_wy274_ok : xw_in zt_wy274 [(1, 14), (6, 96), (6, 97)] = true := by decide +kernel
set_option maxRecDepth 100000 in
theorem zt_wy275_ok : xw_in zt_wy275 [(1, 14), (6, 113), (0, 51)] = true := by decide +kernel
set_option maxRecDepth 100000 in
theorem zt_wy276_ok : xw_in zt_wy276 [(1, 14), (6, 108), (6, 109)] = true := by decide +kernel
set_option maxRecDepth 100000 in
theorem zt_wy277_ok : xw_in zt_wy277 [(1, 14), (6, 117), (6, 118)] = true := by decide +kernel
set_option maxRecDepth 100000 in
theorem zt_wy278_ok : xw_in zt_wy278 [(1, 8), (3, 180), (3, 181)] = true := by decide +kernel
set_option maxRecDepth 100000 in
theorem zt_wy279_ok : xw_in zt_wy279 [(1, 8), (3, 155), (3, 156)] = true := by decide +kernel
set_option maxRecDepth 100000 in
theorem zt_wy280_ok : xw_in zt_wy280 [(1, 8), (3, 136), (0, 0)] = true := by decide +kernel
set_option maxRecDepth 100000 in
theorem zt_wy281_ok : xw_in zt_wy281 [(1, 8), (3, 140), (0, 1)] = true := by decide +kernel
set_option maxRecDepth 100000 in
theorem zt_wy282_ok : xw_in zt_wy282 [(1, 8), (3, 148), (0, 2)] = true := by decide +kernel
set_option maxRecDepth 100000 in
theorem zt_wy283_ok : xw_in zt_wy283 [(1, 8), (3, 144)] = true := by decide +kernel
set_option maxRecDepth 100000 in
theorem zt_wy284_ok : xw_in zt_wy284 [(1, 16), (5, 134), (5, 135)] = true := by decide +kernel
set_option maxRecDepth 100000 in
theorem zt_wy285_ok : xw_in zt_wy285 [(1, 16), (5, 146), (5, 147)] = true := by decide +kernel
set_option maxRecDepth 100000 in
theorem zt_wy286_ok : xw_in zt_wy286 [(1, 16), (5, 151), (0, 37)] = true := by decide +kernel
set_option maxRecDepth 100000 in
theorem zt_wy287_ok : xw_in zt_wy287 [(1, 16), (5, 157), (0, 38)] = true := by decide +kernel
set_option maxRecDepth 100000 in
theorem zt_wy288_ok : xw_in zt_wy288 [(1, 16), (5, 161), (0, 39)] = true := by decide +kernel
set_option maxRecDepth 100000 in
theorem zt_wy289_ok : xw_in zt_wy289 [(1, 16), (5, 165), (0, 40)] = true := by decide +kernel
set_option maxRecDepth 100000 in
theorem zt_wy290_ok : xw_in zt_wy290 [(1, 16), (5, 169), (0, 41)] = true := by decide +kernel
set_option maxRecDepth 100000 in
theorem zt_wy291_ok : xw_in zt_wy291 [(1, 16), (5, 173), (0, 42)] = true := by decide +kernel
set_option maxRecDepth 100000 in
theorem zt_wy292_ok : xw_in zt_wy292 [(1, 16), (5, 177), (0, 43)] = true := by decide +kernel
set_option maxRecDepth 100000 in
theorem zt_wy293_ok : xw_in zt_wy293 [(1, 16), (5, 185), (0, 44)] = true := by decide +kernel
set_option maxRecDepth 100000 in
theorem zt_wy294_ok : xw_in zt_wy294 [(1, 16), (5, 238), (5, 239)] = true := by decide +kernel
set_option maxRecDepth 100000 in
theorem zt_wy295_ok : xw_in zt_wy295 [(1, 16), (6, 3), (0, 46)] = true := by decide +kernel
set_option maxRecDepth 100000 in
theorem zt_wy296_ok : xw_in zt_wy296 [(1, 16), (6, 11), (0, 48)] = true := by decide +kernel
set_option maxRecDepth 100000 in
theorem zt_wy297_ok : xw_in zt_wy297 [(1, 16), (6, 7), (0, 47)] = true := by decide +kernel
set_option maxRecDepth 100000 in
theorem zt_wy298_ok : xw_in zt_wy298 [(1, 16), (5, 199), (5, 200)] = true := by decide +kernel
set_option maxRecDepth 100000 in
theorem zt_wy299_ok : xw_in zt_wy299 [(1, 16), (5, 217), (5, 218)] = true := by decide +kernel
set_option maxRecDepth 100000 in
theorem zt_wy300_ok : xw_in zt_wy300 [(1, 16), (5, 229), (5, 230)] = true := by decide +kernel
set_option maxRecDepth 100000 in
theorem zt_wy301_ok : xw_in zt_wy301 [(1, 16), (6, 92), (6, 93)] = true := by decide +kernel
set_option maxRecDepth 100000 in
theorem zt_wy302_ok : xw_in zt_wy302 [(1, 16), (6, 105), (0, 50)] = true := by decide +kernel
set_option maxRecDepth 100000 in
theorem zt_wy303_ok : xw_in zt_wy303 [(1, 16), (6, 125), (6, 126)] = true := by decide +kernel
set_option maxRecDepth 100000 in
theorem zt_wy304_ok : xw_in zt_wy304 [(1, 16), (6, 133), (6, 134)] = true := by decide +kernel
set_option maxRecDepth 100000 in
theorem zt_wy305_ok : xw_in zt_wy305 [(1, 15), (5, 29), (0, 29)] = true := by decide +kernel
set_option maxRecDepth 100000 in
theorem zt_wy306_ok : xw_in zt_wy306 [(1, 15), (5, 33), (0, 30)] = true := by decide +kernel
set_option maxRecDepth 100000 in
theorem zt_wy307_ok : xw_in zt_wy307 [(1, 15), (5, 24), (5, 25)] = true := by decide +kernel
set_option maxRecDepth 100000 in
theorem zt_wy308_ok : xw_in zt_wy308 [(1, 15), (5, 40), (5, 41)] = true := by decide +kernel
set_option maxRecDepth 100000 in
theorem zt_wy309_ok : xw_in zt_wy309 [(1, 15), (5, 48), (5, 49)] = true := by decide +kernel
set_option maxRecDepth 100000 in
theorem zt_wy310_ok : xw_in zt_wy310 [(1, 15), (5, 56), (5, 57)] = true := by decide +kernel
set_option maxRecDepth 100000 in
theorem zt_wy311_ok : xw_in zt_wy311 [(1, 15), (6, 145), (6, 146)] = true := by decide +kernel
set_option maxRecDepth 100000 in
theorem zt_wy312_ok : xw_in zt_wy312 [(1, 18), (5, 102)] = true := by decide +kernel
set_option maxRecDepth 100000 in
theorem zt_wy313_ok : xw_in zt_wy313 [(1, 18), (4, 101)] = true := by decide +kernel
set_option maxRecDepth 100000 in
theorem zt_wy314_ok : xw_in zt_wy314 [(1, 18), (4, 90)] = true := by decide +kernel
set_option maxRecDepth 100000 in
theorem zt_wy315_ok : xw_in zt_wy315 [(1, 18), (5, 189)] = true := by decide +kernel
set_option maxRecDepth 100000 in
theorem zt_wy316_ok : xw_in zt_wy316 [(1, 18), (4, 87)] = true := by decide +kernel
set_option maxRecDepth 100000 in
theorem zt_wx_ok : xw_in zt_wx [(1, 79), (1, 80), (1, 183), (2, 77), (2, 78), (1, 9), (2, 79), (1, 31), (1, 32), (4, 43), (4, 42), (1, 17)] = true := by decide +kernel
set_option maxRecDepth 100000 in
theorem zt_wj_ok : xw_in zt_wj [(1, 9), (1, 10), (1, 11), (2, 84), (10, 109), (10, 110), (2, 80), (2, 81), (2, 82), (2, 86), (2, 87), (2, 89), (2, 90), (2, 92), (2, 94), (2, 95), (2, 83), (2, 88), (2, 91), (2, 96)] = true := by decide +kernel
set_option maxRecDepth 100000 in
theorem zt_wv1_ok : xw_in zt_wv1 [(1, 20), (6, 203), (6, 212), (6, 215), (6, 218), (6, 220), (6, 204), (6, 205), (1, 31), (1, 32), (6, 206), (6, 211), (6, 216), (6, 236), (6, 193), (6, 237), (6, 195), (6, 238), (6, 197), (6, 207), (6, 209), (6, 199), (6, 232), (6, 233), (6, 235), (6, 199), (6, 223), (6, 224), (6, 225), (6, 226), (6, 226), (6, 227), (6, 228), (6, 229), (6, 229), (6, 230), (6, 231), (6, 232), (6, 222), (6, 182), (6, 190), (6, 191), (6, 192), (6, 194), (6, 196), (6, 198), (6, 202), (6, 201), (6, 200)] = true := by decide +kernel
