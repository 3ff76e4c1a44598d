set_option maxRecDepth 100000 in
theorem zt_b50 : ([[.inr (64, 50), .inr ((-2147483648), 2147483647), .inr ((-2147483648), 2147483647), .inr ((-2147483648), 2147483647), .inr ((-2147483648), 2147483647), .inr ((-2147483648), 2147483647)]] : List (List xd_V)).all (fun v => zt_go (zt_bx v)) = true := by decide +kernel
set_option maxRecDepth 100000 in
theorem zt_b51 : ([[.inr (64, 51), .inr ((-2147483648), 2147483647), .inr ((-2147483648), 2147483647), .inr ((-2147483648), 2147483647), .inr ((-2147483648), 2147483647), .inr ((-2147483648), 2147483647)]] : List (List xd_V)).all (fun v => zt_go (zt_bx v)) = true := by decide +kernel
set_option maxRecDepth 100000 in
theorem zt_b52 : ([[.inr (64, 52), .inr ((-2147483648), 2147483647), .inr ((-2147483648), 2147483647), .inr ((-2147483648), 2147483647), .inr ((-2147483648), 2147483647), .inr ((-2147483648), 2147483647)]] : List (List xd_V)).all (fun v => zt_go (zt_bx v)) = true := by decide +kernel
set_option maxRecDepth 100000 in
theorem zt_b53 : ([[.inr (64, 53), .inr ((-2147483648), 2147483647), .inr ((-2147483648), 2147483647), .inr ((-2147483648), 2147483647), .inr ((-2147483648), 2147483647), .inr ((-2147483648), 2147483647)]] : List (List xd_V)).all (fun v => zt_go (zt_bx v)) = true := by decide +kernel
set_option maxRecDepth 100000 in
theorem zt_b54 : ([[.inr (64, 54), .inr ((-2147483648), 2147483647), .inr ((-2147483648), 2147483647), .inr ((-2147483648), 2147483647), .inr ((-2147483648), 2147483647), .inr ((-2147483648), 2147483647)]] : List (List xd_V)).all (fun v => zt_go (zt_bx v)) = true := by decide +kernel
set_option maxRecDepth 100000 in
theorem zt_b55 : ([[.inr (64, 55), .inr ((-2147483648), 2147483647), .inr ((-2147483648), 2147483647), .inr ((-2147483648), 2147483647), .inr ((-2147483648), 2147483647), .inr ((-2147483648), 2147483647)]] : List (List xd_V)).all (fun v => zt_go (zt_bx v)) = true := by decide +kernel
set_option maxRecDepth 100000 in
theorem zt_b56 : ([[.inr (64, 56), .inr ((-2147483648), 2147483647), .inr ((-2147483648), 2147483647), .inr ((-2147483648), 2147483647), .inr ((-2147483648), 2147483647), .inr ((-2147483648), 2147483647)]] : List (List xd_V)).all (fun v => zt_go (zt_bx v)) = true := by decide +kernel
set_option maxRecDepth 100000 in
theorem zt_b57 : ([[.inr (64, 57), .inr ((-2147483648), 2147483647), .inr ((-2147483648), 2147483647), .inr ((-2147483648), 2147483647), .inr ((-2147483648), 2147483647), .inr ((-2147483648), 2147483647)]] : List (List xd_V)).all (fun v => zt_go (zt_bx v)) = true := by decide +kernel
set_option maxRecDepth 100000 in
theorem zt_b58 : ([[.inr (64, 58), .inr ((-2147483648), 2147483647), .inr ((-2147483648), 2147483647), .inr ((-2147483648), 2147483647), .inr ((-2147483648), 2147483647), .inr ((-2147483648), 2147483647)]] : List (List xd_V)).all (fun v => zt_go (zt_bx v)) = true := by decide +kernel
set_option maxRecDepth 100000 in
theorem zt_b59 : ([[.inr (64, 59), .inr ((-2147483648), 2147483647), .inr ((-2147483648), 2147483647), .inr ((-2147483648), 2147483647), .inr ((-2147483648), 2147483647), .inr ((-2147483648), 2147483647)]] : List (List xd_V)).all (fun v => zt_go (zt_bx v)) = true := by decide +kernel
set_option maxRecDepth 100000 in
theorem zt_b60 : ([[.inr (64, 60), .inr ((-2147483648), 2147483647), .inr ((-2147483648), 2147483647), .inr ((-2147483648), 2147483647), .inr ((-2147483648), 2147483647), .inr ((-2147483648), 2147483647)]] : List (List xd_V)).all (fun v => zt_go (zt_bx v)) = true := by decide +kernel
set_option maxRecDepth 100000 in
theorem zt_b61 : ([[.inr (64, 61), .inr ((-2147483648), 2147483647), .inr ((-2147483648), 2147483647), .inr ((-2147483648), 2147483647), .inr ((-2147483648), 2147483647), .inr ((-2147483648), 2147483647)]] : List (List xd_V)).all (fun v => zt_go (zt_bx v)) = true := by decide +kernel
set_option maxRecDepth 100000 in
theorem zt_b62 : ([[.inr (64, 62), .inr ((-2147483648), 2147483647), .inr ((-2147483648), 2147483647), .inr ((-2147483648), 2147483647), .inr ((-2147483648), 2147483647), .inr ((-2147483648), 2147483647)]] : List (List xd_V)).all (fun v => zt_go (zt_bx v)) = true := by decide +kernel
set_option maxRecDepth 100000 in
theorem zt_b63 : ([[.inr (64, 63), .inr ((-2147483648), 2147483647), .inr ((-2147483648), 2147483647), .inr ((-2147483648), 2147483647), .inr ((-2147483648), 2147483647), .inr ((-2147483648), 2147483647)]] : List (List xd_V)).all (fun v => zt_go (zt_bx v)) = true := by decide +kernel
