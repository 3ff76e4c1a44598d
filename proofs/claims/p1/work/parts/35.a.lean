def zt_bx (vs : List xd_V) : xv_O xd_V := (3, vs.map Sum.inl)
/-- the law from its loop's head on, with one call: it answers 1 -/
noncomputable def zt_go (o : xv_O xd_V) : Bool := match xf_lp zt_flaw.2 (zt_rn 6) 20000 (xf_to zt_flaw.2 23) zt_L1 [] 233 (zt_T1 o) 231 6999 with
  | some (.inl (some (.inl (.inl z)), _, _)) => xd_eqx z 1
  | _ => false
set_option maxRecDepth 100000 in
theorem zt_b0 : ([[.inr (64, 0), .inr ((-2147483648), 2147483647), .inr ((-2147483648), 2147483647), .inr ((-2147483648), 2147483647), .inr ((-2147483648), 2147483647), .inr ((-2147483648), 2147483647)]] : List (List xd_V)).all (fun v => zt_go (zt_bx v)) = true := by decide +kernel
set_option maxRecDepth 100000 in
theorem zt_b1_0 : zt_go (3, ([.inr (64, 1), .inr ((-2147483648), (-1)), .inr ((-2147483648), 2147483647), .inr ((-2147483648), 2147483647), .inr ((-2147483648), 2147483647), .inr ((-2147483648), 2147483647)] : List xd_V).map Sum.inl) = true := by decide +kernel
set_option maxRecDepth 100000 in
theorem zt_b1_1 : zt_go (3, ([.inr (64, 1), .inl 0, .inr ((-2147483648), 2147483647), .inr ((-2147483648), 2147483647), .inr ((-2147483648), 2147483647), .inr ((-2147483648), 2147483647)] : List xd_V).map Sum.inl) = true := by decide +kernel
set_option maxRecDepth 100000 in
theorem zt_b1_2 : zt_go (3, ([.inr (64, 1), .inr (1, 2147483647), .inr ((-2147483648), 2147483647), .inr ((-2147483648), 2147483647), .inr ((-2147483648), 2147483647), .inr ((-2147483648), 2147483647)] : List xd_V).map Sum.inl) = true := by decide +kernel
set_option maxRecDepth 100000 in
theorem zt_b2 : ([[.inr (64, 2), .inr ((-2147483648), (-1)), .inr ((-2147483648), 2147483647), .inr ((-2147483648), 2147483647), .inr ((-2147483648), 2147483647), .inr ((-2147483648), 2147483647)], [.inr (64, 2), .inl 0, .inr ((-2147483648), 2147483647), .inr ((-2147483648), 2147483647), .inr ((-2147483648), 2147483647), .inr ((-2147483648), 2147483647)], [.inr (64, 2), .inl 1, .inr ((-2147483648), 2147483647), .inr ((-2147483648), 2147483647), .inr ((-2147483648), 2147483647), .inr ((-2147483648), 2147483647)], [.inr (64, 2), .inr (2, 2147483647), .inr ((-2147483648), 2147483647), .inr ((-2147483648), 2147483647), .inr ((-2147483648), 2147483647), .inr ((-2147483648), 2147483647)]] : List (List xd_V)).all (fun v => zt_go (zt_bx v)) = true := by decide +kernel
