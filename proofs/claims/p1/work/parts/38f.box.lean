def zt_bc (p0 p1 : xd_V) : xv_O xd_V := (3, [.inr (64, 4), p0, p1, xd_top, xd_top, xd_top].map Sum.inl)
noncomputable def zt_k0 (p0 p1 : xd_V) : Bool := zt_qa (zt_bc p0 p1) p0 p1 && zt_qb0 (zt_bc p0 p1) p0 p1 && zt_qc (zt_bc p0 p1) 0
noncomputable def zt_k1 (p0 p1 : xd_V) : Bool := zt_qa (zt_bc p0 p1) p0 p1 && (zt_qb5 (zt_bc p0 p1) p0 p1 && zt_qbx zt_fcA (zt_bc p0 p1) p0 p1) && zt_qc (zt_bc p0 p1) 1
noncomputable def zt_k2 (p0 p1 : xd_V) : Bool := zt_qa (zt_bc p0 p1) p0 p1 && (zt_qb5 (zt_bc p0 p1) p0 p1 && zt_qbx zt_fcB (zt_bc p0 p1) p0 p1) && zt_qc (zt_bc p0 p1) 2
set_option maxRecDepth 100000 in
theorem zt_bk1a : zt_k1 (.inr (-2147483648, -1)) xd_top = true := by decide +kernel
set_option maxRecDepth 100000 in
theorem zt_bk1b : zt_k1 (.inr (30, 2147483647)) xd_top = true := by decide +kernel
set_option maxRecDepth 100000 in
theorem zt_bk2a : zt_k2 (.inr (0, 29)) (.inr (-2147483648, -1)) = true := by decide +kernel
set_option maxRecDepth 100000 in
theorem zt_bk2b : zt_k2 (.inr (0, 29)) (.inr (4, 2147483647)) = true := by decide +kernel
set_option maxRecDepth 100000 in
theorem zt_bk0 : (List.range 30).all (fun i => (List.range 4).all (fun j => zt_k0 (.inl (Int.ofNat i)) (.inl (Int.ofNat j)))) = true := by decide +kernel
