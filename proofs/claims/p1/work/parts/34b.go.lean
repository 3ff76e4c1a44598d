def zt_bx (vs : List xd_V) : xv_O xd_V := (3, vs.map Sum.inl)
/-- the law from its loop's head on, with one call: it answers 1 -/
noncomputable def zt_go (o : xv_O xd_V) : Bool := match xf_lp zt_flaw.2 (zt_rn 6) 20000 (xf_to zt_flaw.2 23) zt_L1 [] 233 (zt_T1 o) 231 6999 with
  | some (.inl (some (.inl (.inl z)), _, _)) => xd_eqx z 1
  | _ => false
