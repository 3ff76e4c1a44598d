def zt_hh : List (Nat × Nat × Nat × Nat) := [(0, 10, 13, 13), (0, 10, 17, 15)]
noncomputable def zt_hws : List Cond := Cond.codeWith zt_zh.1 method_3_code 5 (some .int) zt_hh :: zt_tb
theorem zt_dh5 : decode method_3_code 5 = .ok (.invokevirtual 7, 3) := by decide +kernel
theorem zt_dhx : decode method_3_code 13 = .ok (.astore 4, 2) ∧ decode method_3_code 15 = .ok (.iconst 1, 1) ∧ decode method_3_code 16 = .ok (.ireturn, 1) ∧ decode method_3_code 17 = .ok (.astore 4, 2) ∧ decode method_3_code 19 = .ok (.iconst 2, 1) ∧ decode method_3_code 20 = .ok (.ireturn, 1) := by decide +kernel
section XHH
variable {l : Launch} {Dg : va_G} {tys : List (ClassId × FieldType)} {ad adV : Nat → Nat} {L : Nat} {xs : Nat → Int32}
/-- what the helper's contract says: it answers r, the memory is M as before -/
def xh_C (l : Launch) (Dg : va_G) (tys : List (ClassId × FieldType)) (kx : xk_C) (d : Nat) (r : Int) (as : List (xv_V xd_V)) (M : xv_M xd_V) : Prop :=
  ∀ (φ : List Nat) (ws : va_W) (vals : List Value) (sz : Nat), xr_m (xk_c xd_g kx) xd_g φ tys M ws → xr_s xd_g φ as vals → xk_F kx φ →
    vx_Met l zt_zh.1 zt_hws (xm_rm d zt_mh) (xm_P Dg zt_cl tys zt_at zt_nest kx ws sz vals) (xm_Q (xk_c xd_g kx) xd_g tys Dg zt_cl (some (.inl (.inl r)), M) φ (va_A ws sz)) (fun _ _ _ => False) 1 6 (va_A ws sz)
/-- THE HELPER where nothing is thrown -/
theorem xh_help0 (hY : xc_tys zt_cl zt_at tys) {d : Nat} {r : Int} {as : List (xv_V xd_V)} {M : xv_M xd_V} (hle : xv_cats as ≤ 5)
    (hrun : xv_lp xd_D zt_ct zt_at zt_sct zt_ms (xv_rn xd_D zt_ct zt_at zt_sct zt_ms zt_ext 20000 d) zt_mh 100000 20000 0 zt_mh.2.2.2 (xv_in as 5) [] M 0 0 = some (.inl (some (.inl (.inl r)), M))) : xh_C l Dg tys (zt_kx ad adV L xs) (d + 1) r as M := by
  intro φ ws vals sz hm hs hkF
  refine vx_ofWH (cc := method_3_code) (maxL := 5) (ret := some .int) (hh := zt_hh) (by decide +kernel) rfl ?_
  intro p e s m args below meth c s₁ B hml hv
  obtain ⟨rfl, hsz, hP, hK, hD0, hkw⟩ := hv
  subst hsz
  have hD1 := hD0.self (sz := s.heap.size)
  have hts := atoms_spec (ws := zt_hws) B.pre
  have hown : s.vm.findClass "EggGardenLaw" = some m.cls := findClass_of_methodNamed B.named
  have hfix : xw_fix Dg zt_cl tys zt_at zt_nest (zt_kx ad adV L xs) zt_tb zt_ct zt_ys d zt_mh zt_zh p (xm_rm (d + 1) zt_mh) s m vals.toArray meth c (va_A ws s.heap.size) := ⟨B.exec, B.bytes, hml, hown, ⟨_, hts⟩, hK, hkw, ⟨Nat.le_refl _, Nat.le_refl _, rfl, rfl⟩, fun q hq => Or.inr hq, (name_of_methodNamed B.named B.method).1, zt_hbod⟩
  have hl := lv_entry vals (n := 5) (by rw [xr_s_sl hs]; exact hle)
  rw [lg_entry_eq]
  refine vx_ret ?_
  refine xs_lp (kx := zt_kx ad adV L xs) (e := e) (below := below) (Q := MQ below (xm_Q (xk_c xd_g (zt_kx ad adV L xs)) xd_g tys Dg zt_cl (some (.inl (.inl r)), M) φ (va_A ws s.heap.size)) vals.toArray s 1 6 (va_A ws s.heap.size)) xd_ok zt_all zt_char hY (zt_con hY d) hfix hkF (fun q hq i pc L S cells slots h1 h2 => ?_) (fun q hq => by cases hq) 20000 0 _ _ _ _ 0 0 hrun (fun q hq => hq) (Nat.zero_le _) (Nat.zero_le _) [] ws s.heap [] _ _ (by rw [List.append_nil]; exact hm) hP hD1 va_S.rf ?_ rfl
  · cases hq
    intro hc1 hc2 t ws' H locs ls st hm' hP' hD' hS' hl' hs'
    exact xs_end (rc := 1) xd_ok B.exec B.bytes B.returns B.notSynchronized h1 h2 hm' hP' hD' hS' hs' hc1 hc2
  · rw [List.append_nil]
    refine ⟨xv_in_len as _ hle, _, hl, fun i v hi => ?_⟩
    obtain ⟨x, hx1, hx2⟩ := xv_in_at 0 5 i hs hi
    exact ⟨x, by rw [Nat.zero_add] at hx1; exact hx1, hx2⟩
set_option maxHeartbeats 4000000 in
/-- THE HELPER where cell throws E, which the handler at hpc takes -/
theorem xh_helpX (hY : xc_tys zt_cl zt_at tys) {d : Nat} {r : Int} {E : String} {hpc : Nat} {p0 p1 : xd_V} {as : List (xv_V xd_V)} {M : xv_M xd_V} {L5 : xv_L xd_V} (hle : xv_cats as ≤ 5) {o : xv_O xd_V} (ho : M[2]? = some o) (ho1 : o.1 = 8 + 11)
    (hrun : xv_lp xd_D zt_ct zt_at zt_sct zt_ms (xv_rn xd_D zt_ct zt_at zt_sct zt_ms zt_ext 20000 (d + 1)) zt_mh 5 20000 0 zt_mh.2.2.2 (xv_in as 5) [] M 0 0 = some (.inr (L5, [.inl p1, .inl p0, .inr (.inr (some 2)), .inl (.inl 0), .inr (.inr (some 232))], M, 0, 0)))
    (hcell : ∀ {φ : List Nat} {ws : va_W} {vals : List Value} {sz : Nat}, xr_m (xk_c xd_g (zt_kx ad adV L xs)) xd_g φ tys M ws → xr_s xd_g φ [.inr (.inr (some 2)), .inl p0, .inl p1] vals → xk_F (zt_kx ad adV L xs) φ →
      vx_Met l zt_z171.1 (.code zt_z171.1 zt_z171.2.1 3 (some .int) :: zt_tb) (xm_rm (d + 1) zt_m171) (xm_P Dg zt_cl tys zt_at zt_nest (zt_kx ad adV L xs) ws sz vals) (fun _ _ _ _ => False) (xh_X (xk_c xd_g (zt_kx ad adV L xs)) xd_g tys Dg zt_cl E M φ (va_A ws sz)) 1 6 (va_A ws sz))
    (hcatch : ∀ {p : Program} {e : Env} {R : Room} {s : State} {m : MethodId} {args : Array Value} {below : List Frame} {meth : Method} {c : Code} {H : Heap} {locs : List Loc} {cells slots : Nat} {Q : State → Prop} {ls : Array Slot} {rest : List Value} {ce : Cell} {q : Addr}, s.vm.findClass "EggGardenLaw" = some m.cls → (∀ w ∈ zt_tb, w.before args s = true) → c.exceptionTable.toList = tableOf zt_hh → xk_E s → H[q]? = some ce → ce.vm = .none → s.vm.findClass E = some ce.cls →
      W p l e R s m args below meth c H locs cells slots Q (F0 m hpc ls [.ref q]) → vx_W p l e R s m args below meth c H locs cells slots Q (F0 m 5 ls rest) q)
    (hdec : decode method_3_code hpc = .ok (.astore 4, 2) ∧ (∃ k : Int, decode method_3_code (hpc + 2) = .ok (.iconst k, 1) ∧ (Int32.ofInt k).toInt = r) ∧ decode method_3_code (hpc + 2 + 1) = .ok (.ireturn, 1)) : xh_C l Dg tys (zt_kx ad adV L xs) (d + 2) r as M := by
  intro φ ws vals sz hm hs hkF
  refine vx_ofWH (cc := method_3_code) (maxL := 5) (ret := some .int) (hh := zt_hh) (by decide +kernel) rfl ?_
  intro p e s m args below meth c s₁ B hml hv
  obtain ⟨rfl, hsz, hP, hK, hD0, hkw⟩ := hv
  subst hsz
  have hD1 := hD0.self (sz := s.heap.size)
  have hts := atoms_spec (ws := zt_hws) B.pre
  have htb : ∀ w ∈ zt_tb, w.before vals.toArray s = true := fun w hw => hts w (List.mem_cons_of_mem _ hw)
  have htab : c.exceptionTable.toList = tableOf zt_hh := vx_table (x := zt_zh.1) B (hts _ List.mem_cons_self)
  have hown : s.vm.findClass "EggGardenLaw" = some m.cls := findClass_of_methodNamed B.named
  have hfix : xw_fix Dg zt_cl tys zt_at zt_nest (zt_kx ad adV L xs) zt_tb zt_ct zt_ys (d + 1) zt_mh zt_zh p (xm_rm (d + 2) zt_mh) s m vals.toArray meth c (va_A ws s.heap.size) := ⟨B.exec, B.bytes, hml, hown, ⟨_, hts⟩, hK, hkw, ⟨Nat.le_refl _, Nat.le_refl _, rfl, rfl⟩, fun q hq => Or.inr hq, (name_of_methodNamed B.named B.method).1, zt_hbod⟩
  have hl := lv_entry vals (n := 5) (by rw [xr_s_sl hs]; exact hle)
  rw [lg_entry_eq]
  refine xs_lp (kx := zt_kx ad adV L xs) (e := e) (below := below) (Q := vx_MQ below (xm_Q (xk_c xd_g (zt_kx ad adV L xs)) xd_g tys Dg zt_cl (some (.inl (.inl r)), M) φ (va_A ws s.heap.size)) (fun _ _ _ => False) vals.toArray s 1 6 (va_A ws s.heap.size)) xd_ok zt_all zt_char hY (zt_con hY (d + 1)) hfix hkF (fun q hq => by cases hq) (fun q hq => ?_) 20000 0 _ _ _ _ 0 0 hrun (fun q hq => hq) (Nat.zero_le _) (Nat.zero_le _) [] ws s.heap [] _ _ (by rw [List.append_nil]; exact hm) hP hD1 va_S.rf ?_ rfl
  · cases hq
    intro hc1 hc2 t ws' H locs ls st hm' hP' hD' hS' hl' hs'
    obtain ⟨_, r0, rfl, ⟨n1, rfl, hg1⟩, _, r1, rfl, ⟨n0, rfl, hg0⟩, _, r2, rfl, ⟨qx, hqx, rfl⟩, hrest⟩ := hs'
    have hcat := xr_s_cats hrest
    have hlsz : ls.size = 5 := by
      obtain ⟨-, lv, hlv, -⟩ := hl'
      exact hlv.1
    have hone := zt_one171
    obtain ⟨hp1, hcode, hini, hd9, hml2, hbod⟩ := hone
    obtain ⟨z2, hz2, hl1, hl2, hl3⟩ := (zt_hbod.2.2.2.2.2.2.2.2 7 0 171 rfl).1 rfl
    cases Option.some.inj (hz2.symm.trans (show zt_ys[171]? = some zt_z171 from rfl))
    obtain ⟨ia, Eo, hEo, heo, -⟩ := xr_m_at hm' ho hqx (by omega) (by omega)
    obtain ⟨fs, rfl, -⟩ := xr_e_obj heo ho1
    obtain ⟨⟨C9, T9, N9⟩, hr1, -⟩ := hP' ia _ hEo
    have hC9 := hbod.2.2.1 C9 T9 N9 hr1
    subst hC9
    have hG : GoodIn zt_hws (Jvm.Cond.code zt_z171.1 zt_z171.2.1 3 (some .int) :: zt_tb) := xc_good zt_all.1 hcode
    have hAA : ∀ q, va_A ws' H.size q → va_A ws s.heap.size q := fun q hq => by
      rcases hq with ⟨k, E9, hk⟩ | hq
      · exact hD'.2 k _ hk
      · exact Or.inr (Nat.le_trans hS'.1 hq)
    have hrunV := vx_runV (C := zt_z171.1.cls) (As := [.int n0, .int n1]) (rest := r2) (locs := locs) (cells := 0) (slots := 0) (below := below) (e := e) (p := p) (meth := meth) (g := F0 m 5 ls (.int n1 :: .int n0 :: .ref qx :: r2)) (R := xm_rm (d + 2) zt_mh) (cc := method_3_code) (nL := 5) (mc := 1) (ms := 6)
      ⟨B.exec, B.bytes, hml, hown, hts⟩ (hcell (vals := [.ref qx, .int n0, .int n1]) (sz := H.size) hm' ⟨_, _, rfl, ⟨qx, hqx, rfl⟩, _, _, rfl, ⟨n0, rfl, hg0⟩, _, _, rfl, ⟨n1, rfl, hg1⟩, rfl⟩ hkF.mono)
      ⟨callB_of 2 hts hG rfl rfl rfl (htb _ hini) (htb _ hl1) hd9 ⟨Nat.le_refl _, by show 8 + (3 + 11) + 44 * (d + 1 + 5) ≤ 44 * (d + 2 + 5); omega⟩, htb _ hl2, htb _ hl3⟩
      ⟨xm_blind, va_recv hK.1 hP' hr1 hEo, xm_pre hK hkw hP' hD' hS' (fun q hq => Or.inr hq)⟩ rfl rfl hlsz rfl (by
        show 2 * 0 + _ ≤ 8
        rw [hcat]
        exact (by decide : 2 * 0 + 2 ≤ 8)) zt_dh5 ⟨Nat.le_refl _, Nat.le_refl _⟩
    intro T hT X
    rcases hrunV T hT X with ⟨v, st₀, t', T', Lc, h0, X', hL, e1, e2, hfalse, st⟩ | ⟨q, st₀, t', T', Lc, E', ce, h0, X', hL, e1, e2, ⟨rfl, ⟨ts, ws2, hm2, hP2, hD2⟩, hF⟩, hce, hcv, hcl, st⟩
    · exact hfalse.elim
    · obtain ⟨k1, k2, k3⟩ := vx_keep h0 e1 hS' (fun q _ hq => hAA q hq) hAA hL hF
      obtain ⟨-, lv, hlv, -⟩ := hl'
      have hend : W p l e (xm_rm (d + 2) zt_mh) s m vals.toArray below meth c T'.heap (locs ++ Lc) (0 + 1) (0 + 6) (vx_MQ below (xm_Q (xk_c xd_g (zt_kx ad adV L xs)) xd_g tys Dg zt_cl (some (.inl (.inl r)), M) φ (va_A ws s.heap.size)) (fun _ _ _ => False) vals.toArray s 1 6 (va_A ws s.heap.size)) (F0 m hpc ls [.ref q]) := by
        obtain ⟨g1, ⟨kk, g2, g3⟩, g4⟩ := hdec
        refine lv_astore B.exec B.bytes g1 hlv (by decide) rfl (fun ls' hlv' => ?_)
        refine lv_iconst B.exec B.bytes g2 rfl ?_
        refine vx_ret ?_
        exact xs_end (t := t ++ ts) xd_ok B.exec B.bytes B.returns B.notSynchronized (rc := 1) (S := [.inl (.inl r)]) (r := some (.inl (.inl r))) rfl g4 (by rw [← List.append_assoc]; exact hm2) (by rw [e1]; exact hP2) (hD2.weaken (fun _ _ _ z => hAA _ z)) k3 ⟨.int (Int32.ofInt kk), [], rfl, ⟨Int32.ofInt kk, rfl, (show xd_g (.inl r) (.int (Int32.ofInt kk)) from g3)⟩, rfl⟩ (Nat.le_refl _) (Nat.le_refl _)
      obtain ⟨t2, a1, b1⟩ := hcatch (p := p) (e := e) (ls := ls) (rest := r2) hown htb htab hK.2.2.2.2 (by rw [e1]; exact hce) hcv hcl hend T' rfl X'
      exact ⟨t2, st.trans a1, b1⟩
  · rw [List.append_nil]
    refine ⟨xv_in_len as _ hle, _, hl, fun i v hi => ?_⟩
    obtain ⟨x, hx1, hx2⟩ := xv_in_at 0 5 i hs hi
    exact ⟨x, by rw [Nat.zero_add] at hx1; exact hx1, hx2⟩
theorem xh_catch1 {p : Program} {e : Env} {R : Room} {s : State} {m : MethodId} {args : Array Value} {below : List Frame} {meth : Method} {c : Code} {H : Heap} {locs : List Loc} {cells slots : Nat} {Q : State → Prop} {ls : Array Slot} {rest : List Value} {ce : Cell} {q : Addr} (hown : s.vm.findClass "EggGardenLaw" = some m.cls) (htb : ∀ w ∈ zt_tb, w.before args s = true) (htab : c.exceptionTable.toList = tableOf zt_hh) (hE : xk_E s) (hce : H[q]? = some ce) (hcv : ce.vm = .none) (hcl : s.vm.findClass xk_x1 = some ce.cls)
    (kk : W p l e R s m args below meth c H locs cells slots Q (F0 m 13 ls [.ref q])) : vx_W p l e R s m args below meth c H locs cells slots Q (F0 m 5 ls rest) q :=
  vx_catch (own := "EggGardenLaw") (name := xk_x1) (E := xk_x1) hown [] ⟨0, 10, 13, 13⟩ [⟨0, 10, 17, 15⟩] htab (fun z hz => nomatch hz) (by decide) (by decide) (htb _ (zt_wv3_tb _ (List.mem_of_getElem? (i := 8) rfl))) (va_Nw.use rfl hE.1.1) hce hcv hcl kk
theorem xh_catch2 {p : Program} {e : Env} {R : Room} {s : State} {m : MethodId} {args : Array Value} {below : List Frame} {meth : Method} {c : Code} {H : Heap} {locs : List Loc} {cells slots : Nat} {Q : State → Prop} {ls : Array Slot} {rest : List Value} {ce : Cell} {q : Addr} (hown : s.vm.findClass "EggGardenLaw" = some m.cls) (htb : ∀ w ∈ zt_tb, w.before args s = true) (htab : c.exceptionTable.toList = tableOf zt_hh) (hE : xk_E s) (hce : H[q]? = some ce) (hcv : ce.vm = .none) (hcl : s.vm.findClass xk_x2 = some ce.cls)
    (kk : W p l e R s m args below meth c H locs cells slots Q (F0 m 17 ls [.ref q])) : vx_W p l e R s m args below meth c H locs cells slots Q (F0 m 5 ls rest) q :=
  vx_catch (own := "EggGardenLaw") (name := xk_x2) (E := xk_x2) hown [⟨0, 10, 13, 13⟩] ⟨0, 10, 17, 15⟩ [] htab (fun z hz => by
    obtain rfl := List.mem_singleton.mp hz
    exact Or.inr ⟨by decide, xk_x1, htb _ (zt_wv3_tb _ (List.mem_of_getElem? (i := 8) rfl)), hE.2.2⟩) (by decide) (by decide) (htb _ (zt_wv3_tb _ (List.mem_of_getElem? (i := 9) rfl))) (va_Nw.use rfl hE.1.2) hce hcv hcl kk
end XHH
