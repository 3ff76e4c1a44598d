/-- what a throw of E leaves: the memory as it was -/
def xh_X {V : Type} (C : Nat → xv_O V → Prop) (g : V → Value → Prop) (tys : List (ClassId × FieldType)) (Dg : va_G) (cl : List vw_C) (E : String) (M : xv_M V) (φ : List Nat) (A : Nat → Prop) : String → State → State → Prop := fun E' st t =>
  E' = E ∧ (∃ (ts : List Nat) (ws' : va_W), xr_m C g (φ ++ ts) tys M ws' ∧ va_P Dg cl ws' t.heap ∧ va_D A ws') ∧ va_F A st t
def zt_up : List String := ["java/lang/RuntimeException", "java/lang/Exception"]
theorem zt_dx1 : decode zt_z45.2.1 11 = .ok (.new 122, 3) ∧ decode zt_z45.2.1 14 = .ok (.dup, 1) ∧ decode zt_z45.2.1 15 = .ok (.ldc 124, 2) ∧ decode zt_z45.2.1 17 = .ok (.invokespecial 126, 3) ∧ decode zt_z45.2.1 20 = .ok (.athrow, 1) := by decide +kernel
theorem zt_dx2 : decode zt_z45.2.1 98 = .ok (.new 142, 3) ∧ decode zt_z45.2.1 101 = .ok (.dup, 1) ∧ decode zt_z45.2.1 102 = .ok (.ldc 144, 2) ∧ decode zt_z45.2.1 104 = .ok (.invokespecial 146, 3) ∧ decode zt_z45.2.1 107 = .ok (.athrow, 1) := by decide +kernel
theorem zt_rx2 : decode prog_29_method_4_code 0 = .ok (.aload_n 0, 1) ∧ decode prog_29_method_4_code 1 = .ok (.aload_n 1, 1) ∧ decode prog_29_method_4_code 2 = .ok (.invokespecial 13, 3) ∧ decode prog_29_method_4_code 5 = .ok (.return_, 1) := by decide +kernel
theorem zt_bad1 : ∀ w ∈ (vx_atS "EggGarden" 126 xk_x1 zt_up).filter (fun w => !goodWord w), w ∈ [Cond.castable xk_x1 xk_x1, .declares (Bundle.initS "java/lang/RuntimeException"), .declares (Bundle.initS "java/lang/Exception"), .declares (Bundle.initS Bundle.tN)] := by decide +kernel
theorem zt_bad2 : ∀ w ∈ (xt_at "EggGarden" 146 xk_x2 13 prog_29_method_4_code zt_up).filter (fun w => !goodWord w), w ∈ [Cond.castable xk_x2 xk_x2, .declares (Bundle.initS "java/lang/RuntimeException"), .declares (Bundle.initS "java/lang/Exception"), .declares (Bundle.initS Bundle.tN)] := by decide +kernel
theorem zt_ot1 : ∀ w ∈ Cond.classLink "EggGarden" 122 xk_x1 :: Cond.initialized xk_x1 :: vx_atS "EggGarden" 126 xk_x1 zt_up, vx_ot w = true := by decide +kernel
theorem zt_ot2 : ∀ w ∈ Cond.classLink "EggGarden" 142 xk_x2 :: Cond.initialized xk_x2 :: xt_at "EggGarden" 146 xk_x2 13 prog_29_method_4_code zt_up, vx_ot w = true := by decide +kernel
theorem zt_end9 {S : List (xv_V Int)} {i : Instr} {x : Option (xv_V Int)} (h : xv_end zc_D 9 S i = some x) : False := by
  cases i
  all_goals (first | (simp only [xv_end, reduceCtorEq] at h; done) | skip)
  case return_ =>
    simp only [xv_end] at h
    split at h
    · cases h
    · cases h
  case ireturn =>
    simp only [xv_end] at h
    split at h
    · cases h
    · cases h
  case lreturn =>
    simp only [xv_end] at h
    split at h
    · cases h
    · cases h
section XH
variable {l : Launch} {Dg : va_G} {tys : List (ClassId × FieldType)} {ad adV : Nat → Nat} {L : Nat} {xs : Nat → Int32}
theorem zt_one45 : xc_one zt_tb zt_nest zt_cl zt_ct zt_at zt_sct zt_strs zt_ys zt_m45 zt_z45 := by
  obtain ⟨z2, hz2, hone⟩ := zt_all.2.2.2.2 45 zt_m45 rfl
  cases Option.some.inj (hz2.symm.trans (show zt_ys[45]? = some zt_z45 from rfl))
  exact hone
theorem zt_bod9 {y : xv_N} {z : xm_Z} (h : xc_bod zt_tb zt_nest zt_cl zt_ct zt_at zt_sct zt_strs zt_ys y z) : xc_bod zt_tb zt_nest zt_cl zt_ct zt_at zt_sct zt_strs zt_ys (zt_yq9 y) (zt_zq9 z) := ⟨rfl, h.2⟩
/-- CELL, where it throws: the throw at stop (11 or 98) is a hypothesis -/
theorem zh_cell (hY : xc_tys zt_cl zt_at tys) {d stop : Nat} {E : String} {p0 p1 : Int} {σ : zu_m}
    (hreg : ∀ (K : Nat → List zu_v → List zu_v → zu_m → Prop), (∀ Lz, K stop Lz [] σ) → zw (zu_rega (zt_T L) (zu_call (zt_T L)) (zt_kex K) 3 (zt_yq9 zt_m45) [11, 98] 400 0 [(5, 3), (0, p0), (0, p1)] [] σ) (fun v _ => v = 1))
    (hthrow : ∀ {p : Program} {e : Env} {s : State} {m : MethodId} {args : Array Value} {below : List Frame} {meth : Method} {c : Code} {H : Heap} {locs : List Loc} {ls : Array Slot} {A : Nat → Prop} {XC : String → State → State → Prop}, p.tables.exec = Jvm.exec → c.code = zt_z45.2.1 → s.vm.findClass "EggGarden" = some m.cls → (∀ w ∈ zt_tb, w.before args s = true) → xm_K Dg zt_cl tys zt_at zt_nest (zt_kx ad adV L xs) s → xk_W (zt_kx ad adV L xs) A s s.heap →
      va_S A s.heap H locs → ls.size = c.maxLocals → (∀ x ∈ c.exceptionTable.toList, False) → meth.locks = false → (∀ t : State, s.vm.Alike t.vm → H.size ≤ t.heap.size → (∀ q : Nat, q < H.size → t.heap[q]? = H[q]?) → XC E s t) →
      W p l e (xm_rm (d + 1) zt_m45) s m args below meth c H locs 0 0 (vx_MQ below (fun _ _ _ _ => False) XC args s 1 6 A) (F0 m stop ls []))
    {φ : List Nat} {ws : va_W} {vals : List Value} {sz : Nat} (hm : xr_m (xk_c zc_g (zt_kx ad adV L xs)) zc_g φ tys (zu_emb (zt_T L) zt_kd σ) ws) (hs : xr_s zc_g φ [.inr (.inr (some 3)), .inl p0, .inl p1] vals) (hkF : xk_F (zt_kx ad adV L xs) φ) :
    vx_Met l zt_z45.1 (.code zt_z45.1 zt_z45.2.1 3 (some .int) :: zt_tb) (xm_rm (d + 1) zt_m45) (xm_P Dg zt_cl tys zt_at zt_nest (zt_kx ad adV L xs) ws sz vals) (fun _ _ _ _ => False) (xh_X (xk_c zc_g (zt_kx ad adV L xs)) zc_g tys Dg zt_cl E (zu_emb (zt_T L) zt_kd σ) φ (va_A ws sz)) 1 6 (va_A ws sz) := by
  have hone := zt_one45
  refine vx_ofW (cc := zt_z45.2.1) (maxL := 3) (ret := some .int) hone.1 rfl ?_
  intro p e s m args below meth c s₁ B hml htab hv
  obtain ⟨rfl, hsz, hP, hK, hD0, hkw⟩ := hv
  subst hsz
  have hD1 := hD0.self (sz := s.heap.size)
  have hts := atoms_spec (ws := .code zt_z45.1 zt_z45.2.1 3 (some .int) :: zt_tb) B.pre
  have hown : s.vm.findClass "EggGarden" = some m.cls := findClass_of_methodNamed B.named
  have hfix : xn_fix Dg zt_cl tys zt_at zt_nest (zt_kx ad adV L xs) zt_tb zt_ct zt_ys 3 (zt_yq9 zt_m45) (zt_zq9 zt_z45) p (xm_rm (d + 1) zt_m45) s m vals.toArray meth c (va_A ws s.heap.size) := ⟨B.exec, B.bytes, hml, hown, ⟨_, hts⟩, hK, hkw, ⟨by show 3 + 1 ≤ d + 1 + 5; omega, by show 31 * 3 + 44 ≤ 44 * (d + 1 + 5); omega, rfl, rfl⟩, fun q hq => Or.inr hq, (name_of_methodNamed B.named B.method).1, zt_bod9 hone.2.2.2.2.2⟩
  have hl := lv_entry vals (n := 3) (by rw [xr_s_sl hs]; exact Nat.le_refl _)
  rw [lg_entry_eq]
  have hstop : ∀ Lz : List zu_v, xw_st p l e (xm_rm (d + 1) zt_m45) s m vals.toArray below meth c (vx_MQ below (fun _ _ _ _ => False) (xh_X (xk_c zc_g (zt_kx ad adV L xs)) zc_g tys Dg zt_cl E (zu_emb (zt_T L) zt_kd σ) φ (va_A ws s.heap.size)) vals.toArray s 1 6 (va_A ws s.heap.size)) zc_g Dg zt_cl tys (zt_kx ad adV L xs) (va_A ws s.heap.size) φ (zt_yq9 zt_m45) stop (Lz.map zu_xl) (([] : List zu_v).map zu_x) (zu_emb (zt_T L) zt_kd σ) 0 0 := by
    intro Lz hc1 hc2 t ws' H locs ls st hm' hP' hD' hS' hl' hs'
    obtain rfl : st = [] := hs'
    have hlsz : ls.size = c.maxLocals := by
      obtain ⟨-, lv, hlv, -⟩ := hl'
      rw [hml]
      exact hlv.1
    exact hthrow B.exec B.bytes hown (fun w hw => hts w (List.mem_cons_of_mem _ hw)) hK hkw hS' hlsz htab B.notSynchronized (fun t9 _ hz hk => ⟨rfl, ⟨t, ws', hm', va_P.kept hP' (fun k q hq => hk q.1 (vx_lt hP' hq)), hD'⟩, ⟨Nat.le_trans hS'.1 hz, fun q h1 h2 => (hk q (Nat.lt_of_lt_of_le h1 hS'.1)).trans (hS'.2.1 q h1 h2)⟩⟩)
  obtain ⟨v, σ', hrg, rfl⟩ := hreg (fun pc Lz Sz σ1 => xw_st p l e (xm_rm (d + 1) zt_m45) s m vals.toArray below meth c (vx_MQ below (fun _ _ _ _ => False) (xh_X (xk_c zc_g (zt_kx ad adV L xs)) zc_g tys Dg zt_cl E (zu_emb (zt_T L) zt_kd σ) φ (va_A ws s.heap.size)) vals.toArray s 1 6 (va_A ws s.heap.size)) zc_g Dg zt_cl tys (zt_kx ad adV L xs) (va_A ws s.heap.size) φ (zt_yq9 zt_m45) pc (Lz.map zu_xl) (Sz.map zu_x) (zu_emb (zt_T L) zt_kd σ1) 0 0) hstop
  have hgo := zs_rega zt_all hY zt_hmx (zt_wf L) rfl rfl (zt_zsG ad adV L xs) hfix hkF (r := (1, σ')) (fun pc Lz Sz σ1 hh _ _ => by
    unfold zt_kex at hh
    split at hh
    · rename_i hk
      exact hk
    · cases hh) (fun i pc Lx Sx h1 _ => (zt_end9 h1).elim) [11, 98] 400 0 [(5, 3), (0, p0), (0, p1)] [] σ hrg (fun w hw => by
      intro k hk
      rcases List.mem_cons.mp hw with rfl | hw
      · cases Nat.add_right_cancel (show 2 + 3 = k + 3 from hk); exact ⟨by decide, rfl⟩
      rcases List.mem_cons.mp hw with rfl | hw
      · exact absurd (show 0 = k + 3 from hk) (by omega)
      obtain rfl := List.mem_singleton.mp hw
      exact absurd (show 0 = k + 3 from hk) (by omega)) (fun w hw => by simp at hw)
  refine hgo (Nat.zero_le _) (Nat.zero_le _) [] ws s.heap [] _ _ (by rw [List.append_nil]; exact hm) hP hD1 va_S.rf ?_ rfl
  rw [List.append_nil]
  refine ⟨rfl, _, hl, fun i v hi => ?_⟩
  obtain ⟨x, hx1, hx2⟩ := xv_in_at 0 3 i hs (show (xv_in [.inr (.inr (some 3)), .inl p0, .inl p1] 3)[i]? = some (some v) from hi)
  exact ⟨x, by rw [Nat.zero_add] at hx1; exact hx1, hx2⟩
/-- 'no such cell' -/
theorem xh_throw1 (hlt : l.stackTraces = false) {d : Nat} {p : Program} {e : Env} {s : State} {m : MethodId} {args : Array Value} {below : List Frame} {meth : Method} {c : Code} {H : Heap} {locs : List Loc} {ls : Array Slot} {A : Nat → Prop} {XC : String → State → State → Prop} (hx : p.tables.exec = Jvm.exec) (hb : c.code = zt_z45.2.1) (hown : s.vm.findClass "EggGarden" = some m.cls) (htb : ∀ w ∈ zt_tb, w.before args s = true) (hK : xm_K Dg zt_cl tys zt_at zt_nest (zt_kx ad adV L xs) s) (hkw : xk_W (zt_kx ad adV L xs) A s s.heap)
    (hS : va_S A s.heap H locs) (hlsz : ls.size = c.maxLocals) (htab : ∀ x ∈ c.exceptionTable.toList, False) (hlocks : meth.locks = false) (hX : ∀ t : State, s.vm.Alike t.vm → H.size ≤ t.heap.size → (∀ q : Nat, q < H.size → t.heap[q]? = H[q]?) → XC xk_x1 s t) :
    W p l e (xm_rm (d + 1) zt_m45) s m args below meth c H locs 0 0 (vx_MQ below (fun _ _ _ _ => False) XC args s 1 6 A) (F0 m 11 ls []) := by
  obtain ⟨hkE, hkD, -⟩ := hK.2.2.2.2
  refine vx_throwS (A := A) hx hb hlt (own := "EggGarden") (cls := xk_x1) (text := "no such cell") (names := zt_up) (ik := 122) (is := 124) (ic := 126) (sa := ad 12) hown (by decide +kernel) (by decide +kernel) (htb _ (zt_wv3_tb _ (List.mem_of_getElem? (i := 0) rfl))) (htb _ (zt_wv3_tb _ (List.mem_of_getElem? (i := 1) rfl)))
    (hK.2.2.2.1 ("EggGarden", 124, "no such cell", 12) (List.mem_of_getElem? (i := 1) rfl)) (vx_hat (fun w hw => htb _ (zt_wv1_tb w hw)) zt_bad1 (vx_c (va_Nw.use rfl hkE.1) (vx_c (va_Nw.use rfl hkD.1) (vx_c (va_Nw.use rfl hkD.2.1) (vx_c (va_Nw.use rfl hkD.2.2) vx_n))))) zt_ot1 hkw.1.2.2.2.1 hkw.1.2.2.2.2 hS hlsz
    zt_dx1.1 zt_dx1.2.1 zt_dx1.2.2.1 zt_dx1.2.2.2.1 zt_dx1.2.2.2.2 (fun x hx => (htab x hx).elim) ?_ ?_ (Nat.le_refl _) (Nat.le_refl _) hlocks hX (fun z hz => hS.2.2 z hz) (Nat.le_refl _) (Nat.le_refl _)
  · show 2 + 3 < d + 1 + 5
    omega
  · show 0 + (13 * (2 + 1) + 43) ≤ 44 * (d + 1 + 5)
    omega
/-- 'no such what' -/
theorem xh_throw2 (hlt : l.stackTraces = false) {d : Nat} {p : Program} {e : Env} {s : State} {m : MethodId} {args : Array Value} {below : List Frame} {meth : Method} {c : Code} {H : Heap} {locs : List Loc} {ls : Array Slot} {A : Nat → Prop} {XC : String → State → State → Prop} (hx : p.tables.exec = Jvm.exec) (hb : c.code = zt_z45.2.1) (hown : s.vm.findClass "EggGarden" = some m.cls) (htb : ∀ w ∈ zt_tb, w.before args s = true) (hK : xm_K Dg zt_cl tys zt_at zt_nest (zt_kx ad adV L xs) s) (hkw : xk_W (zt_kx ad adV L xs) A s s.heap)
    (hS : va_S A s.heap H locs) (hlsz : ls.size = c.maxLocals) (htab : ∀ x ∈ c.exceptionTable.toList, False) (hlocks : meth.locks = false) (hX : ∀ t : State, s.vm.Alike t.vm → H.size ≤ t.heap.size → (∀ q : Nat, q < H.size → t.heap[q]? = H[q]?) → XC xk_x2 s t) :
    W p l e (xm_rm (d + 1) zt_m45) s m args below meth c H locs 0 0 (vx_MQ below (fun _ _ _ _ => False) XC args s 1 6 A) (F0 m 98 ls []) := by
  obtain ⟨hkE, hkD, -⟩ := hK.2.2.2.2
  refine xt_throw (A := A) hx hb hlt (own := "EggGarden") (E := xk_x2) (text := "no such what") (up := zt_up) (ik := 142) (is := 144) (ic := 146) (ix := 13) (rx := prog_29_method_4_code) (sa := ad 13) zt_rx2.1 zt_rx2.2.1 zt_rx2.2.2.1 zt_rx2.2.2.2 hown (by decide +kernel) (by decide +kernel) (htb _ (zt_wv3_tb _ (List.mem_of_getElem? (i := 2) rfl))) (htb _ (zt_wv3_tb _ (List.mem_of_getElem? (i := 3) rfl)))
    (hK.2.2.2.1 ("EggGarden", 144, "no such what", 13) (List.mem_of_getElem? (i := 2) rfl)) (vx_hat (fun w hw => htb _ (zt_wv2_tb w hw)) zt_bad2 (vx_c (va_Nw.use rfl hkE.2) (vx_c (va_Nw.use rfl hkD.1) (vx_c (va_Nw.use rfl hkD.2.1) (vx_c (va_Nw.use rfl hkD.2.2) vx_n))))) zt_ot2 hkw.1.2.2.2.1 hkw.1.2.2.2.2 hS hlsz
    zt_dx2.1 zt_dx2.2.1 zt_dx2.2.2.1 zt_dx2.2.2.2.1 zt_dx2.2.2.2.2 (fun x hx => (htab x hx).elim) ?_ ?_ (Nat.le_refl _) (Nat.le_refl _) hlocks hX (fun z hz => hS.2.2 z hz) (Nat.le_refl _) (Nat.le_refl _)
  · show 2 + 3 < d + 1 + 5
    omega
  · show 0 + (13 * (2 + 1) + 43) ≤ 44 * (d + 1 + 5)
    omega
end XH
def zt_hh : List (Nat × Nat × Nat × Nat) := [(0, 10, 13, 13), (0, 10, 17, 15)]
noncomputable def zt_hws : List Cond := Cond.codeWith zt_zh.1 method_3_code 5 (some .int) zt_hh :: zt_tb
theorem zt_dh5 : decode method_3_code 5 = .ok (.invokevirtual 7, 3) := by decide +kernel
theorem zt_dhx : decode method_3_code 13 = .ok (.astore 4, 2) ∧ decode method_3_code 15 = .ok (.iconst 1, 1) ∧ decode method_3_code 16 = .ok (.ireturn, 1) ∧ decode method_3_code 17 = .ok (.astore 4, 2) ∧ decode method_3_code 19 = .ok (.iconst 2, 1) ∧ decode method_3_code 20 = .ok (.ireturn, 1) := by decide +kernel
theorem zt_okh {p0 p1 : Int} : zu_okL zt_kd [(5, 3), (0, p0), (0, p1), (53, 233), (2, 0)] := fun w hw => by
  intro k hk
  rcases List.mem_cons.mp hw with rfl | hw
  · cases Nat.add_right_cancel (show 2 + 3 = k + 3 from hk); exact ⟨by decide, rfl⟩
  rcases List.mem_cons.mp hw with rfl | hw
  · exact absurd (show 0 = k + 3 from hk) (by omega)
  rcases List.mem_cons.mp hw with rfl | hw
  · exact absurd (show 0 = k + 3 from hk) (by omega)
  rcases List.mem_cons.mp hw with rfl | hw
  · cases Nat.add_right_cancel (show 50 + 3 = k + 3 from hk); exact ⟨by decide, rfl⟩
  obtain rfl := List.mem_singleton.mp hw
  exact absurd (show 2 = k + 3 from hk) (by omega)
section XHH
variable {l : Launch} {Dg : va_G} {tys : List (ClassId × FieldType)} {ad adV : Nat → Nat} {L : Nat} {xs : Nat → Int32}
/-- what the helper's contract says: it answers r, the memory is σ' -/
def zh_C (l : Launch) (Dg : va_G) (tys : List (ClassId × FieldType)) (ad adV : Nat → Nat) (L : Nat) (xs : Nat → Int32) (d : Nat) (r p0 p1 : Int) (σ σ' : zu_m) : Prop :=
  ∀ (φ : List Nat) (ws : va_W) (vals : List Value) (sz : Nat), xr_m (xk_c zc_g (zt_kx ad adV L xs)) zc_g φ tys (zu_emb (zt_T L) zt_kd σ) ws → xr_s zc_g φ [.inr (.inr (some 3)), .inl p0, .inl p1, .inr (.inr (some 233))] vals → xk_F (zt_kx ad adV L xs) φ →
    vx_Met l zt_zh.1 zt_hws (xm_rm d zt_mh) (xm_P Dg zt_cl tys zt_at zt_nest (zt_kx ad adV L xs) ws sz vals) (xm_Q (xk_c zc_g (zt_kx ad adV L xs)) zc_g tys Dg zt_cl (some (.inl r), zu_emb (zt_T L) zt_kd σ') φ (va_A ws sz)) (fun _ _ _ => False) 1 6 (va_A ws sz)
theorem zarg_v {ms : List xv_N} {K : xv_K} {M : xv_M Int} {S Rs : List (xv_V Int)} {i j a : Nat} {y : xv_N} {o : xv_O Int} (h1 : xv_find K.2.1 i = some (0, j)) (h2 : ms[j]? = some y) (h3 : S.drop y.2.1.1 = .inr (.inr (some a)) :: Rs) (h4 : M[a]? = some o) (h5 : (Nat.beq o.1 (8 + y.1.1) && Nat.ble (xv_cats Rs) 8) = true) : xv_arg ms K M S (.invokevirtual i) = some (j, .inr (.inr (some a)) :: (S.take y.2.1.1).reverse, Rs) := by
  simp only [xv_arg, h1, h2, h3, h4, h5, cond_true]
set_option maxRecDepth 100000 in
set_option maxHeartbeats 4000000 in
/-- THE HELPER where nothing is thrown -/
theorem zh_help0 (hY : xc_tys zt_cl zt_at tys) {v p0 p1 : Int} {σ σ2 : zu_m} (hcell : zu_call (zt_T L) 45 [(5, 3), (0, p0), (0, p1)] σ = some (v, σ2)) : zh_C l Dg tys ad adV L xs 6 0 p0 p1 σ (zu_up σ2 233 0 v) := by
  intro φ ws vals sz hm hs hkF
  refine vx_ofWH (cc := method_3_code) (maxL := 5) (ret := some .int) (hh := zt_hh) (by decide +kernel) rfl ?_
  intro p e s m args below meth c s₁ B hml hv
  obtain ⟨rfl, hsz, hP, hK, hD0, hkw⟩ := hv
  subst hsz
  have hD1 := hD0.self (sz := s.heap.size)
  have hts := atoms_spec (ws := zt_hws) B.pre
  have htb : ∀ w ∈ zt_tb, w.before vals.toArray s = true := fun w hw => hts w (List.mem_cons_of_mem _ hw)
  have htab : c.exceptionTable.toList = tableOf zt_hh := vx_table (x := zt_zh.1) B (hts _ List.mem_cons_self)
  have hown : s.vm.findClass "EggGardenLaw" = some m.cls := findClass_of_methodNamed B.named
  have hfix : xn_fix Dg zt_cl tys zt_at zt_nest (zt_kx ad adV L xs) zt_tb zt_ct zt_ys 3 (zt_yq9 zt_mh) (zt_zq9 zt_zh) p (xm_rm (6) zt_mh) s m vals.toArray meth c (va_A ws s.heap.size) := ⟨B.exec, B.bytes, hml, hown, ⟨_, hts⟩, hK, hkw, ⟨by show 3 + 1 ≤ 6 + 5; omega, by show 31 * 3 + 44 ≤ 44 * (6 + 5); omega, rfl, rfl⟩, fun q hq => Or.inr hq, (name_of_methodNamed B.named B.method).1, zt_bod9 zt_hbod⟩
  have hl := lv_entry vals (n := 5) (by rw [xr_s_sl hs]; exact (by decide : 4 ≤ 5))
  rw [lg_entry_eq]
  have hgo := zs_rega zt_all hY zt_hmx (zt_wf L) rfl rfl (zt_zsG ad adV L xs) hfix hkF (l := l) (e := e) (below := below) (Q := vx_MQ below (xm_Q (xk_c zc_g (zt_kx ad adV L xs)) zc_g tys Dg zt_cl (some (.inl 0), zu_emb (zt_T L) zt_kd (zu_up σ2 233 0 v)) φ (va_A ws s.heap.size)) (fun _ _ _ => False) vals.toArray s 1 6 (va_A ws s.heap.size)) (cells := 0) (slots := 0) (ex := fun pc Lz Sz σ1 => @ite _ (pc = 5 ∧ Lz = [(5, 3), (0, p0), (0, p1), (53, 233), (2, 0)] ∧ Sz = [(0, p1), (0, p0), (5, 3), (0, 0), (53, 233)] ∧ σ1 = σ) (Classical.propDecidable _) (some (1, σ)) none) (r := (1, σ)) (fun pc Lz Sz σ1 hh _ _ => ?_) (fun i pc Lx Sx h1 _ => (zt_end9 h1).elim) [5] 400 0 [(5, 3), (0, p0), (0, p1), (53, 233), (2, 0)] [] σ ?_ zt_okh (fun w hw => by simp at hw)
  · refine hgo (Nat.zero_le _) (Nat.zero_le _) [] ws s.heap [] _ _ (by rw [List.append_nil]; exact hm) hP hD1 va_S.rf ?_ rfl
    rw [List.append_nil]
    refine ⟨rfl, _, hl, fun i v hi => ?_⟩
    obtain ⟨x, hx1, hx2⟩ := xv_in_at 0 5 i hs (show (xv_in [.inr (.inr (some 3)), .inl p0, .inl p1, .inr (.inr (some 233))] 5)[i]? = some (some v) from hi)
    exact ⟨x, by rw [Nat.zero_add] at hx1; exact hx1, hx2⟩
  · split at hh
    · rename_i hcnd
      obtain ⟨rfl, rfl, rfl, rfl⟩ := hcnd
      intro hc1 hc2 t ws' H locs ls st hm' hP' hD' hS' hl' hs'
      have hlsz : ls.size = 5 := by
        obtain ⟨-, lv, hlv, -⟩ := hl'
        exact hlv.1
      have hfix8 : xn_fix Dg zt_cl tys zt_at zt_nest (zt_kx ad adV L xs) zt_tb zt_ct zt_ys 3 zt_mh zt_zh p (xm_rm 6 zt_mh) s m vals.toArray meth c (va_A ws s.heap.size) := ⟨B.exec, B.bytes, hml, hown, ⟨_, hts⟩, hK, hkw, ⟨by show 3 + 1 ≤ 6 + 5; omega, by show 31 * 3 + 44 ≤ 44 * (6 + 5); omega, rfl, rfl⟩, fun q hq => Or.inr hq, (name_of_methodNamed B.named B.method).1, zt_hbod⟩
      have hok : zu_okS zt_kd [(5, 3), (0, p0), (0, p1)] := fun w hw => by
        rcases List.mem_cons.mp hw with rfl | hw
        · refine ⟨fun k hk => ?_, (show (5 : Nat) ≠ 2 by decide)⟩
          cases Nat.add_right_cancel (show 2 + 3 = k + 3 from hk)
          exact ⟨by decide, rfl⟩
        rcases List.mem_cons.mp hw with rfl | hw
        · exact ⟨fun k hk => absurd (show 0 = k + 3 from hk) (by omega), (show (0 : Nat) ≠ 2 by decide)⟩
        obtain rfl := List.mem_singleton.mp hw
        exact ⟨fun k hk => absurd (show 0 = k + 3 from hk) (by omega), (show (0 : Nat) ≠ 2 by decide)⟩
      have hcon := zs_call zt_all hY zt_hmx (zt_wf L) rfl rfl (zt_zsG ad adV L xs) (l := l) (Dg := Dg) hcell (d := 1) (y := zt_m45) (zdp_45 L) (show zt_ms[45]? = some zt_m45 from rfl) hok (show 3 ≤ 3 from Nat.le_refl 3)
      have ho : (zu_emb (zt_T L) zt_kd σ1)[3]? = some (zu_cell ((19, 13), [(6, 0, 4), (0, 0, 0), (0, 0, 0), (0, 0, 0), (7, 0, 5), (8, 0, 50), (27, 0, 63), (27, 0, 89), (27, 0, 115), (0, 0, 0), (28, 0, 141), (31, 0, 148), (33, 0, 153)]) ((3 : Nat) : Int) σ1) := zu_emb_at (k := 2) rfl rfl
      have e1 : xv_arg zt_ms zt_KL (zu_emb (zt_T L) zt_kd σ1) [.inl p1, .inl p0, .inr (.inr (some 3)), .inl 0, .inr (.inr (some 233))] (.invokevirtual 7) = some (45, [.inr (.inr (some 3)), .inl p0, .inl p1], [.inl 0, .inr (.inr (some 233))]) :=
        zarg_v (j := 45) (y := zt_m45) rfl rfl rfl ho rfl
      have hs' : xr_s zc_g (φ ++ t) [.inl p1, .inl p0, .inr (.inr (some 3)), .inl 0, .inr (.inr (some 233))] st := hs'
      refine xn_call (own := "EggGardenLaw") (K := zt_KL) (ct := zt_ct) (nL := 5) B.exec B.bytes hml hlsz hown hts zt_all zt_hbod.2.2.2.2.2.2.2.2 hK hkw hkF.mono (d := 1) (show 1 + 2 ≤ 6 + 5 by decide) (show 31 * 1 + 75 ≤ 44 * (6 + 5) by decide) zt_hmx (fun q hq => Or.inr hq) e1 (show zt_ms[45]? = some zt_m45 from rfl) hcon zt_dh5 hm' hP' hD' hS' hs' (show 0 + 1 ≤ 1 by decide) (show 0 + 6 ≤ 6 by decide) (fun t2 ws2 H2 locs2 st2 hm2 hP2 hD2 hS2 hs2 => ?_)
      have hgo2 := zs_rega zt_all hY zt_hmx (zt_wf L) rfl rfl (zt_zsG ad adV L xs) hfix8 hkF (l := l) (e := e) (below := below) (Q := vx_MQ below (xm_Q (xk_c zc_g (zt_kx ad adV L xs)) zc_g tys Dg zt_cl (some (.inl 0), zu_emb (zt_T L) zt_kd (zu_up σ2 233 0 v)) φ (va_A ws s.heap.size)) (fun _ _ _ => False) vals.toArray s 1 6 (va_A ws s.heap.size)) (cells := 1) (slots := 6) (ex := fun _ _ _ _ => none) (r := (0, zu_up σ2 233 0 v)) (fun pc Lz Sz σ9 hh _ _ => by cases hh) (fun i pc Lx Sx h1 h2 => by
        intro hc1 hc2 t ws' H locs ls st hm' hP' hD' hS' hl' hs'
        exact vx_ret (xs_end (rc := 1) zc_ok B.exec B.bytes B.returns B.notSynchronized h1 h2 hm' hP' hD' hS' hs' hc1 hc2)) [] 400 8 [(5, 3), (0, p0), (0, p1), (53, 233), (2, 0)] [(0, v), (0, 0), (53, 233)] σ2 ((zhr_8 L _ _ p0 p1 v σ2).trans (if_pos ⟨by decide, by decide⟩)) zt_okh (fun w hw => by
        rcases List.mem_cons.mp hw with rfl | hw
        · exact ⟨fun k hk => absurd (show 0 = k + 3 from hk) (by omega), (show (0 : Nat) ≠ 2 by decide)⟩
        rcases List.mem_cons.mp hw with rfl | hw
        · exact ⟨fun k hk => absurd (show 0 = k + 3 from hk) (by omega), (show (0 : Nat) ≠ 2 by decide)⟩
        obtain rfl := List.mem_singleton.mp hw
        refine ⟨fun k hk => ?_, (show (53 : Nat) ≠ 2 by decide)⟩
        cases Nat.add_right_cancel (show 50 + 3 = k + 3 from hk)
        exact ⟨by decide, rfl⟩)
      have hm3 := hm2
      dsimp only at hm3
      have hs3 : xr_s zc_g ((φ ++ t) ++ t2) [.inl v, .inl 0, .inr (.inr (some 233))] st2 := hs2
      have hl3 := xr_l_mono (t := t2) hl'
      rw [List.append_assoc] at hm3 hs3 hl3
      exact hgo2 (Nat.le_refl _) (Nat.le_refl _) (t ++ t2) ws2 H2 locs2 ls st2 hm3 hP2 hD2 hS2 hl3 hs3
    · cases hh
  · rw [zhr_5 L _ _ p0 p1 σ]
    exact if_pos ⟨rfl, rfl, rfl, rfl⟩
set_option maxHeartbeats 4000000 in
/-- THE HELPER where cell throws E, which the handler at hpc takes -/
theorem zh_helpX (hY : xc_tys zt_cl zt_at tys) {d : Nat} {r : Int} {E : String} {hpc : Nat} {p0 p1 : Int} {σ : zu_m}
    (hcell : ∀ {φ : List Nat} {ws : va_W} {vals : List Value} {sz : Nat}, xr_m (xk_c zc_g (zt_kx ad adV L xs)) zc_g φ tys (zu_emb (zt_T L) zt_kd σ) ws → xr_s zc_g φ [.inr (.inr (some 3)), .inl p0, .inl p1] vals → xk_F (zt_kx ad adV L xs) φ →
      vx_Met l zt_z45.1 (.code zt_z45.1 zt_z45.2.1 3 (some .int) :: zt_tb) (xm_rm (d + 1) zt_m45) (xm_P Dg zt_cl tys zt_at zt_nest (zt_kx ad adV L xs) ws sz vals) (fun _ _ _ _ => False) (xh_X (xk_c zc_g (zt_kx ad adV L xs)) zc_g tys Dg zt_cl E (zu_emb (zt_T L) zt_kd σ) φ (va_A ws sz)) 1 6 (va_A ws sz))
    (hcatch : ∀ {p : Program} {e : Env} {R : Room} {s : State} {m : MethodId} {args : Array Value} {below : List Frame} {meth : Method} {c : Code} {H : Heap} {locs : List Loc} {cells slots : Nat} {Q : State → Prop} {ls : Array Slot} {rest : List Value} {ce : Cell} {q : Addr}, s.vm.findClass "EggGardenLaw" = some m.cls → (∀ w ∈ zt_tb, w.before args s = true) → c.exceptionTable.toList = tableOf zt_hh → xk_E s → H[q]? = some ce → ce.vm = .none → s.vm.findClass E = some ce.cls →
      W p l e R s m args below meth c H locs cells slots Q (F0 m hpc ls [.ref q]) → vx_W p l e R s m args below meth c H locs cells slots Q (F0 m 5 ls rest) q)
    (hdec : decode method_3_code hpc = .ok (.astore 4, 2) ∧ (∃ k : Int, decode method_3_code (hpc + 2) = .ok (.iconst k, 1) ∧ (Int32.ofInt k).toInt = r) ∧ decode method_3_code (hpc + 2 + 1) = .ok (.ireturn, 1)) : zh_C l Dg tys ad adV L xs (d + 2) r p0 p1 σ σ := by
  intro φ ws vals sz hm hs hkF
  refine vx_ofWH (cc := method_3_code) (maxL := 5) (ret := some .int) (hh := zt_hh) (by decide +kernel) rfl ?_
  intro p e s m args below meth c s₁ B hml hv
  obtain ⟨rfl, hsz, hP, hK, hD0, hkw⟩ := hv
  subst hsz
  have hD1 := hD0.self (sz := s.heap.size)
  have hts := atoms_spec (ws := zt_hws) B.pre
  have htb : ∀ w ∈ zt_tb, w.before vals.toArray s = true := fun w hw => hts w (List.mem_cons_of_mem _ hw)
  have htab : c.exceptionTable.toList = tableOf zt_hh := vx_table (x := zt_zh.1) B (hts _ List.mem_cons_self)
  have hown : s.vm.findClass "EggGardenLaw" = some m.cls := findClass_of_methodNamed B.named
  have hfix : xn_fix Dg zt_cl tys zt_at zt_nest (zt_kx ad adV L xs) zt_tb zt_ct zt_ys 3 (zt_yq9 zt_mh) (zt_zq9 zt_zh) p (xm_rm (d + 2) zt_mh) s m vals.toArray meth c (va_A ws s.heap.size) := ⟨B.exec, B.bytes, hml, hown, ⟨_, hts⟩, hK, hkw, ⟨by show 3 + 1 ≤ d + 2 + 5; omega, by show 31 * 3 + 44 ≤ 44 * (d + 2 + 5); omega, rfl, rfl⟩, fun q hq => Or.inr hq, (name_of_methodNamed B.named B.method).1, zt_bod9 zt_hbod⟩
  have hl := lv_entry vals (n := 5) (by rw [xr_s_sl hs]; exact (by decide : 4 ≤ 5))
  rw [lg_entry_eq]
  have hgo := zs_rega zt_all hY zt_hmx (zt_wf L) rfl rfl (zt_zsG ad adV L xs) hfix hkF (l := l) (e := e) (below := below) (Q := vx_MQ below (xm_Q (xk_c zc_g (zt_kx ad adV L xs)) zc_g tys Dg zt_cl (some (.inl r), zu_emb (zt_T L) zt_kd σ) φ (va_A ws s.heap.size)) (fun _ _ _ => False) vals.toArray s 1 6 (va_A ws s.heap.size)) (cells := 0) (slots := 0) (ex := fun pc Lz Sz σ1 => @ite _ (pc = 5 ∧ Sz = [(0, p1), (0, p0), (5, 3), (0, 0), (53, 233)] ∧ σ1 = σ) (Classical.propDecidable _) (some (1, σ)) none) (r := (1, σ)) (fun pc Lz Sz σ1 hh _ _ => ?_) (fun i pc Lx Sx h1 _ => (zt_end9 h1).elim) [5] 400 0 [(5, 3), (0, p0), (0, p1), (53, 233), (2, 0)] [] σ ?_ zt_okh (fun w hw => by simp at hw)
  · refine hgo (Nat.zero_le _) (Nat.zero_le _) [] ws s.heap [] _ _ (by rw [List.append_nil]; exact hm) hP hD1 va_S.rf ?_ rfl
    rw [List.append_nil]
    refine ⟨rfl, _, hl, fun i v hi => ?_⟩
    obtain ⟨x, hx1, hx2⟩ := xv_in_at 0 5 i hs (show (xv_in [.inr (.inr (some 3)), .inl p0, .inl p1, .inr (.inr (some 233))] 5)[i]? = some (some v) from hi)
    exact ⟨x, by rw [Nat.zero_add] at hx1; exact hx1, hx2⟩
  · split at hh
    · rename_i hcnd
      obtain ⟨rfl, rfl, rfl⟩ := hcnd
      intro hc1 hc2 t ws' H locs ls st hm' hP' hD' hS' hl' hs'
      obtain ⟨_, r0, rfl, ⟨n1, rfl, hg1⟩, _, r1, rfl, ⟨n0, rfl, hg0⟩, _, r2, rfl, ⟨qx, hqx, rfl⟩, hrest⟩ := hs'
      have hcat := xr_s_cats hrest
      have hlsz : ls.size = 5 := by
        obtain ⟨-, lv, hlv, -⟩ := hl'
        exact hlv.1
      have hone := zt_one45
      obtain ⟨hp1, hcode, hini, hd9, hml2, hbod⟩ := hone
      obtain ⟨z2, hz2, hl1, hl2, hl3⟩ := (zt_hbod.2.2.2.2.2.2.2.2 7 0 45 rfl).1 rfl
      cases Option.some.inj (hz2.symm.trans (show zt_ys[45]? = some zt_z45 from rfl))
      have ho : (zu_emb (zt_T L) zt_kd σ1)[3]? = some (zu_cell ((19, 13), [(6, 0, 4), (0, 0, 0), (0, 0, 0), (0, 0, 0), (7, 0, 5), (8, 0, 50), (27, 0, 63), (27, 0, 89), (27, 0, 115), (0, 0, 0), (28, 0, 141), (31, 0, 148), (33, 0, 153)]) ((3 : Nat) : Int) σ1) := zu_emb_at (k := 2) rfl rfl
      obtain ⟨ia, Eo, hEo, heo, -⟩ := xr_m_at hm' ho hqx (show (19 : Nat) ≠ 7 by decide) (show (19 : Nat) ≠ 3 by decide)
      obtain ⟨fs, rfl, -⟩ := xr_e_obj heo (show (19 : Nat) = 8 + 11 by decide)
      obtain ⟨⟨C9, T9, N9⟩, hr1, -⟩ := hP' ia _ hEo
      have hC9 := hbod.2.2.1 C9 T9 N9 hr1
      subst hC9
      have hG : GoodIn zt_hws (Jvm.Cond.code zt_z45.1 zt_z45.2.1 3 (some .int) :: zt_tb) := xc_good zt_all.1 hcode
      have hAA : ∀ q, va_A ws' H.size q → va_A ws s.heap.size q := fun q hq => by
        rcases hq with ⟨k, E9, hk⟩ | hq
        · exact hD'.2 k _ hk
        · exact Or.inr (Nat.le_trans hS'.1 hq)
      have hrunV := vx_runV (C := zt_z45.1.cls) (As := [.int n0, .int n1]) (rest := r2) (locs := locs) (cells := 0) (slots := 0) (below := below) (e := e) (p := p) (meth := meth) (g := F0 m 5 ls (.int n1 :: .int n0 :: .ref qx :: r2)) (R := xm_rm (d + 2) zt_mh) (cc := method_3_code) (nL := 5) (mc := 1) (ms := 6)
        ⟨B.exec, B.bytes, hml, hown, hts⟩ (hcell (vals := [.ref qx, .int n0, .int n1]) (sz := H.size) hm' ⟨_, _, rfl, ⟨qx, hqx, rfl⟩, _, _, rfl, ⟨n0, rfl, hg0⟩, _, _, rfl, ⟨n1, rfl, hg1⟩, rfl⟩ hkF.mono)
        ⟨callB_of 2 hts hG rfl rfl rfl (htb _ hini) (htb _ hl1) hd9 ⟨Nat.le_refl _, by show 8 + (3 + 11) + 44 * (d + 1 + 5) ≤ 44 * (d + 2 + 5); omega⟩, htb _ hl2, htb _ hl3⟩
        ⟨xm_blind, va_recv hK.1 hP' hr1 hEo, xm_pre hK hkw hP' hD' hS' (fun q hq => Or.inr hq)⟩ rfl rfl hlsz rfl (by
          show 2 * 0 + _ ≤ 8
          rw [hcat]
          exact (by decide : 2 * 0 + 2 ≤ 8)) zt_dh5 ⟨Nat.le_refl _, Nat.le_refl _⟩
      intro T hT X
      rcases hrunV T hT X with ⟨v, st₀, t', T', Lc, h0, X', hL, e1, e2, hfalse, st⟩ | ⟨q, st₀, t', T', Lc, E', ce, h0, X', hL, e1, e2, ⟨rfl, ⟨ts, ws2, hm2, hP2, hD2⟩, hF⟩, hce, hcv, hcl, st⟩
      · exact hfalse.elim
      · obtain ⟨k1, k2, k3⟩ := vx_keep h0 e1 hS' (fun q _ hq => hAA q hq) hAA hL hF
        obtain ⟨-, lv, hlv, -⟩ := hl'
        have hend : W p l e (xm_rm (d + 2) zt_mh) s m vals.toArray below meth c T'.heap (locs ++ Lc) (0 + 1) (0 + 6) (vx_MQ below (xm_Q (xk_c zc_g (zt_kx ad adV L xs)) zc_g tys Dg zt_cl (some (.inl r), zu_emb (zt_T L) zt_kd σ1) φ (va_A ws s.heap.size)) (fun _ _ _ => False) vals.toArray s 1 6 (va_A ws s.heap.size)) (F0 m hpc ls [.ref q]) := by
          obtain ⟨g1, ⟨kk, g2, g3⟩, g4⟩ := hdec
          refine lv_astore B.exec B.bytes g1 hlv (by decide) rfl (fun ls' hlv' => ?_)
          refine lv_iconst B.exec B.bytes g2 rfl ?_
          refine vx_ret ?_
          exact xs_end (t := t ++ ts) zc_ok B.exec B.bytes B.returns B.notSynchronized (rc := 1) (S := [.inl r]) (r := some (.inl r)) rfl g4 (by rw [← List.append_assoc]; exact hm2) (by rw [e1]; exact hP2) (hD2.weaken (fun _ _ _ z => hAA _ z)) k3 ⟨.int (Int32.ofInt kk), [], rfl, ⟨Int32.ofInt kk, rfl, (show zc_g r (.int (Int32.ofInt kk)) from g3)⟩, rfl⟩ (Nat.le_refl _) (Nat.le_refl _)
        obtain ⟨t2, a1, b1⟩ := hcatch (p := p) (e := e) (ls := ls) (rest := r2) hown htb htab hK.2.2.2.2 (by rw [e1]; exact hce) hcv hcl hend T' rfl X'
        exact ⟨t2, st.trans a1, b1⟩
    · cases hh
  · rw [zhr_5 L _ _ p0 p1 σ]
    exact if_pos ⟨rfl, rfl, rfl⟩
theorem xh_catch1 {p : Program} {e : Env} {R : Room} {s : State} {m : MethodId} {args : Array Value} {below : List Frame} {meth : Method} {c : Code} {H : Heap} {locs : List Loc} {cells slots : Nat} {Q : State → Prop} {ls : Array Slot} {rest : List Value} {ce : Cell} {q : Addr} (hown : s.vm.findClass "EggGardenLaw" = some m.cls) (htb : ∀ w ∈ zt_tb, w.before args s = true) (htab : c.exceptionTable.toList = tableOf zt_hh) (hE : xk_E s) (hce : H[q]? = some ce) (hcv : ce.vm = .none) (hcl : s.vm.findClass xk_x1 = some ce.cls)
    (kk : W p l e R s m args below meth c H locs cells slots Q (F0 m 13 ls [.ref q])) : vx_W p l e R s m args below meth c H locs cells slots Q (F0 m 5 ls rest) q :=
  vx_catch (own := "EggGardenLaw") (name := xk_x1) (E := xk_x1) hown [] ⟨0, 10, 13, 13⟩ [⟨0, 10, 17, 15⟩] htab (fun z hz => nomatch hz) (by decide) (by decide) (htb _ (zt_wv3_tb _ (List.mem_of_getElem? (i := 8) rfl))) (va_Nw.use rfl hE.1.1) hce hcv hcl kk
theorem xh_catch2 {p : Program} {e : Env} {R : Room} {s : State} {m : MethodId} {args : Array Value} {below : List Frame} {meth : Method} {c : Code} {H : Heap} {locs : List Loc} {cells slots : Nat} {Q : State → Prop} {ls : Array Slot} {rest : List Value} {ce : Cell} {q : Addr} (hown : s.vm.findClass "EggGardenLaw" = some m.cls) (htb : ∀ w ∈ zt_tb, w.before args s = true) (htab : c.exceptionTable.toList = tableOf zt_hh) (hE : xk_E s) (hce : H[q]? = some ce) (hcv : ce.vm = .none) (hcl : s.vm.findClass xk_x2 = some ce.cls)
    (kk : W p l e R s m args below meth c H locs cells slots Q (F0 m 17 ls [.ref q])) : vx_W p l e R s m args below meth c H locs cells slots Q (F0 m 5 ls rest) q :=
  vx_catch (own := "EggGardenLaw") (name := xk_x2) (E := xk_x2) hown [⟨0, 10, 13, 13⟩] ⟨0, 10, 17, 15⟩ [] htab (fun z hz => by
    obtain rfl := List.mem_singleton.mp hz
    exact Or.inr ⟨by decide, xk_x1, htb _ (zt_wv3_tb _ (List.mem_of_getElem? (i := 8) rfl)), hE.2.2.1⟩) (by decide) (by decide) (htb _ (zt_wv3_tb _ (List.mem_of_getElem? (i := 9) rfl))) (va_Nw.use rfl hE.1.2) hce hcv hcl kk
end XHH
