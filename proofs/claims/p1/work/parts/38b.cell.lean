/-- what a throw of E leaves: the memory as it was -/
def xh_X {V : Type} (C : Nat → xv_O V → Prop) (g : V → Value → Prop) (tys : List (ClassId × FieldType)) (Dg : va_G) (cl : List vw_C) (E : String) (M : xv_M V) (φ : List Nat) (A : Nat → Prop) : String → State → State → Prop := fun E' st t =>
  E' = E ∧ (∃ (ts : List Nat) (ws' : va_W), xr_m C g (φ ++ ts) tys M ws' ∧ va_P Dg cl ws' t.heap ∧ va_D A ws') ∧ va_F A st t
def zt_up : List String := ["java/lang/RuntimeException", "java/lang/Exception"]
theorem zt_dx1 : decode zt_z171.2.1 11 = .ok (.new 122, 3) ∧ decode zt_z171.2.1 14 = .ok (.dup, 1) ∧ decode zt_z171.2.1 15 = .ok (.ldc 124, 2) ∧ decode zt_z171.2.1 17 = .ok (.invokespecial 126, 3) ∧ decode zt_z171.2.1 20 = .ok (.athrow, 1) := by decide +kernel
theorem zt_dx2 : decode zt_z171.2.1 98 = .ok (.new 142, 3) ∧ decode zt_z171.2.1 101 = .ok (.dup, 1) ∧ decode zt_z171.2.1 102 = .ok (.ldc 144, 2) ∧ decode zt_z171.2.1 104 = .ok (.invokespecial 146, 3) ∧ decode zt_z171.2.1 107 = .ok (.athrow, 1) := by decide +kernel
theorem zt_rx2 : decode prog_29_method_4_code 0 = .ok (.aload_n 0, 1) ∧ decode prog_29_method_4_code 1 = .ok (.aload_n 1, 1) ∧ decode prog_29_method_4_code 2 = .ok (.invokespecial 13, 3) ∧ decode prog_29_method_4_code 5 = .ok (.return_, 1) := by decide +kernel
theorem zt_bad1 : ∀ w ∈ (vx_atS "EggGarden" 126 xk_x1 zt_up).filter (fun w => !goodWord w), w ∈ [Cond.castable xk_x1 xk_x1, .declares (Bundle.initS "java/lang/RuntimeException"), .declares (Bundle.initS "java/lang/Exception"), .declares (Bundle.initS Bundle.tN)] := by decide +kernel
theorem zt_bad2 : ∀ w ∈ (xt_at "EggGarden" 146 xk_x2 13 prog_29_method_4_code zt_up).filter (fun w => !goodWord w), w ∈ [Cond.castable xk_x2 xk_x2, .declares (Bundle.initS "java/lang/RuntimeException"), .declares (Bundle.initS "java/lang/Exception"), .declares (Bundle.initS Bundle.tN)] := by decide +kernel
theorem zt_ot1 : ∀ w ∈ Cond.classLink "EggGarden" 122 xk_x1 :: Cond.initialized xk_x1 :: vx_atS "EggGarden" 126 xk_x1 zt_up, vx_ot w = true := by decide +kernel
theorem zt_ot2 : ∀ w ∈ Cond.classLink "EggGarden" 142 xk_x2 :: Cond.initialized xk_x2 :: xt_at "EggGarden" 146 xk_x2 13 prog_29_method_4_code zt_up, vx_ot w = true := by decide +kernel
section XH
variable {l : Launch} {Dg : va_G} {tys : List (ClassId × FieldType)} {ad adV : Nat → Nat} {L : Nat} {xs : Nat → Int32}
theorem zt_one171 : xc_one zt_tb zt_nest zt_cl zt_ct zt_at zt_sct zt_strs zt_ys zt_m171 zt_z171 := by
  obtain ⟨z2, hz2, hone⟩ := zt_all.2.2.2.2 171 zt_m171 rfl
  cases Option.some.inj (hz2.symm.trans (show zt_ys[171]? = some zt_z171 from rfl))
  exact hone
/-- CELL, where it throws: the throw at stop (11 or 98) is a hypothesis -/
theorem xh_cell (hY : xc_tys zt_cl zt_at tys) {d stop : Nat} {E : String} {as : List (xv_V xd_V)} {M : xv_M xd_V} {L5 : xv_L xd_V} (hle : xv_cats as ≤ 3)
    (hrun : xv_lp xd_D zt_ct zt_at zt_sct zt_ms (xv_rn xd_D zt_ct zt_at zt_sct zt_ms zt_ext 20000 d) zt_m171 stop 20000 0 zt_m171.2.2.2 (xv_in as 3) [] M 0 0 = some (.inr (L5, [], M, 0, 0)))
    (hthrow : ∀ {p : Program} {e : Env} {s : State} {m : MethodId} {args : Array Value} {below : List Frame} {meth : Method} {c : Code} {H : Heap} {locs : List Loc} {ls : Array Slot} {A : Nat → Prop} {XC : String → State → State → Prop}, p.tables.exec = Jvm.exec → c.code = zt_z171.2.1 → s.vm.findClass "EggGarden" = some m.cls → (∀ w ∈ zt_tb, w.before args s = true) → xm_K Dg zt_cl tys zt_at zt_nest (zt_kx ad adV L xs) s → xk_W (zt_kx ad adV L xs) A s s.heap →
      va_S A s.heap H locs → ls.size = c.maxLocals → (∀ x ∈ c.exceptionTable.toList, False) → meth.locks = false → (∀ t : State, s.vm.Alike t.vm → H.size ≤ t.heap.size → (∀ q : Nat, q < H.size → t.heap[q]? = H[q]?) → XC E s t) →
      W p l e (xm_rm (d + 1) zt_m171) s m args below meth c H locs 0 0 (vx_MQ below (fun _ _ _ _ => False) XC args s 1 6 A) (F0 m stop ls []))
    {φ : List Nat} {ws : va_W} {vals : List Value} {sz : Nat} (hm : xr_m (xk_c xd_g (zt_kx ad adV L xs)) xd_g φ tys M ws) (hs : xr_s xd_g φ as vals) (hkF : xk_F (zt_kx ad adV L xs) φ) :
    vx_Met l zt_z171.1 (.code zt_z171.1 zt_z171.2.1 3 (some .int) :: zt_tb) (xm_rm (d + 1) zt_m171) (xm_P Dg zt_cl tys zt_at zt_nest (zt_kx ad adV L xs) ws sz vals) (fun _ _ _ _ => False) (xh_X (xk_c xd_g (zt_kx ad adV L xs)) xd_g tys Dg zt_cl E M φ (va_A ws sz)) 1 6 (va_A ws sz) := by
  have hone := zt_one171
  refine vx_ofW (cc := zt_z171.2.1) (maxL := 3) (ret := some .int) hone.1 rfl ?_
  intro p e s m args below meth c s₁ B hml htab hv
  obtain ⟨rfl, hsz, hP, hK, hD0, hkw⟩ := hv
  subst hsz
  have hD1 := hD0.self (sz := s.heap.size)
  have hts := atoms_spec (ws := .code zt_z171.1 zt_z171.2.1 3 (some .int) :: zt_tb) B.pre
  have hown : s.vm.findClass "EggGarden" = some m.cls := findClass_of_methodNamed B.named
  have hfix : xw_fix Dg zt_cl tys zt_at zt_nest (zt_kx ad adV L xs) zt_tb zt_ct zt_ys d zt_m171 zt_z171 p (xm_rm (d + 1) zt_m171) s m vals.toArray meth c (va_A ws s.heap.size) := ⟨B.exec, B.bytes, hml, hown, ⟨_, hts⟩, hK, hkw, ⟨Nat.le_refl _, Nat.le_refl _, rfl, rfl⟩, fun q hq => Or.inr hq, (name_of_methodNamed B.named B.method).1, hone.2.2.2.2.2⟩
  have hl := lv_entry vals (n := 3) (by rw [xr_s_sl hs]; exact hle)
  rw [lg_entry_eq]
  refine xs_lp (kx := zt_kx ad adV L xs) (e := e) (below := below) (Q := vx_MQ below (fun _ _ _ _ => False) (xh_X (xk_c xd_g (zt_kx ad adV L xs)) xd_g tys Dg zt_cl E M φ (va_A ws s.heap.size)) vals.toArray s 1 6 (va_A ws s.heap.size)) xd_ok zt_all zt_char hY (zt_con hY d) hfix hkF (fun q hq => by cases hq) (fun q hq => ?_) 20000 0 _ _ _ _ 0 0 hrun (fun q hq => hq) (Nat.zero_le _) (Nat.zero_le _) [] ws s.heap [] _ _ (by rw [List.append_nil]; exact hm) hP hD1 va_S.rf ?_ rfl
  · cases hq
    intro hc1 hc2 t ws' H locs ls st hm' hP' hD' hS' hl' hs'
    obtain rfl : st = [] := hs'
    have hlsz : ls.size = c.maxLocals := by
      obtain ⟨-, lv, hlv, -⟩ := hl'
      rw [hml]
      exact hlv.1
    exact hthrow B.exec B.bytes hown (fun w hw => hts w (List.mem_cons_of_mem _ hw)) hK hkw hS' hlsz htab B.notSynchronized (fun t9 _ hz hk => ⟨rfl, ⟨t, ws', hm', va_P.kept hP' (fun k q hq => hk q.1 (vx_lt hP' hq)), hD'⟩, ⟨Nat.le_trans hS'.1 hz, fun q h1 h2 => (hk q (Nat.lt_of_lt_of_le h1 hS'.1)).trans (hS'.2.1 q h1 h2)⟩⟩)
  · rw [List.append_nil]
    refine ⟨xv_in_len as _ hle, _, hl, fun i v hi => ?_⟩
    obtain ⟨x, hx1, hx2⟩ := xv_in_at 0 3 i hs hi
    exact ⟨x, by rw [Nat.zero_add] at hx1; exact hx1, hx2⟩
/-- 'no such cell' -/
theorem xh_throw1 (hlt : l.stackTraces = false) {d : Nat} {p : Program} {e : Env} {s : State} {m : MethodId} {args : Array Value} {below : List Frame} {meth : Method} {c : Code} {H : Heap} {locs : List Loc} {ls : Array Slot} {A : Nat → Prop} {XC : String → State → State → Prop} (hx : p.tables.exec = Jvm.exec) (hb : c.code = zt_z171.2.1) (hown : s.vm.findClass "EggGarden" = some m.cls) (htb : ∀ w ∈ zt_tb, w.before args s = true) (hK : xm_K Dg zt_cl tys zt_at zt_nest (zt_kx ad adV L xs) s) (hkw : xk_W (zt_kx ad adV L xs) A s s.heap)
    (hS : va_S A s.heap H locs) (hlsz : ls.size = c.maxLocals) (htab : ∀ x ∈ c.exceptionTable.toList, False) (hlocks : meth.locks = false) (hX : ∀ t : State, s.vm.Alike t.vm → H.size ≤ t.heap.size → (∀ q : Nat, q < H.size → t.heap[q]? = H[q]?) → XC xk_x1 s t) :
    W p l e (xm_rm (d + 1) zt_m171) s m args below meth c H locs 0 0 (vx_MQ below (fun _ _ _ _ => False) XC args s 1 6 A) (F0 m 11 ls []) := by
  obtain ⟨hkE, hkD, -⟩ := hK.2.2.2.2
  refine vx_throwS (A := A) hx hb hlt (own := "EggGarden") (cls := xk_x1) (text := "no such cell") (names := zt_up) (ik := 122) (is := 124) (ic := 126) (sa := ad 2) hown (by decide +kernel) (by decide +kernel) (htb _ (zt_wv3_tb _ (List.mem_of_getElem? (i := 0) rfl))) (htb _ (zt_wv3_tb _ (List.mem_of_getElem? (i := 1) rfl)))
    (hK.2.2.2.1 ("EggGarden", 124, "no such cell", 2) (List.mem_of_getElem? (i := 1) rfl)) (vx_hat (fun w hw => htb _ (zt_wv1_tb w hw)) zt_bad1 (vx_c (va_Nw.use rfl hkE.1) (vx_c (va_Nw.use rfl hkD.1) (vx_c (va_Nw.use rfl hkD.2.1) (vx_c (va_Nw.use rfl hkD.2.2) vx_n))))) zt_ot1 hkw.1.2.2.2.1 hkw.1.2.2.2.2 hS hlsz
    zt_dx1.1 zt_dx1.2.1 zt_dx1.2.2.1 zt_dx1.2.2.2.1 zt_dx1.2.2.2.2 (fun x hx => (htab x hx).elim) ?_ ?_ (Nat.le_refl _) (Nat.le_refl _) hlocks hX (fun z hz => hS.2.2 z hz) (Nat.le_refl _) (Nat.le_refl _)
  · show 2 + 3 < d + 1 + 5
    omega
  · show 0 + (13 * (2 + 1) + 43) ≤ 44 * (d + 1 + 5)
    omega
/-- 'no such what' -/
theorem xh_throw2 (hlt : l.stackTraces = false) {d : Nat} {p : Program} {e : Env} {s : State} {m : MethodId} {args : Array Value} {below : List Frame} {meth : Method} {c : Code} {H : Heap} {locs : List Loc} {ls : Array Slot} {A : Nat → Prop} {XC : String → State → State → Prop} (hx : p.tables.exec = Jvm.exec) (hb : c.code = zt_z171.2.1) (hown : s.vm.findClass "EggGarden" = some m.cls) (htb : ∀ w ∈ zt_tb, w.before args s = true) (hK : xm_K Dg zt_cl tys zt_at zt_nest (zt_kx ad adV L xs) s) (hkw : xk_W (zt_kx ad adV L xs) A s s.heap)
    (hS : va_S A s.heap H locs) (hlsz : ls.size = c.maxLocals) (htab : ∀ x ∈ c.exceptionTable.toList, False) (hlocks : meth.locks = false) (hX : ∀ t : State, s.vm.Alike t.vm → H.size ≤ t.heap.size → (∀ q : Nat, q < H.size → t.heap[q]? = H[q]?) → XC xk_x2 s t) :
    W p l e (xm_rm (d + 1) zt_m171) s m args below meth c H locs 0 0 (vx_MQ below (fun _ _ _ _ => False) XC args s 1 6 A) (F0 m 98 ls []) := by
  obtain ⟨hkE, hkD, -⟩ := hK.2.2.2.2
  refine xt_throw (A := A) hx hb hlt (own := "EggGarden") (E := xk_x2) (text := "no such what") (up := zt_up) (ik := 142) (is := 144) (ic := 146) (ix := 13) (rx := prog_29_method_4_code) (sa := ad 3) zt_rx2.1 zt_rx2.2.1 zt_rx2.2.2.1 zt_rx2.2.2.2 hown (by decide +kernel) (by decide +kernel) (htb _ (zt_wv3_tb _ (List.mem_of_getElem? (i := 2) rfl))) (htb _ (zt_wv3_tb _ (List.mem_of_getElem? (i := 3) rfl)))
    (hK.2.2.2.1 ("EggGarden", 144, "no such what", 3) (List.mem_of_getElem? (i := 2) rfl)) (vx_hat (fun w hw => htb _ (zt_wv2_tb w hw)) zt_bad2 (vx_c (va_Nw.use rfl hkE.2) (vx_c (va_Nw.use rfl hkD.1) (vx_c (va_Nw.use rfl hkD.2.1) (vx_c (va_Nw.use rfl hkD.2.2) vx_n))))) zt_ot2 hkw.1.2.2.2.1 hkw.1.2.2.2.2 hS hlsz
    zt_dx2.1 zt_dx2.2.1 zt_dx2.2.2.1 zt_dx2.2.2.2.1 zt_dx2.2.2.2.2 (fun x hx => (htab x hx).elim) ?_ ?_ (Nat.le_refl _) (Nat.le_refl _) hlocks hX (fun z hz => hS.2.2 z hz) (Nat.le_refl _) (Nat.le_refl _)
  · show 2 + 3 < d + 1 + 5
    omega
  · show 0 + (13 * (2 + 1) + 43) ≤ 44 * (d + 1 + 5)
    omega
end XH
