/-! CONTRACTS WITH NARROW ROOMS: a method that calls d deep -/
def xn_rm (d : Nat) (y : xv_N) : Room := { frames := d + 1, cells := y.2.2.1.1, slots := y.2.2.1.2, locals := 31 * d + 44 }
def xn_Con (l : Launch) {V : Type} (g : V → Value → Prop) (tys : List (ClassId × FieldType)) (Dg : va_G) (cl : List vw_C) (at_ : List Nat) (nest : List (String × Nat × MethodName × String)) (kx : xk_C) (tb : List Jvm.Cond) (ms : List xv_N) (ys : List xm_Z) (d j : Nat) (as : List (xv_V V)) (M : xv_M V) (r : xv_R V) : Prop :=
  ∀ (y : xv_N) (z : xm_Z), ms[j]? = some y → ys[j]? = some z → ∀ (φ : List Nat) (ws : va_W) (vals : List Value) (sz : Nat), xr_m (xk_c g kx) g φ tys M ws → xr_s g φ as vals → xk_F kx φ →
    Met l z.1 (.code z.1 z.2.1 y.2.1.2.1 z.2.2 :: tb) (xn_rm d y) (xm_P Dg cl tys at_ nest kx ws sz vals) (xm_Q (xk_c g kx) g tys Dg cl r φ (va_A ws sz)) y.2.2.1.1 y.2.2.1.2 (va_A ws sz)
section XNU
variable {p : Program} {l : Launch} {e : Env} {R : Room} {s : State} {m : MethodId} {args : Array Value} {below : List Frame} {meth : Method} {c : Code} {H : Heap} {locs : List Loc} {cells slots : Nat} {Q : State → Prop}
variable {cc : ByteArray} {pc : Nat} {V : Type} {C : Nat → xv_O V → Prop} {D : xv_D V} {g : V → Value → Prop} {φ : List Nat} {M : xv_M V} {S : List (xv_V V)} {ls : Array Slot} {st : List Value}
variable {Dg : va_G} {cl : List vw_C} {tys : List (ClassId × FieldType)} {A : Nat → Prop} {H0 : Heap} {ws : va_W} {at_ : List Nat} {nest : List (String × Nat × MethodName × String)} {kx : xk_C} {kcc : ByteArray}
set_option maxHeartbeats 4000000 in
/-- CALLS -/
theorem xn_call {own : String} {ys : List xm_Z} {ms : List xv_N} {K : xv_K} {tb : List Jvm.Cond} {ct : List (List (FieldType × Bool))} {w0 : Jvm.Cond} {d nL : Nat} (hx : p.tables.exec = Jvm.exec) (hb : c.code = cc) (hml : c.maxLocals = nL) (hls : ls.size = nL) (hown : s.vm.findClass own = some m.cls) (hts : ∀ w ∈ (w0 :: tb), w.before args s = true)
    {sct : List (List Int32)} {strs : List (String × Nat × String × Nat)} (hall : xc_all tb nest cl ct at_ sct strs kcc ms ys) (hMt : xc_mth tb nest ys own K) (hK : xm_K Dg cl tys at_ nest kx s) (hkw : xk_W kx A s s.heap) (hkF : xk_F kx φ) (hRf : d + 2 ≤ R.frames) (hRl : 31 * d + 75 ≤ R.locals) (hmx : ∀ (j : Nat) (z : xv_N), ms[j]? = some z → z.2.1.2.1 ≤ 12) (hA : ∀ q, s.heap.size ≤ q → A q)
    {i : Instr} {j : Nat} {as Rs : List (xv_V V)} (h : xv_arg ms K M S i = some (j, as, Rs)) {z : xv_N} (hz : ms[j]? = some z) {r : xv_R V} (hcon : xn_Con l g tys Dg cl at_ nest kx tb ms ys d j as M r) (hdg : decode cc pc = .ok (i, xv_len i))
    (hm : xr_m (xk_c g kx) g φ tys M ws) (hP : va_P Dg cl ws H) (hD0 : va_D A ws) (hS : va_S A s.heap H locs) (hs : xr_s g φ S st) (hc1 : cells + z.2.2.1.1 ≤ R.cells) (hc2 : slots + z.2.2.1.2 ≤ R.slots)
    (kk : ∀ (t : List Nat) (ws' : va_W) (H' : Heap) (locs' : List Loc) (st' : List Value), xr_m (xk_c g kx) g (φ ++ t) tys r.2 ws' → va_P Dg cl ws' H' → va_D A ws' → va_S A s.heap H' locs' → xr_s g (φ ++ t) (r.1.toList ++ Rs) st' → W p l e R s m args below meth c H' locs' (cells + z.2.2.1.1) (slots + z.2.2.1.2) Q (F0 m (pc + 3) ls st')) :
    W p l e R s m args below meth c H locs cells slots Q (F0 m pc ls st) := by
  have htb : ∀ w ∈ tb, w ∈ (w0 :: tb) := fun w hw => List.mem_cons_of_mem _ hw
  obtain ⟨y, hy, hp1, hcode, hini, hd, hml2, hret, -, hcn, -⟩ := hall.2.2.2.2 j z hz
  have hG : GoodIn (w0 :: tb) (Jvm.Cond.code y.1 y.2.1 z.2.1.2.1 y.2.2 :: tb) := xc_good hall.1 hcode
  have hroom : (xn_rm d z).frames + 1 ≤ R.frames ∧ 8 + (z.2.1.2.1 + 11) + (xn_rm d z).locals ≤ R.locals := ⟨hRf, by show 8 + (z.2.1.2.1 + 11) + (31 * d + 44) ≤ R.locals; have := hmx j z hz; omega⟩
  have fin : ∀ {rest : List Value} {a : Array Value}, xr_s g φ Rs rest → va_Run p l e R s m args below meth c H locs cells slots z.2.2.1.1 z.2.2.1.2 (F0 m pc ls st) rest (xm_Q (xk_c g kx) g tys Dg cl r φ (va_A ws H.size) a) (va_A ws H.size) → W p l e R s m args below meth c H locs cells slots Q (F0 m pc ls st) := fun hrs hrun =>
    xs_after hrun hD0 hS hA (fun v ts ws' H1 locs1 h1 h2 h3 h4 h5 => by
      refine kk ts ws' H1 locs1 _ h2 h3 h4 h5 ?_
      cases hr1 : r.1 with
      | none =>
        rw [hr1] at h1
        rw [show v = none from h1]
        exact xr_s_mono hrs
      | some av =>
        rw [hr1] at h1
        obtain ⟨x, rfl, hxv⟩ := h1
        exact ⟨x, _, rfl, hxv, xr_s_mono hrs⟩)
  cases i
  all_goals (first | (simp only [xv_arg, reduceCtorEq] at h; done) | skip)
  case invokevirtual i =>
    simp only [xv_arg] at h
    split at h
    · rename_i j' hj
      split at h
      · rename_i y' hy'
        split at h
        · rename_i a R1 hdrop
          split at h
          · rename_i o ho
            cases h1 : Nat.beq o.1 (8 + y'.1.1) <;> simp only [h1, Bool.true_and, Bool.false_and, cond_true, cond_false] at h
            · cases h
            cases h2 : Nat.ble (xv_cats R1) 8 <;> simp only [h2, cond_true, cond_false] at h
            · cases h
            obtain ⟨rfl, rfl, rfl⟩ := by simpa using h
            cases Option.some.inj (hy'.symm.trans hz)
            obtain ⟨z2, hz2, hl1, hl2, hl3⟩ := (hMt i 0 _ hj).1 rfl
            cases Option.some.inj (hz2.symm.trans hy)
            have hsd := xr_s_drop z.2.1.1 hs
            rw [hdrop] at hsd
            obtain ⟨_, rest, hst, ⟨q, hq, rfl⟩, hrs⟩ := hsd
            have hlen : (st.take z.2.1.1).reverse.length = z.2.1.1 := by
              rw [List.length_reverse, List.length_take]
              have hl : (st.drop z.2.1.1).length = rest.length + 1 := by rw [hst]; rfl
              rw [List.length_drop] at hl
              omega
            have hstk : st = ((st.take z.2.1.1).reverse).reverse ++ .ref q :: rest := by rw [List.reverse_reverse, ← hst, List.take_append_drop]
            obtain ⟨ia, E, hE, he, -⟩ := xr_m_at hm ho hq (by have := Nat.eq_of_beq_eq_true h1; omega) (by have := Nat.eq_of_beq_eq_true h1; omega)
            obtain ⟨fs, rfl, -⟩ := xr_e_obj he (Nat.eq_of_beq_eq_true h1)
            obtain ⟨⟨C, T, N⟩, hr1, -⟩ := hP ia _ hE
            have hC := hcn C T N hr1
            subst hC
            have hcat := xr_s_cats hrs
            have h8 := Nat.le_of_ble_eq_true h2
            refine fin (a := (Value.ref q :: (st.take z.2.1.1).reverse).toArray) hrs (va_runV (C := y.1.cls) (As := (st.take z.2.1.1).reverse) (rest := rest) ⟨hx, hb, hml, hown, hts⟩ (hcon z y hz hy φ ws (.ref q :: (st.take z.2.1.1).reverse) H.size hm ⟨_, _, rfl, ⟨q, hq, rfl⟩, xr_s_rev (xr_s_take _ hs)⟩ hkF) ⟨callB_of z.2.1.1 hts hG rfl rfl rfl (hts _ (htb _ hini)) (hts _ (htb _ hl1)) hd hroom, hts _ (htb _ hl2), hts _ (htb _ hl3)⟩ ⟨xm_blind, va_recv hK.1 hP hr1 hE, xm_pre hK hkw hP hD0 hS hA⟩ rfl hlen hls hstk ?_ hdg ⟨hc1, hc2⟩)
            show 2 * 0 + _ ≤ 8
            rw [hcat]
            omega
          · cases h
        · cases h
      · cases h
    · cases h
  case invokespecial i =>
    simp only [xv_arg] at h
    split at h
    · rename_i k j' hj
      cases hk : (Nat.beq k 1 || Nat.beq k 2) <;> simp only [hk, cond_true, cond_false] at h
      · cases h
      split at h
      · rename_i y' hy'
        split at h
        · rename_i a R1 hdrop
          cases h2 : Nat.ble (xv_cats R1) 8 <;> simp only [h2, cond_true, cond_false] at h
          · cases h
          obtain ⟨rfl, rfl, rfl⟩ := by simpa using h
          cases Option.some.inj (hy'.symm.trans hz)
          have hsd := xr_s_drop z.2.1.1 hs
          rw [hdrop] at hsd
          obtain ⟨_, rest, hst, ⟨q, hq, rfl⟩, hrs⟩ := hsd
          have hlen : (st.take z.2.1.1).reverse.length = z.2.1.1 := by
            rw [List.length_reverse, List.length_take]
            have hl : (st.drop z.2.1.1).length = rest.length + 1 := by rw [hst]; rfl
            rw [List.length_drop] at hl
            omega
          have hstk : st = ((st.take z.2.1.1).reverse).reverse ++ .ref q :: rest := by rw [List.reverse_reverse, ← hst, List.take_append_drop]
          have hcat := xr_s_cats hrs
          have h8 := Nat.le_of_ble_eq_true h2
          rcases Bool.or_eq_true_iff.mp hk with hk1 | hk1
          · obtain ⟨z2, hz2, hl1, hl2, hl3, hl4⟩ := (hMt i k _ hj).2.1 (Nat.eq_of_beq_eq_true hk1)
            cases Option.some.inj (hz2.symm.trans hy)
            obtain ⟨zn, zb, zr⟩ := y
            obtain rfl : zr = none := hl4
            refine fin (a := (Value.ref q :: (st.take z.2.1.1).reverse).toArray) hrs (va_runI (As := (st.take z.2.1.1).reverse) (rest := rest) ⟨hx, hb, hml, hown, hts⟩ (hcon z (zn, zb, none) hz hy φ ws (.ref q :: (st.take z.2.1.1).reverse) H.size hm ⟨_, _, rfl, ⟨q, hq, rfl⟩, xr_s_rev (xr_s_take _ hs)⟩ hkF) ⟨callB_of z.2.1.1 hts hG rfl rfl rfl (hts _ (htb _ hini)) (hts _ (htb _ hl1)) hd hroom, hl3, hts _ (htb _ hl2)⟩ ⟨xm_blind, xm_pre hK hkw hP hD0 hS hA⟩ rfl hlen hls hstk ?_ hdg ⟨hc1, hc2⟩)
            show 2 * 0 + _ ≤ 8
            rw [hcat]
            omega
          · obtain ⟨z2, host, hz2, hl1, hl2, hl3, hl4⟩ := (hMt i k _ hj).2.2.1 (Nat.eq_of_beq_eq_true hk1)
            cases Option.some.inj (hz2.symm.trans hy)
            obtain ⟨zn, zb, zr⟩ := y
            obtain rfl : zr = none := hl4
            refine fin (a := (Value.ref q :: (st.take z.2.1.1).reverse).toArray) hrs (va_runIN (host := host) (As := (st.take z.2.1.1).reverse) (rest := rest) ⟨hx, hb, hml, hown, hts⟩ (hcon z (zn, zb, none) hz hy φ ws (.ref q :: (st.take z.2.1.1).reverse) H.size hm ⟨_, _, rfl, ⟨q, hq, rfl⟩, xr_s_rev (xr_s_take _ hs)⟩ hkF) ⟨va_cnB z.2.1.1 hts hG rfl rfl rfl (hK.2.2.1 _ hl1) (hts _ (htb _ hini)) hd hroom, hl3, hts _ (htb _ hl2)⟩ ⟨xm_blind, xm_pre hK hkw hP hD0 hS hA⟩ rfl hlen hls hstk ?_ hdg ⟨hc1, hc2⟩)
            show 2 * 0 + _ ≤ 8
            rw [hcat]
            omega
        · cases h
      · cases h
    · cases h
  case invokestatic i =>
    simp only [xv_arg] at h
    split at h
    · rename_i j' hj
      split at h
      · rename_i y' hy'
        cases h1 : Nat.ble y'.2.1.1 S.length <;> simp only [h1, Bool.true_and, Bool.false_and, cond_true, cond_false] at h
        · cases h
        cases h2 : Nat.ble (xv_cats (S.drop y'.2.1.1)) 8 <;> simp only [h2, cond_true, cond_false] at h
        · cases h
        obtain ⟨rfl, rfl, rfl⟩ := by simpa using h
        cases Option.some.inj (hy'.symm.trans hz)
        obtain ⟨z2, hz2, hl1, hl2⟩ := (hMt i 3 _ hj).2.2.2.1 rfl
        cases Option.some.inj (hz2.symm.trans hy)
        have hrs := xr_s_drop z.2.1.1 hs
        have hsl := xr_s_len hs
        have hle := Nat.le_of_ble_eq_true h1
        have hlen : (st.take z.2.1.1).reverse.length = z.2.1.1 := by
          rw [List.length_reverse, List.length_take]
          omega
        have hstk : st = ((st.take z.2.1.1).reverse).reverse ++ st.drop z.2.1.1 := by rw [List.reverse_reverse, List.take_append_drop]
        have hcat := xr_s_cats hrs
        have h8 := Nat.le_of_ble_eq_true h2
        refine fin (a := ((st.take z.2.1.1).reverse).toArray) hrs (va_runS (As := (st.take z.2.1.1).reverse) (rest := st.drop z.2.1.1) ⟨hx, hb, hml, hown, hts⟩ (hcon z y hz hy φ ws ((st.take z.2.1.1).reverse) H.size hm (xr_s_rev (xr_s_take _ hs)) hkF) ⟨callB_of z.2.1.1 hts hG rfl rfl rfl (hts _ (htb _ hini)) (hts _ (htb _ hl1)) hd hroom, hts _ (htb _ hl2)⟩ ⟨xm_blind, xm_pre hK hkw hP hD0 hS hA⟩ rfl hlen hls hstk ?_ hdg ⟨hc1, hc2⟩)
        show 2 * 0 + _ ≤ 8
        rw [hcat]
        omega
      · cases h
    · cases h
end XNU
section XNW
variable {l : Launch} {V : Type} {C : Nat → xv_O V → Prop} {D : xv_D V} {g : V → Value → Prop} {Dg : va_G} {cl : List vw_C} {tys : List (ClassId × FieldType)} {at_ : List Nat} {nest : List (String × Nat × MethodName × String)} {tb : List Jvm.Cond} {ct : List (List (FieldType × Bool))} {ms : List xv_N} {ys : List xm_Z} {kx : xk_C} {kcc : ByteArray}
/-- what stands fast in the body of a method -/
def xn_fix (Dg : va_G) (cl : List vw_C) (tys : List (ClassId × FieldType)) (at_ : List Nat) (nest : List (String × Nat × MethodName × String)) (kx : xk_C) (tb : List Jvm.Cond) (ct : List (List (FieldType × Bool))) (ys : List xm_Z) (d : Nat) (y : xv_N) (z : xm_Z) (p : Program) (R : Room) (s : State) (m : MethodId) (args : Array Value) (meth : Method) (c : Code) (A : Nat → Prop) : Prop :=
  p.tables.exec = Jvm.exec ∧ c.code = z.2.1 ∧ c.maxLocals = y.2.1.2.1 ∧ s.vm.findClass z.1.cls = some m.cls ∧ (∃ w0, ∀ w ∈ (w0 :: tb), w.before args s = true) ∧ xm_K Dg cl tys at_ nest kx s ∧ xk_W kx A s s.heap ∧ (d + 1 ≤ R.frames ∧ 31 * d + 44 ≤ R.locals ∧ R.cells = y.2.2.1.1 ∧ R.slots = y.2.2.1.2) ∧ (∀ q, s.heap.size ≤ q → A q) ∧ meth.name = z.1.name ∧ xc_bod tb nest cl ct at_ kx.1 kx.2.2.2.1 ys y z
/-- a contract out of the walk of the body -/
theorem xn_of (hall : xc_all tb nest cl ct at_ kx.1 kx.2.2.2.1 kcc ms ys) {d j : Nat} {as : List (xv_V V)} {M : xv_M V} {r : xv_R V}
    (h : ∀ (y : xv_N) (z : xm_Z), ms[j]? = some y → ys[j]? = some z → ∀ {p : Program} {e : Env} {s : State} {m : MethodId} {args : Array Value} {below : List Frame} {meth : Method} {c : Code} {A : Nat → Prop} {φ0 : List Nat}, xn_fix Dg cl tys at_ nest kx tb ct ys d y z p (xn_rm d y) s m args meth c A → xk_F kx φ0 → meth.sig.returnType = z.2.2 → meth.locks = false →
      xv_cats as ≤ y.2.1.2.1 ∧ xw_st p l e (xn_rm d y) s m args below meth c (MQ below (xm_Q (xk_c g kx) g tys Dg cl r φ0 A) args s y.2.2.1.1 y.2.2.1.2 A) g Dg cl tys kx A φ0 y 0 (xv_in as y.2.1.2.1) [] M 0 0) :
    xn_Con l g tys Dg cl at_ nest kx tb ms ys d j as M r := by
  intro y z hy hz φ ws vals sz hm hs hkF
  obtain ⟨z2, hz2, hone⟩ := hall.2.2.2.2 j y hy
  cases Option.some.inj (hz2.symm.trans hz)
  refine Met.ofW (cc := z.2.1) (maxL := y.2.1.2.1) (ret := z.2.2) hone.1 rfl ?_
  intro p e s m args below meth c s₁ B hml hv
  obtain ⟨rfl, hsz, hP, hK, hD0, hkw⟩ := hv
  subst hsz
  have hD1 := hD0.self (sz := s.heap.size)
  obtain ⟨hle, hst⟩ := h y z hy hz (p := p) (e := e) (below := below) (A := va_A ws s.heap.size) (φ0 := φ) ⟨B.exec, B.bytes, hml, findClass_of_methodNamed B.named, ⟨_, atoms_spec B.pre⟩, hK, hkw, ⟨Nat.le_refl _, Nat.le_refl _, rfl, rfl⟩, fun q hq => Or.inr hq, (name_of_methodNamed B.named B.method).1, hone.2.2.2.2.2⟩ hkF B.returns B.notSynchronized
  have hl := lv_entry vals (n := y.2.1.2.1) (by rw [xr_s_sl hs]; exact hle)
  rw [lg_entry_eq]
  refine hst (Nat.zero_le _) (Nat.zero_le _) [] ws s.heap [] _ _ (by rw [List.append_nil]; exact hm) hP hD1 va_S.rf ?_ rfl
  rw [List.append_nil]
  refine ⟨xv_in_len as _ hle, _, hl, fun i v hi => ?_⟩
  obtain ⟨x, hx1, hx2⟩ := xv_in_at 0 y.2.1.2.1 i hs hi
  exact ⟨x, by rw [Nat.zero_add] at hx1; exact hx1, hx2⟩
end XNW
