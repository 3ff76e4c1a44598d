section XSW
variable {l : Launch} {V : Type} {D : xv_D V} {g : V → Value → Prop} {Dg : va_G} {cl : List vw_C} {tys : List (ClassId × FieldType)} {at_ : List Nat} {nest : List (String × Nat × MethodName × String)} {tb : List Jvm.Cond} {ct : List (List (FieldType × Bool))} {ms : List xv_N} {ys : List xm_Z} {kx : xk_C} {kcc : ByteArray}
theorem xv_to_mem : ∀ {cs : List xv_I} {i : Nat} {q : xv_I}, q ∈ xv_to cs i → q ∈ cs
  | [], _, _, h => h
  | c :: cs, i, q, h => by
    unfold xv_to at h
    cases hc : Nat.beq c.1 i <;> simp only [hc, cond_true, cond_false] at h
    · exact List.mem_cons_of_mem _ (xv_to_mem h)
    · exact h
/-- what stands fast in the body of a method -/
def xw_fix (l : Launch) {V : Type} (D : xv_D V) (g : V → Value → Prop) (Dg : va_G) (cl : List vw_C) (tys : List (ClassId × FieldType)) (at_ : List Nat) (nest : List (String × Nat × MethodName × String)) (kx : xk_C) (tb : List Jvm.Cond) (ct : List (List (FieldType × Bool))) (ms : List xv_N) (ys : List xm_Z) (d : Nat) (y : xv_N) (z : xm_Z) (p : Program) (R : Room) (s : State) (m : MethodId) (args : Array Value) (meth : Method) (c : Code) (A : Nat → Prop) : Prop :=
  p.tables.exec = Jvm.exec ∧ c.code = z.2.1 ∧ c.maxLocals = y.2.1.2.1 ∧ s.vm.findClass z.1.cls = some m.cls ∧ (∀ w ∈ (Jvm.Cond.code z.1 z.2.1 y.2.1.2.1 z.2.2 :: tb), w.before args s = true) ∧ xm_K Dg cl tys at_ nest kx s ∧ xk_W kx A s s.heap ∧ R = xm_rm (d + 1) y ∧ (∀ q, s.heap.size ≤ q → A q) ∧ meth.sig.returnType = z.2.2 ∧ meth.locks = false ∧ meth.name = z.1.name ∧ xc_one tb nest cl ct at_ kx.1 kx.2.2.2 ys y z
set_option maxHeartbeats 4000000 in
theorem xs_end {p : Program} {e : Env} {R : Room} {s : State} {m : MethodId} {args : Array Value} {below : List Frame} {meth : Method} {c : Code} {H : Heap} {locs : List Loc} {cells slots : Nat} {cc : ByteArray} {pc rc mc ms2 : Nat} {φ0 : List Nat} {M : xv_M V} {S : List (xv_V V)} {ls : Array Slot} {st : List Value} {A : Nat → Prop} {ws : va_W} {t : List Nat} {r : Option (xv_V V)}
    (hD : xv_ok D g) (hx : p.tables.exec = Jvm.exec) (hb : c.code = cc) (hr : meth.sig.returnType = xv_ret rc) (hlocks : meth.locks = false) {i : Instr} (h : xv_end D rc S i = some r) (hdg : decode cc pc = .ok (i, xv_len i))
    (hm : xr_m g (φ0 ++ t) tys M ws) (hP : va_P Dg cl ws H) (hD0 : va_D A ws) (hS : va_S A s.heap H locs) (hs : xr_s g (φ0 ++ t) S st) (h1 : cells ≤ mc) (h2 : slots ≤ ms2) :
    W p l e R s m args below meth c H locs cells slots (MQ below (xm_Q g tys Dg cl (r, M) φ0 A) args s mc ms2 A) (F0 m pc ls st) := by
  refine W.widen h1 h2 ?_
  cases i
  all_goals (first | (simp only [xv_end, reduceCtorEq] at h; done) | skip)
  case return_ =>
    simp only [xv_end] at h
    split at h
    · cases hc : Nat.beq rc 0 <;> simp only [hc, cond_true, cond_false] at h
      · cases h
      cases Option.some.inj h
      obtain rfl : st = [] := hs
      rw [Nat.eq_of_beq_eq_true hc] at hr
      exact W.vret hx hb hr (fun T hT _ => ⟨⟨none, t, ws, rfl, rfl, hm, by rw [hT]; exact hP, hD0⟩, hS.F hT⟩) hS.2.2 hdg hlocks
    · cases h
  case ireturn =>
    simp only [xv_end] at h
    split at h
    · rename_i a
      obtain ⟨_, r1, rfl, ⟨n, rfl, hn⟩, rfl⟩ := hs
      cases hc : (Nat.beq rc 1 || (Nat.beq rc 3 && D.2.2.2.2.2 a)) <;> simp only [hc, cond_true, cond_false] at h
      · cases h
      cases Option.some.inj h
      rcases Bool.or_eq_true_iff.mp hc with hc | hc
      · rw [Nat.eq_of_beq_eq_true hc] at hr
        exact W.iret hx hb hr (fun T hT _ => ⟨⟨some (.int n), t, ws, rfl, ⟨_, rfl, n, rfl, hn⟩, hm, by rw [hT]; exact hP, hD0⟩, hS.F hT⟩) hS.2.2 hdg hlocks
      · obtain ⟨c1, c2⟩ := Bool.and_eq_true_iff.mp hc
        rw [Nat.eq_of_beq_eq_true c1] at hr
        have hnar : narrow .boolean (.int n) = .int n := by
          rcases hD.2.2.2.2.2.2.2.2.2.2.2 a n c2 hn with rfl | rfl
          · rfl
          · rfl
        exact W.zret hx hb hr hnar (fun T hT _ => ⟨⟨some (.int n), t, ws, rfl, ⟨_, rfl, n, rfl, hn⟩, hm, by rw [hT]; exact hP, hD0⟩, hS.F hT⟩) hS.2.2 hdg hlocks
    · cases h
  case lreturn =>
    simp only [xv_end] at h
    split at h
    · rename_i a
      obtain ⟨_, r1, rfl, ⟨n, rfl, hn⟩, rfl⟩ := hs
      cases hc : Nat.beq rc 2 <;> simp only [hc, cond_true, cond_false] at h
      · cases h
      cases Option.some.inj h
      rw [Nat.eq_of_beq_eq_true hc] at hr
      exact W.lret hx hb hr (fun T hT _ => ⟨⟨some (.long n), t, ws, rfl, ⟨_, rfl, n, rfl, hn⟩, hm, by rw [hT]; exact hP, hD0⟩, hS.F hT⟩) hS.2.2 hdg hlocks
    · cases h
theorem xs_nosw : ∀ {i : Instr}, xv_sw i = true ∨ True → xv_sw i = false ∨ xv_sw i = true := fun {i} _ => by cases xv_sw i <;> simp
theorem xs_pure_sw {K : xv_K} {L : xv_L V} {S : List (xv_V V)} {i : Instr} {r : xv_L V × List (xv_V V)} (h : xv_pure D K L S i = some r) : xv_sw i = false := by
  cases i <;> first | rfl | (simp only [xv_pure, reduceCtorEq] at h; done)
theorem xs_mem_sw {K : xv_K} {w ini : Nat} {M : xv_M V} {S : List (xv_V V)} {i : Instr} {r : List (xv_V V) × xv_M V × Nat × Nat} (h : xv_mem D ct at_ K w ini M S i = some r) : xv_sw i = false := by
  cases i <;> first | rfl | (simp only [xv_mem, reduceCtorEq] at h; done)
theorem xs_arg_sw {K : xv_K} {M : xv_M V} {S : List (xv_V V)} {i : Instr} {r : Nat × List (xv_V V) × List (xv_V V)} (h : xv_arg ms K M S i = some r) : xv_sw i = false := by
  cases i <;> first | rfl | (simp only [xv_arg, reduceCtorEq] at h; done)
theorem xs_nat_sw {K : xv_K} {M : xv_M V} {S : List (xv_V V)} {i : Instr} {r : List (xv_V V) × xv_M V} (h : xv_nat D kx.1 K M S i = some r) : xv_sw i = false := by
  cases i <;> first | rfl | (simp only [xv_nat, reduceCtorEq] at h; done)
theorem xs_end_sw {rc : Nat} {S : List (xv_V V)} {i : Instr} {r : Option (xv_V V)} (h : xv_end D rc S i = some r) : xv_sw i = false := by
  cases i <;> first | rfl | (simp only [xv_end, reduceCtorEq] at h; done)
theorem xs_dec {cc : ByteArray} {q : xv_I} (h : xc_dec cc q) (hs : xv_sw q.2 = false) : decode cc q.1 = .ok (q.2, xv_len q.2) := by
  obtain ⟨len, h1, h2⟩ := h
  rcases h2 with h2 | h2
  · rw [hs] at h2; cases h2
  · rw [← h2]; exact h1
set_option maxHeartbeats 4000000 in
/-- THE BODY of a method, by its steps -/
theorem xs_loop (hD : xv_ok D g) (hall : xc_all tb nest cl ct at_ kx.1 kx.2.2.2 kcc ms ys) (hchar : xk_Ch l tb kcc kx) (hY : xc_tys cl at_ tys) {d : Nat} {call : Nat → List (xv_V V) → xv_M V → Option (xv_R V)} (hcall : ∀ (j : Nat) (as : List (xv_V V)) (M : xv_M V) (r : xv_R V), call j as M = some r → xm_Con l g tys Dg cl at_ nest kx tb ms ys d j as M r)
    {y : xv_N} {z : xm_Z} {p : Program} {e : Env} {R : Room} {s : State} {m : MethodId} {args : Array Value} {below : List Frame} {meth : Method} {c : Code} {A : Nat → Prop} {φ0 : List Nat} {r : xv_R V} (hfix : xw_fix l D g Dg cl tys at_ nest kx tb ct ms ys d y z p R s m args meth c A) (hkF : xk_F kx φ0) :
    ∀ (n pc : Nat) (cs : List xv_I) (L : xv_L V) (S : List (xv_V V)) (M : xv_M V) (cells slots : Nat), xv_loop D ct at_ kx.1 ms call y n pc cs L S M cells slots = some r → (∀ q ∈ cs, q ∈ y.2.2.2) → cells ≤ y.2.2.1.1 → slots ≤ y.2.2.1.2 →
      ∀ (t : List Nat) (ws : va_W) (H : Heap) (locs : List Loc) (ls : Array Slot) (st : List Value), xr_m g (φ0 ++ t) tys M ws → va_P Dg cl ws H → va_D A ws → va_S A s.heap H locs → xr_l g (φ0 ++ t) L ls y.2.1.2.1 → xr_s g (φ0 ++ t) S st →
        W p l e R s m args below meth c H locs cells slots (MQ below (xm_Q g tys Dg cl r φ0 A) args s y.2.2.1.1 y.2.2.1.2 A) (F0 m pc ls st) := by
  obtain ⟨hx, hb, hml, hown, hts, hK, hkw, rfl, hA, hret, hlocks, hname, h1, h2, h3, h4, h5, h6, h7, h8, h9, hF, hN, hcst, hstr, hMt⟩ := hfix
  have htb : ∀ w ∈ tb, w ∈ (Jvm.Cond.code z.1 z.2.1 y.2.1.2.1 z.2.2 :: tb) := fun w hw => List.mem_cons_of_mem _ hw
  obtain ⟨⟨m1, m2, m3, m4⟩, n1, n2, n3, n4, n5⟩ := hall.2.2.2.1
  intro n
  induction n with
  | zero => intro pc cs L S M cells slots h; cases h
  | succ n ih =>
    intro pc cs L S M cells slots h hcs hc1 hc2 t ws H locs ls st hm hP hD0 hS hl hs
    have h : xv_step D ct at_ kx.1 ms call y (xv_loop D ct at_ kx.1 ms call y n) pc cs L S M cells slots = some r := h
    cases cs with
    | nil => cases h
    | cons q cs =>
      unfold xv_step at h
      dsimp only at h
      have hcs' : ∀ q ∈ cs, q ∈ y.2.2.2 := fun q hq => hcs q (List.mem_cons_of_mem _ hq)
      have hdec := h9 q (hcs q List.mem_cons_self)
      cases hpc : Nat.beq q.1 pc <;> simp only [hpc, cond_true, cond_false] at h
      · cases h
      obtain rfl : q.1 = pc := Nat.eq_of_beq_eq_true hpc
      have hlsz : ls.size = y.2.1.2.1 := by obtain ⟨-, lv, hlv, -⟩ := hl; exact hlv.1
      split at h
      · rename_i LS hLS
        refine xs_pure hx hb hown hD (fun i v hv => hts _ (htb _ (hcst.1 i v hv))) (fun i v hv => hts _ (htb _ (hcst.2 i v hv))) (fun i n hn h2000 => ?_) hLS (xs_dec hdec (xs_pure_sw hLS)) hl hs (fun ls' st' hl' hs' => ?_)
        · obtain ⟨g1, tx, g2⟩ := hstr i n hn h2000
          exact ⟨tx, _, hK.2.2.2 _ g2, hkF.mono _ g1⟩
        exact ih _ _ _ _ _ _ _ h hcs' hc1 hc2 t ws H locs ls' st' hm hP hD0 hS hl' hs'
      · split at h
        · rename_i tS htS
          obtain ⟨len, d1, d2⟩ := hdec
          refine xs_br hx hb hD htS d1 d2 hs (fun st' hs' => ?_)
          exact ih _ _ _ _ _ _ _ h (fun q hq => xv_to_mem hq) hc1 hc2 t ws H locs ls st' hm hP hD0 hS hl hs'
        · split at h
          · rename_i T hT
            cases hr1 : Nat.ble (cells + T.2.2.1) y.2.2.1.1 <;> simp only [hr1, Bool.true_and, Bool.false_and, cond_true, cond_false] at h
            · cases h
            cases hr2 : Nat.ble (slots + T.2.2.2) y.2.2.1.2 <;> simp only [hr2, cond_true, cond_false] at h
            · cases h
            have q1 := Nat.le_of_ble_eq_true hr1
            have q2 := Nat.le_of_ble_eq_true hr2
            refine xs_mem hx hb hown hts htb hD hall.2.1 hF hN hY hK.2.1 hall.2.2.1 (fun z => hname.trans (h7 z)) h8 hK.1 hA hT (xs_dec hdec (xs_mem_sw hT)) hm hP hD0 hS hs q1 q2 (fun t' ws' H' locs' st' hm' hP' hD' hS' hs' => ?_)
            rw [List.append_assoc] at hm' hs'
            exact ih _ _ _ _ _ _ _ h hcs' q1 q2 (t ++ t') ws' H' locs' ls st' hm' hP' hD' hS' (by rw [← List.append_assoc]; exact xr_l_mono hl) hs'
          · split at h
            · rename_i Ar hAr
              split at h
              · rename_i zz hzz
                cases hr1 : Nat.ble (cells + zz.2.2.1.1) y.2.2.1.1 <;> simp only [hr1, Bool.true_and, Bool.false_and, cond_true, cond_false] at h
                · cases h
                cases hr2 : Nat.ble (slots + zz.2.2.1.2) y.2.2.1.2 <;> simp only [hr2, cond_true, cond_false] at h
                · cases h
                have q1 := Nat.le_of_ble_eq_true hr1
                have q2 := Nat.le_of_ble_eq_true hr2
                split at h
                · rename_i rr hrr
                  refine xs_call hx hb hml hlsz hown hts hall hMt hK hkw hkF.mono (Nat.le_refl _) (Nat.le_refl _) hA hAr hzz (hcall _ _ _ _ hrr) (xs_dec hdec (xs_arg_sw hAr)) hm hP hD0 hS hs q1 q2 (fun t' ws' H' locs' st' hm' hP' hD' hS' hs' => ?_)
                  rw [List.append_assoc] at hm' hs'
                  exact ih _ _ _ _ _ _ _ h hcs' q1 q2 (t ++ t') ws' H' locs' ls st' hm' hP' hD' hS' (by rw [← List.append_assoc]; exact xr_l_mono hl) hs'
                · cases h
              · cases h
            · split at h
              · rename_i T hT
                refine xs_nat hx hb (by rw [hml, hlsz]) hown hD hY (fun i j hj => hts _ (htb _ ((hMt i 5 j hj).2.2.2.2.2.1 rfl))) (hts _ (htb _ n1)) (hts _ (htb _ n2)) (fun i j hj => hts _ (htb _ ((hMt i 6 j hj).2.2.2.2.2.2 rfl))) (hts _ (htb _ n3)) (hts _ (htb _ n4)) (hts _ (htb _ n5)) (fun i j n k cs b x q rest g1 g2 g3 g4 g5 g6 g7 g8 kk => ?_) (by show 1 ≤ d + 1 + 1; omega) (by show 44 ≤ 44 * (d + 1 + 1); omega) hK.1 hT (xs_dec hdec (xs_nat_sw hT)) hm hP hD0 hS hs (fun ws' H' locs' st' hm' hP' hD' hS' hs' => ?_)
                · have hn : n < kx.1.length := (List.getElem?_eq_some_iff.mp g2).1
                  cases Option.some.inj (g6.symm.trans (hkF.mono n hn))
                  refine W.callR (W.runV (C := "java/lang/String") (As := [.int x]) (rest := rest) ⟨hx, hb, hml, hown, hts⟩ (hchar A n k cs b x g2 g3 g4 g5) ⟨callB_of 1 hts (xc_good hall.1 m4) rfl rfl rfl (hts _ (htb _ m3)) (hts _ (htb _ ((hMt i 4 j g1).2.2.2.2.1 rfl))) (by decide +kernel) ⟨by show 1 + 1 ≤ d + 1 + 1; omega, by show 8 + (2 + 11) + 22 ≤ 44 * (d + 1 + 1); omega⟩, hts _ (htb _ m1), hts _ (htb _ m2)⟩ ⟨fun a U g mk q => ⟨q.1, vk_S.moved (u := U) (U := U.calling g mk a) (Vm.Alike.refl U.vm) q.2⟩, vk_recv hkw hn hS, fun U hU hW => ⟨rfl, by show xk_W kx A U U.heap; rw [hU]; exact vk_S.moved hW.alike (vk_S.kept hkw hS.2.1)⟩⟩ rfl rfl hlsz rfl ?_ g8 ⟨hc1, hc2⟩) kk
                  show 2 * 0 + _ ≤ 8
                  omega
                exact ih _ _ _ _ _ _ _ h hcs' hc1 hc2 t ws' H' locs' ls st' hm' hP' hD' hS' hl hs'
              · split at h
                · rename_i rv hrv
                  cases Option.some.inj h
                  exact xs_end hD hx hb (by rw [hret]; exact h6.symm) hlocks hrv (xs_dec hdec (xs_end_sw hrv)) hm hP hD0 hS hs hc1 hc2
                · cases h
set_option maxHeartbeats 4000000 in
/-- THE PURE MACHINE IS RIGHT: what it runs, the method does -/
theorem xs_run (hD : xv_ok D g) (hall : xc_all tb nest cl ct at_ kx.1 kx.2.2.2 kcc ms ys) (hchar : xk_Ch l tb kcc kx) (hY : xc_tys cl at_ tys) (fuel : Nat) : ∀ (d j : Nat) (as : List (xv_V V)) (M : xv_M V) (r : xv_R V), xv_run D ct at_ kx.1 ms fuel d j as M = some r → xm_Con l g tys Dg cl at_ nest kx tb ms ys d j as M r := by
  intro d
  induction d with
  | zero => intro j as M r h; cases h
  | succ d ih =>
    intro j as M r h y z hy hz φ ws vals sz hm hs hkF
    have h : (match ms[j]? with
      | some y => bif Nat.ble (xv_cats as) y.2.1.2.1 then xv_loop D ct at_ kx.1 ms (xv_run D ct at_ kx.1 ms fuel d) y fuel 0 y.2.2.2 (xv_in as y.2.1.2.1) [] M 0 0 else none
      | none => none) = some r := h
    rw [hy] at h
    dsimp only at h
    cases hc : Nat.ble (xv_cats as) y.2.1.2.1 <;> simp only [hc, cond_true, cond_false] at h
    · cases h
    have hle := Nat.le_of_ble_eq_true hc
    obtain ⟨z2, hz2, hone⟩ := hall.2.2.2.2 j y hy
    cases Option.some.inj (hz2.symm.trans hz)
    refine Met.ofW (cc := z.2.1) (maxL := y.2.1.2.1) (ret := z.2.2) hone.1 rfl ?_
    intro p e s m args below meth c s₁ B hml hv
    obtain ⟨rfl, hsz, hP, hK, hD0, hkw⟩ := hv
    subst hsz
    have hD1 := hD0.self (sz := s.heap.size)
    have hl := lv_entry vals (n := y.2.1.2.1) (by rw [xr_s_sl hs]; exact hle)
    rw [lg_entry_eq]
    refine xs_loop (t := []) (d := d) hD hall hchar hY ih ⟨B.exec, B.bytes, hml, findClass_of_methodNamed B.named, atoms_spec B.pre, hK, hkw, rfl, fun q hq => Or.inr hq, B.returns, B.notSynchronized, (name_of_methodNamed B.named B.method).1, hone⟩ hkF fuel 0 _ _ _ _ 0 0 h (fun q hq => hq) (Nat.zero_le _) (Nat.zero_le _) ws s.heap [] _ _ (by rw [List.append_nil]; exact hm) hP hD1 va_S.rf ?_ rfl
    rw [List.append_nil]
    refine ⟨xv_in_len as _ hle, _, hl, fun i v hi => ?_⟩
    obtain ⟨x, hx1, hx2⟩ := xv_in_at 0 y.2.1.2.1 i hs hi
    exact ⟨x, by rw [Nat.zero_add] at hx1; exact hx1, hx2⟩
end XSW
