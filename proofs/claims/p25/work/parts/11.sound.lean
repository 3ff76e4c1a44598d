section XSW
variable {l : Launch} {V : Type} {C : Nat → xv_O V → Prop} {D : xv_D V} {g : V → Value → Prop} {Dg : va_G} {cl : List vw_C} {tys : List (ClassId × FieldType)} {at_ : List Nat} {nest : List (String × Nat × MethodName × String)} {tb : List Jvm.Cond} {ct : List (List (FieldType × Bool))} {ms : List xv_N} {ys : List xm_Z} {kx : xk_C} {kcc : ByteArray}
theorem xv_to_mem : ∀ {cs : List xv_I} {i : Nat} {q : xv_I}, q ∈ xv_to cs i → q ∈ cs
  | [], _, _, h => h
  | c :: cs, i, q, h => by
    unfold xv_to at h
    cases hc : Nat.beq c.1 i <;> simp only [hc, cond_true, cond_false] at h
    · exact List.mem_cons_of_mem _ (xv_to_mem h)
    · exact h
/-- what stands fast in the body of a method -/
def xw_fix (Dg : va_G) (cl : List vw_C) (tys : List (ClassId × FieldType)) (at_ : List Nat) (nest : List (String × Nat × MethodName × String)) (kx : xk_C) (tb : List Jvm.Cond) (ct : List (List (FieldType × Bool))) (ys : List xm_Z) (d : Nat) (y : xv_N) (z : xm_Z) (p : Program) (R : Room) (s : State) (m : MethodId) (args : Array Value) (meth : Method) (c : Code) (A : Nat → Prop) : Prop :=
  p.tables.exec = Jvm.exec ∧ c.code = z.2.1 ∧ c.maxLocals = y.2.1.2.1 ∧ s.vm.findClass z.1.cls = some m.cls ∧ (∃ w0, ∀ w ∈ (w0 :: tb), w.before args s = true) ∧ xm_K Dg cl tys at_ nest kx s ∧ xk_W kx A s s.heap ∧ (d + 6 ≤ R.frames ∧ 44 * (d + 6) ≤ R.locals ∧ R.cells = y.2.2.1.1 ∧ R.slots = y.2.2.1.2) ∧ (∀ q, s.heap.size ≤ q → A q) ∧ meth.name = z.1.name ∧ xc_bod tb nest cl ct at_ kx.1 kx.2.2.2.1 ys y z
/-- from every state that stands so the machine comes to Q -/
def xw_st (p : Program) (l : Launch) (e : Env) (R : Room) (s : State) (m : MethodId) (args : Array Value) (below : List Frame) (meth : Method) (c : Code) (Q : State → Prop) {V : Type} (g : V → Value → Prop) (Dg : va_G) (cl : List vw_C) (tys : List (ClassId × FieldType)) (kx : xk_C) (A : Nat → Prop) (φ0 : List Nat) (y : xv_N) (pc : Nat) (L : xv_L V) (S : List (xv_V V)) (M : xv_M V) (cells slots : Nat) : Prop :=
  cells ≤ y.2.2.1.1 → slots ≤ y.2.2.1.2 → ∀ (t : List Nat) (ws : va_W) (H : Heap) (locs : List Loc) (ls : Array Slot) (st : List Value), xr_m (xk_c g kx) g (φ0 ++ t) tys M ws → va_P Dg cl ws H → va_D A ws → va_S A s.heap H locs → xr_l g (φ0 ++ t) L ls y.2.1.2.1 → xr_s g (φ0 ++ t) S st →
    W p l e R s m args below meth c H locs cells slots Q (F0 m pc ls st)
set_option maxHeartbeats 4000000 in
theorem xs_end {p : Program} {e : Env} {R : Room} {s : State} {m : MethodId} {args : Array Value} {below : List Frame} {meth : Method} {c : Code} {H : Heap} {locs : List Loc} {cells slots : Nat} {cc : ByteArray} {pc rc mc ms2 : Nat} {φ0 : List Nat} {M : xv_M V} {S : List (xv_V V)} {ls : Array Slot} {st : List Value} {A : Nat → Prop} {ws : va_W} {t : List Nat} {r : Option (xv_V V)}
    (hD : xv_ok D g) (hx : p.tables.exec = Jvm.exec) (hb : c.code = cc) (hr : meth.sig.returnType = xv_ret rc) (hlocks : meth.locks = false) {i : Instr} (h : xv_end D rc S i = some r) (hdg : decode cc pc = .ok (i, xv_len i))
    (hm : xr_m C g (φ0 ++ t) tys M ws) (hP : va_P Dg cl ws H) (hD0 : va_D A ws) (hS : va_S A s.heap H locs) (hs : xr_s g (φ0 ++ t) S st) (h1 : cells ≤ mc) (h2 : slots ≤ ms2) :
    W p l e R s m args below meth c H locs cells slots (MQ below (xm_Q C g tys Dg cl (r, M) φ0 A) args s mc ms2 A) (F0 m pc ls st) := by
  refine W.widen h1 h2 ?_
  cases i
  all_goals (first | (simp only [xv_end, reduceCtorEq] at h; done) | skip)
  case return_ =>
    simp only [xv_end] at h
    split at h
    · cases hc : Nat.beq rc 0 <;> simp only [hc, cond_true, cond_false] at h
      · cases h
      cases Option.some.inj h
      obtain rfl : st = [] := hs
      rw [Nat.eq_of_beq_eq_true hc] at hr
      exact W.vret hx hb hr (fun T hT _ => ⟨⟨none, t, ws, rfl, rfl, hm, by rw [hT]; exact hP, hD0⟩, hS.F hT⟩) hS.2.2 hdg hlocks
    · cases h
  case ireturn =>
    simp only [xv_end] at h
    split at h
    · rename_i a
      obtain ⟨_, r1, rfl, ⟨n, rfl, hn⟩, rfl⟩ := hs
      cases hc : (Nat.beq rc 1 || (Nat.beq rc 3 && D.2.2.2.2.2 a)) <;> simp only [hc, cond_true, cond_false] at h
      · cases h
      cases Option.some.inj h
      rcases Bool.or_eq_true_iff.mp hc with hc | hc
      · rw [Nat.eq_of_beq_eq_true hc] at hr
        exact W.iret hx hb hr (fun T hT _ => ⟨⟨some (.int n), t, ws, rfl, ⟨_, rfl, n, rfl, hn⟩, hm, by rw [hT]; exact hP, hD0⟩, hS.F hT⟩) hS.2.2 hdg hlocks
      · obtain ⟨c1, c2⟩ := Bool.and_eq_true_iff.mp hc
        rw [Nat.eq_of_beq_eq_true c1] at hr
        have hnar : narrow .boolean (.int n) = .int n := by
          rcases hD.2.2.2.2.2.2.2.2.2.2.2 a n c2 hn with rfl | rfl
          · rfl
          · rfl
        exact W.zret hx hb hr hnar (fun T hT _ => ⟨⟨some (.int n), t, ws, rfl, ⟨_, rfl, n, rfl, hn⟩, hm, by rw [hT]; exact hP, hD0⟩, hS.F hT⟩) hS.2.2 hdg hlocks
    · cases h
  case lreturn =>
    simp only [xv_end] at h
    split at h
    · rename_i a
      obtain ⟨_, r1, rfl, ⟨n, rfl, hn⟩, rfl⟩ := hs
      cases hc : Nat.beq rc 2 <;> simp only [hc, cond_true, cond_false] at h
      · cases h
      cases Option.some.inj h
      rw [Nat.eq_of_beq_eq_true hc] at hr
      exact W.lret hx hb hr (fun T hT _ => ⟨⟨some (.long n), t, ws, rfl, ⟨_, rfl, n, rfl, hn⟩, hm, by rw [hT]; exact hP, hD0⟩, hS.F hT⟩) hS.2.2 hdg hlocks
    · cases h
theorem xs_pure_sw {K : xv_K} {L : xv_L V} {S : List (xv_V V)} {i : Instr} {r : xv_L V × List (xv_V V)} (h : xv_pure D K L S i = some r) : xv_sw i = false := by
  cases i <;> first | rfl | (simp only [xv_pure, reduceCtorEq] at h; done)
theorem xs_mem_sw {K : xv_K} {w ini : Nat} {M : xv_M V} {S : List (xv_V V)} {i : Instr} {r : List (xv_V V) × xv_M V × Nat × Nat} (h : xv_mem D ct at_ K w ini M S i = some r) : xv_sw i = false := by
  cases i <;> first | rfl | (simp only [xv_mem, reduceCtorEq] at h; done)
theorem xs_arg_sw {K : xv_K} {M : xv_M V} {S : List (xv_V V)} {i : Instr} {r : Nat × List (xv_V V) × List (xv_V V)} (h : xv_arg ms K M S i = some r) : xv_sw i = false := by
  cases i <;> first | rfl | (simp only [xv_arg, reduceCtorEq] at h; done)
theorem xs_nat_sw {K : xv_K} {M : xv_M V} {S : List (xv_V V)} {i : Instr} {r : List (xv_V V) × xv_M V} (h : xv_nat D kx.1 K M S i = some r) : xv_sw i = false := by
  cases i <;> first | rfl | (simp only [xv_nat, reduceCtorEq] at h; done)
theorem xs_end_sw {rc : Nat} {S : List (xv_V V)} {i : Instr} {r : Option (xv_V V)} (h : xv_end D rc S i = some r) : xv_sw i = false := by
  cases i <;> first | rfl | (simp only [xv_end, reduceCtorEq] at h; done)
theorem xs_dec {cc : ByteArray} {q : xv_I} (h : xc_dec cc q) (hs : xv_sw q.2 = false) : decode cc q.1 = .ok (q.2, xv_len q.2) := by
  obtain ⟨len, h1, h2⟩ := h
  rcases h2 with h2 | h2
  · rw [hs] at h2; cases h2
  · rw [← h2]; exact h1
set_option maxHeartbeats 4000000 in
/-- ONE STEP in the body of a method -/
theorem xs_step {ρ : Type} (hD : xv_ok D g) (hall : xc_all tb nest cl ct at_ kx.1 kx.2.2.2.1 kcc ms ys) (hchar : xk_Ch l tb kcc kx) (hY : xc_tys cl at_ tys) {d : Nat} {call : Nat → List (xv_V V) → xv_M V → Option (xv_R V)} (hcall : ∀ (j : Nat) (as : List (xv_V V)) (M : xv_M V) (r : xv_R V), call j as M = some r → xm_Con l g tys Dg cl at_ nest kx tb ms ys d j as M r)
    {y : xv_N} {z : xm_Z} {p : Program} {e : Env} {R : Room} {s : State} {m : MethodId} {args : Array Value} {below : List Frame} {meth : Method} {c : Code} {A : Nat → Prop} {Q : State → Prop} {φ0 : List Nat} (hfix : xw_fix Dg cl tys at_ nest kx tb ct ys d y z p R s m args meth c A) (hkF : xk_F kx φ0)
    {fin : Option (xv_V V) → xv_M V → Option ρ} {ih : Nat → List xv_I → xv_L V → List (xv_V V) → xv_M V → Nat → Nat → Option ρ} {r : ρ} {pc : Nat} {cs : List xv_I} {L : xv_L V} {S : List (xv_V V)} {M : xv_M V} {cells slots : Nat}
    (h : xv_step D ct at_ kx.1 ms call y fin ih pc cs L S M cells slots = some r) (hcs : ∀ q ∈ cs, q ∈ y.2.2.2)
    (hih : ∀ (pc : Nat) (cs : List xv_I) (L : xv_L V) (S : List (xv_V V)) (M : xv_M V) (cells slots : Nat), ih pc cs L S M cells slots = some r → (∀ q ∈ cs, q ∈ y.2.2.2) → xw_st p l e R s m args below meth c Q g Dg cl tys kx A φ0 y pc L S M cells slots)
    (hfin : ∀ (i : Instr) (pc : Nat) (L : xv_L V) (S : List (xv_V V)) (M : xv_M V) (cells slots : Nat) (rv : Option (xv_V V)), xv_end D y.2.1.2.2.1 S i = some rv → fin rv M = some r → decode z.2.1 pc = .ok (i, xv_len i) → xw_st p l e R s m args below meth c Q g Dg cl tys kx A φ0 y pc L S M cells slots) :
    xw_st p l e R s m args below meth c Q g Dg cl tys kx A φ0 y pc L S M cells slots := by
  obtain ⟨hx, hb, hml, hown, ⟨w0, hts⟩, hK, hkw, ⟨r1, r2, r3, r4⟩, hA, hname, h6, h7, h8, h9, hF, hN, hcst, hstr, hMt⟩ := hfix
  have htb : ∀ w ∈ tb, w ∈ (w0 :: tb) := fun w hw => List.mem_cons_of_mem _ hw
  obtain ⟨⟨m1, m2, m3, m4⟩, n1, n2, n3, n4, n5⟩ := hall.2.2.2.1
  intro hc1 hc2 t ws H locs ls st hm hP hD0 hS hl hs
  cases cs with
  | nil => cases h
  | cons q cs =>
    unfold xv_step at h
    dsimp only at h
    have hcs' : ∀ q ∈ cs, q ∈ y.2.2.2 := fun q hq => hcs q (List.mem_cons_of_mem _ hq)
    have hdec := h9 q (hcs q List.mem_cons_self)
    cases hpc : Nat.beq q.1 pc <;> simp only [hpc, cond_true, cond_false] at h
    · cases h
    obtain rfl : q.1 = pc := Nat.eq_of_beq_eq_true hpc
    have hlsz : ls.size = y.2.1.2.1 := by obtain ⟨-, lv, hlv, -⟩ := hl; exact hlv.1
    split at h
    · rename_i LS hLS
      refine xs_pure hx hb hown hD (fun i v hv => hts _ (htb _ (hcst.1 i v hv))) (fun i v hv => hts _ (htb _ (hcst.2 i v hv))) (fun i n hn h2000 => ?_) hLS (xs_dec hdec (xs_pure_sw hLS)) hl hs (fun ls' st' hl' hs' => ?_)
      · obtain ⟨g1, tx, g2⟩ := hstr i n hn h2000
        exact ⟨tx, _, hK.2.2.2.1 _ g2, hkF.mono.1 _ g1⟩
      exact hih _ _ _ _ _ _ _ h hcs' hc1 hc2 t ws H locs ls' st' hm hP hD0 hS hl' hs'
    · split at h
      · rename_i tS htS
        obtain ⟨len, d1, d2⟩ := hdec
        refine xs_br hx hb hD htS d1 d2 hs (fun st' hs' => ?_)
        exact hih _ _ _ _ _ _ _ h (fun q hq => xv_to_mem hq) hc1 hc2 t ws H locs ls st' hm hP hD0 hS hl hs'
      · split at h
        · rename_i T hT
          cases hr1 : Nat.ble (cells + T.2.2.1) y.2.2.1.1 <;> simp only [hr1, Bool.true_and, Bool.false_and, cond_true, cond_false] at h
          · cases h
          cases hr2 : Nat.ble (slots + T.2.2.2) y.2.2.1.2 <;> simp only [hr2, cond_true, cond_false] at h
          · cases h
          have q1 := Nat.le_of_ble_eq_true hr1
          have q2 := Nat.le_of_ble_eq_true hr2
          refine xs_mem hx hb hown hts htb hD hall.2.1 hF hN hY hK.2.1 hall.2.2.1 (fun z => hname.trans (h7 z)) h8 hK.1 hA (fun k q o hC hq => ?_) hT (xs_dec hdec (xs_mem_sw hT)) hm hP hD0 hS hs (by rw [r3]; exact q1) (by rw [r4]; exact q2) (fun t' ws' H' locs' st' hm' hP' hD' hS' hs' => ?_)
          · obtain ⟨c1, c2, c3⟩ := hC
            cases Option.some.inj (hq.symm.trans (hkF.mono.2 k c1))
            exact ⟨_, _, (hkw.2.1 k c1).1, (hkw.2.1 k c1).2.1, (hkw.2.1 k c1).2.2, c2, fun j v hv => by
              obtain ⟨a, rfl, ha⟩ := c3 j v hv
              exact ⟨_, rfl, ha⟩⟩
          rw [List.append_assoc] at hm' hs'
          exact hih _ _ _ _ _ _ _ h hcs' q1 q2 (t ++ t') ws' H' locs' ls st' hm' hP' hD' hS' (by rw [← List.append_assoc]; exact xr_l_mono hl) hs'
        · split at h
          · rename_i Ar hAr
            split at h
            · rename_i zz hzz
              cases hr1 : Nat.ble (cells + zz.2.2.1.1) y.2.2.1.1 <;> simp only [hr1, Bool.true_and, Bool.false_and, cond_true, cond_false] at h
              · cases h
              cases hr2 : Nat.ble (slots + zz.2.2.1.2) y.2.2.1.2 <;> simp only [hr2, cond_true, cond_false] at h
              · cases h
              have q1 := Nat.le_of_ble_eq_true hr1
              have q2 := Nat.le_of_ble_eq_true hr2
              split at h
              · rename_i rr hrr
                refine xs_call hx hb hml hlsz hown hts hall hMt hK hkw hkF.mono r1 r2 hA hAr hzz (hcall _ _ _ _ hrr) (xs_dec hdec (xs_arg_sw hAr)) hm hP hD0 hS hs (by rw [r3]; exact q1) (by rw [r4]; exact q2) (fun t' ws' H' locs' st' hm' hP' hD' hS' hs' => ?_)
                rw [List.append_assoc] at hm' hs'
                exact hih _ _ _ _ _ _ _ h hcs' q1 q2 (t ++ t') ws' H' locs' ls st' hm' hP' hD' hS' (by rw [← List.append_assoc]; exact xr_l_mono hl) hs'
              · cases h
            · cases h
          · split at h
            · rename_i T hT
              refine xs_nat hx hb (by rw [hml, hlsz]) hown hD hY (fun i j hj => hts _ (htb _ ((hMt i 5 j hj).2.2.2.2.2.1 rfl))) (hts _ (htb _ n1)) (hts _ (htb _ n2)) (fun i j hj => hts _ (htb _ ((hMt i 6 j hj).2.2.2.2.2.2 rfl))) (hts _ (htb _ n3)) (hts _ (htb _ n4)) (hts _ (htb _ n5)) (fun i j n k cs b x q rest g1 g2 g3 g4 g5 g6 g7 g8 kk => ?_) (by omega) (by omega) hK.1 hT (xs_dec hdec (xs_nat_sw hT)) hm hP hD0 hS hs (fun ws' H' locs' st' hm' hP' hD' hS' hs' => ?_)
              · have hn : n < kx.1.length := (List.getElem?_eq_some_iff.mp g2).1
                cases Option.some.inj (g6.symm.trans (hkF.mono.1 n hn))
                refine W.callR (W.runV (C := "java/lang/String") (As := [.int x]) (rest := rest) ⟨hx, hb, hml, hown, hts⟩ (hchar A n k cs b x g2 g3 g4 g5) ⟨callB_of 1 hts (xc_good hall.1 m4) rfl rfl rfl (hts _ (htb _ m3)) (hts _ (htb _ ((hMt i 4 j g1).2.2.2.2.1 rfl))) (by decide +kernel) ⟨by show 4 + 1 ≤ R.frames; omega, by show 8 + (2 + 11) + 160 ≤ R.locals; omega⟩, hts _ (htb _ m1), hts _ (htb _ m2)⟩ ⟨fun a U g mk q => ⟨q.1, xk_T.moved (u := U) (U := U.calling g mk a) (Vm.Alike.refl U.vm) q.2⟩, vk_recv hkw.1.1 hn hS, fun U hU hW => ⟨rfl, by show xk_T kx A U U.heap; rw [hU]; exact xk_T.moved hW.alike (xk_T.kept hkw.1 hS.2.1)⟩⟩ rfl rfl hlsz rfl ?_ g8 ⟨by rw [r3]; exact hc1, by rw [r4]; exact hc2⟩) kk
                show 2 * 0 + _ ≤ 8
                omega
              exact hih _ _ _ _ _ _ _ h hcs' hc1 hc2 t ws' H' locs' ls st' hm' hP' hD' hS' hl hs'
            · split at h
              · rename_i rv hrv
                exact hfin _ _ _ _ _ _ _ _ hrv h (xs_dec hdec (xs_end_sw hrv)) hc1 hc2 t ws H locs ls st hm hP hD0 hS hl hs
              · cases h
/-- UP TO AN INSTRUCTION of the body -/
theorem xs_seg (hD : xv_ok D g) (hall : xc_all tb nest cl ct at_ kx.1 kx.2.2.2.1 kcc ms ys) (hchar : xk_Ch l tb kcc kx) (hY : xc_tys cl at_ tys) {d : Nat} {call : Nat → List (xv_V V) → xv_M V → Option (xv_R V)} (hcall : ∀ (j : Nat) (as : List (xv_V V)) (M : xv_M V) (r : xv_R V), call j as M = some r → xm_Con l g tys Dg cl at_ nest kx tb ms ys d j as M r)
    {y : xv_N} {z : xm_Z} {p : Program} {e : Env} {R : Room} {s : State} {m : MethodId} {args : Array Value} {below : List Frame} {meth : Method} {c : Code} {A : Nat → Prop} {Q : State → Prop} {φ0 : List Nat} (hfix : xw_fix Dg cl tys at_ nest kx tb ct ys d y z p R s m args meth c A) (hkF : xk_F kx φ0) {stop : Nat} {r : xv_L V × List (xv_V V) × xv_M V × Nat × Nat}
    (hr : xw_st p l e R s m args below meth c Q g Dg cl tys kx A φ0 y stop r.1 r.2.1 r.2.2.1 r.2.2.2.1 r.2.2.2.2) :
    ∀ (n pc : Nat) (cs : List xv_I) (L : xv_L V) (S : List (xv_V V)) (M : xv_M V) (cells slots : Nat), xv_seg D ct at_ kx.1 ms call y stop n pc cs L S M cells slots = some r → (∀ q ∈ cs, q ∈ y.2.2.2) → xw_st p l e R s m args below meth c Q g Dg cl tys kx A φ0 y pc L S M cells slots := by
  intro n
  induction n with
  | zero => intro pc cs L S M cells slots h; cases h
  | succ n ih =>
    intro pc cs L S M cells slots h hcs
    have h : xv_step D ct at_ kx.1 ms call y (fun _ _ => none) (fun pc cs L S M c s => bif Nat.beq pc stop then some (L, S, M, c, s) else xv_seg D ct at_ kx.1 ms call y stop n pc cs L S M c s) pc cs L S M cells slots = some r := h
    refine xs_step hD hall hchar hY hcall hfix hkF h hcs (fun pc cs L S M cells slots h hcs => ?_) (fun i pc L S M cells slots rv h1 h2 h3 => by cases h2)
    cases hpc : Nat.beq pc stop <;> simp only [hpc, cond_true, cond_false] at h
    · exact ih _ _ _ _ _ _ _ h hcs
    · cases Option.some.inj h
      rw [Nat.eq_of_beq_eq_true hpc]
      exact hr
/-- THE BODY of a method, by its steps; hend: what its end gives -/
theorem xs_loop (hD : xv_ok D g) (hall : xc_all tb nest cl ct at_ kx.1 kx.2.2.2.1 kcc ms ys) (hchar : xk_Ch l tb kcc kx) (hY : xc_tys cl at_ tys) {d : Nat} {call : Nat → List (xv_V V) → xv_M V → Option (xv_R V)} (hcall : ∀ (j : Nat) (as : List (xv_V V)) (M : xv_M V) (r : xv_R V), call j as M = some r → xm_Con l g tys Dg cl at_ nest kx tb ms ys d j as M r)
    {y : xv_N} {z : xm_Z} {p : Program} {e : Env} {R : Room} {s : State} {m : MethodId} {args : Array Value} {below : List Frame} {meth : Method} {c : Code} {A : Nat → Prop} {Q : State → Prop} {φ0 : List Nat} (hfix : xw_fix Dg cl tys at_ nest kx tb ct ys d y z p R s m args meth c A) (hkF : xk_F kx φ0) {r : xv_R V}
    (hend : ∀ (i : Instr) (pc : Nat) (L : xv_L V) (S : List (xv_V V)) (cells slots : Nat), xv_end D y.2.1.2.2.1 S i = some r.1 → decode z.2.1 pc = .ok (i, xv_len i) → xw_st p l e R s m args below meth c Q g Dg cl tys kx A φ0 y pc L S r.2 cells slots) :
    ∀ (n pc : Nat) (cs : List xv_I) (L : xv_L V) (S : List (xv_V V)) (M : xv_M V) (cells slots : Nat), xv_loop D ct at_ kx.1 ms call y n pc cs L S M cells slots = some r → (∀ q ∈ cs, q ∈ y.2.2.2) → xw_st p l e R s m args below meth c Q g Dg cl tys kx A φ0 y pc L S M cells slots := by
  intro n
  induction n with
  | zero => intro pc cs L S M cells slots h; cases h
  | succ n ih =>
    intro pc cs L S M cells slots h hcs
    have h : xv_step D ct at_ kx.1 ms call y (fun r M => some (r, M)) (xv_loop D ct at_ kx.1 ms call y n) pc cs L S M cells slots = some r := h
    refine xs_step hD hall hchar hY hcall hfix hkF h hcs (fun pc cs L S M cells slots h hcs => ih _ _ _ _ _ _ _ h hcs) (fun i pc L S M cells slots rv h1 h2 h3 => ?_)
    cases Option.some.inj h2
    exact hend i pc L S cells slots h1 h3
/-- a contract out of the walk of the body -/
theorem xm_of (hall : xc_all tb nest cl ct at_ kx.1 kx.2.2.2.1 kcc ms ys) {d j : Nat} {as : List (xv_V V)} {M : xv_M V} {r : xv_R V}
    (h : ∀ (y : xv_N) (z : xm_Z), ms[j]? = some y → ys[j]? = some z → ∀ {p : Program} {e : Env} {s : State} {m : MethodId} {args : Array Value} {below : List Frame} {meth : Method} {c : Code} {A : Nat → Prop} {φ0 : List Nat}, xw_fix Dg cl tys at_ nest kx tb ct ys d y z p (xm_rm (d + 1) y) s m args meth c A → xk_F kx φ0 → meth.sig.returnType = z.2.2 → meth.locks = false →
      xv_cats as ≤ y.2.1.2.1 ∧ xw_st p l e (xm_rm (d + 1) y) s m args below meth c (MQ below (xm_Q (xk_c g kx) g tys Dg cl r φ0 A) args s y.2.2.1.1 y.2.2.1.2 A) g Dg cl tys kx A φ0 y 0 (xv_in as y.2.1.2.1) [] M 0 0) :
    xm_Con l g tys Dg cl at_ nest kx tb ms ys (d + 1) j as M r := by
  intro y z hy hz φ ws vals sz hm hs hkF
  obtain ⟨z2, hz2, hone⟩ := hall.2.2.2.2 j y hy
  cases Option.some.inj (hz2.symm.trans hz)
  refine Met.ofW (cc := z.2.1) (maxL := y.2.1.2.1) (ret := z.2.2) hone.1 rfl ?_
  intro p e s m args below meth c s₁ B hml hv
  obtain ⟨rfl, hsz, hP, hK, hD0, hkw⟩ := hv
  subst hsz
  have hD1 := hD0.self (sz := s.heap.size)
  obtain ⟨hle, hst⟩ := h y z hy hz (p := p) (e := e) (below := below) (A := va_A ws s.heap.size) (φ0 := φ) ⟨B.exec, B.bytes, hml, findClass_of_methodNamed B.named, ⟨_, atoms_spec B.pre⟩, hK, hkw, ⟨Nat.le_refl _, Nat.le_refl _, rfl, rfl⟩, fun q hq => Or.inr hq, (name_of_methodNamed B.named B.method).1, hone.2.2.2.2.2⟩ hkF B.returns B.notSynchronized
  have hl := lv_entry vals (n := y.2.1.2.1) (by rw [xr_s_sl hs]; exact hle)
  rw [lg_entry_eq]
  refine hst (Nat.zero_le _) (Nat.zero_le _) [] ws s.heap [] _ _ (by rw [List.append_nil]; exact hm) hP hD1 va_S.rf ?_ rfl
  rw [List.append_nil]
  refine ⟨xv_in_len as _ hle, _, hl, fun i v hi => ?_⟩
  obtain ⟨x, hx1, hx2⟩ := xv_in_at 0 y.2.1.2.1 i hs hi
  exact ⟨x, by rw [Nat.zero_add] at hx1; exact hx1, hx2⟩
/-- THE PURE MACHINE IS RIGHT: what it runs, the method does -/
theorem xs_run (hD : xv_ok D g) (hall : xc_all tb nest cl ct at_ kx.1 kx.2.2.2.1 kcc ms ys) (hchar : xk_Ch l tb kcc kx) (hY : xc_tys cl at_ tys) {ext : Nat → Nat → List (xv_V V) → xv_M V → Option (xv_R V)} (hext : ∀ (d j : Nat) (as : List (xv_V V)) (M : xv_M V) (r : xv_R V), ext d j as M = some r → xm_Con l g tys Dg cl at_ nest kx tb ms ys d j as M r) (fuel : Nat) :
    ∀ (d j : Nat) (as : List (xv_V V)) (M : xv_M V) (r : xv_R V), xv_run D ct at_ kx.1 ms ext fuel d j as M = some r → xm_Con l g tys Dg cl at_ nest kx tb ms ys d j as M r := by
  intro d
  induction d with
  | zero => intro j as M r h; cases h
  | succ d ih =>
    intro j as M r h
    have h : (match ext (d + 1) j as M with
      | some r => some r
      | none => match ms[j]? with
        | some y => bif Nat.ble (xv_cats as) y.2.1.2.1 then xv_loop D ct at_ kx.1 ms (xv_run D ct at_ kx.1 ms ext fuel d) y fuel 0 y.2.2.2 (xv_in as y.2.1.2.1) [] M 0 0 else none
        | none => none) = some r := h
    split at h
    · rename_i r' hr'
      cases Option.some.inj h
      exact hext _ _ _ _ _ hr'
    · refine xm_of hall (fun y z hy hz => ?_)
      intro p e s m args below meth c A φ0 hfix hkF hret hlocks
      rw [hy] at h
      dsimp only at h
      cases hc : Nat.ble (xv_cats as) y.2.1.2.1 <;> simp only [hc, cond_true, cond_false] at h
      · cases h
      refine ⟨Nat.le_of_ble_eq_true hc, xs_loop hD hall hchar hY ih hfix hkF (fun i pc L S cells slots h1 h2 => ?_) fuel 0 _ _ _ _ 0 0 h (fun q hq => hq)⟩
      intro hc1 hc2 t ws H locs ls st hm hP hD0 hS hl hs
      obtain ⟨hx, hb, -, -, -, -, -, -, -, -, hbod⟩ := hfix
      exact xs_end hD hx hb (by rw [hret]; exact hbod.1.symm) hlocks h1 h2 hm hP hD0 hS hs hc1 hc2
end XSW
