section XT
variable {p : Program} {l : Launch} {e : Env} {R : Room} {s : State} {m : MethodId} {args : Array Value} {below : List Frame} {meth : Method} {c : Code} {T : State} {locs : List Loc} {cells slots : Nat}
/-- the method that a class selects is the one that its word names -/
theorem xt_sel {C : String} {y : MethodName} {k : ClassId} {mi : MethodId} (ha : l.admits e) (hy : y.cls ≠ "java/lang/invoke/MethodHandle" ∧ y.cls ≠ "java/lang/invoke/VarHandle") (hf : s.vm.findClass C = some k) (hn : s.methodNamed? y = some mi) (h : (Cond.selects C y y).before args s = true) : selectMethod e.platform s.vm k mi = .method mi := by
  obtain ⟨k2, r2, m2, q1, q2, q3, q4, -⟩ := Cond.selects_spec h
  cases Option.some.inj (q1.symm.trans hf)
  cases Option.some.inj (q2.symm.trans (State.methodFound?_of_named hn hy))
  cases Option.some.inj (q3.symm.trans hn)
  rw [Launch.admits_selectMethod ha]
  exact q4
set_option maxHeartbeats 4000000 in
/-- E's constructor with a text, and athrow; E's own constructor hands on by the link ix, its code is rx -/
theorem xt_ctor (X : Stand p l e R s m args below meth c T locs cells slots) (hx : p.tables.exec = Jvm.exec) (htr : e.platform.stackTraces = false) {own E : String} {up : List String} {ic ix : Nat} {rx : ByteArray}
    (x0 : decode rx 0 = .ok (.aload_n 0, 1)) (x1 : decode rx 1 = .ok (.aload_n 1, 1)) (x2 : decode rx 2 = .ok (.invokespecial ix, 3)) (x5 : decode rx 5 = .ok (.return_, 1))
    (hown : s.vm.findClass own = some m.cls) (hE : Bundle.fit E = true) (hup : ∀ n ∈ up, Bundle.fit n = true) (h : ∀ w ∈ Bundle.ownAtomsX own ic E ix rx up, w.before args s = true) (hlocs : ∀ z ∈ locs, ∀ cell, s.heap[z.base]? = some cell → cell.vm.isStatics = false)
    {a : Addr} {cE : ClassId} {kE : Class} (hcE : s.vm.findClass E = some cE) (hkE : s.vm.classes[cE]? = some kE) (hcell : T.heap[a]? = some (freshCell cE kE)) (hnew : s.heap.size ≤ a) {tx : Value} (htx : tx.isRef = true)
    {g : JFrame} (hg : g.method = m) (hsize : g.locals.size = c.maxLocals) (hl1 : g.locked = none) (hl2 : g.entered = []) {rest : List Value} (hst : g.stack = tx :: .ref a :: .ref a :: rest)
    (d0 : decode c.code g.pc = .ok (.invokespecial ic, 3)) (d3 : decode c.code (g.pc + 3) = .ok (.athrow, 1)) (hout : ∀ z ∈ c.exceptionTable.toList, covers z (g.pc + 3) = false)
    (hRf : up.length + 3 < R.frames) (hRl : 2 * g.monitorRoom + ((Value.ref a :: rest).map fun v => v.category).sum + (13 * (up.length + 1) + 42) ≤ R.locals) (hlocks : meth.locks = false) :
    ∃ (U : State) (ce : Cell), Steps p.tables e below (T.setTop g) U ∧ U.status = .running ∧ Ended U below (.threw a) ∧ s.WarmedH U.vm ∧ s.sameButNew ({ U with vm := s.vm } : State) locs cells slots ∧ U.heap[a]? = some ce ∧ ce.vm = .none ∧ s.vm.findClass E = some ce.cls := by
  have pOwn : e.platform.frameOwnsMonitors = true := by rw [X.admits.platform]
  have pFin : e.platform.finalization = false := by rw [X.admits.platform]
  have pMag : e.platform.magicAccessors = ({} : Platform).magicAccessors := by rw [X.admits.platform]
  have hw : ∀ w, w ∈ Bundle.ownAtomsX own ic E ix rx up → w.holds args s none s [] = true := fun w hm => h w hm
  obtain ⟨TC, I0, LT, -, Y⟩ := ThrowableC.of_atoms (args := args) pOwn pFin pMag (fun w hm => h w (by simp [Bundle.ownAtomsX, hm]))
  obtain ⟨I, MC, LI, LM, hI⟩ := Init0T.ofS_atoms (args := args) pMag LT Y (fun w hm => h w (by simp [Bundle.ownAtomsX, hm]))
  obtain ⟨P, Ps, hlen, LP, LPs, hPm, hP1, hPs⟩ := Bundle.chainSX (args := args) pMag hI x0 x1 x2 x5 up E hE hup (fun w hm => h w (by simp [Bundle.ownAtomsX, hm]))
  have hEP : s.vm.findClass E = some P.m.cls := findClass_of_methodNamed hPm
  cases Option.some.inj (hcE.symm.trans hEP)
  obtain ⟨c1, k1, hc1, hk1, hord, -, -, -⟩ := Cond.instantiable_spec (hw (.instantiable E 6) (by simp [Bundle.ownAtomsX]))
  cases Option.some.inj (hc1.symm.trans hEP)
  cases Option.some.inj (hkE.symm.trans hk1)
  have hs0 := xt_sel X.admits (by decide) hEP Y.fill0 (h (.selects E Bundle.tFill0 Bundle.tFill0) (by simp [Bundle.ownAtomsX]))
  have hsF := xt_sel X.admits (by decide) hEP Y.fill (h (.selects E Bundle.tFill Bundle.tFill) (by simp [Bundle.ownAtomsX]))
  obtain ⟨cs0, hcs0, hcs1⟩ := Y.statics
  obtain ⟨u, hu⟩ := Cond.staticRefV Y.unassigned LT.unassignedStatic LT.statics hcs0 hcs1 (hw (.isRef (.static Bundle.tN "UNASSIGNED_STACK" Bundle.steD)) (by simp [Bundle.ownAtomsX]))
  obtain ⟨v, hv⟩ := Cond.staticRefV Y.sentinel LT.sentinelStatic LT.statics hcs0 hcs1 (hw (.isRef (.static Bundle.tN "SUPPRESSED_SENTINEL" Bundle.listD)) (by simp [Bundle.ownAtomsX]))
  obtain ⟨b1, b2, fB, hb1, hb2, hb3, hb4, -, hb5, hb6, hb7⟩ := Cond.ownField (t := .object "java/lang/Object") Y.found LT.cls (by decide +kernel) (hw (.fieldLink Bundle.tN 198 Bundle.tN "backtrace" "Ljava/lang/Object;") (by simp [Bundle.ownAtomsX])) (hw (.lays Bundle.tN Bundle.tN "backtrace" "Ljava/lang/Object;") (by simp [Bundle.ownAtomsX])) e.platform pMag
  obtain ⟨cs, hcs, hcv, -, hkeep⟩ := X.same.2.2.2.2.2 TC.aS cs0 hcs0
  have hcsT : T.heap[TC.aS]? = some cs := hcs
  have hoff : ∀ i, (⟨TC.aS, i⟩ : Loc) ∉ locs := fun i hm => by
    have h9 := hlocs _ hm cs0 hcs0
    rw [hcs1] at h9
    cases h9
  have hun : cs.vm ≠ .unknown := by
    rw [hcv]
    intro h9
    have h8 := hcs1
    rw [show cs0.vm = .unknown from h9] at h8
    cases h8
  have hap : TC.aS ≠ a := Nat.ne_of_lt (Nat.lt_of_lt_of_le (Array.getElem?_eq_some_iff.mp hcs0).1 hnew)
  obtain ⟨iM, hfM⟩ := Y.msg
  obtain ⟨tC, eC, hC, nC⟩ := Cond.laysAt hEP hk1 Y.cause (hw (.lays E Bundle.tN "cause" "Ljava/lang/Throwable;") (by simp [Bundle.ownAtomsX]))
  obtain ⟨tS, eS, hS, nS⟩ := Cond.laysAt hEP hk1 Y.stack (hw (.lays E Bundle.tN "stackTrace" Bundle.steD) (by simp [Bundle.ownAtomsX]))
  obtain ⟨tP, eP, hP, nP⟩ := Cond.laysAt hEP hk1 Y.supp (hw (.lays E Bundle.tN "suppressedExceptions" Bundle.listD) (by simp [Bundle.ownAtomsX]))
  obtain ⟨tM, eM, hM, nM⟩ := Cond.laysAt hEP hk1 hfM (hw (.lays E Bundle.tN "detailMessage" "Ljava/lang/String;") (by simp [Bundle.ownAtomsX]))
  obtain ⟨tB, eB, hB, nB⟩ := Cond.laysAt hEP hk1 hb7 (hw (.lays E Bundle.tN "backtrace" "Ljava/lang/Object;") (by simp [Bundle.ownAtomsX]))
  have BC := Cond.laysApart hB hC nB nC (by rw [hb5, Y.causeName]; decide)
  have BS := Cond.laysApart hB hS nB nS (by rw [hb5, Y.stackName]; decide)
  have BP := Cond.laysApart hB hP nB nP (by rw [hb5, Y.suppName]; decide)
  have hskip : SkipFacts TC e.platform s (fun u => u) u ((preparedCellV TC.toThrowableT (freshCell P.m.cls kE) a u v).withEntry T.cur) := by
    refine ⟨{ ci198 := b1, i198 := b2, fBack := fB }, ⟨hb1, hb2, hb3, hb4⟩, ?_, fun _ _ => rfl⟩
    have h9 := fresh_default (c := P.m.cls) tB
    rw [hb6] at h9
    simpa [preparedCellV, Cell.setSlot, Cell.withEntry, Array.getElem?_setIfInBounds, BC, BS, BP, BC.symm, BS.symm, BP.symm, defaultValue] using h9
  obtain ⟨tm, _, _, _, vm1, htm, -, -, -, -, -, -, -, hW1, st1⟩ := Steps.initColdS (tb := p.tables) (e := e) (below := below) (s := s) (U := T) X.here hx X.warmed pMag hown (t := Bundle.initS E) rfl rfl (Bundle.fit_spec hE).2
    (hw (.methodLink own ic (Bundle.initS E)) (by simp [Bundle.ownAtomsX])) (h (.instanceMethod (Bundle.initS E)) (by cases up <;> simp [Bundle.ownAtomsX, Bundle.chainSAtomsX, Bundle.passSAtoms])) (bytes := rx) (maxL := 2) (h (.code (Bundle.initS E) rx 2 none) (by cases up <;> simp [Bundle.ownAtomsX, Bundle.chainSAtomsX, Bundle.passSAtoms]))
    (f := g) hg (a := a) (msg := tx) (rest := .ref a :: rest) hst d0
  cases Option.some.inj (htm.symm.trans hPm)
  obtain ⟨vm2, X2, st2⟩ := (X.noted hW1).ctorMessageOffV hx (g := { g with stack := .ref a :: rest }) hg hsize TC LT I LI MC LM (P :: Ps)
    (fun Q hQ => (List.mem_cons.mp hQ).elim (fun e9 => by rw [e9]; exact LP) (LPs Q)) ⟨hP1, hPs⟩ (u0 := u) (sen := v) (self := a) htx (cell := freshCell P.m.cls kE) (cellS := cs)
    hcell (fun _ => by simp) (by simp) rfl rfl hs0 hsF hcsT hap hun (by rw [hkeep _ (hoff _)]; exact hu) (by rw [hkeep _ (hoff _)]; exact hv)
    (Takes.of_laid hk1 hord tC (by rw [Y.causeType]; rfl)) (Takes.of_laid hk1 hord tS (by rw [Y.stackType]; exact fits_refV_array _ u)) (Takes.of_laid hk1 hord tP (by rw [Y.suppType]; exact fits_refV_object _ v))
    (Takes.of_laid hk1 hord tM (by rw [Y.msgType]; exact fits_refV_object _ ⟨tx, htx⟩)) Y.objLocals hskip htr [] d0
    (by simp only [List.length_cons, hlen]; omega) (by simp only [List.length_cons, hlen]; exact hRl)
  obtain ⟨hwalk, hrun, hended, hWU, hsame⟩ := X2.athrowLeaves hx (g := { g with stack := .ref a :: rest, pc := g.pc + 3 }) hg hl1 hl2 hout (a := a) (rest := rest) rfl d3
  have hlt : a < ((T.setVm vm1).setVm vm2).heap.size := (Array.getElem?_eq_some_iff.mp hcell).1
  have hU := heapAt_setCell_self (s := (T.setVm vm1).setVm vm2) (plainBareV TC.toThrowableT (freshCell P.m.cls kE) a u v tx) hlt
  refine ⟨_, _, st1 _ (fun acts => ?_), hrun, hended, hWU, hsame.weaken (fun y hy hlt9 => ?_) (Nat.le_refl _) (Nat.le_refl _), hU, rfl, hEP⟩
  · rw [doInvoke_state]
    exact st2 _ hwalk
  · rcases List.mem_append.mp hy with q | q
    · exact q
    · have hb : y.base = a := by
        simp only [List.mem_cons, List.not_mem_nil, or_false] at q
        rcases q with rfl | rfl | rfl | rfl | rfl <;> rfl
      rw [hb] at hlt9
      exact absurd hlt9 (Nat.not_lt.mpr hnew)
end XT
section XTS
variable {p : Program} {l : Launch} {e : Env} {R : Room} {s : State} {m : MethodId} {args : Array Value} {below : List Frame} {meth : Method} {c : Code} {H : Heap} {locs : List Loc} {cells slots : Nat}
variable {free : Addr → Prop} {ls : Array Slot} {rest : List Value} {Qc : Array Value → State → Outcome → State → Prop} {XC : String → State → State → Prop}
/-- the words of such a throw but the four that speak of the heap -/
def xt_at (own : String) (ic : Nat) (E : String) (ix : Nat) (rx : ByteArray) (up : List String) : List Cond := (Bundle.ownAtomsX own ic E ix rx up).filter vx_no
set_option maxHeartbeats 4000000 in
/-- 'throw new E("text")' of such a class -/
theorem xt_throw {cc : ByteArray} {pc : Nat} (hx : p.tables.exec = Jvm.exec) (hb : c.code = cc) (hl : l.stackTraces = false) {own E text : String} {up : List String} {ik is ic ix mc ms sa : Nat} {rx : ByteArray} {A : Nat → Prop}
    (x0 : decode rx 0 = .ok (.aload_n 0, 1)) (x1 : decode rx 1 = .ok (.aload_n 1, 1)) (x2 : decode rx 2 = .ok (.invokespecial ix, 3)) (x5 : decode rx 5 = .ok (.return_, 1))
    (hown : s.vm.findClass own = some m.cls) (hE : Bundle.fit E = true) (hup : ∀ n ∈ up, Bundle.fit n = true)
    (hk : (Cond.classLink own ik E).before args s = true) (hini : (Cond.initialized E).before args s = true) (hstr : vk_R own is text sa s) (hat : ∀ w ∈ xt_at own ic E ix rx up, w.before args s = true)
    (hgood : ∀ w ∈ Cond.classLink own ik E :: Cond.initialized E :: xt_at own ic E ix rx up, vx_ot w = true)
    (hU : vx_Zq Bundle.tN "UNASSIGNED_STACK" Bundle.steD A s s.heap) (hN : vx_Zq Bundle.tN "SUPPRESSED_SENTINEL" Bundle.listD A s s.heap) (hS : va_S A s.heap H locs) (hsize : ls.size = c.maxLocals)
    (d0 : decode cc pc = .ok (.new ik, 3)) (d3 : decode cc (pc + 3) = .ok (.dup, 1)) (d4 : decode cc (pc + 4) = .ok (.ldc is, 2)) (d6 : decode cc (pc + 6) = .ok (.invokespecial ic, 3)) (d9 : decode cc (pc + 9) = .ok (.athrow, 1))
    (hout : ∀ z ∈ c.exceptionTable.toList, covers z (pc + 9) = false)
    (hRf : up.length + 3 < R.frames) (hRl : (rest.map fun v => v.category).sum + (13 * (up.length + 1) + 43) ≤ R.locals) (hRc : cells + 1 ≤ R.cells) (hRs : slots + 6 ≤ R.slots) (hlocks : meth.locks = false)
    (hX : ∀ t : State, s.vm.Alike t.vm → H.size ≤ t.heap.size → (∀ q : Nat, q < H.size → t.heap[q]? = H[q]?) → XC E s t)
    (hf : ∀ z ∈ locs, free z.base) (hc : cells + 1 ≤ mc) (hs : slots + 6 ≤ ms) :
    W p l e R s m args below meth c H locs cells slots (vx_MQ below Qc XC args s mc ms free) (F0 m pc ls rest) := by
  intro T hT X
  have htr : e.platform.stackTraces = false := (show e.platform.stackTraces = l.stackTraces by rw [X.admits.platform]).trans hl
  have Y := vx_rebase X (R' := { frames := R.frames, locals := R.locals, cells := 1, slots := 6 }) (Nat.le_refl _) (Nat.le_refl _) hRc hRs
  obtain ⟨s', hA⟩ : ∃ z, z = (T.setVm s.vm).setFrames (.invoking m args :: below) := ⟨_, rfl⟩
  rw [← hA] at Y
  have hvm : s'.vm = s.vm := by rw [hA]; rfl
  have hhp : s'.heap = H := by rw [hA]; exact hT
  have hW0 : s.WarmedH s'.vm := by rw [hvm]; exact State.WarmedH.refl s
  have go : ∀ w ∈ Cond.classLink own ik E :: Cond.initialized E :: xt_at own ic E ix rx up, w.before args s = true → w.before args s' = true := fun w hw h => vx_ot_at hW0 hvm.symm (hgood w hw) h
  have hU' : vx_Zq Bundle.tN "UNASSIGNED_STACK" Bundle.steD A s' s'.heap := by rw [hhp]; exact vx_Zq.moved hW0.alike (hU.kept hS.2.1)
  have hN' : vx_Zq Bundle.tN "SUPPRESSED_SENTINEL" Bundle.listD A s' s'.heap := by rw [hhp]; exact vx_Zq.moved hW0.alike (hN.kept hS.2.1)
  have h : ∀ w ∈ Bundle.ownAtomsX own ic E ix rx up, w.before args s' = true := vx_own (fun w hw => go w (List.mem_cons_of_mem _ (List.mem_cons_of_mem _ hw)) (hat w hw)) (vx_isRefq hU'.1) (vx_isRefq hN'.1) hU'.2.word hN'.2.word
  have hown' : s'.vm.findClass own = some m.cls := by rw [hvm]; exact hown
  obtain ⟨vm₁, cX, kX, hfX, hkX, -, -, X₁, st1⟩ := Y.newCold hx (own := own) (C := E) (index := ik) (n := 6) hown' (go _ List.mem_cons_self hk) (h _ (by simp [Bundle.ownAtomsX])) (go _ (List.mem_cons_of_mem _ List.mem_cons_self) hini)
    (g := F0 m pc ls rest) rfl (by rw [hb]; exact d0) (Nat.le_refl _) (Nat.le_refl _)
  generalize hT1 : (T.setVm vm₁).pushCell { cls := cX, slots := kX.instanceTypes.map defaultValue, vm := .none } = T1 at X₁ st1
  have hcat : (Value.ref T.heap.size).category = 1 := rfl
  have hcellA : T1.heap[T.heap.size]? = some (freshCell cX kX) := by rw [← hT1]; exact State.heap_pushCell_size _ _
  have d3' : decode c.code (pc + 3) = .ok (.dup, 1) := by rw [hb]; exact d3
  have d4' : decode c.code (pc + 4) = .ok (.ldc is, 2) := by rw [hb]; exact d4
  have hstr' : vk_R own is text sa s' := vk_R.warm hW0 hstr
  obtain ⟨U, ce, hsteps, hrun, hend, hW, hsame, hce, hcv, hcl⟩ := xt_ctor X₁ hx htr (own := own) (E := E) (up := up) (ic := ic) (ix := ix) (rx := rx) x0 x1 x2 x5 hown' hE hup h (fun z hz => nomatch hz) hfX hkX hcellA (by rw [hhp, hT]; exact Nat.le_refl _) (tx := .ref sa) rfl
    (g := { method := m, pc := pc + 6, locals := ls, stack := .ref sa :: .ref T.heap.size :: .ref T.heap.size :: rest, locked := none }) rfl hsize rfl rfl (rest := rest) rfl
    (by rw [hb]; exact d6) (by rw [hb]; exact d9) hout hRf (by
      show 2 * 0 + _ + _ ≤ R.locals
      simp only [List.map_cons, List.sum_cons, hcat]
      omega) hlocks
  obtain ⟨f1, f2⟩ := vx_frame hsame
  rw [hhp] at f1 f2
  have hWs : s.WarmedH U.vm := State.WarmedH.trans hW0 hW
  have hcl' : s.vm.findClass E = some ce.cls := by rw [← hvm]; exact hcl
  have hall : s.sameButNew ({ U with vm := s.vm } : State) locs mc ms := by
    subst hA
    obtain ⟨e1, e2⟩ := hsame
    rw [State.setFrames_setFrames] at e1
    have h2 : (T.setVm s.vm).sameButNew ({ U with vm := s.vm } : State) [] (0 + 1) (0 + 6) := ⟨e1, e2⟩
    have h3 := X.same.trans h2
    rw [List.append_nil] at h3
    exact h3.mono hc hs
  refine ⟨U, ?_, .threw T.heap.size, hrun, hend, Or.inr ⟨T.heap.size, rfl, E, ce, locs, hX U hWs.alike f1 (fun q hq => f2 q hq (fun z hz => nomatch hz)), hce, hcv, hcl', hWs, hall, hf⟩⟩
  refine st1 _ ?_
  show Steps p.tables e below (T1.setTop { method := m, pc := pc + 3, locals := ls, stack := .ref T.heap.size :: rest, locked := none }) _
  jvm_step X₁.here [X₁.here.top, hx, d3', Value.category]
  exact X₁.ldcString hx (own := own) (text := text) (index := is) (a := sa) hown' hstr'.1 hstr'.2
    (g := { method := m, pc := pc + 4, locals := ls, stack := .ref T.heap.size :: .ref T.heap.size :: rest, locked := none }) rfl d4' _ hsteps
end XTS
